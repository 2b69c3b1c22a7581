/-! the reference as a value: fi, its whole numbers by their slots; fa, its arrays by their slots -/
def mInt (k : Nat) : Bool := k == 0 || k == 1 || k == 3 || k == 7 || k == 8 || k == 10 || k == 22 || k == 23 || k == 32 || k == 42
def mLen (k : Nat) : Nat := match k with
  | 2 => 60 | 4 => 6 | 5 => 24 | 6 => 6 | 9 => 20 | 11 => 6 | 12 => 6 | 13 => 4 | 14 => 4 | 15 => 4 | 16 => 4 | 17 => 4 | 18 => 4 | 19 => 4 | 20 => 4 | 21 => 4
  | 24 => 2000 | 25 => 2000 | 26 => 6 | 27 => 6 | 28 => 1536 | 29 => 1536 | 30 => 1536 | 31 => 1536
  | 33 => 100 | 34 => 100 | 35 => 100 | 36 => 100 | 37 => 100 | 38 => 100 | 39 => 100 | 40 => 100 | 41 => 100
  | 43 => 50 | 44 => 50 | 45 => 50 | 46 => 50 | _ => 0
def mTy (k : Nat) : Nat := match k with
  | 2 => 1 | 4 => 1 | 5 => 1 | 9 => 1 | 13 => 3 | 17 => 3 | 37 => 3 | _ => 2
def mF (ad : ro → Nat) (fi : Nat → Int32) (k : Nat) : Value := if mInt k = true then .int (fi k) else .ref (ad (101, k))
def mO (ad : ro → Nat) (fi : Nat → Int32) : List Value := (List.range 47).map (mF ad fi)
def mSt (X : GX) (ad : ro → Nat) (st0 : ro → va_E) (fi : Nat → Int32) (fa : Nat → Nat → Int32) : ro → va_E := fun r => if r = (100, 0) then .inr (11, mO ad fi) else if r.1 = 101 then .inl (X.2.1 (mTy r.2), mLen r.2, .inl (fa r.2)) else st0 r
def mL (L : List ro) : Prop := (100, 0) ∈ L ∧ ∀ k : Nat, k < 47 → mInt k = false → (101, k) ∈ L
def rowu (fa : Nat → Nat → Int32) (k : Nat) (g : Nat → Int32) : Nat → Nat → Int32 := fun a => if a = k then g else fa a
theorem mO_at {ad : ro → Nat} {fi : Nat → Int32} {k : Nat} (hk : k < 47) : (mO ad fi)[k]? = some (mF ad fi k) := by simp [mO, hk]
theorem mO_len {ad : ro → Nat} {fi : Nat → Int32} : (mO ad fi).length = 47 := by simp [mO]
theorem mO_set {ad : ro → Nat} {fi : Nat → Int32} {k : Nat} {v : Int32} (hi : mInt k = true) : (mO ad fi).set k (.int v) = mO ad (upd fi k v) := by
  apply List.ext_getElem?
  intro j
  rw [List.getElem?_set]
  by_cases hj : k = j
  · subst hj
    by_cases hk : k < 47
    · simp [mO, hk, mF, hi, upd]
    · simp [mO, hk]
  · rw [if_neg hj]
    by_cases hk : j < 47
    · rw [mO_at hk, mO_at hk]
      simp [mF, upd, Ne.symm hj]
    · simp [mO, hk]
theorem mSt_obj {X : GX} {ad : ro → Nat} {st0 : ro → va_E} {fi : Nat → Int32} {fa : Nat → Nat → Int32} : mSt X ad st0 fi fa (100, 0) = .inr (11, mO ad fi) := by simp [mSt]
theorem mSt_arr {X : GX} {ad : ro → Nat} {st0 : ro → va_E} {fi : Nat → Int32} {fa : Nat → Nat → Int32} (k : Nat) : mSt X ad st0 fi fa (101, k) = .inl (X.2.1 (mTy k), mLen k, .inl (fa k)) := by simp [mSt]
theorem mSt_put {X : GX} {ad : ro → Nat} {st0 : ro → va_E} {fi fi2 : Nat → Int32} {fa : Nat → Nat → Int32} : sup (mSt X ad st0 fi fa) (100, 0) (.inr (11, mO ad fi2)) = mSt X ad st0 fi2 fa := by
  funext r
  by_cases h : r = (100, 0)
  · simp [sup, mSt, h]
  · simp [sup, mSt, h]
theorem mSt_row {X : GX} {ad : ro → Nat} {st0 : ro → va_E} {fi : Nat → Int32} {fa : Nat → Nat → Int32} {k : Nat} {g : Nat → Int32} : sup (mSt X ad st0 fi fa) (101, k) (.inl (X.2.1 (mTy k), mLen k, .inl g)) = mSt X ad st0 fi (rowu fa k g) := by
  funext r
  obtain ⟨a, b⟩ := r
  by_cases h : (a, b) = ((101, k) : Nat × Nat)
  · cases h
    simp [sup, mSt, rowu]
  · by_cases h1 : a = 101
    · subst h1
      have hb : b ≠ k := fun e => h (by rw [e])
      simp [sup, mSt, rowu, hb]
    · by_cases h2 : (a, b) = ((100, 0) : Nat × Nat)
      · cases h2
        simp [sup, mSt]
      · have h3 : ¬ (a = 100 ∧ b = 0) := fun e => h2 (by rw [e.1, e.2])
        simp [sup, mSt, h1, h3]
theorem TX8_1 : ∀ k, k < 47 → (TX8 k).1 = RX8 := by decide +kernel
theorem TX8_f : ∀ k, k < 47 → mInt k = true → (TX8 k).2.2.2 = false ∧ tyX8 k = .int := by decide +kernel
theorem vp_of {x : Int32} {n : Nat} {lo hi : Int32} (h1 : ¬ x < lo) (h2 : x ≤ hi) (h3 : lo = 0) (h4 : hi.toInt < n) : vp_in x n := by
  subst h3
  rw [Int32.not_lt, Int32.le_iff_toInt_le] at h1
  rw [Int32.le_iff_toInt_le] at h2
  rw [vp_in_iff]
  have h0 : (0 : Int32).toInt = 0 := rfl
  omega
section MR
variable {p : Program} {l : Launch} {e : Env} {R : Room} {s : State} {m : MethodId} {args : Array Value} {below : List Frame} {meth : Method} {c : Code} {H : Heap} {locs : List Loc} {cells slots : Nat} {Q : State → Prop}
variable {cc : ByteArray} {nL : Nat} {ret : Option FieldType} {own mname : String} {pc : Nat} {ls : Array Slot} {rest : List Value} {X : GX} {A : Nat → Prop} {L : List ro} {ad : ro → Nat} {st0 : ro → va_E} {fi : Nat → Int32} {fa : Nat → Nat → Int32}
theorem m_getI {v : Int32} {index : Nat} (C : gCx p s m args meth c cc nL ret own mname X A) (hm : mL L) (hW : gW X A L ad (mSt X ad st0 fi fa) s H) (k : Nat) (hk : k < 47) (hi : mInt k = true) (hlink : Cond.fieldLink own index RX8 (TX8 k).2.1 (TX8 k).2.2.1 ∈ TB) (hv : fi k = v) (hdg : decode cc pc = .ok (.getfield index, 3))
    (kk : W p l e R s m args below meth c H locs cells slots Q (F0 m (pc + 3) ls (.int v :: rest))) : W p l e R s m args below meth c H locs cells slots Q (F0 m pc ls (.ref (ad (100, 0)) :: rest)) :=
  g_get (Cn := RX8) (T := TX8) (N := 47) (ci := 11) C tinX8 hW hm.1 mSt_obj rfl k hk hlink (fun x hx => by rw [TX8_1 k hk] at hx; exact hx) ((mO_at hk).trans (by rw [mF, if_pos hi, hv])) hdg kk
theorem m_getA {index : Nat} (C : gCx p s m args meth c cc nL ret own mname X A) (hm : mL L) (hW : gW X A L ad (mSt X ad st0 fi fa) s H) (k : Nat) (hk : k < 47) (hi : mInt k = false) (hlink : Cond.fieldLink own index RX8 (TX8 k).2.1 (TX8 k).2.2.1 ∈ TB) (hdg : decode cc pc = .ok (.getfield index, 3))
    (kk : W p l e R s m args below meth c H locs cells slots Q (F0 m (pc + 3) ls (.ref (ad (101, k)) :: rest))) : W p l e R s m args below meth c H locs cells slots Q (F0 m pc ls (.ref (ad (100, 0)) :: rest)) :=
  g_get (Cn := RX8) (T := TX8) (N := 47) (ci := 11) C tinX8 hW hm.1 mSt_obj rfl k hk hlink (fun x hx => by rw [TX8_1 k hk] at hx; exact hx) ((mO_at hk).trans (by rw [mF, if_neg (by rw [hi]; decide)])) hdg kk
theorem m_putI {v : Int32} {index : Nat} (C : gCx p s m args meth c cc nL ret own mname X A) (hm : mL L) (hW : gW X A L ad (mSt X ad st0 fi fa) s H) (hS : va_S A s.heap H locs) (k : Nat) (hk : k < 47) (hi : mInt k = true) (hlink : Cond.fieldLink own index RX8 (TX8 k).2.1 (TX8 k).2.2.1 ∈ TB) (hdg : decode cc pc = .ok (.putfield index, 3))
    (kk : ∀ (H1 : Heap) (locs1 : List Loc), gW X A L ad (mSt X ad st0 (upd fi k v) fa) s H1 → va_S A s.heap H1 locs1 → W p l e R s m args below meth c H1 locs1 cells slots Q (F0 m (pc + 3) ls rest)) : W p l e R s m args below meth c H locs cells slots Q (F0 m pc ls (.int v :: .ref (ad (100, 0)) :: rest)) :=
  g_put (Cn := RX8) (T := TX8) (N := 47) (ci := 11) (ty0 := tyX8) C tinX8 tyX8_ok nmX8 hW hS hm.1 mSt_obj rfl k hk hlink (fun x hx => by rw [TX8_1 k hk] at hx; exact hx) (TX8_f k hk hi).1 (by rw [(TX8_f k hk hi).2]; rfl) (by rw [(TX8_f k hk hi).2]; rfl) (by rw [mO_len]; exact hk) (by rw [mO_set hi]; exact mSt_put) hdg kk
theorem m_iald {v : Int32} (C : gCx p s m args meth c cc nL ret own mname X A) (hm : mL L) (hW : gW X A L ad (mSt X ad st0 fi fa) s H) (k : Nat) (hk : k < 47) (hi : mInt k = false) (ht : mTy k = 2) {i : Int32} {j : Nat} (hin : vp_in i (mLen k)) (hj : i.toNatClampNeg = j) (hv : fa k j = v) (hdg : decode cc pc = .ok (.iaload, 1))
    (kk : W p l e R s m args below meth c H locs cells slots Q (F0 m (pc + 1) ls (.int v :: rest))) : W p l e R s m args below meth c H locs cells slots Q (F0 m pc ls (.int i :: .ref (ad (101, k)) :: rest)) := by
  subst hj hv
  exact g_iald C hW (hm.2 k hk hi) ((mSt_arr k).trans (by rw [ht])) hin hdg kk
theorem m_cald {v : Int32} (C : gCx p s m args meth c cc nL ret own mname X A) (hm : mL L) (hW : gW X A L ad (mSt X ad st0 fi fa) s H) (k : Nat) (hk : k < 47) (hi : mInt k = false) (ht : mTy k = 1) {i : Int32} {j : Nat} (hin : vp_in i (mLen k)) (hj : i.toNatClampNeg = j) (hv : fa k j = v) (hdg : decode cc pc = .ok (.caload, 1))
    (kk : W p l e R s m args below meth c H locs cells slots Q (F0 m (pc + 1) ls (.int v :: rest))) : W p l e R s m args below meth c H locs cells slots Q (F0 m pc ls (.int i :: .ref (ad (101, k)) :: rest)) := by
  subst hj hv
  exact g_cald C hW (hm.2 k hk hi) ((mSt_arr k).trans (by rw [ht])) hin hdg kk
theorem m_zald {v : Int32} (C : gCx p s m args meth c cc nL ret own mname X A) (hm : mL L) (hW : gW X A L ad (mSt X ad st0 fi fa) s H) (k : Nat) (hk : k < 47) (hi : mInt k = false) (ht : mTy k = 3) {i : Int32} {j : Nat} (hin : vp_in i (mLen k)) (hj : i.toNatClampNeg = j) (hv : fa k j = v) (hdg : decode cc pc = .ok (.baload, 1))
    (kk : W p l e R s m args below meth c H locs cells slots Q (F0 m (pc + 1) ls (.int v :: rest))) : W p l e R s m args below meth c H locs cells slots Q (F0 m pc ls (.int i :: .ref (ad (101, k)) :: rest)) := by
  subst hj hv
  exact g_zald C hW (hm.2 k hk hi) ((mSt_arr k).trans (by rw [ht])) hin hdg kk
theorem m_iast {x : Int32} (C : gCx p s m args meth c cc nL ret own mname X A) (hm : mL L) (hW : gW X A L ad (mSt X ad st0 fi fa) s H) (hS : va_S A s.heap H locs) (k : Nat) (hk : k < 47) (hi : mInt k = false) (ht : mTy k = 2) {i : Int32} {j : Nat} (hin : vp_in i (mLen k)) (hj : i.toNatClampNeg = j) (hdg : decode cc pc = .ok (.iastore, 1))
    (kk : ∀ (H1 : Heap) (locs1 : List Loc), gW X A L ad (mSt X ad st0 fi (rowu fa k (upd (fa k) j x))) s H1 → va_S A s.heap H1 locs1 → W p l e R s m args below meth c H1 locs1 cells slots Q (F0 m (pc + 1) ls rest)) : W p l e R s m args below meth c H locs cells slots Q (F0 m pc ls (.int x :: .int i :: .ref (ad (101, k)) :: rest)) := by
  subst hj
  exact g_iast C hW hS (hm.2 k hk hi) ((mSt_arr k).trans (by rw [ht])) hin (by rw [← ht]; exact mSt_row) hdg kk
theorem m_cast {x : Int32} (C : gCx p s m args meth c cc nL ret own mname X A) (hm : mL L) (hW : gW X A L ad (mSt X ad st0 fi fa) s H) (hS : va_S A s.heap H locs) (k : Nat) (hk : k < 47) (hi : mInt k = false) (ht : mTy k = 1) {i : Int32} {j : Nat} (hin : vp_in i (mLen k)) (hj : i.toNatClampNeg = j) (hdg : decode cc pc = .ok (.castore, 1))
    (kk : ∀ (H1 : Heap) (locs1 : List Loc), gW X A L ad (mSt X ad st0 fi (rowu fa k (upd (fa k) j (vp_nar .char x)))) s H1 → va_S A s.heap H1 locs1 → W p l e R s m args below meth c H1 locs1 cells slots Q (F0 m (pc + 1) ls rest)) : W p l e R s m args below meth c H locs cells slots Q (F0 m pc ls (.int x :: .int i :: .ref (ad (101, k)) :: rest)) := by
  subst hj
  exact g_cast C hW hS (hm.2 k hk hi) ((mSt_arr k).trans (by rw [ht])) hin (by rw [← ht]; exact mSt_row) hdg kk
theorem m_zast {x : Int32} (C : gCx p s m args meth c cc nL ret own mname X A) (hm : mL L) (hW : gW X A L ad (mSt X ad st0 fi fa) s H) (hS : va_S A s.heap H locs) (k : Nat) (hk : k < 47) (hi : mInt k = false) (ht : mTy k = 3) {i : Int32} {j : Nat} (hin : vp_in i (mLen k)) (hj : i.toNatClampNeg = j) (hdg : decode cc pc = .ok (.bastore, 1))
    (kk : ∀ (H1 : Heap) (locs1 : List Loc), gW X A L ad (mSt X ad st0 fi (rowu fa k (upd (fa k) j (vp_nar .boolean x)))) s H1 → va_S A s.heap H1 locs1 → W p l e R s m args below meth c H1 locs1 cells slots Q (F0 m (pc + 1) ls rest)) : W p l e R s m args below meth c H locs cells slots Q (F0 m pc ls (.int x :: .int i :: .ref (ad (101, k)) :: rest)) := by
  subst hj
  exact g_zast C hW hS (hm.2 k hk hi) ((mSt_arr k).trans (by rw [ht])) hin (by rw [← ht]; exact mSt_row) hdg kk
end MR
/-- a method of the reference: what it does to fi and fa -/
abbrev mM (l : Launch) (z : MethodName) (b : ByteArray) (n : Nat) (ret : Option FieldType) (fr lc : Nat) (X : GX) (As : List Value) (L : List ro) (ad : ro → Nat) (st0 : ro → va_E) (fi : Nat → Int32) (fa : Nat → Nat → Int32) (P : Int32 → (Nat → Int32) → (Nat → Nat → Int32) → Prop) : Prop :=
  gMi l z b n ret fr lc 0 0 X (.ref (ad (100, 0)) :: As) L ad (mSt X ad st0 fi fa) (fun v u => ∃ fi' fa', u = (L, ad, mSt X ad st0 fi' fa') ∧ P v fi' fa')
abbrev mMv (l : Launch) (z : MethodName) (b : ByteArray) (n : Nat) (ret : Option FieldType) (fr lc : Nat) (X : GX) (As : List Value) (L : List ro) (ad : ro → Nat) (st0 : ro → va_E) (fi : Nat → Int32) (fa : Nat → Nat → Int32) (P : (Nat → Int32) → (Nat → Nat → Int32) → Prop) : Prop :=
  gMv l z b n ret fr lc 0 0 X (.ref (ad (100, 0)) :: As) L ad (mSt X ad st0 fi fa) (fun u => ∃ fi' fa', u = (L, ad, mSt X ad st0 fi' fa') ∧ P fi' fa')
/-- a static method that reads no cell -/
abbrev gS (l : Launch) (z : MethodName) (b : ByteArray) (n : Nat) (ret : Option FieldType) (fr lc : Nat) (X : GX) (As : List Value) (L : List ro) (ad : ro → Nat) (st : ro → va_E) (P : Int32 → Prop) : Prop :=
  gMi l z b n ret fr lc 0 0 X As L ad st (fun v u => u = (L, ad, st) ∧ P v)
section MC
variable {p : Program} {l : Launch} {e : Env} {R : Room} {s : State} {m : MethodId} {args : Array Value} {below : List Frame} {meth : Method} {c : Code} {H : Heap} {locs : List Loc} {cells slots : Nat} {Q : State → Prop}
variable {cc : ByteArray} {nL : Nat} {ret : Option FieldType} {own mname : String} {pc : Nat} {ls : Array Slot} {rest : List Value} {X : GX} {A : Nat → Prop} {L : List ro} {ad : ro → Nat} {st0 st : ro → va_E} {fi : Nat → Int32} {fa : Nat → Nat → Int32}
theorem m_callVi {index n2 fr2 lc2 k2 : Nat} {z : MethodName} {b2 : ByteArray} {ret2 : Option FieldType} {As st1 : List Value} {P : Int32 → (Nat → Int32) → (Nat → Nat → Int32) → Prop} (C : gCx p s m args meth c cc nL ret own mname X A) (hM : mM l z b2 n2 ret2 fr2 lc2 X As L ad st0 fi fa P)
    (h1 : Cond.methodLink own index z ∈ TB) (h2 : Cond.instanceMethod z ∈ TB) (h3 : Cond.selects RX8 z z ∈ TB) (h4 : Cond.initialized RX8 ∈ TB) (h5 : Cond.code z b2 n2 ret2 ∈ TB) (hd : z.cls = RX8 ∧ z.cls ≠ "java/lang/invoke/MethodHandle" ∧ z.cls ≠ "java/lang/invoke/VarHandle" ∧ (parseMethodDescriptor z.desc).map (fun d => d.parameters.length) = some k2) (hR : fr2 + 1 ≤ R.frames ∧ 8 + (n2 + 11) + lc2 ≤ R.locals)
    (hm : mL L) (hW : gW X A L ad (mSt X ad st0 fi fa) s H) (hS : va_S A s.heap H locs) (hk : As.length = k2) (hsz : ls.size = nL) (hst : st1 = As.reverse ++ .ref (ad (100, 0)) :: rest) (hcat : (rest.map fun v => v.category).sum ≤ 8) (hdg : decode cc pc = .ok (.invokevirtual index, 3)) (hcs : cells ≤ R.cells ∧ slots ≤ R.slots)
    (kk : ∀ (v : Int32) (fi' : Nat → Int32) (fa' : Nat → Nat → Int32) (H1 : Heap) (locs1 : List Loc), P v fi' fa' → gW X A L ad (mSt X ad st0 fi' fa') s H1 → va_S A s.heap H1 locs1 → W p l e R s m args below meth c H1 locs1 cells slots Q (F0 m (pc + 3) ls (.int v :: rest))) : W p l e R s m args below meth c H locs cells slots Q (F0 m pc ls st1) :=
  g_callVi (T := TX8) (N := 47) C hM h1 h2 h3 h4 h5 hd hR hW hS hm.1 mSt_obj rfl hk hsz hst hcat hdg hcs (fun v L' ad' st' H1 locs1 hp hW1 hS1 => by
    obtain ⟨fi', fa', eq, hp⟩ := hp
    cases eq
    exact kk v fi' fa' H1 locs1 hp hW1 hS1)
theorem m_callVv {index n2 fr2 lc2 k2 : Nat} {z : MethodName} {b2 : ByteArray} {ret2 : Option FieldType} {As st1 : List Value} {P : (Nat → Int32) → (Nat → Nat → Int32) → Prop} (C : gCx p s m args meth c cc nL ret own mname X A) (hM : mMv l z b2 n2 ret2 fr2 lc2 X As L ad st0 fi fa P)
    (h1 : Cond.methodLink own index z ∈ TB) (h2 : Cond.instanceMethod z ∈ TB) (h3 : Cond.selects RX8 z z ∈ TB) (h4 : Cond.initialized RX8 ∈ TB) (h5 : Cond.code z b2 n2 ret2 ∈ TB) (hd : z.cls = RX8 ∧ z.cls ≠ "java/lang/invoke/MethodHandle" ∧ z.cls ≠ "java/lang/invoke/VarHandle" ∧ (parseMethodDescriptor z.desc).map (fun d => d.parameters.length) = some k2) (hR : fr2 + 1 ≤ R.frames ∧ 8 + (n2 + 11) + lc2 ≤ R.locals)
    (hm : mL L) (hW : gW X A L ad (mSt X ad st0 fi fa) s H) (hS : va_S A s.heap H locs) (hk : As.length = k2) (hsz : ls.size = nL) (hst : st1 = As.reverse ++ .ref (ad (100, 0)) :: rest) (hcat : (rest.map fun v => v.category).sum ≤ 8) (hdg : decode cc pc = .ok (.invokevirtual index, 3)) (hcs : cells ≤ R.cells ∧ slots ≤ R.slots)
    (kk : ∀ (fi' : Nat → Int32) (fa' : Nat → Nat → Int32) (H1 : Heap) (locs1 : List Loc), P fi' fa' → gW X A L ad (mSt X ad st0 fi' fa') s H1 → va_S A s.heap H1 locs1 → W p l e R s m args below meth c H1 locs1 cells slots Q (F0 m (pc + 3) ls rest)) : W p l e R s m args below meth c H locs cells slots Q (F0 m pc ls st1) :=
  g_callVv (T := TX8) (N := 47) C hM h1 h2 h3 h4 h5 hd hR hW hS hm.1 mSt_obj rfl hk hsz hst hcat hdg hcs (fun L' ad' st' H1 locs1 hp hW1 hS1 => by
    obtain ⟨fi', fa', eq, hp⟩ := hp
    cases eq
    exact kk fi' fa' H1 locs1 hp hW1 hS1)
theorem g_callSp {index n2 fr2 lc2 k2 : Nat} {z : MethodName} {b2 : ByteArray} {ret2 : Option FieldType} {As st1 : List Value} {P : Int32 → Prop} (C : gCx p s m args meth c cc nL ret own mname X A) (hM : gS l z b2 n2 ret2 fr2 lc2 X As L ad st P)
    (h1 : Cond.methodLink own index z ∈ TB) (h2 : Cond.static z ∈ TB) (h4 : Cond.initialized z.cls ∈ TB) (h5 : Cond.code z b2 n2 ret2 ∈ TB) (hd : z.cls ≠ "java/lang/invoke/MethodHandle" ∧ z.cls ≠ "java/lang/invoke/VarHandle" ∧ (parseMethodDescriptor z.desc).map (fun d => d.parameters.length) = some k2) (hR : fr2 + 1 ≤ R.frames ∧ 8 + (n2 + 11) + lc2 ≤ R.locals)
    (hW : gW X A L ad st s H) (hS : va_S A s.heap H locs) (hk : As.length = k2) (hsz : ls.size = nL) (hst : st1 = As.reverse ++ rest) (hcat : (rest.map fun v => v.category).sum ≤ 8) (hdg : decode cc pc = .ok (.invokestatic index, 3)) (hcs : cells ≤ R.cells ∧ slots ≤ R.slots)
    (kk : ∀ (v : Int32) (H1 : Heap) (locs1 : List Loc), P v → gW X A L ad st s H1 → va_S A s.heap H1 locs1 → W p l e R s m args below meth c H1 locs1 cells slots Q (F0 m (pc + 3) ls (.int v :: rest))) : W p l e R s m args below meth c H locs cells slots Q (F0 m pc ls st1) :=
  g_callSi C hM h1 h2 h4 h5 hd hR hW hS hk hsz hst hcat hdg hcs (fun v L' ad' st' H1 locs1 hp hW1 hS1 => by
    obtain ⟨eq, hp⟩ := hp
    cases eq
    exact kk v H1 locs1 hp hW1 hS1)
end MC
