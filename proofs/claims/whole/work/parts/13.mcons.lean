/-! the reference while it is made: the arrays' fields below n are there -/
def mQ (ad : ro → Nat) (n k : Nat) : Value := if mInt k = true then .int 0 else if k < n then .ref (ad (101, k)) else .null
def mP (ad : ro → Nat) (n : Nat) : List Value := (List.range 47).map (mQ ad n)
def pSt (X : GX) (ad : ro → Nat) (st0 : ro → va_E) (n : Nat) (fa : Nat → Nat → Int32) : ro → va_E := fun r => if r = (100, 0) then .inr (11, mP ad n) else if r.1 = 101 then .inl (X.2.1 (mTy r.2), mLen r.2, .inl (fa r.2)) else st0 r
theorem mP_at {ad : ro → Nat} {n k : Nat} (hk : k < 47) : (mP ad n)[k]? = some (mQ ad n k) := by simp [mP, hk]
theorem mP_len {ad : ro → Nat} {n : Nat} : (mP ad n).length = 47 := by simp [mP]
theorem mP_set {ad : ro → Nat} {n k : Nat} (hnk : n ≤ k) (hi : ∀ j, n ≤ j → j < k → mInt j = true) (hk : mInt k = false) : (mP ad n).set k (.ref (ad (101, k))) = mP ad (k + 1) := by
  apply List.ext_getElem?
  intro j
  rw [List.getElem?_set]
  by_cases hj : k = j
  · subst hj
    by_cases h : k < 47
    · simp [mP, h, mQ, hk]
    · simp [mP, h]
  · rw [if_neg hj]
    by_cases h : j < 47
    · rw [mP_at h, mP_at h]
      unfold mQ
      by_cases h1 : mInt j = true
      · rw [if_pos h1, if_pos h1]
      · rw [if_neg h1, if_neg h1]
        by_cases h2 : j < n
        · rw [if_pos h2, if_pos (by omega)]
        · have h3 : ¬ j < k + 1 := fun q => h1 (hi j (by omega) (by omega))
          rw [if_neg h2, if_neg h3]
    · simp [mP, h]
theorem mP_new {ad ad2 : ro → Nat} {n k : Nat} (hnk : n ≤ k) (h : ∀ r, r ≠ (101, k) → ad2 r = ad r) : mP ad2 n = mP ad n := by
  unfold mP
  apply List.map_congr_left
  intro j hj
  unfold mQ
  by_cases h2 : j < n
  · rw [h (101, j) (fun e => by injection e; omega)]
  · rw [if_neg h2, if_neg h2]
theorem pSt_obj {X : GX} {ad : ro → Nat} {st0 : ro → va_E} {n : Nat} {fa : Nat → Nat → Int32} : pSt X ad st0 n fa (100, 0) = .inr (11, mP ad n) := by simp [pSt]
theorem pSt_arr {X : GX} {ad : ro → Nat} {st0 : ro → va_E} {n : Nat} {fa : Nat → Nat → Int32} (k : Nat) : pSt X ad st0 n fa (101, k) = .inl (X.2.1 (mTy k), mLen k, .inl (fa k)) := by simp [pSt]
theorem pSt_row {X : GX} {ad ad2 : ro → Nat} {st0 : ro → va_E} {n k : Nat} {fa : Nat → Nat → Int32} {g : Nat → Int32} (hP : mP ad2 n = mP ad n) : sup (pSt X ad st0 n fa) (101, k) (.inl (X.2.1 (mTy k), mLen k, .inl g)) = pSt X ad2 st0 n (rowu fa k g) := by
  funext r
  obtain ⟨a, b⟩ := r
  by_cases h : (a, b) = ((101, k) : Nat × Nat)
  · cases h
    simp [sup, pSt, rowu]
  · by_cases h1 : a = 101
    · subst h1
      have hb : b ≠ k := fun e => h (by rw [e])
      simp [sup, pSt, rowu, hb]
    · by_cases h2 : (a, b) = ((100, 0) : Nat × Nat)
      · cases h2
        simp [sup, pSt, hP]
      · have h3 : ¬ (a = 100 ∧ b = 0) := fun e => h2 (by rw [e.1, e.2])
        simp [sup, pSt, h1, h3]
theorem pSt_put {X : GX} {ad : ro → Nat} {st0 : ro → va_E} {n m : Nat} {fa : Nat → Nat → Int32} : sup (pSt X ad st0 n fa) (100, 0) (.inr (11, mP ad m)) = pSt X ad st0 m fa := by
  funext r
  by_cases h : r = (100, 0)
  · simp [sup, pSt, h]
  · simp [sup, pSt, h]
theorem mP_all {ad : ro → Nat} : mP ad 47 = mO ad (fun _ => 0) := by
  unfold mP mO
  apply List.map_congr_left
  intro j hj
  have h : j < 47 := List.mem_range.mp hj
  simp [mQ, mF, h]
theorem pSt_all {X : GX} {ad : ro → Nat} {st0 : ro → va_E} {fa : Nat → Nat → Int32} : pSt X ad st0 47 fa = mSt X ad st0 (fun _ => 0) fa := by
  funext r
  unfold pSt mSt
  rw [mP_all]
theorem va_RA_uniq {U : State} {c1 c2 : ClassId} {ty : FieldType} (h1 : va_RA U c1 ty) (h2 : va_RA U c2 ty) : c1 = c2 := by
  cases ty with
  | object C =>
    obtain ⟨_, _, _, _, _, e1⟩ := h1
    obtain ⟨_, _, _, _, _, e2⟩ := h2
    exact Option.some.inj (e1.symm.trans e2)
  | _ => exact Option.some.inj (Eq.trans (Eq.symm h1) h2)
section MN
variable {p : Program} {l : Launch} {e : Env} {R : Room} {s : State} {m : MethodId} {args : Array Value} {below : List Frame} {meth : Method} {c : Code} {H : Heap} {locs : List Loc} {cells slots : Nat} {Q : State → Prop}
variable {cc : ByteArray} {nL : Nat} {ret : Option FieldType} {own mname : String} {pc : Nat} {ls : Array Slot} {rest : List Value} {X : GX} {A : Nat → Prop} {L : List ro} {ad : ro → Nat} {st st0 : ro → va_E} {fa : Nat → Nat → Int32}
theorem g_newa {r : ro} {atype : ArrayType} {ty : FieldType} {t0 N' : Nat} {cA : ClassId} {a0 : vp_A} {n : Int32} (C : gCx p s m args meth c cc nL ret own mname X A) (hW : gW X A L ad st s H) (hS : va_S A s.heap H locs) (hr : r ∉ L) (harr : Cond.arrayClass (newarray.typeOf atype) ∈ TB) (hty : newarray.typeOf atype = ty) (ht : (wTy X.2.1)[t0]? = some (cA, ty))
    (ha : ∀ cA : ClassId, vp_cell cA a0 = arrV cA N' (fun _ => defaultValue ty)) (hn : ¬ n < 0) (hN : n.toNatClampNeg = N') (hbytes : N' * componentBytes ty ≤ 536870912) (hcells : cells + 1 ≤ R.cells) (hslots : slots + N' ≤ R.slots) (hdg : decode cc pc = .ok (.newarray atype, 2))
    (kk : ∀ (q : Nat) (H1 : Heap), gW X A (L ++ [r]) (aup ad r q) (sup st r (.inl (cA, a0))) s H1 → va_S A s.heap H1 locs → W p l e R s m args below meth c H1 locs (cells + 1) (slots + N') Q (F0 m (pc + 2) ls (.ref q :: rest))) : W p l e R s m args below meth c H locs cells slots Q (F0 m pc ls (.int n :: rest)) := by
  refine va_newa C.1.1 C.1.2.1 (C.1.2.2.2.2 _ harr) hty hW.2.1 hW.1 hW.2.2 hS C.2.2.2.2.1 ha hn hN hbytes hcells hslots hdg (fun q cB H1 hK1 hP1 hD1 hS1 => ?_)
  have e1 : (wTy X.2.1 ++ [(cB, ty)])[8]? = some (cB, ty) := rfl
  have hcB : cB = cA := va_RA_uniq (hK1.2 8 _ e1).2 (hW.2.1.2 t0 _ ht).2
  subst hcB
  rw [rw_push hr] at hP1 hD1
  exact kk q H1 ⟨hP1, hW.2.1, hD1⟩ hS1
theorem m_newK {k n : Nat} {atype : ArrayType} {ty : FieldType} {N : Int32} (C : gCx p s m args meth c cc nL ret own mname X A) (hW : gW X A L ad (pSt X ad st0 n fa) s H) (hS : va_S A s.heap H locs) (k : Nat) (hnk : n ≤ k) (hfr : (101, k) ∉ L) (harr : Cond.arrayClass (newarray.typeOf atype) ∈ TB) (hty : newarray.typeOf atype = ty) (ht : (wTy X.2.1)[mTy k]? = some (X.2.1 (mTy k), ty))
    (ha : ∀ cA : ClassId, vp_cell cA (mLen k, .inl (fun _ => 0)) = arrV cA (mLen k) (fun _ => defaultValue ty)) (hn : ¬ N < 0) (hN : N.toNatClampNeg = mLen k) (hbytes : mLen k * componentBytes ty ≤ 536870912) (hcells : cells + 1 ≤ R.cells) (hslots : slots + mLen k ≤ R.slots) (hdg : decode cc pc = .ok (.newarray atype, 2))
    (kk : ∀ (ad2 : ro → Nat) (H1 : Heap), (∀ r, r ≠ (101, k) → ad2 r = ad r) → gW X A (L ++ [(101, k)]) ad2 (pSt X ad2 st0 n (rowu fa k (fun _ => 0))) s H1 → va_S A s.heap H1 locs → W p l e R s m args below meth c H1 locs (cells + 1) (slots + mLen k) Q (F0 m (pc + 2) ls (.ref (ad2 (101, k)) :: rest))) : W p l e R s m args below meth c H locs cells slots Q (F0 m pc ls (.int N :: rest)) := by
  refine g_newa C hW hS hfr harr hty ht ha hn hN hbytes hcells hslots hdg (fun q H1 hW1 hS1 => ?_)
  have h2 : ∀ r, r ≠ ((101, k) : ro) → aup ad (101, k) q r = ad r := fun r hr => by simp [aup, hr]
  rw [pSt_row (mP_new hnk h2)] at hW1
  have h3 := kk (aup ad (101, k) q) H1 h2 hW1 hS1
  rwa [show aup ad (101, k) q (101, k) = q by simp [aup]] at h3
theorem m_putK {n index : Nat} (C : gCx p s m args meth c cc nL ret own "<init>" X A) (hW : gW X A L ad (pSt X ad st0 n fa) s H) (hS : va_S A s.heap H locs) (k : Nat) (hmo : (100, 0) ∈ L) (hk : k < 47) (hnk : n ≤ k) (hi : ∀ j, n ≤ j → j < k → mInt j = true) (hik : mInt k = false) (hlink : Cond.fieldLink own index own (TX8 k).2.1 (TX8 k).2.2.1 ∈ TB) (hown : own = RX8)
    (hfin : (TX8 k).2.2.2 = true) (hn : narrow (tyX8 k) (.ref (ad (101, k))) = .ref (ad (101, k))) (hfit : fits (tyX8 k) (.ref (ad (101, k))) = true) (hdg : decode cc pc = .ok (.putfield index, 3))
    (kk : ∀ (H1 : Heap) (locs1 : List Loc), gW X A L ad (pSt X ad st0 (k + 1) fa) s H1 → va_S A s.heap H1 locs1 → W p l e R s m args below meth c H1 locs1 cells slots Q (F0 m (pc + 3) ls rest)) : W p l e R s m args below meth c H locs cells slots Q (F0 m pc ls (.ref (ad (101, k)) :: .ref (ad (100, 0)) :: rest)) :=
  g_putF (Cn := RX8) (T := TX8) (N := 47) (ci := 11) (ty0 := tyX8) C tinX8 tyX8_ok nmX8 hW hS hmo pSt_obj rfl k hk hlink hfin ((TX8_1 k hk).trans hown.symm) hn hfit (by rw [mP_len]; exact hk) (by rw [mP_set hnk hi hik]; exact pSt_put) hdg kk
theorem m_castK {n : Nat} (C : gCx p s m args meth c cc nL ret own mname X A) (hW : gW X A L ad (pSt X ad st0 n fa) s H) (hS : va_S A s.heap H locs) (k : Nat) (hr : (101, k) ∈ L) (ht : mTy k = 1) {i x : Int32} {j : Nat} (hin : vp_in i (mLen k)) (hj : i.toNatClampNeg = j) (hx : vp_nar .char x = x) (hdg : decode cc pc = .ok (.castore, 1))
    (kk : ∀ (H1 : Heap) (locs1 : List Loc), gW X A L ad (pSt X ad st0 n (rowu fa k (upd (fa k) j x))) s H1 → va_S A s.heap H1 locs1 → W p l e R s m args below meth c H1 locs1 cells slots Q (F0 m (pc + 1) ls rest)) : W p l e R s m args below meth c H locs cells slots Q (F0 m pc ls (.int x :: .int i :: .ref (ad (101, k)) :: rest)) := by
  subst hj
  exact g_cast C hW hS hr ((pSt_arr k).trans (by rw [ht])) hin (by rw [← ht, hx]; exact pSt_row rfl) hdg kk
end MN
