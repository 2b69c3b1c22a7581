/-! methods of the law: with exception tables; the world of both sides and of the law's own row 'out' -/
abbrev tWH (y : MethodName) (b : ByteArray) (n : Nat) (ret : Option FieldType) (hh : List (Nat × Nat × Nat × Nat)) : List Cond := Cond.codeWith y b n ret hh :: TB
def gWi (l : Launch) (y : MethodName) (b : ByteArray) (n : Nat) (ret : Option FieldType) (hh : List (Nat × Nat × Nat × Nat)) (fr lc mc ms : Nat) (X : GX) (av : List Value) (L : List ro) (ad : ro → Nat) (st : ro → va_E) (post : Int32 → WS → Prop) : Prop :=
  ∀ sz : Nat, Met l y (tWH y b n ret hh) ({ frames := fr, cells := mc, slots := ms, locals := lc } : Room) (gPre X av L ad st sz) (va_Qi post (gB X (va_A (rwW L ad st) sz)) (va_A (rwW L ad st) sz)) mc ms (va_A (rwW L ad st) sz)
theorem Met_ofWH {l : Launch} {y : MethodName} {ws ws' : List Cond} {rm : Room} {Pc : Array Value → State → Prop} {Qc : Array Value → State → Outcome → State → Prop} {mc ms : Nat} {free : Addr → Prop} {cc : ByteArray} {maxL : Nat} {ret : Option FieldType} {hh : List (Nat × Nat × Nat × Nat)}
    (hy : plainName y.cls = true) (hw : ws = Cond.codeWith y cc maxL ret hh :: ws')
    (body : ∀ p e s m args below meth c s₁, BodyLoose p l y (headSpec ws rm) cc maxL ret e s m args below meth c s₁ → c.maxLocals = maxL → Pc args s →
      W p l e (headSpec ws rm).room s m args below meth c s.heap [] 0 0 (MQ below Qc args s mc ms free) (entryFrame m args maxL)) : Met l y ws rm Pc Qc mc ms free := by
  refine MetFree.of_bodyS (code := cc) (maxLocals := maxL) (ret := ret) hy ?_ ?_
  · intro args s m h hn
    obtain ⟨m9, meth, c, hn9, h1, h2, h3, h4, -, h5, h6, -⟩ := Cond.codeWith_spec (atoms_spec (ws := ws) h _ (by rw [hw]; exact List.mem_cons_self))
    cases hn.symm.trans hn9
    exact ⟨meth, c, h1, h2, h3, h4, h5, h6⟩
  · intro p e s m args below meth c s₁ B hml hP _
    have hh0 : s₁.heap = s.heap := by rw [B.state]; rfl
    obtain ⟨t, a1, o, b1, b2, b3⟩ := body p e s m args below meth c s₁ B hml hP s₁ hh0 (Stand.of_body B)
    exact ⟨t, o, a1, b1, b2, ⟨b3.1, b3.2⟩⟩
theorem gWi_of {l : Launch} {y : MethodName} {b : ByteArray} {n : Nat} {ret : Option FieldType} {hh : List (Nat × Nat × Nat × Nat)} {fr lc mc ms : Nat} {X : GX} {av : List Value} {L : List ro} {ad : ro → Nat} {st : ro → va_E} {post : Int32 → WS → Prop}
    (hy : plainName y.cls = true) (hn : (lg_sl av).length ≤ n)
    (body : ∀ (p : Program) (e : Env) (s : State) (m : MethodId) (args : Array Value) (below : List Frame) (meth : Method) (c : Code) (A : Nat → Prop) (R : Room) (Q : State → Prop), (R.frames = fr ∧ R.locals = lc ∧ R.cells = mc ∧ R.slots = ms) → Q = MQ below (va_Qi post (gB X A) A) args s mc ms A → c.exceptionTable.toList = tableOf hh → gCx p s m args meth c b n ret y.cls y.name X A → gW X A L ad st s s.heap → va_S A s.heap s.heap [] → ∀ ls : Array Slot, lv_has ls n (lv_args 0 av) →
      W p l e R s m args below meth c s.heap [] 0 0 Q (F0 m 0 ls [])) : gWi l y b n ret hh fr lc mc ms X av L ad st post := by
  intro sz
  refine Met_ofWH (cc := b) (maxL := n) (ret := ret) (hh := hh) hy rfl ?_
  intro p e s m args below meth c s₁ B hml hv
  obtain ⟨rfl, hsz, hW, hF, hG⟩ := hv
  have hts := atoms_spec (ws := tWH y b n ret hh) B.pre
  have hown : s.vm.findClass y.cls = some m.cls := findClass_of_methodNamed B.named
  have hnm : meth.name = y.name := (name_of_methodNamed B.named B.method).1
  have htab : c.exceptionTable.toList = tableOf hh := vx_table (x := y) B (hts _ List.mem_cons_self)
  subst hsz
  have hl := lv_entry av (n := n) hn
  rw [lg_entry_eq]
  exact body p e s m _ below meth c _ _ _ ⟨rfl, rfl, rfl, rfl⟩ rfl htab ⟨⟨B.exec, B.bytes, hml, hown, fun w hw => hts w (List.mem_cons_of_mem _ hw)⟩, B.returns, B.notSynchronized, hnm, fun q h => Or.inr h, hF, hG⟩ hW va_S.rf _ hl
/-- the row 'out' -/
abbrev lng (X : GX) (f : Nat → Int64) : va_E := .inl (X.2.1 4, 1, .inr (.inl f))
section GW1
variable {p : Program} {l : Launch} {e : Env} {R : Room} {s : State} {m : MethodId} {args : Array Value} {below : List Frame} {meth : Method} {c : Code} {H : Heap} {locs : List Loc} {cells slots : Nat} {Q : State → Prop}
variable {cc : ByteArray} {nL : Nat} {ret : Option FieldType} {own mname : String} {pc : Nat} {ls : Array Slot} {rest : List Value} {X : GX} {A : Nat → Prop} {L : List ro} {ad : ro → Nat} {st : ro → va_E} {r : ro}
theorem g_last (C : gCx p s m args meth c cc nL ret own mname X A) (hW : gW X A L ad st s H) (hS : va_S A s.heap H locs) (hr : r ∈ L) {n : Nat} {f : Nat → Int64} (he : st r = .inl (X.2.1 4, n, .inr (.inl f))) {i : Int32} {x : Int64} (hin : vp_in i n) (hdg : decode cc pc = .ok (.lastore, 1))
    (kk : ∀ (H1 : Heap) (locs1 : List Loc), gW X A L ad (sup st r (.inl (X.2.1 4, n, .inr (.inl (vp_updL f i.toNatClampNeg x))))) s H1 → va_S A s.heap H1 locs1 → W p l e R s m args below meth c H1 locs1 cells slots Q (F0 m (pc + 1) ls rest)) : W p l e R s m args below meth c H locs cells slots Q (F0 m pc ls (.long x :: .int i :: .ref (ad r) :: rest)) := by
  obtain ⟨q0, hq0, h0⟩ := rw_get (ad := ad) (st := st) hr
  rw [he] at h0
  refine va_last C.1.1 C.1.2.1 hW.2.1 hW.1 hW.2.2 hS q0 4 h0 rfl hin hdg (fun H1 locs1 hP1 hD1 hS1 => ?_)
  rw [rw_set hW.2.2 hq0] at hP1 hD1
  exact kk H1 locs1 ⟨hP1, hW.2.1, hD1⟩ hS1
theorem g_lald (C : gCx p s m args meth c cc nL ret own mname X A) (hW : gW X A L ad st s H) (hr : r ∈ L) {n : Nat} {f : Nat → Int64} (he : st r = .inl (X.2.1 4, n, .inr (.inl f))) {i : Int32} (hin : vp_in i n) (hdg : decode cc pc = .ok (.laload, 1))
    (kk : W p l e R s m args below meth c H locs cells slots Q (F0 m (pc + 1) ls (.long (f i.toNatClampNeg) :: rest))) : W p l e R s m args below meth c H locs cells slots Q (F0 m pc ls (.int i :: .ref (ad r) :: rest)) := by
  obtain ⟨q0, -, h0⟩ := rw_get (ad := ad) (st := st) hr
  rw [he] at h0
  exact va_lald C.1.1 C.1.2.1 hW.2.1 hW.1 q0 4 h0 rfl hin hdg kk
/-- a call of a method that may throw, from a method that catches -/
theorem g_callXc {px1 : String → WS → Prop} {Cn : String} {T : u_T} {N ci index n2 fr2 lc2 mc2 ms2 k2 : Nat} {z : MethodName} {b2 : ByteArray} {ret2 : Option FieldType} {As st0 : List Value} {post : Int32 → WS → Prop} {fs : List Value} (C : gCx p s m args meth c cc nL ret own mname X A) (hM : gXi l z b2 n2 ret2 fr2 lc2 mc2 ms2 X (.ref (ad r) :: As) L ad st post px1)
    (h1 : Cond.methodLink own index z ∈ TB) (h2 : Cond.instanceMethod z ∈ TB) (h3 : Cond.selects Cn z z ∈ TB) (h4 : Cond.initialized Cn ∈ TB) (h5 : Cond.code z b2 n2 ret2 ∈ TB) (hd : z.cls = Cn ∧ z.cls ≠ "java/lang/invoke/MethodHandle" ∧ z.cls ≠ "java/lang/invoke/VarHandle" ∧ (parseMethodDescriptor z.desc).map (fun d => d.parameters.length) = some k2) (hR : fr2 + 1 ≤ R.frames ∧ 8 + (n2 + 11) + lc2 ≤ R.locals)
    (hW : gW X A L ad st s H) (hS : va_S A s.heap H locs) (hr : r ∈ L) (he : st r = .inr (ci, fs)) (hci : vwCl[ci]? = some (Cn, T, N)) (hk : As.length = k2) (hsz : ls.size = nL) (hst : st0 = As.reverse ++ .ref (ad r) :: rest) (hcat : (rest.map fun v => v.category).sum ≤ 8) (hdg : decode cc pc = .ok (.invokevirtual index, 3)) (hcs : cells + mc2 ≤ R.cells ∧ slots + ms2 ≤ R.slots)
    (kx : ∀ (E : String) (L' : List ro) (ad' : ro → Nat) (st' : ro → va_E) (H1 : Heap) (locs1 : List Loc) (ce : Cell) (q : Addr), px1 E (L', ad', st') → gW X A L' ad' st' s H1 → va_S A s.heap H1 locs1 → H1[q]? = some ce → ce.vm = .none → s.vm.findClass E = some ce.cls → vx_W p l e R s m args below meth c H1 locs1 (cells + mc2) (slots + ms2) Q (F0 m pc ls rest) q)
    (kk : ∀ (v : Int32) (L' : List ro) (ad' : ro → Nat) (st' : ro → va_E) (H1 : Heap) (locs1 : List Loc), post v (L', ad', st') → gW X A L' ad' st' s H1 → va_S A s.heap H1 locs1 → W p l e R s m args below meth c H1 locs1 (cells + mc2) (slots + ms2) Q (F0 m (pc + 3) ls (.int v :: rest))) : W p l e R s m args below meth c H locs cells slots Q (F0 m pc ls st0) := by
  obtain ⟨q0, -, h0⟩ := rw_get (ad := ad) (st := st) hr
  rw [he] at h0
  have hf := g_free C hW hS
  exact vx_calli (vx_runV (As := As) (rest := rest) C.1 (hM H.size) (tcV C.1.2.2.2.2 h1 h2 h3 h4 h5 rfl rfl hd hR) ⟨gPre_blind, va_recv hW.2.1 hW.1 hci h0, g_pre C hW hS⟩ rfl hk hsz hst (lv_room hcat) hdg hcs) hS (fun q _ h => hf q h) hf (fun q _ h => hf q h)
    (fun E ce q9 u t H1 locs1 ht hvm _ hB _ _ hS1 hce hcv hcl => kx E u.1 u.2.1 u.2.2 H1 locs1 ce q9 hB.1 (g_back hf ht hvm hB.2) hS1 hce hcv hcl)
    (fun v u t H1 locs1 ht hvm hp hB _ _ hS1 => kk v u.1 u.2.1 u.2.2 H1 locs1 hp (g_back hf ht hvm hB) hS1)
theorem g_catch {E : String} {ce : Cell} {q : Addr} (C : gCx p s m args meth c cc nL ret own mname X A) (pre : List ExceptionTableEntry) (x : ExceptionTableEntry) (suf : List ExceptionTableEntry) (hsplit : c.exceptionTable.toList = pre ++ x :: suf)
    (hpass : ∀ z ∈ pre, z.catchType ≠ 0 ∧ ∃ nm : String, Cond.classLink own z.catchType nm ∈ TB ∧ (E, nm) ∈ GTn) (hx : covers x pc = true) (h0 : x.catchType ≠ 0) (hlink : Cond.classLink own x.catchType E ∈ TB) (hc : (E, E) ∈ GTc) (hcell : H[q]? = some ce) (hv : ce.vm = .none) (hcl : s.vm.findClass E = some ce.cls)
    (kk : W p l e R s m args below meth c H locs cells slots Q (F0 m x.handlerPc ls [.ref q])) : vx_W p l e R s m args below meth c H locs cells slots Q (F0 m pc ls rest) q :=
  vx_catch C.1.2.2.2.1 pre x suf hsplit (fun z hz => by
    obtain ⟨h1, nm, h2, h3⟩ := hpass z hz
    exact Or.inr ⟨h1, nm, C.1.2.2.2.2 _ h2, (g_gt C).2.2.2.1 _ h3⟩) hx h0 (C.1.2.2.2.2 _ hlink) (va_Nw.use rfl ((g_gt C).2.2.1 _ hc)) hcell hv hcl kk
theorem goodWH {index : Nat} {z : MethodName} {b : ByteArray} {n : Nat} {ret : Option FieldType} {hh : List (Nat × Nat × Nat × Nat)} (h1 : Cond.methodLink own index z ∈ TB) (h2 : Cond.static z ∈ TB) (h4 : Cond.initialized z.cls ∈ TB) (h5 : Cond.codeWith z b n ret hh ∈ TB) : GoodIn TB (va_wsS own index z (tWH z b n ret hh)) := by
  intro w hw
  unfold va_wsS at hw
  have hb : w ∈ TB := by
    rcases List.mem_append.mp hw with h | h
    · simp only [List.mem_cons, List.not_mem_nil, or_false] at h
      rcases h with h | h | h <;> subst h <;> assumption
    · rcases List.mem_cons.mp h with h | h
      · subst h; exact h5
      · exact h
  exact ⟨hb, good_of_word (tB_ok hb)⟩
/-- a static call of a method with a table -/
theorem g_callSW {index n2 fr2 lc2 mc2 ms2 k2 : Nat} {z : MethodName} {b2 : ByteArray} {ret2 : Option FieldType} {hh : List (Nat × Nat × Nat × Nat)} {As st0 : List Value} {post : Int32 → WS → Prop} (C : gCx p s m args meth c cc nL ret own mname X A) (hM : gWi l z b2 n2 ret2 hh fr2 lc2 mc2 ms2 X As L ad st post)
    (h1 : Cond.methodLink own index z ∈ TB) (h2 : Cond.static z ∈ TB) (h4 : Cond.initialized z.cls ∈ TB) (h5 : Cond.codeWith z b2 n2 ret2 hh ∈ TB) (hd : z.cls ≠ "java/lang/invoke/MethodHandle" ∧ z.cls ≠ "java/lang/invoke/VarHandle" ∧ (parseMethodDescriptor z.desc).map (fun d => d.parameters.length) = some k2) (hR : fr2 + 1 ≤ R.frames ∧ 8 + (n2 + 11) + lc2 ≤ R.locals)
    (hW : gW X A L ad st s H) (hS : va_S A s.heap H locs) (hk : As.length = k2) (hsz : ls.size = nL) (hst : st0 = As.reverse ++ rest) (hcat : (rest.map fun v => v.category).sum ≤ 8) (hdg : decode cc pc = .ok (.invokestatic index, 3)) (hcs : cells + mc2 ≤ R.cells ∧ slots + ms2 ≤ R.slots)
    (kk : ∀ (v : Int32) (L' : List ro) (ad' : ro → Nat) (st' : ro → va_E) (H1 : Heap) (locs1 : List Loc), post v (L', ad', st') → gW X A L' ad' st' s H1 → va_S A s.heap H1 locs1 → W p l e R s m args below meth c H1 locs1 (cells + mc2) (slots + ms2) Q (F0 m (pc + 3) ls (.int v :: rest))) : W p l e R s m args below meth c H locs cells slots Q (F0 m pc ls st0) := by
  have hf := g_free C hW hS
  exact va_calli (vx_runSW (As := As) (rest := rest) C.1 (hM H.size) (vx_cwSW k2 C.1.2.2.2.2 (goodWH h1 h2 h4 h5) rfl rfl rfl hd hR) ⟨gPre_blind, g_pre C hW hS⟩ rfl hk hsz hst (lv_room hcat) hdg hcs) hS (fun q _ h => hf q h) hf (fun v u t H1 locs1 ht hvm hp hB _ _ hS1 => kk v u.1 u.2.1 u.2.2 H1 locs1 hp (g_back hf ht hvm hB) hS1)
end GW1
/-- the world of the law: the class over the reference over 'out' -/
def oSt (X : GX) (f : Nat → Int64) : ro → va_E := fun r => if r = (110, 0) then lng X f else .inr (0, [])
def wld (X : GX) (ad : ro → Nat) (ci : Nat → Nat → Int32) (ca : Nat → Nat → Nat → Int32) (cr : Nat → Nat → Nat) (fi : Nat → Int32) (fa : Nat → Nat → Int32) (f : Nat → Int64) : ro → va_E := cSt X ad (mSt X ad (oSt X f) fi fa) ci ca cr
section WLD
variable {X : GX} {ad ad' : ro → Nat} {ci : Nat → Nat → Int32} {ca : Nat → Nat → Nat → Int32} {cr : Nat → Nat → Nat} {fi : Nat → Int32} {fa : Nat → Nat → Int32} {f f2 : Nat → Int64} {st0 : ro → va_E}
theorem cE_0 (k i : Nat) : (cE X ad st0 ci ca cr k i = st0 (k, i) ∧ 100 ≤ k) ∨ ¬ 100 ≤ k := by
  by_cases h : 100 ≤ k
  · refine Or.inl ⟨?_, h⟩
    unfold cE
    split <;> first | rfl | (exfalso; omega)
  · exact Or.inr h
theorem cE_st {st1 : ro → va_E} {k i : Nat} (h : st0 (k, i) = st1 (k, i)) : cE X ad st0 ci ca cr k i = cE X ad st1 ci ca cr k i := by
  unfold cE
  split <;> first | rfl | exact h
theorem wld_m : wld X ad ci ca cr fi fa f = mSt X ad (cSt X ad (oSt X f) ci ca cr) fi fa := by
  funext r
  obtain ⟨k, i⟩ := r
  show cE X ad (mSt X ad (oSt X f) fi fa) ci ca cr k i = mSt X ad (cSt X ad (oSt X f) ci ca cr) fi fa (k, i)
  by_cases h : 100 ≤ k
  · rcases cE_0 (X := X) (ad := ad) (st0 := mSt X ad (oSt X f) fi fa) (ci := ci) (ca := ca) (cr := cr) k i with ⟨e, -⟩ | e
    · rw [e]
      unfold mSt
      by_cases h1 : ((k, i) : ro) = (100, 0)
      · rw [if_pos h1, if_pos h1]
      · rw [if_neg h1, if_neg h1]
        by_cases h2 : ((k, i) : ro).1 = 101
        · rw [if_pos h2, if_pos h2]
        · rw [if_neg h2, if_neg h2]
          rcases cE_0 (X := X) (ad := ad) (st0 := oSt X f) (ci := ci) (ca := ca) (cr := cr) k i with ⟨e2, -⟩ | e2
          · exact e2.symm
          · exact absurd h e2
    · exact absurd h e
  · have h1 : ¬ ((k, i) : ro) = (100, 0) := fun q => h (by have := congrArg Prod.fst q; simp at this; omega)
    have h2 : ¬ ((k, i) : ro).1 = 101 := fun q => h (by have : k = 101 := q; omega)
    unfold mSt
    rw [if_neg h1, if_neg h2]
    exact cE_st (by show (if ((k, i) : ro) = (100, 0) then _ else if ((k, i) : ro).1 = 101 then _ else oSt X f (k, i)) = _; rw [if_neg h1, if_neg h2])
theorem wld_out : sup (wld X ad ci ca cr fi fa f) (110, 0) (lng X f2) = wld X ad ci ca cr fi fa f2 := by
  funext r
  obtain ⟨k, i⟩ := r
  by_cases h : ((k, i) : ro) = (110, 0)
  · cases h
    rw [sup_at]
    rfl
  · rw [sup_ne h]
    refine cE_st ?_
    show mSt X ad (oSt X f) fi fa (k, i) = mSt X ad (oSt X f2) fi fa (k, i)
    unfold mSt oSt
    by_cases h1 : ((k, i) : ro) = (100, 0)
    · rw [if_pos h1, if_pos h1]
    · rw [if_neg h1, if_neg h1]
      by_cases h2 : ((k, i) : ro).1 = 101
      · rw [if_pos h2, if_pos h2]
      · rw [if_neg h2, if_neg h2, if_neg h, if_neg h]
theorem mSt_ad (h : ∀ k : Nat, ad' (101, k) = ad (101, k)) : mSt X ad' st0 fi fa = mSt X ad st0 fi fa := by
  have e : mO ad' fi = mO ad fi := by
    unfold mO
    apply List.map_congr_left
    intro k _
    unfold mF
    rw [h k]
  unfold mSt
  rw [e]
/-- what a call leaves of the roles: none goes, what the law holds stays -/
def wF (L L' : List ro) (ad ad' : ro → Nat) : Prop := (∀ r, r ∈ L → r ∈ L') ∧ ∀ r : ro, (100 ≤ r.1 ∨ r = (1, 0)) → ad' r = ad r
theorem wF_rf {L : List ro} : wF L L ad ad := ⟨fun _ h => h, fun _ _ => rfl⟩
theorem wF_101 {L L' : List ro} (h : wF L L' ad ad') (k : Nat) : ad' (101, k) = ad (101, k) := h.2 _ (Or.inl (Nat.le_of_ble_eq_true rfl))
theorem wld_ad {L L' : List ro} (h : wF L L' ad ad') : cSt X ad' (mSt X ad (oSt X f) fi fa) ci ca cr = wld X ad' ci ca cr fi fa f := by
  unfold wld
  rw [mSt_ad (wF_101 h)]
end WLD
