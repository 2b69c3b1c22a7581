/-! copies of rows -/
theorem cp_nat : Cond.native arraycopyName ∈ TB := by first | exact tw_3_7 | exact tB_of (by decide +kernel) (by decide +kernel)
theorem cp_stat : Cond.static arraycopyName ∈ TB := tB_of (by decide +kernel) (by decide +kernel)
theorem cp_ini : Cond.initialized "java/lang/System" ∈ TB := tB_of (by decide +kernel) (by decide +kernel)
theorem gs_fit (k j : Nat) : fits .byte (.int ((gsByt.getD k []).getD j 0)) = true := gs_all (fun x => fits .byte (.int x) = true) (by decide) (by decide) k j
section GC8
variable {p : Program} {l : Launch} {e : Env} {R : Room} {s : State} {m : MethodId} {args : Array Value} {below : List Frame} {meth : Method} {c : Code} {H : Heap} {locs : List Loc} {cells slots : Nat} {Q : State → Prop}
variable {cc : ByteArray} {nL : Nat} {ret : Option FieldType} {own mname : String} {pc : Nat} {ls : Array Slot} {rest : List Value} {X : GX} {A : Nat → Prop} {L : List ro} {ad : ro → Nat} {st : ro → va_E} {r r0 : ro}
theorem g_copyt {index k n1 : Nat} {g : Nat → Int32} (hk : k < 6) (C : gCx p s m args meth c cc nL ret own mname X A) (hW : gW X A L ad st s H) (hS : va_S A s.heap H locs) (hsz : ls.size = nL) (hlink : Cond.methodLink own index arraycopyName ∈ TB) (hr : r ∈ L) (he : st r = .inl (X.2.1 0, n1, .inl g))
    {sp dp n : Nat} {x y z : Int32} (hx : x = nI sp) (hy : y = nI dp) (hz : z = nI n) (h4 : sp + n ≤ gsLen.getD k 0) (h5 : dp + n ≤ n1) (hn1 : n1 < 2 ^ 31) (hframes : 1 ≤ R.frames) (hlocals : (rest.map fun v => v.category).sum + (nativeFrameWords "java/lang/System" "arraycopy" 5 + 11) ≤ R.locals) (hdg : decode cc pc = .ok (.invokestatic index, 3))
    (kk : ∀ (st2 : ro → va_E) (H1 : Heap) (locs1 : List Loc), st2 r = .inl (X.2.1 0, n1, .inl (va_cpy (fun j => (gsByt.getD k []).getD j 0) g sp dp n)) → (∀ x, x ≠ r → st2 x = st x) → gW X A L ad st2 s H1 → va_S A s.heap H1 locs1 → W p l e R s m args below meth c H1 locs1 cells slots Q (F0 m (pc + 3) ls rest)) : W p l e R s m args below meth c H locs cells slots Q (F0 m pc ls (.int z :: .int y :: .ref (ad r) :: .int x :: .ref (X.2.2 (10 + k)) :: rest)) := by
  subst hx hy hz
  obtain ⟨q0, hq0, h0⟩ := rw_get (ad := ad) (st := st) hr
  rw [he] at h0
  have hg9 := gs_small k
  have b1 : (nI sp).toNatClampNeg = sp := nI_clamp (by omega)
  have b2 : (nI dp).toNatClampNeg = dp := nI_clamp (by omega)
  have b3 : (nI n).toNatClampNeg = n := nI_clamp (by omega)
  refine vk_copyt C.1.1 C.1.2.1 (C.1.2.2.1.trans hsz.symm) C.1.2.2.2.1 (C.1.2.2.2.2 _ hlink) (C.1.2.2.2.2 _ cp_nat) (C.1.2.2.2.2 _ cp_stat) (C.1.2.2.2.2 _ cp_ini) hW.2.1 hW.1 hW.2.2 hS (g_tx C hk).2.2.2 q0 0 h0 rfl (nI_pos (by omega)) (nI_pos (by omega)) (nI_pos (by omega)) (by rw [b1, b3]; exact h4) (by rw [b2, b3]; exact h5) (fun i _ => gs_fit k _) hframes hlocals hdg (fun H1 locs1 hP1 hD1 hS1 => ?_)
  rw [rw_set hW.2.2 hq0, b1, b2, b3] at hP1 hD1
  exact kk _ H1 locs1 sup_at (fun x hx => sup_ne hx) ⟨hP1, hW.2.1, hD1⟩ hS1
theorem g_copyb {index n0 n1 : Nat} {f g : Nat → Int32} (C : gCx p s m args meth c cc nL ret own mname X A) (hW : gW X A L ad st s H) (hS : va_S A s.heap H locs) (hsz : ls.size = nL) (hlink : Cond.methodLink own index arraycopyName ∈ TB) (hr0 : r0 ∈ L) (he0 : st r0 = .inl (X.2.1 0, n0, .inl f)) (hr : r ∈ L) (he : st r = .inl (X.2.1 0, n1, .inl g))
    {sp dp n : Nat} {x y z : Int32} (hx : x = nI sp) (hy : y = nI dp) (hz : z = nI n) (h4 : sp + n ≤ n0) (h5 : dp + n ≤ n1) (hn0 : n0 < 2 ^ 31) (hn1 : n1 < 2 ^ 31) (hfit : ∀ j, fits .byte (.int (f j)) = true) (hframes : 1 ≤ R.frames) (hlocals : (rest.map fun v => v.category).sum + (nativeFrameWords "java/lang/System" "arraycopy" 5 + 11) ≤ R.locals) (hdg : decode cc pc = .ok (.invokestatic index, 3))
    (kk : ∀ (st2 : ro → va_E) (H1 : Heap) (locs1 : List Loc), st2 r = .inl (X.2.1 0, n1, .inl (va_cpy f g sp dp n)) → (∀ x, x ≠ r → st2 x = st x) → gW X A L ad st2 s H1 → va_S A s.heap H1 locs1 → W p l e R s m args below meth c H1 locs1 cells slots Q (F0 m (pc + 3) ls rest)) : W p l e R s m args below meth c H locs cells slots Q (F0 m pc ls (.int z :: .int y :: .ref (ad r) :: .int x :: .ref (ad r0) :: rest)) := by
  subst hx hy hz
  obtain ⟨q0, hq0, h0⟩ := rw_get (ad := ad) (st := st) hr
  obtain ⟨q1, hq1, h1⟩ := rw_get (ad := ad) (st := st) hr0
  rw [he] at h0
  rw [he0] at h1
  have b1 : (nI sp).toNatClampNeg = sp := nI_clamp (by omega)
  have b2 : (nI dp).toNatClampNeg = dp := nI_clamp (by omega)
  have b3 : (nI n).toNatClampNeg = n := nI_clamp (by omega)
  refine va_copyi C.1.1 C.1.2.1 (C.1.2.2.1.trans hsz.symm) C.1.2.2.2.1 (C.1.2.2.2.2 _ hlink) (C.1.2.2.2.2 _ cp_nat) (C.1.2.2.2.2 _ cp_stat) (C.1.2.2.2.2 _ cp_ini) hW.2.1 hW.1 hW.2.2 hS q1 q0 0 0 h1 h0 rfl rfl rfl (nI_pos (by omega)) (nI_pos (by omega)) (nI_pos (by omega)) (by rw [b1, b3]; exact h4) (by rw [b2, b3]; exact h5) (fun i _ => hfit _) hframes hlocals hdg (fun H1 locs1 hP1 hD1 hS1 => ?_)
  rw [rw_set hW.2.2 hq0, b1, b2, b3] at hP1 hD1
  exact kk _ H1 locs1 sup_at (fun x hx => sup_ne hx) ⟨hP1, hW.2.1, hD1⟩ hS1
theorem g_copyo {index n0 n1 t0 t1 : Nat} {c0 c1 : ClassId} {E0 E1 : String} {f g : Nat → Option Nat} (C : gCx p s m args meth c cc nL ret own mname X A) (hW : gW X A L ad st s H) (hS : va_S A s.heap H locs) (hsz : ls.size = nL) (hlink : Cond.methodLink own index arraycopyName ∈ TB) (hr0 : r0 ∈ L) (he0 : st r0 = .inl (c0, n0, .inr (.inr (.inr (.inr f))))) (ht0 : (wTy X.2.1)[t0]? = some (c0, .object E0)) (hr : r ∈ L) (he : st r = .inl (c1, n1, .inr (.inr (.inr (.inr g))))) (ht1 : (wTy X.2.1)[t1]? = some (c1, .object E1))
    {sp dp n : Nat} {x y z : Int32} (hx : x = nI sp) (hy : y = nI dp) (hz : z = nI n) (h4 : sp + n ≤ n0) (h5 : dp + n ≤ n1) (hn0 : n0 < 2 ^ 31) (hn1 : n1 < 2 ^ 31) (hel : ∀ i : Nat, i < n → ∀ q : Nat, f (sp + i) = some q → va_Any E1 s H q) (hframes : 1 ≤ R.frames) (hlocals : (rest.map fun v => v.category).sum + (nativeFrameWords "java/lang/System" "arraycopy" 5 + 11) ≤ R.locals) (hdg : decode cc pc = .ok (.invokestatic index, 3))
    (kk : ∀ (st2 : ro → va_E) (H1 : Heap) (locs1 : List Loc), st2 r = .inl (c1, n1, .inr (.inr (.inr (.inr (va_cpy f g sp dp n))))) → (∀ x, x ≠ r → st2 x = st x) → gW X A L ad st2 s H1 → va_S A s.heap H1 locs1 → W p l e R s m args below meth c H1 locs1 cells slots Q (F0 m (pc + 3) ls rest)) : W p l e R s m args below meth c H locs cells slots Q (F0 m pc ls (.int z :: .int y :: .ref (ad r) :: .int x :: .ref (ad r0) :: rest)) := by
  subst hx hy hz
  obtain ⟨q0, hq0, h0⟩ := rw_get (ad := ad) (st := st) hr
  obtain ⟨q1, hq1, h1⟩ := rw_get (ad := ad) (st := st) hr0
  rw [he] at h0
  rw [he0] at h1
  have b1 : (nI sp).toNatClampNeg = sp := nI_clamp (by omega)
  have b2 : (nI dp).toNatClampNeg = dp := nI_clamp (by omega)
  have b3 : (nI n).toNatClampNeg = n := nI_clamp (by omega)
  have hel' : ∀ i : Nat, i < (nI n).toNatClampNeg → ∀ q : Nat, f ((nI sp).toNatClampNeg + i) = some q → va_Any E1 s H q := by rw [b1, b3]; exact hel
  refine va_copyM C.1.1 C.1.2.1 (C.1.2.2.1.trans hsz.symm) C.1.2.2.2.1 (C.1.2.2.2.2 _ hlink) (C.1.2.2.2.2 _ cp_nat) (C.1.2.2.2.2 _ cp_stat) (C.1.2.2.2.2 _ cp_ini) hW.2.1 hW.1 hW.2.2 hS q1 q0 t0 t1 h1 h0 ht0 ht1 (nI_pos (by omega)) (nI_pos (by omega)) (nI_pos (by omega)) (by rw [b1, b3]; exact h4) (by rw [b2, b3]; exact h5) (fun i hi => hel' i hi) hframes hlocals hdg (fun H1 locs1 hP1 hD1 hS1 => ?_)
  rw [rw_set hW.2.2 hq0, b1, b2, b3] at hP1 hD1
  exact kk _ H1 locs1 sup_at (fun x hx => sup_ne hx) ⟨hP1, hW.2.1, hD1⟩ hS1
end GC8
