/-! roles: fewer of them, moved ones; new objects and arrays; calls of every kind; methods that throw -/
theorem rne {a b c d : Nat} (h : a ≠ c ∨ b ≠ d) : ((a, b) : ro) ≠ (c, d) := fun e => by
  injection e with e1 e2
  exact h.elim (fun q => q e1) (fun q => q e2)
theorem sup_at {st : ro → va_E} {r : ro} {e : va_E} : sup st r e r = e := by simp [sup]
theorem sup_ne {st : ro → va_E} {r x : ro} {e : va_E} (h : x ≠ r) : sup st r e x = st x := by simp [sup, h]
theorem aup_at {ad : ro → Nat} {r : ro} {q : Nat} : aup ad r q r = q := by simp [aup]
theorem aup_ne {ad : ro → Nat} {r x : ro} {q : Nat} (h : x ≠ r) : aup ad r q x = ad x := by simp [aup, h]
theorem gW_nodup {X : GX} {A : Nat → Prop} {L : List ro} {ad : ro → Nat} {st : ro → va_E} {s : State} {H : Heap} (hW : gW X A L ad st s H) : L.Nodup := by
  refine List.pairwise_iff_getElem.mpr (fun i j hi hj hij e => ?_)
  have h1 : (rwW L ad st)[i]? = some (ad L[i], st L[i]) := by simp [rwW, hi]
  have h2 : (rwW L ad st)[j]? = some (ad L[i], st L[i]) := by simp [rwW, hj, e]
  exact absurd (hW.2.2.1 i j _ _ h1 h2 rfl) (by omega)
/-- the roles of L2 are roles of L under other names -/
theorem gW_map {X : GX} {A : Nat → Prop} {L L2 : List ro} {ad ad2 : ro → Nat} {st st2 : ro → va_E} {s : State} {H : Heap} (f : ro → ro) (hsub : ∀ r, r ∈ L2 → f r ∈ L ∧ ad2 r = ad (f r) ∧ st2 r = st (f r)) (hinj : ∀ r, r ∈ L2 → ∀ t, t ∈ L2 → f r = f t → r = t) (hnd : L2.Nodup) (hW : gW X A L ad st s H) : gW X A L2 ad2 st2 s H := by
  have key : ∀ (k : Nat) (q : Nat × va_E), (rwW L2 ad2 st2)[k]? = some q → ∃ r, L2[k]? = some r ∧ ∃ k1 : Nat, L[k1]? = some (f r) ∧ (rwW L ad st)[k1]? = some q := by
    intro k q h
    simp only [rwW, List.getElem?_map] at h
    cases hx : L2[k]? with
    | none => rw [hx] at h; cases h
    | some r =>
      rw [hx] at h
      obtain ⟨m1, m2, m3⟩ := hsub r (List.mem_of_getElem? hx)
      obtain ⟨k1, e1, e2⟩ := rw_get (ad := ad) (st := st) m1
      refine ⟨r, rfl, k1, e1, ?_⟩
      rw [e2, ← m2, ← m3]
      exact h
  refine ⟨fun k q h => ?_, hW.2.1, fun i j p q hi hj he => ?_, fun k q h => ?_⟩
  · obtain ⟨r, _, k1, _, h1⟩ := key k q h
    exact hW.1 k1 q h1
  · obtain ⟨r, a1, k1, a3, a4⟩ := key i p hi
    obtain ⟨t, b1, k2, b3, b4⟩ := key j q hj
    have hk : k1 = k2 := hW.2.2.1 k1 k2 p q a4 b4 he
    subst hk
    have e9 : r = t := hinj r (List.mem_of_getElem? a1) t (List.mem_of_getElem? b1) (Option.some.inj (a3.symm.trans b3))
    subst e9
    have hi9 := (List.getElem?_eq_some_iff.mp a1).1
    exact (List.getElem?_inj hi9 hnd).mp (a1.trans b1.symm)
  · obtain ⟨r, _, k1, _, h1⟩ := key k q h
    exact hW.2.2.2 k1 q h1
theorem gW_sub {X : GX} {A : Nat → Prop} {L L2 : List ro} {ad ad2 : ro → Nat} {st st2 : ro → va_E} {s : State} {H : Heap} (hsub : ∀ r, r ∈ L2 → r ∈ L) (hnd : L2.Nodup) (ha : ∀ r, r ∈ L2 → ad2 r = ad r) (hs : ∀ r, r ∈ L2 → st2 r = st r) (hW : gW X A L ad st s H) : gW X A L2 ad2 st2 s H :=
  gW_map (fun r => r) (fun r h => ⟨hsub r h, ha r h, hs r h⟩) (fun _ _ _ _ e => e) hnd hW
/-- what was added last is forgotten -/
theorem gW_drop {X : GX} {A : Nat → Prop} {L M : List ro} {ad ad2 : ro → Nat} {st st2 : ro → va_E} {s : State} {H : Heap} (ha : ∀ r, r ∈ L → ad r = ad2 r) (hs : ∀ r, r ∈ L → st r = st2 r) (hW : gW X A (L ++ M) ad2 st2 s H) : gW X A L ad st s H :=
  gW_sub (fun r h => List.mem_append_left _ h) ((gW_nodup hW).sublist (List.sublist_append_left _ _)) ha hs hW
section GR5
variable {p : Program} {l : Launch} {e : Env} {R : Room} {s : State} {m : MethodId} {args : Array Value} {below : List Frame} {meth : Method} {c : Code} {H : Heap} {locs : List Loc} {cells slots : Nat} {Q : State → Prop}
variable {cc : ByteArray} {nL : Nat} {ret : Option FieldType} {own mname : String} {pc : Nat} {ls : Array Slot} {rest : List Value} {X : GX} {A : Nat → Prop} {L : List ro} {ad : ro → Nat} {st : ro → va_E} {r : ro}
theorem g_gt (C : gCx p s m args meth c cc nL ret own mname X A) : GT X s := C.2.2.2.2.2.2
theorem g_sf (C : gCx p s m args meth c cc nL ret own mname X A) : SF X A s s.heap := C.2.2.2.2.2.1
theorem lv_topV {x y : Value} (h : x = y) (k : W p l e R s m args below meth c H locs cells slots Q (F0 m pc ls (y :: rest))) : W p l e R s m args below meth c H locs cells slots Q (F0 m pc ls (x :: rest)) := by
  subst h
  exact k
theorem g_newo {Cn : String} {T : u_T} {N ci index : Nat} {ty0 : Nat → FieldType} {fs : List Value} (C : gCx p s m args meth c cc nL ret own mname X A) (hin : ∀ w ∈ u_ws Cn T N, w ∈ TB) (hty : ∀ k, k < N → parseFieldDescriptor (T k).2.2.1 = some (ty0 k)) (hW : gW X A L ad st s H) (hS : va_S A s.heap H locs) (hr : r ∉ L) (hc : vwCl[ci]? = some (Cn, T, N)) (h1 : Cond.classLink own index Cn ∈ TB) (h2 : Cond.instantiable Cn N ∈ TB) (h3 : Cond.initialized Cn ∈ TB) (hfs : ∀ j, j < N → defaultValue (ty0 j) = vp_V fs j)
    (hcells : cells + 1 ≤ R.cells) (hslots : slots + N ≤ R.slots) (hdg : decode cc pc = .ok (.new index, 3))
    (kk : ∀ (ad2 : ro → Nat) (st2 : ro → va_E) (H1 : Heap), (∀ x, x ≠ r → ad2 x = ad x) → st2 r = .inr (ci, fs) → (∀ x, x ≠ r → st2 x = st x) → gW X A (L ++ [r]) ad2 st2 s H1 → va_S A s.heap H1 locs → W p l e R s m args below meth c H1 locs (cells + 1) (slots + N) Q (F0 m (pc + 3) ls (.ref (ad2 r) :: rest))) : W p l e R s m args below meth c H locs cells slots Q (F0 m pc ls rest) := by
  have hts := C.1.2.2.2.2
  refine va_new C.1.1 C.1.2.1 hts hin ty0 hty C.1.2.2.2.1 (hts _ h1) (hts _ h2) (hts _ h3) hW.2.1 hW.1 hW.2.2 hS C.2.2.2.2.1 hc hfs hcells hslots hdg (fun q H1 hP1 hD1 hS1 => ?_)
  rw [rw_push hr] at hP1 hD1
  have h9 := kk (aup ad r q) (sup st r (.inr (ci, fs))) H1 (fun x hx => aup_ne hx) sup_at (fun x hx => sup_ne hx) ⟨hP1, hW.2.1, hD1⟩ hS1
  rwa [aup_at] at h9
theorem g_newb {atype : ArrayType} {ty : FieldType} {t0 N' : Nat} {cA : ClassId} {a0 : vp_A} {n : Int32} (C : gCx p s m args meth c cc nL ret own mname X A) (hW : gW X A L ad st s H) (hS : va_S A s.heap H locs) (hr : r ∉ L) (harr : Cond.arrayClass (newarray.typeOf atype) ∈ TB) (hty : newarray.typeOf atype = ty) (ht : (wTy X.2.1)[t0]? = some (cA, ty))
    (ha : ∀ cA : ClassId, vp_cell cA a0 = arrV cA N' (fun _ => defaultValue ty)) (hn : ¬ n < 0) (hN : n.toNatClampNeg = N') (hbytes : N' * componentBytes ty ≤ 536870912) (hcells : cells + 1 ≤ R.cells) (hslots : slots + N' ≤ R.slots) (hdg : decode cc pc = .ok (.newarray atype, 2))
    (kk : ∀ (ad2 : ro → Nat) (st2 : ro → va_E) (H1 : Heap), (∀ x, x ≠ r → ad2 x = ad x) → st2 r = .inl (cA, a0) → (∀ x, x ≠ r → st2 x = st x) → gW X A (L ++ [r]) ad2 st2 s H1 → va_S A s.heap H1 locs → W p l e R s m args below meth c H1 locs (cells + 1) (slots + N') Q (F0 m (pc + 2) ls (.ref (ad2 r) :: rest))) : W p l e R s m args below meth c H locs cells slots Q (F0 m pc ls (.int n :: rest)) :=
  g_newa C hW hS hr harr hty ht ha hn hN hbytes hcells hslots hdg (fun q H1 hW1 hS1 => by
    have h9 := kk (aup ad r q) (sup st r (.inl (cA, a0))) H1 (fun x hx => aup_ne hx) sup_at (fun x hx => sup_ne hx) hW1 hS1
    rwa [aup_at] at h9)
theorem g_newr {Cn : String} {t0 N' index : Nat} {cA : ClassId} {n : Int32} (C : gCx p s m args meth c cc nL ret own mname X A) (hW : gW X A L ad st s H) (hS : va_S A s.heap H locs) (hr : r ∉ L) (h1 : Cond.classLink own index Cn ∈ TB) (hover : Cn ∈ GTa) (ht : (wTy X.2.1)[t0]? = some (cA, .object Cn)) (hn : ¬ n < 0) (hN : n.toNatClampNeg = N') (hbytes : N' * 4 ≤ 536870912) (hcells : cells + 1 ≤ R.cells) (hslots : slots + N' ≤ R.slots) (hdg : decode cc pc = .ok (.anewarray index, 3))
    (kk : ∀ (ad2 : ro → Nat) (st2 : ro → va_E) (H1 : Heap), (∀ x, x ≠ r → ad2 x = ad x) → st2 r = .inl (cA, N', .inr (.inr (.inr (.inr (fun _ => none))))) → (∀ x, x ≠ r → st2 x = st x) → gW X A (L ++ [r]) ad2 st2 s H1 → va_S A s.heap H1 locs → W p l e R s m args below meth c H1 locs (cells + 1) (slots + N') Q (F0 m (pc + 3) ls (.ref (ad2 r) :: rest))) : W p l e R s m args below meth c H locs cells slots Q (F0 m pc ls (.int n :: rest)) := by
  refine va_newq C.1.1 C.1.2.1 C.1.2.2.2.1 (C.1.2.2.2.2 _ h1) ((g_gt C).2.2.2.2.2.1 Cn hover) hW.2.1 hW.1 hW.2.2 hS C.2.2.2.2.1 hn hN hbytes hcells hslots hdg (fun q cB H1 hK1 hP1 hD1 hS1 => ?_)
  have e1 : (wTy X.2.1 ++ [(cB, .object Cn)])[8]? = some (cB, .object Cn) := rfl
  have hcB : cB = cA := va_RA_uniq (hK1.2 8 _ e1).2 (hW.2.1.2 t0 _ ht).2
  subst hcB
  rw [rw_push hr] at hP1 hD1
  have h9 := kk (aup ad r q) (sup st r (.inl (cB, N', .inr (.inr (.inr (.inr (fun _ => none))))))) H1 (fun x hx => aup_ne hx) sup_at (fun x hx => sup_ne hx) ⟨hP1, hW.2.1, hD1⟩ hS1
  rwa [aup_at] at h9
/-- a field is written: the world by its facts -/
theorem g_putx {ref Cn : String} {T : u_T} {N ci index : Nat} {ty0 : Nat → FieldType} (C : gCx p s m args meth c cc nL ret own mname X A) (hin : ∀ w ∈ u_ws Cn T N, w ∈ TB) (hty : ∀ k, k < N → parseFieldDescriptor (T k).2.2.1 = some (ty0 k)) (hnm : ∀ a, a < N → ∀ b, b < N → a ≠ b → (T a).2.1 ≠ (T b).2.1) (hW : gW X A L ad st s H) (hS : va_S A s.heap H locs) (hr : r ∈ L) {fs fs2 : List Value} (he : st r = .inr (ci, fs)) (hc : vwCl[ci]? = some (Cn, T, N)) (k : Nat) (hk : k < N) (hlink : Cond.fieldLink own index ref (T k).2.1 (T k).2.2.1 ∈ TB)
    (hsame : ∀ x, s.fieldFound? (T k).1 (T k).2.1 (T k).2.2.1 = some x → s.fieldFound? ref (T k).2.1 (T k).2.2.1 = some x) (hfin : (T k).2.2.2 = false) {v : Value} (hn : narrow (ty0 k) v = v) (hfit : fits (ty0 k) v = true) (hl : k < fs.length) (hf2 : fs.set k v = fs2) (hdg : decode cc pc = .ok (.putfield index, 3))
    (kk : ∀ (st2 : ro → va_E) (H1 : Heap) (locs1 : List Loc), st2 r = .inr (ci, fs2) → (∀ x, x ≠ r → st2 x = st x) → gW X A L ad st2 s H1 → va_S A s.heap H1 locs1 → W p l e R s m args below meth c H1 locs1 cells slots Q (F0 m (pc + 3) ls rest)) : W p l e R s m args below meth c H locs cells slots Q (F0 m pc ls (v :: .ref (ad r) :: rest)) :=
  g_put C hin hty hnm hW hS hr he hc k hk hlink hsame hfin hn hfit hl rfl hdg (fun H1 locs1 hW1 hS1 => kk _ H1 locs1 (sup_at.trans (by rw [hf2])) (fun x hx => sup_ne hx) hW1 hS1)
theorem g_putxF {Cn : String} {T : u_T} {N ci index : Nat} {ty0 : Nat → FieldType} (C : gCx p s m args meth c cc nL ret own "<init>" X A) (hin : ∀ w ∈ u_ws Cn T N, w ∈ TB) (hty : ∀ k, k < N → parseFieldDescriptor (T k).2.2.1 = some (ty0 k)) (hnm : ∀ a, a < N → ∀ b, b < N → a ≠ b → (T a).2.1 ≠ (T b).2.1) (hW : gW X A L ad st s H) (hS : va_S A s.heap H locs) (hr : r ∈ L) {fs fs2 : List Value} (he : st r = .inr (ci, fs)) (hc : vwCl[ci]? = some (Cn, T, N)) (k : Nat) (hk : k < N) (hlink : Cond.fieldLink own index own (T k).2.1 (T k).2.2.1 ∈ TB)
    (hfin : (T k).2.2.2 = true) (hdecl : (T k).1 = own) {v : Value} (hn : narrow (ty0 k) v = v) (hfit : fits (ty0 k) v = true) (hl : k < fs.length) (hf2 : fs.set k v = fs2) (hdg : decode cc pc = .ok (.putfield index, 3))
    (kk : ∀ (st2 : ro → va_E) (H1 : Heap) (locs1 : List Loc), st2 r = .inr (ci, fs2) → (∀ x, x ≠ r → st2 x = st x) → gW X A L ad st2 s H1 → va_S A s.heap H1 locs1 → W p l e R s m args below meth c H1 locs1 cells slots Q (F0 m (pc + 3) ls rest)) : W p l e R s m args below meth c H locs cells slots Q (F0 m pc ls (v :: .ref (ad r) :: rest)) :=
  g_putF C hin hty hnm hW hS hr he hc k hk hlink hfin hdecl hn hfit hl rfl hdg (fun H1 locs1 hW1 hS1 => kk _ H1 locs1 (sup_at.trans (by rw [hf2])) (fun x hx => sup_ne hx) hW1 hS1)
theorem g_bast {n : Nat} {f : Nat → Int32} (C : gCx p s m args meth c cc nL ret own mname X A) (hW : gW X A L ad st s H) (hS : va_S A s.heap H locs) (hr : r ∈ L) (he : st r = .inl (X.2.1 0, n, .inl f)) {i x : Int32} (hin : vp_in i n) (hdg : decode cc pc = .ok (.bastore, 1))
    (kk : ∀ (st2 : ro → va_E) (H1 : Heap) (locs1 : List Loc), st2 r = .inl (X.2.1 0, n, .inl (upd f i.toNatClampNeg (vp_nar .byte x))) → (∀ x, x ≠ r → st2 x = st x) → gW X A L ad st2 s H1 → va_S A s.heap H1 locs1 → W p l e R s m args below meth c H1 locs1 cells slots Q (F0 m (pc + 1) ls rest)) : W p l e R s m args below meth c H locs cells slots Q (F0 m pc ls (.int x :: .int i :: .ref (ad r) :: rest)) := by
  obtain ⟨q0, hq0, h0⟩ := rw_get (ad := ad) (st := st) hr
  rw [he] at h0
  refine va_bast C.1.1 C.1.2.1 hW.2.1 hW.1 hW.2.2 hS q0 0 h0 rfl hin hdg (fun H1 locs1 hP1 hD1 hS1 => ?_)
  rw [rw_set hW.2.2 hq0] at hP1 hD1
  exact kk _ H1 locs1 sup_at (fun x hx => sup_ne hx) ⟨hP1, hW.2.1, hD1⟩ hS1
theorem g_astq {t0 n v : Nat} {cA : ClassId} {E : String} {f : Nat → Option Nat} (C : gCx p s m args meth c cc nL ret own mname X A) (hW : gW X A L ad st s H) (hS : va_S A s.heap H locs) (hr : r ∈ L) (he : st r = .inl (cA, n, .inr (.inr (.inr (.inr f))))) (ht : (wTy X.2.1)[t0]? = some (cA, .object E)) (hv : va_Any E s H v) {i : Int32} (hin : vp_in i n) (hdg : decode cc pc = .ok (.aastore, 1))
    (kk : ∀ (st2 : ro → va_E) (H1 : Heap) (locs1 : List Loc), st2 r = .inl (cA, n, .inr (.inr (.inr (.inr (va_up f i.toNatClampNeg (some v)))))) → (∀ x, x ≠ r → st2 x = st x) → gW X A L ad st2 s H1 → va_S A s.heap H1 locs1 → W p l e R s m args below meth c H1 locs1 cells slots Q (F0 m (pc + 1) ls rest)) : W p l e R s m args below meth c H locs cells slots Q (F0 m pc ls (.ref v :: .int i :: .ref (ad r) :: rest)) := by
  obtain ⟨q0, hq0, h0⟩ := rw_get (ad := ad) (st := st) hr
  rw [he] at h0
  refine va_astqM C.1.1 C.1.2.1 hW.2.1 hW.1 hW.2.2 hS q0 t0 h0 ht hv hin hdg (fun H1 locs1 hP1 hD1 hS1 => ?_)
  rw [rw_set hW.2.2 hq0] at hP1 hD1
  exact kk _ H1 locs1 sup_at (fun x hx => sup_ne hx) ⟨hP1, hW.2.1, hD1⟩ hS1
/-- a thing of a role may lie where Objects lie -/
theorem g_any {Cn E : String} {T : u_T} {N ci : Nat} {fs : List Value} (C : gCx p s m args meth c cc nL ret own mname X A) (hW : gW X A L ad st s H) (hr : r ∈ L) (he : st r = .inr (ci, fs)) (hc : vwCl[ci]? = some (Cn, T, N)) (hca : (Cn, E) ∈ GTc) : va_Any E s H (ad r) := by
  obtain ⟨q0, hq0, h0⟩ := rw_get (ad := ad) (st := st) hr
  rw [he] at h0
  refine va_rAny hW.2.1 hW.1 h0 hc (fun comp c0 f1 f2 => ?_)
  obtain ⟨c3, t0, g1, g2, g3⟩ := Cond.castable_spec (va_Nw.use (A := args) rfl ((g_gt C).2.2.1 _ hca))
  cases g1.symm.trans f2
  cases g2.symm.trans f1
  exact g3
theorem g_anyS {Cn : String} {T : u_T} {N ci : Nat} {fs : List Value} (C : gCx p s m args meth c cc nL ret own mname X A) (hW : gW X A L ad st s H) (hr : r ∈ L) (he : st r = .inr (ci, fs)) (hc : vwCl[ci]? = some (Cn, T, N)) : va_Any Cn s H (ad r) := by
  obtain ⟨q0, hq0, h0⟩ := rw_get (ad := ad) (st := st) hr
  rw [he] at h0
  refine va_rAny hW.2.1 hW.1 h0 hc (fun comp c0 f1 f2 => ?_)
  cases f1.symm.trans f2
  exact va_asg _ _
theorem g_recv {Cn : String} {T : u_T} {N ci : Nat} {fs : List Value} (C : gCx p s m args meth c cc nL ret own mname X A) (hW : gW X A L ad st s H) (hr : r ∈ L) (he : st r = .inr (ci, fs)) (hc : vwCl[ci]? = some (Cn, T, N)) : ∃ cell : Cell, H[ad r]? = some cell ∧ cell.vm.isStatics = false ∧ s.vm.findClass Cn = some cell.cls := by
  obtain ⟨q0, hq0, h0⟩ := rw_get (ad := ad) (st := st) hr
  rw [he] at h0
  exact va_recv hW.2.1 hW.1 hc h0
/-- a cast to the class that it is of -/
theorem g_cst {Cn : String} {T : u_T} {N ci index : Nat} {fs : List Value} (C : gCx p s m args meth c cc nL ret own mname X A) (hW : gW X A L ad st s H) (hr : r ∈ L) (he : st r = .inr (ci, fs)) (hc : vwCl[ci]? = some (Cn, T, N)) (h1 : Cond.classLink own index Cn ∈ TB) (hdg : decode cc pc = .ok (.checkcast index, 3))
    (k : W p l e R s m args below meth c H locs cells slots Q (F0 m (pc + 3) ls (.ref (ad r) :: rest))) : W p l e R s m args below meth c H locs cells slots Q (F0 m pc ls (.ref (ad r) :: rest)) :=
  va_castS C.1.1 C.1.2.1 C.1.2.2.2.1 (C.1.2.2.2.2 _ h1) (hW.2.1.1 ci _ hc).2 (g_recv C hW hr he hc) hdg k
theorem g_qret2 {mc ms : Nat} {post : Option Nat → WS → Prop} {rt : FieldType} {v : Option Nat} (C : gCx p s m args meth c cc nL (some rt) own mname X A) (hrt : (∃ n, rt = .object n) ∨ ∃ t, rt = .array t) (hQ : Q = MQ below (va_Qq post (gB X A) A) args s mc ms A) (hW : gW X A L ad st s H) (hS : va_S A s.heap H locs) (hp : post v (L, ad, st)) (hc : cells ≤ mc) (hs : slots ≤ ms) (hdg : decode cc pc = .ok (.areturn, 1)) :
    W p l e R s m args below meth c H locs cells slots Q (F0 m pc ls [va_rf v]) := by
  subst hQ
  refine W.widen hc hs ?_
  exact W.aret C.1.1 C.1.2.1 C.2.1 hrt (by cases v with | none => exact Or.inl rfl | some a => exact Or.inr ⟨a, rfl⟩) (fun t ht hWm => ⟨⟨v, (L, ad, st), rfl, hp, by unfold gB; rw [ht]; exact hW.moved hWm.alike⟩, hS.F ht⟩) hS.2.2 hdg C.2.2.1
end GR5
