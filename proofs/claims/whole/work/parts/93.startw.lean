/-! THE CLAIM OUT OF ONE WALK OF THE LAW'S BODY. Your part is whole_start (and what it stands on); all else here is the same for every law, but numbers. -/
def R_law : String := "RateGateLaw"
def lw_P (b : Addr) (xs : List Int32) (args : Array Value) (s : State) : Prop := args = #[.ref b] ∧ s.IntsAt b xs ∧ xs.length ≤ 2560 ∧ (Jvm.Cond.and given_1 narrow_1).before args s = true
def lw_Q (_ : Array Value) (s : State) (o : Outcome) (t : State) : Prop := o = .returned (some (.int 1)) ∧ Framed s o t [] 601024 7293034
def lw_Z (below : List Frame) (a : Array Value) (s : State) : State → Prop := fun t => ∃ o, t.status = .running ∧ Ended t below o ∧ lw_Q a s o t
/-- the law's own end, with 1 on the stack, nothing written that was there before, its room as the claim has it -/
theorem lw_ret {p : Program} {l : Launch} {e : Env} {s : State} {m : MethodId} {below : List Frame} {meth : Method} {c : Code} {b : Nat} (hx : p.tables.exec = Jvm.exec) (hb : c.code = code) (hr : meth.sig.returnType = ret) (hlocks : meth.locks = false) {pc : Nat} {H : Heap} {ls : Array Slot} (hdg : decode code pc = .ok (.ireturn, 1)) : W p l e room_1 s m #[Value.ref b] below meth c H [] 601024 7293034 (lw_Z below #[Value.ref b] s) (F0 m pc ls [.int 1]) := by
  intro T hT X
  obtain ⟨fs, hret, hrun, hended, hW, hframe⟩ := X.leave (v := some (.int 1)) (hlocks := hlocks) (fun h => by rw [hr] at h; cases h)
  have hmeth' : T.vm.method? m = some meth := X.method'
  refine ⟨T.setFrames fs, ?_, .returned (some (.int 1)), hrun, hended, rfl, ⟨_, rfl⟩, hW, hframe⟩
  jvm_step X.here [X.here.top, hx, hb, hdg, hmeth', hr, ret, narrow_b1]
  (try refine ⟨rfl, ?_⟩); (try refine ⟨rfl, ?_⟩)
  first | (intro acts; rw [hret _ acts rfl rfl rfl]) | rw [hret _ _ rfl rfl rfl]
  exact Steps.refl _
/-- what holds at the law's entry: the machine, the code, the tables' words (any of lw_tbl by 'hts w (by decide +kernel)'), the script of L ints xs at the cell b, what the Statement gives of the start (any of its parts by flat_of_before) -/
def lw_At (p : Program) (s : State) (m : MethodId) (meth : Method) (c : Code) (b L : Nat) (xs : Nat → Int32) : Prop :=
  p.tables.exec = Jvm.exec ∧ c.code = code ∧ meth.sig.returnType = ret ∧ c.maxLocals = 7 ∧ s.vm.findClass R_law = some m.cls ∧ (∀ w ∈ lw_tbl, w.before #[Value.ref b] s = true) ∧ va_X b L xs s s.heap ∧ b < s.heap.size ∧ meth.locks = false ∧ (Jvm.Cond.and given_1 narrow_1).before #[Value.ref b] s = true
def ci0 : Nat → Nat → Int32 := fun k i => match k with | 3 => 32 | 20 => 10 | 21 => 60 | 30 => 1 | 36 => 500 | 37 => 100 | 38 => 20 | _ => 0
def ca0 : Nat → Nat → Nat → Int32 := fun _ _ _ => 0
def cr0 : Nat → Nat → Nat := fun k i => match k with | 30 => (if i < 4 then i else 0) | _ => 0
def lawB : List ro := [(1, 0)] ++ [(2, 0)] ++ [(3, 0)] ++ [(4, 0)] ++ [(5, 0)] ++ [(6, 0)] ++ [(7, 0)] ++ [(8, 0)] ++ [(9, 0)] ++ [(10, 0)] ++ [(11, 0)] ++ [(11, 1)] ++ [(20, 0)] ++ [(21, 0)] ++ [(20, 1)] ++ [(21, 1)] ++ [(20, 2)] ++ [(21, 2)] ++ [(20, 3)] ++ [(21, 3)] ++ [(20, 4)] ++ [(21, 4)] ++ [(20, 5)] ++ [(21, 5)] ++ [(30, 0)] ++ [(31, 0)] ++ [(30, 1)] ++ [(31, 1)] ++ [(30, 2)] ++ [(31, 2)] ++ [(30, 3)] ++ [(31, 3)]
def lawL : List ro := ((lawB ++ [(100, 0)]) ++ mAr) ++ [(110, 0)]
theorem up6 (g : Nat → Nat) : va_up (va_up (va_up (va_up (va_up (va_up (fun _ => none) 0 (some (g 0))) 1 (some (g 1))) 2 (some (g 2))) 3 (some (g 3))) 4 (some (g 4))) 5 (some (g 5)) = fun j => if j < 6 then some (g j) else none := by
  funext j
  rcases (show j = 0 ∨ j = 1 ∨ j = 2 ∨ j = 3 ∨ j = 4 ∨ j = 5 ∨ 6 ≤ j by omega) with rfl | rfl | rfl | rfl | rfl | rfl | h
  · rfl
  · rfl
  · rfl
  · rfl
  · rfl
  · rfl
  · unfold va_up
    rw [if_neg (by omega), if_neg (by omega), if_neg (by omega), if_neg (by omega), if_neg (by omega), if_neg (by omega), if_neg (by omega)]
theorem up4 (g : Nat → Nat) : va_up (va_up (va_up (va_up (fun _ => none) 0 (some (g 0))) 1 (some (g 1))) 2 (some (g 2))) 3 (some (g 3)) = fun j => if j < 4 then some (g j) else none := by
  funext j
  rcases (show j = 0 ∨ j = 1 ∨ j = 2 ∨ j = 3 ∨ 4 ≤ j by omega) with rfl | rfl | rfl | rfl | h
  · rfl
  · rfl
  · rfl
  · rfl
  · unfold va_up
    rw [if_neg (by omega), if_neg (by omega), if_neg (by omega), if_neg (by omega), if_neg (by omega)]
theorem all_one {P : ro → Prop} {a : ro} (h : P a) : ∀ r, r ∈ [a] → P r := fun r hr => by rw [List.mem_singleton.mp hr]; exact h
theorem all_app {P : ro → Prop} {L : List ro} {a : ro} (hL : ∀ r, r ∈ L → P r) (h : P a) : ∀ r, r ∈ L ++ [a] → P r := fun r hr => (List.mem_append.mp hr).elim (hL r) (all_one h r)
theorem mP_0 {ad ad2 : ro → Nat} : mP ad 0 = mP ad2 0 := by
  unfold mP
  apply List.map_congr_left
  intro k _
  unfold mQ
  by_cases h : mInt k = true
  · rw [if_pos h, if_pos h]
  · rw [if_neg h, if_neg h, if_neg (Nat.not_lt_zero _), if_neg (Nat.not_lt_zero _)]
theorem mP_dv (ad : ro → Nat) : ∀ j, j < 47 → defaultValue (tyX8 j) = vp_V (mP ad 0) j := by
  intro j hj
  rcases (show j = 0 ∨ j = 1 ∨ j = 2 ∨ j = 3 ∨ j = 4 ∨ j = 5 ∨ j = 6 ∨ j = 7 ∨ j = 8 ∨ j = 9 ∨ j = 10 ∨ j = 11 ∨ j = 12 ∨ j = 13 ∨ j = 14 ∨ j = 15 ∨ j = 16 ∨ j = 17 ∨ j = 18 ∨ j = 19 ∨ j = 20 ∨ j = 21 ∨ j = 22 ∨ j = 23 ∨ j = 24 ∨ j = 25 ∨ j = 26 ∨ j = 27 ∨ j = 28 ∨ j = 29 ∨ j = 30 ∨ j = 31 ∨ j = 32 ∨ j = 33 ∨ j = 34 ∨ j = 35 ∨ j = 36 ∨ j = 37 ∨ j = 38 ∨ j = 39 ∨ j = 40 ∨ j = 41 ∨ j = 42 ∨ j = 43 ∨ j = 44 ∨ j = 45 ∨ j = 46 by omega) with rfl | rfl | rfl | rfl | rfl | rfl | rfl | rfl | rfl | rfl | rfl | rfl | rfl | rfl | rfl | rfl | rfl | rfl | rfl | rfl | rfl | rfl | rfl | rfl | rfl | rfl | rfl | rfl | rfl | rfl | rfl | rfl | rfl | rfl | rfl | rfl | rfl | rfl | rfl | rfl | rfl | rfl | rfl | rfl | rfl | rfl | rfl <;> rfl
theorem lawB_lt : ∀ r ∈ lawB, r.1 < 100 := by decide
theorem lawB_no : ((100, 0) : ro) ∉ lawB := by decide
theorem lawM_no : ∀ r ∈ lawB ++ [((100, 0) : ro)], r.1 ≠ 101 := by decide
theorem lawO_no : ((110, 0) : ro) ∉ (lawB ++ [(100, 0)]) ++ mAr := by decide
theorem mAr_1 : ∀ r ∈ mAr, r.1 = 101 := by decide
theorem lawL_k : ∀ r ∈ lawL, r.1 ≠ 40 ∧ r.1 ≠ 50 ∧ r.1 ≠ 12 ∧ ¬ (61 ≤ r.1 ∧ r.1 ≤ 65) ∧ (r.1 = 31 → r.2 < 4) := by decide
theorem lawL_r : ∀ r ∈ cRoles, r ∈ lawL := by decide
theorem lawL_31 : ∀ k : Fin 4, ((31, k.1) : ro) ∈ lawL := by decide
theorem lawL_m : mL lawL := ⟨by decide, fun k q1 q2 => by
  have h : ∀ k : Fin 47, mInt k.1 = false → ((101, k.1) : ro) ∈ lawL := by decide
  exact h ⟨k, q1⟩ q2⟩
/-- the new class against the new reference -/
theorem sv_init {fa : Nat → Nat → Int32} (g0 : ∀ k, k ≠ 4 → k ≠ 5 → k ≠ 11 → k ≠ 12 → k ≠ 19 → k ≠ 20 → k ≠ 21 → k ≠ 28 → fa k = fun _ => 0) (g4 : ∀ k, k < 6 → fa 4 k = keyc k) (g5 : ∀ k, k < 24 → fa 5 k = wordc k) (g11 : ∀ i, i < 6 → fa 11 i = 10 ∧ fa 12 i = 60) (g19 : ∀ i, i < 4 → fa 19 i = 500 ∧ fa 20 i = 100 ∧ fa 21 i = 20) (g28 : ∀ z, z < 1536 → fa 28 z = -1) : SV lawL ci0 ca0 cr0 0 0 0 4 (fun _ => 0) (fun _ => 0) 0 (fun _ => 0) fa := by
  have z : ∀ k, (k ≠ 4 ∧ k ≠ 5 ∧ k ≠ 11 ∧ k ≠ 12 ∧ k ≠ 19 ∧ k ≠ 20 ∧ k ≠ 21 ∧ k ≠ 28) → fa k = fun _ => 0 := fun k h => g0 k h.1 h.2.1 h.2.2.1 h.2.2.2.1 h.2.2.2.2.1 h.2.2.2.2.2.1 h.2.2.2.2.2.2.1 h.2.2.2.2.2.2.2
  refine ⟨⟨lawL_r, fun i hi => ⟨rfl, fun _ => ⟨fun h => (lawL_k _ h).2.2.1 rfl, rfl⟩, fun h => absurd rfl h⟩, ⟨Nat.zero_le _, Nat.zero_le _⟩, fun k => ⟨fun h => absurd rfl (lawL_k _ h).1, fun h => absurd h (Nat.not_lt_zero _)⟩, fun k => ⟨fun h => absurd rfl (lawL_k _ h).2.1, fun h => absurd h (Nat.not_lt_zero _)⟩, fun k => ⟨fun h => (lawL_k _ h).2.2.2.2 rfl, fun h => lawL_31 ⟨k, h⟩⟩, fun k h => absurd h (Nat.not_lt_zero _), fun k h => absurd h (Nat.not_lt_zero _), fun i => ?_, fun k h1 h2 h => (lawL_k _ h).2.2.2.1 ⟨h1, h2⟩, ⟨rfl, Nat.zero_le _, fun j => ⟨0, by decide, rfl⟩⟩, ⟨rfl, Nat.zero_le _⟩, ⟨rfl, rfl, Nat.zero_le _⟩, fun i hi => ⟨rfl, Nat.zero_le _, rfl, Nat.zero_le _⟩⟩, ⟨rfl, rfl, rfl, ⟨rfl, Nat.le_refl _⟩, rfl, rfl⟩, ⟨z 2 (by decide), g4, g5⟩, fun i hi => ?_, fun i hi => ?_, fun i hi => ?_, fun k h => absurd h (Nat.not_lt_zero _), ⟨fun k h => absurd h (Nat.not_lt_zero _), fun k _ => ?_⟩, fun s c f t h1 h2 h3 h4 => Or.inl ⟨g28 _ (zix_lt h1 h2 h3 h4), fun k h => absurd h (Nat.not_lt_zero _)⟩, fun x v wi _ _ _ => rfl, fun s hs => rRg_0⟩
  · show (if i < 4 then i else 0) < 4
    split <;> omega
  · obtain ⟨a1, a2⟩ := g11 i hi
    exact ⟨⟨a1, a2, by rw [z 26 (by decide)]; rfl, by rw [z 27 (by decide)]; rfl⟩, 10, 60, rfl, by decide, rfl, by decide⟩
  · rw [z 13 (by decide), z 14 (by decide), z 15 (by decide), z 16 (by decide), z 17 (by decide), z 18 (by decide)]
    exact ⟨⟨fun _ q => absurd (show (1 : Int32) = 0 from q) (by decide), fun _ => rfl⟩, rfl, rfl, rfl, rfl, Or.inl rfl⟩
  · exact g19 i hi
  · rw [z 46 (by decide)]
set_option maxHeartbeats 4000000 in
set_option maxRecDepth 100000 in
theorem whole_start {p : Program} {e : Env} {s : State} {m : MethodId} {below : List Frame} {meth : Method} {c : Code} (l : Launch) (hflags : l.flags = flags0) {b L : Nat} {xs : Nat → Int32} (hL : L ≤ 2560) (C0 : lw_At p s m meth c b L xs) : W p l e room_1 s m #[Value.ref b] below meth c s.heap [] 0 0 (lw_Z below #[Value.ref b] s) (entryFrame m ([Value.ref b] : List Value).toArray 7) := by
  obtain ⟨hx, hb, hr, hml, hown, hts, hX, hbl, hlocks, hgv⟩ := id C0
  have hA : ∀ a : Nat, a < s.heap.size → ¬ (fun q : Nat => s.heap.size ≤ q) a := fun a h => Nat.not_le.mpr h
  obtain ⟨X, hSF, hGT, hK⟩ := st_all (A := fun q : Nat => s.heap.size ≤ q) hts (flat_of_before _ hgv) hA
  have C : gCx p s m #[Value.ref b] meth c code 7 ret "RateGateLaw" meth.name X (fun q : Nat => s.heap.size ≤ q) := ⟨⟨hx, hb, hml, hown, st_TB hts⟩, hr, hlocks, rfl, fun q h => h, hSF, hGT⟩
  have hl0 : l.stackTraces = false := by unfold Launch.stackTraces; rw [hflags]; decide +kernel
  have hS : va_S (fun q : Nat => s.heap.size ≤ q) s.heap s.heap [] := va_S.rf
  have hW : gW X (fun q : Nat => s.heap.size ≤ q) [] (fun _ => 0) (fun _ => .inr (0, [])) s s.heap := ⟨fun k q h => by simp [rwW] at h, hK, ⟨fun i j p q h => by simp [rwW] at h, fun k q h => by simp [rwW] at h⟩⟩
  have hl := lv_entry ([.ref b]) (n := 7) (Nat.le_of_ble_eq_true rfl)
  rw [lg_entry_eq]
  generalize (lg_sl ([.ref b]) ++ List.replicate (7 - (lg_sl ([.ref b])).length) Slot.unset).toArray = ls at hl ⊢
  have hl : lv_has ls 7 [(0, .ref b)] := hl
  refine g_newo (r := (1, 0)) (Cn := RX7) (T := TX7) (N := 7) (ci := 10) (ty0 := tyX7) (fs := [.null, .null, .null, .null, .null, .null, .int 0]) C tinX7 tyX7_ok hW hS (by decide) rfl tw_1_33 tw_1_34 tw_1_1 (by intro j hj; rcases (show j = 0 ∨ j = 1 ∨ j = 2 ∨ j = 3 ∨ j = 4 ∨ j = 5 ∨ j = 6 by omega) with rfl | rfl | rfl | rfl | rfl | rfl | rfl <;> rfl) (Nat.le_of_ble_eq_true rfl) (Nat.le_of_ble_eq_true rfl) dL_law_0 (fun ad1 st1 H ha1 hr1 hs1 hW hS => ?_)
  refine lv_dup hx hb dL_law_3 rfl ?_
  refine g_callIv (k2 := 0) (As := []) (rest := [.ref (ad1 (1, 0))]) C (c_X7_init l X ad1 st1 hr1) tw_1_35 tw_1_36 tw_1_1 tw_1_37 (by decide +kernel) ⟨(Nat.le_of_ble_eq_true rfl), (Nat.le_of_ble_eq_true rfl)⟩ hW hS rfl hl.1 rfl (Nat.le_of_ble_eq_true rfl) dL_law_4 ⟨(Nat.le_of_ble_eq_true rfl), (Nat.le_of_ble_eq_true rfl)⟩ (fun L9 ad9 st9 H locs hp hW hS => ?_)
  obtain ⟨ad2, st2, z0, ha2, f0, f1, f2, f3, f4, f5, f6, f7, f8, f9, f10, f11, f12, f13, f14, f15, f16, f17, f18, f19, f20, f21, f22, f23, f24, f25, f26, f27, f28, f29, f30, f31⟩ := hp
  injection z0 with e1 e2
  injection e2 with e2 e3
  rw [e1, e2, e3] at hW
  replace hW : gW X (fun q : Nat => s.heap.size ≤ q) lawB ad2 st2 s H := hW
  have hB : ∀ ST : ro → va_E, ∀ r, r ∈ lawB → st2 r = cSt X ad2 ST ci0 ca0 cr0 r := fun ST => (all_app (all_app (all_app (all_app (all_app (all_app (all_app (all_app (all_app (all_app (all_app (all_app (all_app (all_app (all_app (all_app (all_app (all_app (all_app (all_app (all_app (all_app (all_app (all_app (all_app (all_app (all_app (all_app (all_app (all_app (all_app (all_one (f0.trans rfl)) (f1.trans rfl)) (f2.trans rfl)) (f3.trans rfl)) (f4.trans rfl)) (f5.trans rfl)) (f6.trans rfl)) (f7.trans rfl)) (f8.trans (congrArg (fun z => (Sum.inl (X.2.1 6, 6, Sum.inr (Sum.inr (Sum.inr (Sum.inr z)))) : va_E)) (up6 (fun j => ad2 (20, j)))))) (f9.trans (congrArg (fun z => (Sum.inl (X.2.1 7, 4, Sum.inr (Sum.inr (Sum.inr (Sum.inr z)))) : va_E)) (up4 (fun j => ad2 (30, j)))))) (f10.trans rfl)) (f11.trans rfl)) (f12.trans rfl)) (f13.trans rfl)) (f14.trans rfl)) (f15.trans rfl)) (f16.trans rfl)) (f17.trans rfl)) (f18.trans rfl)) (f19.trans rfl)) (f20.trans rfl)) (f21.trans rfl)) (f22.trans rfl)) (f23.trans rfl)) (f24.trans rfl)) (f25.trans rfl)) (f26.trans rfl)) (f27.trans rfl)) (f28.trans rfl)) (f29.trans rfl)) (f30.trans rfl)) (f31.trans rfl))
  refine lv_topV (y := .ref (ad2 (1, 0))) (by rw [ha2 (1, 0) (by decide) (by decide) (by decide) (by decide) (by decide) (by decide) (by decide) (by decide) (by decide) (by decide) (by decide) (by decide) (by decide) (by decide) (by decide) (by decide) (by decide) (by decide) (by decide) (by decide) (by decide) (by decide) (by decide) (by decide) (by decide) (by decide) (by decide) (by decide) (by decide) (by decide) (by decide)]) ?_
  refine lv_astore_n (lv' := [(1, .ref (ad2 (1, 0))), (0, .ref b)]) hx hb dL_law_7 rfl hl (by decide) rfl (fun ls hl => ?_)
  clear f0 f1 f2 f3 f4 f5 f6 f7 f8 f9 f10 f11 f12 f13 f14 f15 f16 f17 f18 f19 f20 f21 f22 f23 f24 f25 f26 f27 f28 f29 f30 f31
  refine g_newo (r := (100, 0)) (Cn := RX8) (T := TX8) (N := 47) (ci := 11) (ty0 := tyX8) (fs := mP ad2 0) C tinX8 tyX8_ok hW hS lawB_no rfl tw_5_197 tw_5_198 tw_1_10 (mP_dv ad2) (Nat.le_of_ble_eq_true rfl) (Nat.le_of_ble_eq_true rfl) dL_law_8 (fun ad3 st3 H ha3 hr3 hs3 hW hS => ?_)
  have hl : lv_has ls 7 [(1, .ref (ad3 (1, 0))), (0, .ref b)] := by rw [ha3 (1, 0) (by decide)]; exact hl
  refine lv_dup hx hb dL_law_11 rfl ?_
  refine g_callIv (k2 := 0) (As := []) (rest := [.ref (ad3 (100, 0))]) C (c_X8_init l X (lawB ++ [(100, 0)]) ad3 st3 (List.mem_append_right _ (List.mem_singleton.mpr rfl)) (fun k h => lawM_no _ h rfl) (hr3.trans (by rw [mP_0]))) tw_5_199 tw_5_200 tw_1_10 tw_5_201 (by decide +kernel) ⟨(Nat.le_of_ble_eq_true rfl), (Nat.le_of_ble_eq_true rfl)⟩ hW hS rfl hl.1 rfl (Nat.le_of_ble_eq_true rfl) dL_law_12 ⟨(Nat.le_of_ble_eq_true rfl), (Nat.le_of_ble_eq_true rfl)⟩ (fun L9 ad9 st9 H locs hp hW hS => ?_)
  obtain ⟨ad4, fa4, z0, ha4, g0, g4, g5, g11, g19, g28⟩ := hp
  injection z0 with e1 e2
  injection e2 with e2 e3
  rw [e1, e2, e3] at hW
  have hl : lv_has ls 7 [(1, .ref (ad4 (1, 0))), (0, .ref b)] := by rw [ha4 (1, 0) (by decide)]; exact hl
  refine lv_topV (y := .ref (ad4 (100, 0))) (by rw [ha4 (100, 0) (by decide)]) ?_
  refine lv_astore_n (lv' := [(2, .ref (ad4 (100, 0))), (1, .ref (ad4 (1, 0))), (0, .ref b)]) hx hb dL_law_15 rfl hl (by decide) rfl (fun ls hl => ?_)
  refine lv_iconst (v := 1) hx hb dL_law_16 (by decide) ?_
  refine g_newb (r := (110, 0)) (atype := .long) (ty := .long) (t0 := 4) (N' := 1) (a0 := (1, .inr (.inl (fun _ => 0)))) C hW hS lawO_no tw_7_53 rfl rfl (fun _ => rfl) (by decide) (by decide) (by decide) (Nat.le_of_ble_eq_true rfl) (Nat.le_of_ble_eq_true rfl) dL_law_17 (fun ad5 st5 H ha5 hr5 hs5 hW hS => ?_)
  have hl : lv_has ls 7 [(2, .ref (ad5 (100, 0))), (1, .ref (ad5 (1, 0))), (0, .ref b)] := by rw [ha5 (1, 0) (by decide), ha5 (100, 0) (by decide)]; exact hl
  refine lv_astore_n (lv' := [(3, .ref (ad5 (110, 0))), (2, .ref (ad5 (100, 0))), (1, .ref (ad5 (1, 0))), (0, .ref b)]) hx hb dL_law_19 rfl hl (by decide) rfl (fun ls hl => ?_)
  refine lv_iconst (v := 0) hx hb dL_law_20 (by decide) ?_
  refine lv_istore (lv' := [(4, .int 0), (3, .ref (ad5 (110, 0))), (2, .ref (ad5 (100, 0))), (1, .ref (ad5 (1, 0))), (0, .ref b)]) hx hb dL_law_21 hl (by decide) rfl (fun ls hl => ?_)
  have h52 : ∀ r : ro, r.1 < 100 → ad5 r = ad2 r := fun r h => (ha5 r (fun q => by rw [q] at h; exact absurd h (by decide))).trans ((ha4 r (fun q => by omega)).trans (ha3 r (fun q => by rw [q] at h; exact absurd h (by decide))))
  have h54 : ∀ k : Nat, ad5 (101, k) = ad4 (101, k) := fun k => ha5 (101, k) (fun q => absurd (congrArg Prod.fst q) (show ¬ (101 : Nat) = 110 by decide))
  have hW9 : gW X (fun q : Nat => s.heap.size ≤ q) lawL ad5 (wld X ad5 ci0 ca0 cr0 (fun _ => 0) fa4 (fun _ => 0)) s H := by
    refine gW_congr (fun r hr => ?_) hW
    rcases List.mem_append.mp hr with hr | hr
    · have n110 : r ≠ (110, 0) := fun q => lawO_no (q ▸ hr)
      rw [hs5 r n110]
      rcases List.mem_append.mp hr with hr | hr
      · rcases List.mem_append.mp hr with hr | hr
        · have hlt := lawB_lt r hr
          have n100 : ¬ r = (100, 0) := fun q => by rw [q] at hlt; exact absurd hlt (by decide)
          have n101 : ¬ r.1 = 101 := fun q => by omega
          have e1 : mSt X ad4 st3 (fun _ => 0) fa4 r = st3 r := by unfold mSt; rw [if_neg n100, if_neg n101]
          rw [e1, hs3 r n100, hB (mSt X ad5 (oSt X (fun _ => 0)) (fun _ => 0) fa4) r hr]
          exact (cE_ad (fun r => ⟨fun _ q => h52 r (by omega), fun _ q => h52 r (by omega), fun _ q => h52 r (by omega), fun _ q _ => h52 r (by omega), fun _ q _ => h52 r (by omega), fun _ q => h52 r (by rw [q]; exact Nat.le_of_ble_eq_true rfl), fun _ _ q => absurd q (Nat.not_lt_zero _), fun _ q => h52 r (by omega), fun _ q => h52 r (by rw [q]; exact Nat.le_of_ble_eq_true rfl), fun _ q => h52 r (by rw [q]; exact Nat.le_of_ble_eq_true rfl), fun _ q => h52 r (by rw [q]; exact Nat.le_of_ble_eq_true rfl)⟩)).symm
        · rw [List.mem_singleton.mp hr, wld_m, mSt_obj, mSt_obj]
          have e1 : mO ad5 (fun _ => 0) = mO ad4 (fun _ => 0) := by
            unfold mO
            apply List.map_congr_left
            intro k _
            unfold mF
            rw [h54 k]
          rw [e1]
      · obtain ⟨k, i⟩ := r
        have hk : k = 101 := mAr_1 _ hr
        subst hk
        rw [wld_m, mSt_arr, mSt_arr]
    · rw [List.mem_singleton.mp hr]
      exact hr5
  have KE : ∀ (H : Heap) (locs : List Loc) (cells slots : Nat) (ls : Array Slot), va_S (fun q : Nat => s.heap.size ≤ q) s.heap H locs → cells ≤ 6000 → slots ≤ 200000 → W p l e room_1 s m #[Value.ref b] below meth c H locs cells slots (lw_Z below #[Value.ref b] s) (F0 m 1488 ls []) := by
    intro H locs cells slots ls hS q1 q2
    refine lv_iconst (v := 1) hx hb dL_law_1488 (by decide) ?_
    refine va_forget (fun q hq => hS.2.2 q hq) ?_
    refine W.widen (k := 601024) (n := 7293034) (by omega) (by omega) ?_
    exact lw_ret hx hb hr hlocks dL_law_1489
  exact law_loop C hl0 hX hbl (Nat.not_le.mpr hbl) hL KE (L + 1) 0 lawL ad5 ci0 ca0 cr0 0 0 0 4 (fun _ => 0) (fun _ => 0) 0 (fun _ => 0) fa4 (fun _ => 0) H locs _ _ ls (by omega) (by omega) (Nat.le_refl _) (Nat.le_of_ble_eq_true rfl) (Nat.le_of_ble_eq_true rfl) (sv_init g0 g4 g5 g11 g19 g28) lawL_m (by decide) hW9 hS (lv_sub hl [4, 3, 2, 1, 0] rfl)
