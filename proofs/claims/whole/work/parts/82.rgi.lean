set_option maxHeartbeats 4000000 in
set_option maxRecDepth 100000 in
theorem c_X7_init (l : Launch) (X : GX) (ad : ro → Nat) (st : ro → va_E) (e1 : st (1, 0) = .inr (10, [.null, .null, .null, .null, .null, .null, .int 0])) : gMv l yX7_init cX7_init 2 none 4 72 40 2100 X [.ref (ad (1, 0))] [(1, 0)] ad st (fun u => ∃ ad' st', u = ([(1, 0)] ++ [(2, 0)] ++ [(3, 0)] ++ [(4, 0)] ++ [(5, 0)] ++ [(6, 0)] ++ [(7, 0)] ++ [(8, 0)] ++ [(9, 0)] ++ [(10, 0)] ++ [(11, 0)] ++ [(11, 1)] ++ [(20, 0)] ++ [(21, 0)] ++ [(20, 1)] ++ [(21, 1)] ++ [(20, 2)] ++ [(21, 2)] ++ [(20, 3)] ++ [(21, 3)] ++ [(20, 4)] ++ [(21, 4)] ++ [(20, 5)] ++ [(21, 5)] ++ [(30, 0)] ++ [(31, 0)] ++ [(30, 1)] ++ [(31, 1)] ++ [(30, 2)] ++ [(31, 2)] ++ [(30, 3)] ++ [(31, 3)], ad', st') ∧ (∀ x : ro, x ≠ (2, 0) → x ≠ (3, 0) → x ≠ (4, 0) → x ≠ (5, 0) → x ≠ (6, 0) → x ≠ (7, 0) → x ≠ (8, 0) → x ≠ (9, 0) → x ≠ (10, 0) → x ≠ (11, 0) → x ≠ (11, 1) → x ≠ (20, 0) → x ≠ (21, 0) → x ≠ (20, 1) → x ≠ (21, 1) → x ≠ (20, 2) → x ≠ (21, 2) → x ≠ (20, 3) → x ≠ (21, 3) → x ≠ (20, 4) → x ≠ (21, 4) → x ≠ (20, 5) → x ≠ (21, 5) → x ≠ (30, 0) → x ≠ (31, 0) → x ≠ (30, 1) → x ≠ (31, 1) → x ≠ (30, 2) → x ≠ (31, 2) → x ≠ (30, 3) → x ≠ (31, 3) → ad' x = ad x) ∧ st' (1, 0) = .inr (10, [.ref (ad' (2, 0)), .ref (ad' (5, 0)), .ref (ad' (9, 0)), .ref (ad' (10, 0)), .ref (ad' (11, 0)), .ref (ad' (11, 1)), .int 0]) ∧ st' (2, 0) = .inr (7, [.ref (ad' (3, 0)), .ref (ad' (4, 0)), .int 0, .ref (X.2.2 0), .int 32]) ∧ st' (3, 0) = .inl (X.2.1 1, 60, .inl (fun _ => 0)) ∧ st' (4, 0) = .inl (X.2.1 2, 6, .inl (fun _ => 0)) ∧ st' (5, 0) = .inr (3, [.int 0, .ref (ad' (6, 0)), .ref (ad' (7, 0)), .ref (ad' (8, 0)), .int 0, .int 0]) ∧ st' (6, 0) = .inl (X.2.1 2, 512, .inl (fun _ => 0)) ∧ st' (7, 0) = .inl (X.2.1 2, 512, .inl (fun _ => 0)) ∧ st' (8, 0) = .inl (X.2.1 3, 512, .inl (fun _ => 0)) ∧ st' (9, 0) = .inl (X.2.1 6, 6, .inr (.inr (.inr (.inr (va_up (va_up (va_up (va_up (va_up (va_up (fun _ => none) 0 (some (ad' (20, 0)))) 1 (some (ad' (20, 1)))) 2 (some (ad' (20, 2)))) 3 (some (ad' (20, 3)))) 4 (some (ad' (20, 4)))) 5 (some (ad' (20, 5)))))))) ∧ st' (10, 0) = .inl (X.2.1 7, 4, .inr (.inr (.inr (.inr (va_up (va_up (va_up (va_up (fun _ => none) 0 (some (ad' (30, 0)))) 1 (some (ad' (30, 1)))) 2 (some (ad' (30, 2)))) 3 (some (ad' (30, 3)))))))) ∧ st' (11, 0) = .inr (2, [.int 0, .ref (X.2.2 30), .int 0]) ∧ st' (11, 1) = .inr (2, [.int 0, .ref (X.2.2 30), .int 0]) ∧ st' (20, 0) = .inr (8, [.int 10, .int 60, .int 0, .int 0, .ref (ad' (21, 0)), .int 0, .int 0]) ∧ st' (21, 0) = .inl (X.2.1 2, 50, .inl (fun _ => 0)) ∧ st' (20, 1) = .inr (8, [.int 10, .int 60, .int 0, .int 0, .ref (ad' (21, 1)), .int 0, .int 0]) ∧ st' (21, 1) = .inl (X.2.1 2, 50, .inl (fun _ => 0)) ∧ st' (20, 2) = .inr (8, [.int 10, .int 60, .int 0, .int 0, .ref (ad' (21, 2)), .int 0, .int 0]) ∧ st' (21, 2) = .inl (X.2.1 2, 50, .inl (fun _ => 0)) ∧ st' (20, 3) = .inr (8, [.int 10, .int 60, .int 0, .int 0, .ref (ad' (21, 3)), .int 0, .int 0]) ∧ st' (21, 3) = .inl (X.2.1 2, 50, .inl (fun _ => 0)) ∧ st' (20, 4) = .inr (8, [.int 10, .int 60, .int 0, .int 0, .ref (ad' (21, 4)), .int 0, .int 0]) ∧ st' (21, 4) = .inl (X.2.1 2, 50, .inl (fun _ => 0)) ∧ st' (20, 5) = .inr (8, [.int 10, .int 60, .int 0, .int 0, .ref (ad' (21, 5)), .int 0, .int 0]) ∧ st' (21, 5) = .inl (X.2.1 2, 50, .inl (fun _ => 0)) ∧ st' (30, 0) = .inr (4, [.int 1, .int 0, .int 0, .ref (ad' (31, 0)), .int 0, .int 0, .int 0]) ∧ st' (31, 0) = .inr (9, [.int 500, .int 100, .int 20]) ∧ st' (30, 1) = .inr (4, [.int 1, .int 0, .int 0, .ref (ad' (31, 1)), .int 0, .int 0, .int 0]) ∧ st' (31, 1) = .inr (9, [.int 500, .int 100, .int 20]) ∧ st' (30, 2) = .inr (4, [.int 1, .int 0, .int 0, .ref (ad' (31, 2)), .int 0, .int 0, .int 0]) ∧ st' (31, 2) = .inr (9, [.int 500, .int 100, .int 20]) ∧ st' (30, 3) = .inr (4, [.int 1, .int 0, .int 0, .ref (ad' (31, 3)), .int 0, .int 0, .int 0]) ∧ st' (31, 3) = .inr (9, [.int 500, .int 100, .int 20])) := by
  intro sz
  refine gM_of2 (Qc := fun A => va_Qv _ (gB X A) A) (by decide) (Nat.le_of_ble_eq_true rfl) ?_ sz
  intro p e s m args below meth c A R Q hR hQ C hW hS ls hl
  obtain ⟨hR1, hR2, hR3, hR4⟩ := hR
  have hx := C.1.1
  have hb := C.1.2.1
  have hml := C.1.2.2.1
  have hl : lv_has ls 2 [(0, .ref (ad (1, 0)))] := hl
  refine lv_aload_n hx hb dX7_init_0 rfl (lv_at hl 0 rfl) ?_
  refine W.objInit hx hb C.1.2.2.2.1 (C.1.2.2.2.2 _ tw_1_38) (C.1.2.2.2.2 _ oi_inst) (C.1.2.2.2.2 _ oi_code) rfl (by rw [hml]; exact hl.1) rfl dX7_init_1 (by rw [hR1]; exact Nat.le_of_ble_eq_true rfl) (by rw [hR2]; exact Nat.le_of_ble_eq_true rfl) ?_
  refine W.eq (g2 := F0 m 4 ls []) rfl ?_
  refine lv_aload_n hx hb dX7_init_4 rfl (lv_at hl 0 rfl) ?_
  refine g_newo (r := (2, 0)) (Cn := RX4) (T := TX4) (N := 5) (ci := 7) (ty0 := tyX4) (fs := [.null, .null, .int 0, .null, .int 0]) C tinX4 tyX4_ok hW hS (by decide) rfl tw_1_41 tw_1_42 tw_1_2 (by intro j hj; rcases (show j = 0 ∨ j = 1 ∨ j = 2 ∨ j = 3 ∨ j = 4 by omega) with rfl | rfl | rfl | rfl | rfl <;> rfl) (by rw [hR3]; exact Nat.le_of_ble_eq_true rfl) (by rw [hR4]; exact Nat.le_of_ble_eq_true rfl) dX7_init_5 (fun ad1 st2 H ha3 fk4 hs5 hW hS => ?_)
  have hl : lv_has ls 2 [(0, .ref (ad1 (1, 0)))] := by rw [ha3 (1, 0) (by decide)]; exact hl
  refine W.eq (g2 := F0 m 8 ls [.ref (ad1 (2, 0)), .ref (ad1 (1, 0))]) (by rw [ha3 (1, 0) (by decide)] <;> rfl) ?_
  have fk6 : st2 (1, 0) = .inr (10, [.null, .null, .null, .null, .null, .null, .int 0]) := (hs5 (1, 0) (by decide)).trans e1
  have af7 : ∀ x : ro, x ≠ (2, 0) → ad1 x = ad x := fun x a0 => ha3 x a0
  have sf8 : ∀ x : ro, x ≠ (2, 0) → st2 x = st x := fun x a0 => hs5 x a0
  refine lv_dup hx hb dX7_init_8 rfl ?_
  refine g_callINv (k2 := 0) (As := []) (rest := [.ref (ad1 (2, 0)), .ref (ad1 (1, 0))]) C (c_X4_init l X ([(1, 0)] ++ [(2, 0)]) ad1 st2 (List.mem_append_right _ (List.mem_singleton.mpr rfl)) (nmem_app (by decide) (by decide)) (nmem_app (by decide) (by decide)) fk4) ((g_gt C).2.1 ("RateGate", 9, ⟨"RateGate$Request", "<init>", "()V"⟩, "RateGate") (by decide +kernel)) tw_1_44 tw_1_2 tw_1_45 (by decide +kernel) ⟨by rw [hR1]; exact Nat.le_of_ble_eq_true rfl, by rw [hR2]; exact Nat.le_of_ble_eq_true rfl⟩ hW hS rfl hl.1 rfl (Nat.le_of_ble_eq_true rfl) dX7_init_9 ⟨by rw [hR3]; exact Nat.le_of_ble_eq_true rfl, by rw [hR4]; exact Nat.le_of_ble_eq_true rfl⟩ (fun  L9 ad9 st10 H locs hp hW hS => ?_)
  obtain ⟨adq, stq, z0, ha11, hs12, fk13, fk14, fk15⟩ := hp
  cases z0
  have hl : lv_has ls 2 [(0, .ref (ad9 (1, 0)))] := by rw [ha11 (1, 0) (by decide) (by decide)]; exact hl
  refine W.eq (g2 := F0 m 12 ls [.ref (ad9 (2, 0)), .ref (ad9 (1, 0))]) (by rw [ha11 (2, 0) (by decide) (by decide), ha11 (1, 0) (by decide) (by decide)] <;> rfl) ?_
  have fk16 : st10 (1, 0) = .inr (10, [.null, .null, .null, .null, .null, .null, .int 0]) := (hs12 (1, 0) (by decide) (by decide) (by decide)).trans fk6
  have af17 : ∀ x : ro, x ≠ (2, 0) → x ≠ (3, 0) → x ≠ (4, 0) → ad9 x = ad x := fun x a0 a1 a2 => (ha11 x a1 a2).trans (af7 x a0)
  have sf18 : ∀ x : ro, x ≠ (2, 0) → x ≠ (3, 0) → x ≠ (4, 0) → st10 x = st x := fun x a0 a1 a2 => (hs12 x a0 a1 a2).trans (sf8 x a0)
  clear fk6 fk4 af7 sf8
  refine g_putxF (r := (1, 0)) (Cn := RX7) (T := TX7) (N := 7) (ci := 10) (ty0 := tyX7) (fs2 := [.ref (ad9 (2, 0)), .null, .null, .null, .null, .null, .int 0]) C tinX7 tyX7_ok nmX7 hW hS (List.mem_append_left _ (List.mem_append_left _ (List.mem_append_left _ (List.mem_singleton.mpr rfl)))) fk16 rfl 0 (by decide) tw_1_206 rfl rfl rfl rfl (Nat.le_of_ble_eq_true rfl) rfl dX7_init_12 (fun st19 H locs fk20 hs21 hW hS => ?_)
  have fk22 : st19 (2, 0) = .inr (7, [.ref (ad9 (3, 0)), .ref (ad9 (4, 0)), .int 0, .ref (X.2.2 0), .int 32]) := (hs21 (2, 0) (by decide)).trans fk13
  have fk23 : st19 (3, 0) = .inl (X.2.1 1, 60, .inl (fun _ => 0)) := (hs21 (3, 0) (by decide)).trans fk14
  have fk24 : st19 (4, 0) = .inl (X.2.1 2, 6, .inl (fun _ => 0)) := (hs21 (4, 0) (by decide)).trans fk15
  have sf25 : ∀ x : ro, x ≠ (2, 0) → x ≠ (3, 0) → x ≠ (4, 0) → x ≠ (1, 0) → st19 x = st x := fun x a0 a1 a2 a3 => (hs21 x a3).trans (sf18 x a0 a1 a2)
  clear fk16 fk13 fk14 fk15 sf18
  refine lv_aload_n hx hb dX7_init_15 rfl (lv_at hl 0 rfl) ?_
  refine g_newo (r := (5, 0)) (Cn := RX0) (T := TX0) (N := 6) (ci := 3) (ty0 := tyX0) (fs := [.int 0, .null, .null, .null, .int 0, .int 0]) C tinX0 tyX0_ok hW hS (nmem_app (nmem_app (nmem_app (by decide) (by decide)) (by decide)) (by decide)) rfl tw_1_67 tw_1_68 tw_1_3 (by intro j hj; rcases (show j = 0 ∨ j = 1 ∨ j = 2 ∨ j = 3 ∨ j = 4 ∨ j = 5 by omega) with rfl | rfl | rfl | rfl | rfl | rfl <;> rfl) (by rw [hR3]; exact Nat.le_of_ble_eq_true rfl) (by rw [hR4]; exact Nat.le_of_ble_eq_true rfl) dX7_init_16 (fun ad26 st27 H ha28 fk29 hs30 hW hS => ?_)
  have hl : lv_has ls 2 [(0, .ref (ad26 (1, 0)))] := by rw [ha28 (1, 0) (by decide)]; exact hl
  refine W.eq (g2 := F0 m 19 ls [.ref (ad26 (5, 0)), .ref (ad26 (1, 0))]) (by rw [ha28 (1, 0) (by decide)] <;> rfl) ?_
  have fk31 : st27 (2, 0) = .inr (7, [.ref (ad26 (3, 0)), .ref (ad26 (4, 0)), .int 0, .ref (X.2.2 0), .int 32]) := ((hs30 (2, 0) (by decide)).trans fk22).trans (by rw [ha28 (3, 0) (by decide), ha28 (4, 0) (by decide)])
  have fk32 : st27 (3, 0) = .inl (X.2.1 1, 60, .inl (fun _ => 0)) := (hs30 (3, 0) (by decide)).trans fk23
  have fk33 : st27 (4, 0) = .inl (X.2.1 2, 6, .inl (fun _ => 0)) := (hs30 (4, 0) (by decide)).trans fk24
  have fk34 : st27 (1, 0) = .inr (10, [.ref (ad26 (2, 0)), .null, .null, .null, .null, .null, .int 0]) := ((hs30 (1, 0) (by decide)).trans fk20).trans (by rw [ha28 (2, 0) (by decide)])
  have af35 : ∀ x : ro, x ≠ (2, 0) → x ≠ (3, 0) → x ≠ (4, 0) → x ≠ (5, 0) → ad26 x = ad x := fun x a0 a1 a2 a3 => (ha28 x a3).trans (af17 x a0 a1 a2)
  have sf36 : ∀ x : ro, x ≠ (2, 0) → x ≠ (3, 0) → x ≠ (4, 0) → x ≠ (1, 0) → x ≠ (5, 0) → st27 x = st x := fun x a0 a1 a2 a3 a4 => (hs30 x a4).trans (sf25 x a0 a1 a2 a3)
  clear fk22 fk23 fk24 fk20 af17 sf25
  refine lv_dup hx hb dX7_init_19 rfl ?_
  refine g_callINv (k2 := 0) (As := []) (rest := [.ref (ad26 (5, 0)), .ref (ad26 (1, 0))]) C (c_X0_init l X ([(1, 0)] ++ [(2, 0)] ++ [(3, 0)] ++ [(4, 0)] ++ [(5, 0)]) ad26 st27 (List.mem_append_right _ (List.mem_singleton.mpr rfl)) (nmem_app (nmem_app (nmem_app (nmem_app (by decide) (by decide)) (by decide)) (by decide)) (by decide)) (nmem_app (nmem_app (nmem_app (nmem_app (by decide) (by decide)) (by decide)) (by decide)) (by decide)) (nmem_app (nmem_app (nmem_app (nmem_app (by decide) (by decide)) (by decide)) (by decide)) (by decide)) fk29) ((g_gt C).2.1 ("RateGate", 18, ⟨"RateGate$CallLog", "<init>", "()V"⟩, "RateGate") (by decide +kernel)) tw_1_70 tw_1_3 tw_1_71 (by decide +kernel) ⟨by rw [hR1]; exact Nat.le_of_ble_eq_true rfl, by rw [hR2]; exact Nat.le_of_ble_eq_true rfl⟩ hW hS rfl hl.1 rfl (Nat.le_of_ble_eq_true rfl) dX7_init_20 ⟨by rw [hR3]; exact Nat.le_of_ble_eq_true rfl, by rw [hR4]; exact Nat.le_of_ble_eq_true rfl⟩ (fun  L9 ad37 st38 H locs hp hW hS => ?_)
  obtain ⟨adq, stq, z0, ha39, hs40, fk41, fk42, fk43, fk44⟩ := hp
  cases z0
  have hl : lv_has ls 2 [(0, .ref (ad37 (1, 0)))] := by rw [ha39 (1, 0) (by decide) (by decide) (by decide)]; exact hl
  refine W.eq (g2 := F0 m 23 ls [.ref (ad37 (5, 0)), .ref (ad37 (1, 0))]) (by rw [ha39 (5, 0) (by decide) (by decide) (by decide), ha39 (1, 0) (by decide) (by decide) (by decide)] <;> rfl) ?_
  have fk45 : st38 (2, 0) = .inr (7, [.ref (ad37 (3, 0)), .ref (ad37 (4, 0)), .int 0, .ref (X.2.2 0), .int 32]) := ((hs40 (2, 0) (by decide) (by decide) (by decide) (by decide)).trans fk31).trans (by rw [ha39 (3, 0) (by decide) (by decide) (by decide), ha39 (4, 0) (by decide) (by decide) (by decide)])
  have fk46 : st38 (3, 0) = .inl (X.2.1 1, 60, .inl (fun _ => 0)) := (hs40 (3, 0) (by decide) (by decide) (by decide) (by decide)).trans fk32
  have fk47 : st38 (4, 0) = .inl (X.2.1 2, 6, .inl (fun _ => 0)) := (hs40 (4, 0) (by decide) (by decide) (by decide) (by decide)).trans fk33
  have fk48 : st38 (1, 0) = .inr (10, [.ref (ad37 (2, 0)), .null, .null, .null, .null, .null, .int 0]) := ((hs40 (1, 0) (by decide) (by decide) (by decide) (by decide)).trans fk34).trans (by rw [ha39 (2, 0) (by decide) (by decide) (by decide)])
  have af49 : ∀ x : ro, x ≠ (2, 0) → x ≠ (3, 0) → x ≠ (4, 0) → x ≠ (5, 0) → x ≠ (6, 0) → x ≠ (7, 0) → x ≠ (8, 0) → ad37 x = ad x := fun x a0 a1 a2 a3 a4 a5 a6 => (ha39 x a4 a5 a6).trans (af35 x a0 a1 a2 a3)
  have sf50 : ∀ x : ro, x ≠ (2, 0) → x ≠ (3, 0) → x ≠ (4, 0) → x ≠ (1, 0) → x ≠ (5, 0) → x ≠ (6, 0) → x ≠ (7, 0) → x ≠ (8, 0) → st38 x = st x := fun x a0 a1 a2 a3 a4 a5 a6 a7 => (hs40 x a4 a5 a6 a7).trans (sf36 x a0 a1 a2 a3 a4)
  clear fk31 fk32 fk33 fk34 fk29 af35 sf36
  refine g_putxF (r := (1, 0)) (Cn := RX7) (T := TX7) (N := 7) (ci := 10) (ty0 := tyX7) (fs2 := [.ref (ad37 (2, 0)), .ref (ad37 (5, 0)), .null, .null, .null, .null, .int 0]) C tinX7 tyX7_ok nmX7 hW hS (List.mem_append_left _ (List.mem_append_left _ (List.mem_append_left _ (List.mem_append_left _ (List.mem_append_left _ (List.mem_append_left _ (List.mem_append_left _ (List.mem_singleton.mpr rfl)))))))) fk48 rfl 1 (by decide) tw_1_207 rfl rfl rfl rfl (Nat.le_of_ble_eq_true rfl) rfl dX7_init_23 (fun st51 H locs fk52 hs53 hW hS => ?_)
  have fk54 : st51 (2, 0) = .inr (7, [.ref (ad37 (3, 0)), .ref (ad37 (4, 0)), .int 0, .ref (X.2.2 0), .int 32]) := (hs53 (2, 0) (by decide)).trans fk45
  have fk55 : st51 (3, 0) = .inl (X.2.1 1, 60, .inl (fun _ => 0)) := (hs53 (3, 0) (by decide)).trans fk46
  have fk56 : st51 (4, 0) = .inl (X.2.1 2, 6, .inl (fun _ => 0)) := (hs53 (4, 0) (by decide)).trans fk47
  have fk57 : st51 (5, 0) = .inr (3, [.int 0, .ref (ad37 (6, 0)), .ref (ad37 (7, 0)), .ref (ad37 (8, 0)), .int 0, .int 0]) := (hs53 (5, 0) (by decide)).trans fk41
  have fk58 : st51 (6, 0) = .inl (X.2.1 2, 512, .inl (fun _ => 0)) := (hs53 (6, 0) (by decide)).trans fk42
  have fk59 : st51 (7, 0) = .inl (X.2.1 2, 512, .inl (fun _ => 0)) := (hs53 (7, 0) (by decide)).trans fk43
  have fk60 : st51 (8, 0) = .inl (X.2.1 3, 512, .inl (fun _ => 0)) := (hs53 (8, 0) (by decide)).trans fk44
  have sf61 : ∀ x : ro, x ≠ (2, 0) → x ≠ (3, 0) → x ≠ (4, 0) → x ≠ (1, 0) → x ≠ (5, 0) → x ≠ (6, 0) → x ≠ (7, 0) → x ≠ (8, 0) → st51 x = st x := fun x a0 a1 a2 a3 a4 a5 a6 a7 => (hs53 x a3).trans (sf50 x a0 a1 a2 a3 a4 a5 a6 a7)
  clear fk45 fk46 fk47 fk48 fk41 fk42 fk43 fk44 sf50
  refine lv_aload_n hx hb dX7_init_26 rfl (lv_at hl 0 rfl) ?_
  refine lv_bipush (v := 6) hx hb dX7_init_27 (by decide) ?_
  refine g_newr (r := (9, 0)) (Cn := "RateGate$Shipper") (t0 := 6) (N' := 6) C hW hS (nmem_app (nmem_app (nmem_app (nmem_app (nmem_app (nmem_app (nmem_app (by decide) (by decide)) (by decide)) (by decide)) (by decide)) (by decide)) (by decide)) (by decide)) tw_1_94 (by decide) rfl (by decide) (by decide) (by decide) (by rw [hR3]; exact Nat.le_of_ble_eq_true rfl) (by rw [hR4]; exact Nat.le_of_ble_eq_true rfl) dX7_init_29 (fun ad62 st63 H ha64 fk65 hs66 hW hS => ?_)
  have hl : lv_has ls 2 [(0, .ref (ad62 (1, 0)))] := by rw [ha64 (1, 0) (by decide)]; exact hl
  refine W.eq (g2 := F0 m 32 ls [.ref (ad62 (9, 0)), .ref (ad62 (1, 0))]) (by rw [ha64 (1, 0) (by decide)] <;> rfl) ?_
  have fk67 : st63 (2, 0) = .inr (7, [.ref (ad62 (3, 0)), .ref (ad62 (4, 0)), .int 0, .ref (X.2.2 0), .int 32]) := ((hs66 (2, 0) (by decide)).trans fk54).trans (by rw [ha64 (3, 0) (by decide), ha64 (4, 0) (by decide)])
  have fk68 : st63 (3, 0) = .inl (X.2.1 1, 60, .inl (fun _ => 0)) := (hs66 (3, 0) (by decide)).trans fk55
  have fk69 : st63 (4, 0) = .inl (X.2.1 2, 6, .inl (fun _ => 0)) := (hs66 (4, 0) (by decide)).trans fk56
  have fk70 : st63 (5, 0) = .inr (3, [.int 0, .ref (ad62 (6, 0)), .ref (ad62 (7, 0)), .ref (ad62 (8, 0)), .int 0, .int 0]) := ((hs66 (5, 0) (by decide)).trans fk57).trans (by rw [ha64 (6, 0) (by decide), ha64 (7, 0) (by decide), ha64 (8, 0) (by decide)])
  have fk71 : st63 (6, 0) = .inl (X.2.1 2, 512, .inl (fun _ => 0)) := (hs66 (6, 0) (by decide)).trans fk58
  have fk72 : st63 (7, 0) = .inl (X.2.1 2, 512, .inl (fun _ => 0)) := (hs66 (7, 0) (by decide)).trans fk59
  have fk73 : st63 (8, 0) = .inl (X.2.1 3, 512, .inl (fun _ => 0)) := (hs66 (8, 0) (by decide)).trans fk60
  have fk74 : st63 (1, 0) = .inr (10, [.ref (ad62 (2, 0)), .ref (ad62 (5, 0)), .null, .null, .null, .null, .int 0]) := ((hs66 (1, 0) (by decide)).trans fk52).trans (by rw [ha64 (2, 0) (by decide), ha64 (5, 0) (by decide)])
  have af75 : ∀ x : ro, x ≠ (2, 0) → x ≠ (3, 0) → x ≠ (4, 0) → x ≠ (5, 0) → x ≠ (6, 0) → x ≠ (7, 0) → x ≠ (8, 0) → x ≠ (9, 0) → ad62 x = ad x := fun x a0 a1 a2 a3 a4 a5 a6 a7 => (ha64 x a7).trans (af49 x a0 a1 a2 a3 a4 a5 a6)
  have sf76 : ∀ x : ro, x ≠ (2, 0) → x ≠ (3, 0) → x ≠ (4, 0) → x ≠ (1, 0) → x ≠ (5, 0) → x ≠ (6, 0) → x ≠ (7, 0) → x ≠ (8, 0) → x ≠ (9, 0) → st63 x = st x := fun x a0 a1 a2 a3 a4 a5 a6 a7 a8 => (hs66 x a8).trans (sf61 x a0 a1 a2 a3 a4 a5 a6 a7)
  clear fk54 fk55 fk56 fk57 fk58 fk59 fk60 fk52 af49 sf61
  refine g_putxF (r := (1, 0)) (Cn := RX7) (T := TX7) (N := 7) (ci := 10) (ty0 := tyX7) (fs2 := [.ref (ad62 (2, 0)), .ref (ad62 (5, 0)), .ref (ad62 (9, 0)), .null, .null, .null, .int 0]) C tinX7 tyX7_ok nmX7 hW hS (List.mem_append_left _ (List.mem_append_left _ (List.mem_append_left _ (List.mem_append_left _ (List.mem_append_left _ (List.mem_append_left _ (List.mem_append_left _ (List.mem_append_left _ (List.mem_singleton.mpr rfl))))))))) fk74 rfl 2 (by decide) tw_1_208 rfl rfl rfl rfl (Nat.le_of_ble_eq_true rfl) rfl dX7_init_32 (fun st77 H locs fk78 hs79 hW hS => ?_)
  have fk80 : st77 (2, 0) = .inr (7, [.ref (ad62 (3, 0)), .ref (ad62 (4, 0)), .int 0, .ref (X.2.2 0), .int 32]) := (hs79 (2, 0) (by decide)).trans fk67
  have fk81 : st77 (3, 0) = .inl (X.2.1 1, 60, .inl (fun _ => 0)) := (hs79 (3, 0) (by decide)).trans fk68
  have fk82 : st77 (4, 0) = .inl (X.2.1 2, 6, .inl (fun _ => 0)) := (hs79 (4, 0) (by decide)).trans fk69
  have fk83 : st77 (5, 0) = .inr (3, [.int 0, .ref (ad62 (6, 0)), .ref (ad62 (7, 0)), .ref (ad62 (8, 0)), .int 0, .int 0]) := (hs79 (5, 0) (by decide)).trans fk70
  have fk84 : st77 (6, 0) = .inl (X.2.1 2, 512, .inl (fun _ => 0)) := (hs79 (6, 0) (by decide)).trans fk71
  have fk85 : st77 (7, 0) = .inl (X.2.1 2, 512, .inl (fun _ => 0)) := (hs79 (7, 0) (by decide)).trans fk72
  have fk86 : st77 (8, 0) = .inl (X.2.1 3, 512, .inl (fun _ => 0)) := (hs79 (8, 0) (by decide)).trans fk73
  have fk87 : st77 (9, 0) = .inl (X.2.1 6, 6, .inr (.inr (.inr (.inr (fun _ => none))))) := (hs79 (9, 0) (by decide)).trans fk65
  have sf88 : ∀ x : ro, x ≠ (2, 0) → x ≠ (3, 0) → x ≠ (4, 0) → x ≠ (1, 0) → x ≠ (5, 0) → x ≠ (6, 0) → x ≠ (7, 0) → x ≠ (8, 0) → x ≠ (9, 0) → st77 x = st x := fun x a0 a1 a2 a3 a4 a5 a6 a7 a8 => (hs79 x a3).trans (sf76 x a0 a1 a2 a3 a4 a5 a6 a7 a8)
  clear fk67 fk68 fk69 fk70 fk71 fk72 fk73 fk74 fk65 sf76
  refine lv_aload_n hx hb dX7_init_35 rfl (lv_at hl 0 rfl) ?_
  refine lv_iconst (v := 4) hx hb dX7_init_36 (by decide) ?_
  refine g_newr (r := (10, 0)) (Cn := "RateGate$Carrier") (t0 := 7) (N' := 4) C hW hS (nmem_app (nmem_app (nmem_app (nmem_app (nmem_app (nmem_app (nmem_app (nmem_app (by decide) (by decide)) (by decide)) (by decide)) (by decide)) (by decide)) (by decide)) (by decide)) (by decide)) tw_1_96 (by decide) rfl (by decide) (by decide) (by decide) (by rw [hR3]; exact Nat.le_of_ble_eq_true rfl) (by rw [hR4]; exact Nat.le_of_ble_eq_true rfl) dX7_init_37 (fun ad89 st90 H ha91 fk92 hs93 hW hS => ?_)
  have hl : lv_has ls 2 [(0, .ref (ad89 (1, 0)))] := by rw [ha91 (1, 0) (by decide)]; exact hl
  refine W.eq (g2 := F0 m 40 ls [.ref (ad89 (10, 0)), .ref (ad89 (1, 0))]) (by rw [ha91 (1, 0) (by decide)] <;> rfl) ?_
  have fk94 : st90 (2, 0) = .inr (7, [.ref (ad89 (3, 0)), .ref (ad89 (4, 0)), .int 0, .ref (X.2.2 0), .int 32]) := ((hs93 (2, 0) (by decide)).trans fk80).trans (by rw [ha91 (3, 0) (by decide), ha91 (4, 0) (by decide)])
  have fk95 : st90 (3, 0) = .inl (X.2.1 1, 60, .inl (fun _ => 0)) := (hs93 (3, 0) (by decide)).trans fk81
  have fk96 : st90 (4, 0) = .inl (X.2.1 2, 6, .inl (fun _ => 0)) := (hs93 (4, 0) (by decide)).trans fk82
  have fk97 : st90 (5, 0) = .inr (3, [.int 0, .ref (ad89 (6, 0)), .ref (ad89 (7, 0)), .ref (ad89 (8, 0)), .int 0, .int 0]) := ((hs93 (5, 0) (by decide)).trans fk83).trans (by rw [ha91 (6, 0) (by decide), ha91 (7, 0) (by decide), ha91 (8, 0) (by decide)])
  have fk98 : st90 (6, 0) = .inl (X.2.1 2, 512, .inl (fun _ => 0)) := (hs93 (6, 0) (by decide)).trans fk84
  have fk99 : st90 (7, 0) = .inl (X.2.1 2, 512, .inl (fun _ => 0)) := (hs93 (7, 0) (by decide)).trans fk85
  have fk100 : st90 (8, 0) = .inl (X.2.1 3, 512, .inl (fun _ => 0)) := (hs93 (8, 0) (by decide)).trans fk86
  have fk101 : st90 (9, 0) = .inl (X.2.1 6, 6, .inr (.inr (.inr (.inr (fun _ => none))))) := (hs93 (9, 0) (by decide)).trans fk87
  have fk102 : st90 (1, 0) = .inr (10, [.ref (ad89 (2, 0)), .ref (ad89 (5, 0)), .ref (ad89 (9, 0)), .null, .null, .null, .int 0]) := ((hs93 (1, 0) (by decide)).trans fk78).trans (by rw [ha91 (2, 0) (by decide), ha91 (5, 0) (by decide), ha91 (9, 0) (by decide)])
  have af103 : ∀ x : ro, x ≠ (2, 0) → x ≠ (3, 0) → x ≠ (4, 0) → x ≠ (5, 0) → x ≠ (6, 0) → x ≠ (7, 0) → x ≠ (8, 0) → x ≠ (9, 0) → x ≠ (10, 0) → ad89 x = ad x := fun x a0 a1 a2 a3 a4 a5 a6 a7 a8 => (ha91 x a8).trans (af75 x a0 a1 a2 a3 a4 a5 a6 a7)
  have sf104 : ∀ x : ro, x ≠ (2, 0) → x ≠ (3, 0) → x ≠ (4, 0) → x ≠ (1, 0) → x ≠ (5, 0) → x ≠ (6, 0) → x ≠ (7, 0) → x ≠ (8, 0) → x ≠ (9, 0) → x ≠ (10, 0) → st90 x = st x := fun x a0 a1 a2 a3 a4 a5 a6 a7 a8 a9 => (hs93 x a9).trans (sf88 x a0 a1 a2 a3 a4 a5 a6 a7 a8)
  clear fk80 fk81 fk82 fk83 fk84 fk85 fk86 fk87 fk78 af75 sf88
  refine g_putxF (r := (1, 0)) (Cn := RX7) (T := TX7) (N := 7) (ci := 10) (ty0 := tyX7) (fs2 := [.ref (ad89 (2, 0)), .ref (ad89 (5, 0)), .ref (ad89 (9, 0)), .ref (ad89 (10, 0)), .null, .null, .int 0]) C tinX7 tyX7_ok nmX7 hW hS (List.mem_append_left _ (List.mem_append_left _ (List.mem_append_left _ (List.mem_append_left _ (List.mem_append_left _ (List.mem_append_left _ (List.mem_append_left _ (List.mem_append_left _ (List.mem_append_left _ (List.mem_singleton.mpr rfl)))))))))) fk102 rfl 3 (by decide) tw_1_209 rfl rfl rfl rfl (Nat.le_of_ble_eq_true rfl) rfl dX7_init_40 (fun st105 H locs fk106 hs107 hW hS => ?_)
  have fk108 : st105 (2, 0) = .inr (7, [.ref (ad89 (3, 0)), .ref (ad89 (4, 0)), .int 0, .ref (X.2.2 0), .int 32]) := (hs107 (2, 0) (by decide)).trans fk94
  have fk109 : st105 (3, 0) = .inl (X.2.1 1, 60, .inl (fun _ => 0)) := (hs107 (3, 0) (by decide)).trans fk95
  have fk110 : st105 (4, 0) = .inl (X.2.1 2, 6, .inl (fun _ => 0)) := (hs107 (4, 0) (by decide)).trans fk96
  have fk111 : st105 (5, 0) = .inr (3, [.int 0, .ref (ad89 (6, 0)), .ref (ad89 (7, 0)), .ref (ad89 (8, 0)), .int 0, .int 0]) := (hs107 (5, 0) (by decide)).trans fk97
  have fk112 : st105 (6, 0) = .inl (X.2.1 2, 512, .inl (fun _ => 0)) := (hs107 (6, 0) (by decide)).trans fk98
  have fk113 : st105 (7, 0) = .inl (X.2.1 2, 512, .inl (fun _ => 0)) := (hs107 (7, 0) (by decide)).trans fk99
  have fk114 : st105 (8, 0) = .inl (X.2.1 3, 512, .inl (fun _ => 0)) := (hs107 (8, 0) (by decide)).trans fk100
  have fk115 : st105 (9, 0) = .inl (X.2.1 6, 6, .inr (.inr (.inr (.inr (fun _ => none))))) := (hs107 (9, 0) (by decide)).trans fk101
  have fk116 : st105 (10, 0) = .inl (X.2.1 7, 4, .inr (.inr (.inr (.inr (fun _ => none))))) := (hs107 (10, 0) (by decide)).trans fk92
  have sf117 : ∀ x : ro, x ≠ (2, 0) → x ≠ (3, 0) → x ≠ (4, 0) → x ≠ (1, 0) → x ≠ (5, 0) → x ≠ (6, 0) → x ≠ (7, 0) → x ≠ (8, 0) → x ≠ (9, 0) → x ≠ (10, 0) → st105 x = st x := fun x a0 a1 a2 a3 a4 a5 a6 a7 a8 a9 => (hs107 x a3).trans (sf104 x a0 a1 a2 a3 a4 a5 a6 a7 a8 a9)
  clear fk94 fk95 fk96 fk97 fk98 fk99 fk100 fk101 fk102 fk92 sf104
  refine lv_aload_n hx hb dX7_init_43 rfl (lv_at hl 0 rfl) ?_
  refine g_newo (r := (11, 0)) (Cn := RJx4a65c) (T := TJx4a65c) (N := 3) (ci := 2) (ty0 := tyJx4a65c) (fs := [.int 0, .null, .int 0]) C tinJx4a65c tyJx4a65c_ok hW hS (nmem_app (nmem_app (nmem_app (nmem_app (nmem_app (nmem_app (nmem_app (nmem_app (nmem_app (by decide) (by decide)) (by decide)) (by decide)) (by decide)) (by decide)) (by decide)) (by decide)) (by decide)) (by decide)) rfl tw_1_98 tw_1_99 tw_1_6 (by intro j hj; rcases (show j = 0 ∨ j = 1 ∨ j = 2 by omega) with rfl | rfl | rfl <;> rfl) (by rw [hR3]; exact Nat.le_of_ble_eq_true rfl) (by rw [hR4]; exact Nat.le_of_ble_eq_true rfl) dX7_init_44 (fun ad118 st119 H ha120 fk121 hs122 hW hS => ?_)
  have hl : lv_has ls 2 [(0, .ref (ad118 (1, 0)))] := by rw [ha120 (1, 0) (by decide)]; exact hl
  refine W.eq (g2 := F0 m 47 ls [.ref (ad118 (11, 0)), .ref (ad118 (1, 0))]) (by rw [ha120 (1, 0) (by decide)] <;> rfl) ?_
  have fk123 : st119 (2, 0) = .inr (7, [.ref (ad118 (3, 0)), .ref (ad118 (4, 0)), .int 0, .ref (X.2.2 0), .int 32]) := ((hs122 (2, 0) (by decide)).trans fk108).trans (by rw [ha120 (3, 0) (by decide), ha120 (4, 0) (by decide)])
  have fk124 : st119 (3, 0) = .inl (X.2.1 1, 60, .inl (fun _ => 0)) := (hs122 (3, 0) (by decide)).trans fk109
  have fk125 : st119 (4, 0) = .inl (X.2.1 2, 6, .inl (fun _ => 0)) := (hs122 (4, 0) (by decide)).trans fk110
  have fk126 : st119 (5, 0) = .inr (3, [.int 0, .ref (ad118 (6, 0)), .ref (ad118 (7, 0)), .ref (ad118 (8, 0)), .int 0, .int 0]) := ((hs122 (5, 0) (by decide)).trans fk111).trans (by rw [ha120 (6, 0) (by decide), ha120 (7, 0) (by decide), ha120 (8, 0) (by decide)])
  have fk127 : st119 (6, 0) = .inl (X.2.1 2, 512, .inl (fun _ => 0)) := (hs122 (6, 0) (by decide)).trans fk112
  have fk128 : st119 (7, 0) = .inl (X.2.1 2, 512, .inl (fun _ => 0)) := (hs122 (7, 0) (by decide)).trans fk113
  have fk129 : st119 (8, 0) = .inl (X.2.1 3, 512, .inl (fun _ => 0)) := (hs122 (8, 0) (by decide)).trans fk114
  have fk130 : st119 (9, 0) = .inl (X.2.1 6, 6, .inr (.inr (.inr (.inr (fun _ => none))))) := (hs122 (9, 0) (by decide)).trans fk115
  have fk131 : st119 (10, 0) = .inl (X.2.1 7, 4, .inr (.inr (.inr (.inr (fun _ => none))))) := (hs122 (10, 0) (by decide)).trans fk116
  have fk132 : st119 (1, 0) = .inr (10, [.ref (ad118 (2, 0)), .ref (ad118 (5, 0)), .ref (ad118 (9, 0)), .ref (ad118 (10, 0)), .null, .null, .int 0]) := ((hs122 (1, 0) (by decide)).trans fk106).trans (by rw [ha120 (2, 0) (by decide), ha120 (5, 0) (by decide), ha120 (9, 0) (by decide), ha120 (10, 0) (by decide)])
  have af133 : ∀ x : ro, x ≠ (2, 0) → x ≠ (3, 0) → x ≠ (4, 0) → x ≠ (5, 0) → x ≠ (6, 0) → x ≠ (7, 0) → x ≠ (8, 0) → x ≠ (9, 0) → x ≠ (10, 0) → x ≠ (11, 0) → ad118 x = ad x := fun x a0 a1 a2 a3 a4 a5 a6 a7 a8 a9 => (ha120 x a9).trans (af103 x a0 a1 a2 a3 a4 a5 a6 a7 a8)
  have sf134 : ∀ x : ro, x ≠ (2, 0) → x ≠ (3, 0) → x ≠ (4, 0) → x ≠ (1, 0) → x ≠ (5, 0) → x ≠ (6, 0) → x ≠ (7, 0) → x ≠ (8, 0) → x ≠ (9, 0) → x ≠ (10, 0) → x ≠ (11, 0) → st119 x = st x := fun x a0 a1 a2 a3 a4 a5 a6 a7 a8 a9 a10 => (hs122 x a10).trans (sf117 x a0 a1 a2 a3 a4 a5 a6 a7 a8 a9)
  clear fk108 fk109 fk110 fk111 fk112 fk113 fk114 fk115 fk116 fk106 af103 sf117
  refine lv_dup hx hb dX7_init_47 rfl ?_
  refine g_callIv (k2 := 0) (As := []) (rest := [.ref (ad118 (11, 0)), .ref (ad118 (1, 0))]) C (c_Jx4a65c_init_da8c8 l X ([(1, 0)] ++ [(2, 0)] ++ [(3, 0)] ++ [(4, 0)] ++ [(5, 0)] ++ [(6, 0)] ++ [(7, 0)] ++ [(8, 0)] ++ [(9, 0)] ++ [(10, 0)] ++ [(11, 0)]) ad118 st119 0 (List.mem_append_right _ (List.mem_singleton.mpr rfl)) fk121) tw_1_100 tw_1_101 tw_1_6 tw_1_102 (by decide +kernel) ⟨by rw [hR1]; exact Nat.le_of_ble_eq_true rfl, by rw [hR2]; exact Nat.le_of_ble_eq_true rfl⟩ hW hS rfl hl.1 rfl (Nat.le_of_ble_eq_true rfl) dX7_init_48 ⟨by rw [hR3]; exact Nat.le_of_ble_eq_true rfl, by rw [hR4]; exact Nat.le_of_ble_eq_true rfl⟩ (fun  L9 ad135 st136 H locs hp hW hS => ?_)
  obtain ⟨stq, z0, hs137, fk138⟩ := hp
  cases z0
  have fk139 : st136 (2, 0) = .inr (7, [.ref (ad118 (3, 0)), .ref (ad118 (4, 0)), .int 0, .ref (X.2.2 0), .int 32]) := (hs137 (2, 0) (by decide)).trans fk123
  have fk140 : st136 (3, 0) = .inl (X.2.1 1, 60, .inl (fun _ => 0)) := (hs137 (3, 0) (by decide)).trans fk124
  have fk141 : st136 (4, 0) = .inl (X.2.1 2, 6, .inl (fun _ => 0)) := (hs137 (4, 0) (by decide)).trans fk125
  have fk142 : st136 (5, 0) = .inr (3, [.int 0, .ref (ad118 (6, 0)), .ref (ad118 (7, 0)), .ref (ad118 (8, 0)), .int 0, .int 0]) := (hs137 (5, 0) (by decide)).trans fk126
  have fk143 : st136 (6, 0) = .inl (X.2.1 2, 512, .inl (fun _ => 0)) := (hs137 (6, 0) (by decide)).trans fk127
  have fk144 : st136 (7, 0) = .inl (X.2.1 2, 512, .inl (fun _ => 0)) := (hs137 (7, 0) (by decide)).trans fk128
  have fk145 : st136 (8, 0) = .inl (X.2.1 3, 512, .inl (fun _ => 0)) := (hs137 (8, 0) (by decide)).trans fk129
  have fk146 : st136 (9, 0) = .inl (X.2.1 6, 6, .inr (.inr (.inr (.inr (fun _ => none))))) := (hs137 (9, 0) (by decide)).trans fk130
  have fk147 : st136 (10, 0) = .inl (X.2.1 7, 4, .inr (.inr (.inr (.inr (fun _ => none))))) := (hs137 (10, 0) (by decide)).trans fk131
  have fk148 : st136 (1, 0) = .inr (10, [.ref (ad118 (2, 0)), .ref (ad118 (5, 0)), .ref (ad118 (9, 0)), .ref (ad118 (10, 0)), .null, .null, .int 0]) := (hs137 (1, 0) (by decide)).trans fk132
  have sf149 : ∀ x : ro, x ≠ (2, 0) → x ≠ (3, 0) → x ≠ (4, 0) → x ≠ (1, 0) → x ≠ (5, 0) → x ≠ (6, 0) → x ≠ (7, 0) → x ≠ (8, 0) → x ≠ (9, 0) → x ≠ (10, 0) → x ≠ (11, 0) → st136 x = st x := fun x a0 a1 a2 a3 a4 a5 a6 a7 a8 a9 a10 => (hs137 x a10).trans (sf134 x a0 a1 a2 a3 a4 a5 a6 a7 a8 a9 a10)
  clear fk123 fk124 fk125 fk126 fk127 fk128 fk129 fk130 fk131 fk132 fk121 sf134
  refine g_putxF (r := (1, 0)) (Cn := RX7) (T := TX7) (N := 7) (ci := 10) (ty0 := tyX7) (fs2 := [.ref (ad118 (2, 0)), .ref (ad118 (5, 0)), .ref (ad118 (9, 0)), .ref (ad118 (10, 0)), .ref (ad118 (11, 0)), .null, .int 0]) C tinX7 tyX7_ok nmX7 hW hS (List.mem_append_left _ (List.mem_append_left _ (List.mem_append_left _ (List.mem_append_left _ (List.mem_append_left _ (List.mem_append_left _ (List.mem_append_left _ (List.mem_append_left _ (List.mem_append_left _ (List.mem_append_left _ (List.mem_singleton.mpr rfl))))))))))) fk148 rfl 4 (by decide) tw_1_210 rfl rfl rfl rfl (Nat.le_of_ble_eq_true rfl) rfl dX7_init_51 (fun st150 H locs fk151 hs152 hW hS => ?_)
  have fk153 : st150 (2, 0) = .inr (7, [.ref (ad118 (3, 0)), .ref (ad118 (4, 0)), .int 0, .ref (X.2.2 0), .int 32]) := (hs152 (2, 0) (by decide)).trans fk139
  have fk154 : st150 (3, 0) = .inl (X.2.1 1, 60, .inl (fun _ => 0)) := (hs152 (3, 0) (by decide)).trans fk140
  have fk155 : st150 (4, 0) = .inl (X.2.1 2, 6, .inl (fun _ => 0)) := (hs152 (4, 0) (by decide)).trans fk141
  have fk156 : st150 (5, 0) = .inr (3, [.int 0, .ref (ad118 (6, 0)), .ref (ad118 (7, 0)), .ref (ad118 (8, 0)), .int 0, .int 0]) := (hs152 (5, 0) (by decide)).trans fk142
  have fk157 : st150 (6, 0) = .inl (X.2.1 2, 512, .inl (fun _ => 0)) := (hs152 (6, 0) (by decide)).trans fk143
  have fk158 : st150 (7, 0) = .inl (X.2.1 2, 512, .inl (fun _ => 0)) := (hs152 (7, 0) (by decide)).trans fk144
  have fk159 : st150 (8, 0) = .inl (X.2.1 3, 512, .inl (fun _ => 0)) := (hs152 (8, 0) (by decide)).trans fk145
  have fk160 : st150 (9, 0) = .inl (X.2.1 6, 6, .inr (.inr (.inr (.inr (fun _ => none))))) := (hs152 (9, 0) (by decide)).trans fk146
  have fk161 : st150 (10, 0) = .inl (X.2.1 7, 4, .inr (.inr (.inr (.inr (fun _ => none))))) := (hs152 (10, 0) (by decide)).trans fk147
  have fk162 : st150 (11, 0) = .inr (2, [.int 0, .ref (X.2.2 30), .int 0]) := (hs152 (11, 0) (by decide)).trans fk138
  have sf163 : ∀ x : ro, x ≠ (2, 0) → x ≠ (3, 0) → x ≠ (4, 0) → x ≠ (1, 0) → x ≠ (5, 0) → x ≠ (6, 0) → x ≠ (7, 0) → x ≠ (8, 0) → x ≠ (9, 0) → x ≠ (10, 0) → x ≠ (11, 0) → st150 x = st x := fun x a0 a1 a2 a3 a4 a5 a6 a7 a8 a9 a10 => (hs152 x a3).trans (sf149 x a0 a1 a2 a3 a4 a5 a6 a7 a8 a9 a10)
  clear fk139 fk140 fk141 fk142 fk143 fk144 fk145 fk146 fk147 fk148 fk138 sf149
  refine lv_aload_n hx hb dX7_init_54 rfl (lv_at hl 0 rfl) ?_
  refine g_newo (r := (11, 1)) (Cn := RJx4a65c) (T := TJx4a65c) (N := 3) (ci := 2) (ty0 := tyJx4a65c) (fs := [.int 0, .null, .int 0]) C tinJx4a65c tyJx4a65c_ok hW hS (nmem_app (nmem_app (nmem_app (nmem_app (nmem_app (nmem_app (nmem_app (nmem_app (nmem_app (nmem_app (by decide) (by decide)) (by decide)) (by decide)) (by decide)) (by decide)) (by decide)) (by decide)) (by decide)) (by decide)) (by decide)) rfl tw_1_98 tw_1_99 tw_1_6 (by intro j hj; rcases (show j = 0 ∨ j = 1 ∨ j = 2 by omega) with rfl | rfl | rfl <;> rfl) (by rw [hR3]; exact Nat.le_of_ble_eq_true rfl) (by rw [hR4]; exact Nat.le_of_ble_eq_true rfl) dX7_init_55 (fun ad164 st165 H ha166 fk167 hs168 hW hS => ?_)
  have hl : lv_has ls 2 [(0, .ref (ad164 (1, 0)))] := by rw [ha166 (1, 0) (by decide)]; exact hl
  refine W.eq (g2 := F0 m 58 ls [.ref (ad164 (11, 1)), .ref (ad164 (1, 0))]) (by rw [ha166 (1, 0) (by decide)] <;> rfl) ?_
  have fk169 : st165 (2, 0) = .inr (7, [.ref (ad164 (3, 0)), .ref (ad164 (4, 0)), .int 0, .ref (X.2.2 0), .int 32]) := ((hs168 (2, 0) (by decide)).trans fk153).trans (by rw [ha166 (3, 0) (by decide), ha166 (4, 0) (by decide)])
  have fk170 : st165 (3, 0) = .inl (X.2.1 1, 60, .inl (fun _ => 0)) := (hs168 (3, 0) (by decide)).trans fk154
  have fk171 : st165 (4, 0) = .inl (X.2.1 2, 6, .inl (fun _ => 0)) := (hs168 (4, 0) (by decide)).trans fk155
  have fk172 : st165 (5, 0) = .inr (3, [.int 0, .ref (ad164 (6, 0)), .ref (ad164 (7, 0)), .ref (ad164 (8, 0)), .int 0, .int 0]) := ((hs168 (5, 0) (by decide)).trans fk156).trans (by rw [ha166 (6, 0) (by decide), ha166 (7, 0) (by decide), ha166 (8, 0) (by decide)])
  have fk173 : st165 (6, 0) = .inl (X.2.1 2, 512, .inl (fun _ => 0)) := (hs168 (6, 0) (by decide)).trans fk157
  have fk174 : st165 (7, 0) = .inl (X.2.1 2, 512, .inl (fun _ => 0)) := (hs168 (7, 0) (by decide)).trans fk158
  have fk175 : st165 (8, 0) = .inl (X.2.1 3, 512, .inl (fun _ => 0)) := (hs168 (8, 0) (by decide)).trans fk159
  have fk176 : st165 (9, 0) = .inl (X.2.1 6, 6, .inr (.inr (.inr (.inr (fun _ => none))))) := (hs168 (9, 0) (by decide)).trans fk160
  have fk177 : st165 (10, 0) = .inl (X.2.1 7, 4, .inr (.inr (.inr (.inr (fun _ => none))))) := (hs168 (10, 0) (by decide)).trans fk161
  have fk178 : st165 (11, 0) = .inr (2, [.int 0, .ref (X.2.2 30), .int 0]) := (hs168 (11, 0) (by decide)).trans fk162
  have fk179 : st165 (1, 0) = .inr (10, [.ref (ad164 (2, 0)), .ref (ad164 (5, 0)), .ref (ad164 (9, 0)), .ref (ad164 (10, 0)), .ref (ad164 (11, 0)), .null, .int 0]) := ((hs168 (1, 0) (by decide)).trans fk151).trans (by rw [ha166 (2, 0) (by decide), ha166 (5, 0) (by decide), ha166 (9, 0) (by decide), ha166 (10, 0) (by decide), ha166 (11, 0) (by decide)])
  have af180 : ∀ x : ro, x ≠ (2, 0) → x ≠ (3, 0) → x ≠ (4, 0) → x ≠ (5, 0) → x ≠ (6, 0) → x ≠ (7, 0) → x ≠ (8, 0) → x ≠ (9, 0) → x ≠ (10, 0) → x ≠ (11, 0) → x ≠ (11, 1) → ad164 x = ad x := fun x a0 a1 a2 a3 a4 a5 a6 a7 a8 a9 a10 => (ha166 x a10).trans (af133 x a0 a1 a2 a3 a4 a5 a6 a7 a8 a9)
  have sf181 : ∀ x : ro, x ≠ (2, 0) → x ≠ (3, 0) → x ≠ (4, 0) → x ≠ (1, 0) → x ≠ (5, 0) → x ≠ (6, 0) → x ≠ (7, 0) → x ≠ (8, 0) → x ≠ (9, 0) → x ≠ (10, 0) → x ≠ (11, 0) → x ≠ (11, 1) → st165 x = st x := fun x a0 a1 a2 a3 a4 a5 a6 a7 a8 a9 a10 a11 => (hs168 x a11).trans (sf163 x a0 a1 a2 a3 a4 a5 a6 a7 a8 a9 a10)
  clear fk153 fk154 fk155 fk156 fk157 fk158 fk159 fk160 fk161 fk162 fk151 af133 sf163
  refine lv_dup hx hb dX7_init_58 rfl ?_
  refine g_callIv (k2 := 0) (As := []) (rest := [.ref (ad164 (11, 1)), .ref (ad164 (1, 0))]) C (c_Jx4a65c_init_da8c8 l X ([(1, 0)] ++ [(2, 0)] ++ [(3, 0)] ++ [(4, 0)] ++ [(5, 0)] ++ [(6, 0)] ++ [(7, 0)] ++ [(8, 0)] ++ [(9, 0)] ++ [(10, 0)] ++ [(11, 0)] ++ [(11, 1)]) ad164 st165 1 (List.mem_append_right _ (List.mem_singleton.mpr rfl)) fk167) tw_1_100 tw_1_101 tw_1_6 tw_1_102 (by decide +kernel) ⟨by rw [hR1]; exact Nat.le_of_ble_eq_true rfl, by rw [hR2]; exact Nat.le_of_ble_eq_true rfl⟩ hW hS rfl hl.1 rfl (Nat.le_of_ble_eq_true rfl) dX7_init_59 ⟨by rw [hR3]; exact Nat.le_of_ble_eq_true rfl, by rw [hR4]; exact Nat.le_of_ble_eq_true rfl⟩ (fun  L9 ad182 st183 H locs hp hW hS => ?_)
  obtain ⟨stq, z0, hs184, fk185⟩ := hp
  cases z0
  have fk186 : st183 (2, 0) = .inr (7, [.ref (ad164 (3, 0)), .ref (ad164 (4, 0)), .int 0, .ref (X.2.2 0), .int 32]) := (hs184 (2, 0) (by decide)).trans fk169
  have fk187 : st183 (3, 0) = .inl (X.2.1 1, 60, .inl (fun _ => 0)) := (hs184 (3, 0) (by decide)).trans fk170
  have fk188 : st183 (4, 0) = .inl (X.2.1 2, 6, .inl (fun _ => 0)) := (hs184 (4, 0) (by decide)).trans fk171
  have fk189 : st183 (5, 0) = .inr (3, [.int 0, .ref (ad164 (6, 0)), .ref (ad164 (7, 0)), .ref (ad164 (8, 0)), .int 0, .int 0]) := (hs184 (5, 0) (by decide)).trans fk172
  have fk190 : st183 (6, 0) = .inl (X.2.1 2, 512, .inl (fun _ => 0)) := (hs184 (6, 0) (by decide)).trans fk173
  have fk191 : st183 (7, 0) = .inl (X.2.1 2, 512, .inl (fun _ => 0)) := (hs184 (7, 0) (by decide)).trans fk174
  have fk192 : st183 (8, 0) = .inl (X.2.1 3, 512, .inl (fun _ => 0)) := (hs184 (8, 0) (by decide)).trans fk175
  have fk193 : st183 (9, 0) = .inl (X.2.1 6, 6, .inr (.inr (.inr (.inr (fun _ => none))))) := (hs184 (9, 0) (by decide)).trans fk176
  have fk194 : st183 (10, 0) = .inl (X.2.1 7, 4, .inr (.inr (.inr (.inr (fun _ => none))))) := (hs184 (10, 0) (by decide)).trans fk177
  have fk195 : st183 (11, 0) = .inr (2, [.int 0, .ref (X.2.2 30), .int 0]) := (hs184 (11, 0) (by decide)).trans fk178
  have fk196 : st183 (1, 0) = .inr (10, [.ref (ad164 (2, 0)), .ref (ad164 (5, 0)), .ref (ad164 (9, 0)), .ref (ad164 (10, 0)), .ref (ad164 (11, 0)), .null, .int 0]) := (hs184 (1, 0) (by decide)).trans fk179
  have sf197 : ∀ x : ro, x ≠ (2, 0) → x ≠ (3, 0) → x ≠ (4, 0) → x ≠ (1, 0) → x ≠ (5, 0) → x ≠ (6, 0) → x ≠ (7, 0) → x ≠ (8, 0) → x ≠ (9, 0) → x ≠ (10, 0) → x ≠ (11, 0) → x ≠ (11, 1) → st183 x = st x := fun x a0 a1 a2 a3 a4 a5 a6 a7 a8 a9 a10 a11 => (hs184 x a11).trans (sf181 x a0 a1 a2 a3 a4 a5 a6 a7 a8 a9 a10 a11)
  clear fk169 fk170 fk171 fk172 fk173 fk174 fk175 fk176 fk177 fk178 fk179 fk167 sf181
  refine g_putxF (r := (1, 0)) (Cn := RX7) (T := TX7) (N := 7) (ci := 10) (ty0 := tyX7) (fs2 := [.ref (ad164 (2, 0)), .ref (ad164 (5, 0)), .ref (ad164 (9, 0)), .ref (ad164 (10, 0)), .ref (ad164 (11, 0)), .ref (ad164 (11, 1)), .int 0]) C tinX7 tyX7_ok nmX7 hW hS (List.mem_append_left _ (List.mem_append_left _ (List.mem_append_left _ (List.mem_append_left _ (List.mem_append_left _ (List.mem_append_left _ (List.mem_append_left _ (List.mem_append_left _ (List.mem_append_left _ (List.mem_append_left _ (List.mem_append_left _ (List.mem_singleton.mpr rfl)))))))))))) fk196 rfl 5 (by decide) tw_1_211 rfl rfl rfl rfl (Nat.le_of_ble_eq_true rfl) rfl dX7_init_62 (fun st198 H locs fk199 hs200 hW hS => ?_)
  have fk201 : st198 (2, 0) = .inr (7, [.ref (ad164 (3, 0)), .ref (ad164 (4, 0)), .int 0, .ref (X.2.2 0), .int 32]) := (hs200 (2, 0) (by decide)).trans fk186
  have fk202 : st198 (3, 0) = .inl (X.2.1 1, 60, .inl (fun _ => 0)) := (hs200 (3, 0) (by decide)).trans fk187
  have fk203 : st198 (4, 0) = .inl (X.2.1 2, 6, .inl (fun _ => 0)) := (hs200 (4, 0) (by decide)).trans fk188
  have fk204 : st198 (5, 0) = .inr (3, [.int 0, .ref (ad164 (6, 0)), .ref (ad164 (7, 0)), .ref (ad164 (8, 0)), .int 0, .int 0]) := (hs200 (5, 0) (by decide)).trans fk189
  have fk205 : st198 (6, 0) = .inl (X.2.1 2, 512, .inl (fun _ => 0)) := (hs200 (6, 0) (by decide)).trans fk190
  have fk206 : st198 (7, 0) = .inl (X.2.1 2, 512, .inl (fun _ => 0)) := (hs200 (7, 0) (by decide)).trans fk191
  have fk207 : st198 (8, 0) = .inl (X.2.1 3, 512, .inl (fun _ => 0)) := (hs200 (8, 0) (by decide)).trans fk192
  have fk208 : st198 (9, 0) = .inl (X.2.1 6, 6, .inr (.inr (.inr (.inr (fun _ => none))))) := (hs200 (9, 0) (by decide)).trans fk193
  have fk209 : st198 (10, 0) = .inl (X.2.1 7, 4, .inr (.inr (.inr (.inr (fun _ => none))))) := (hs200 (10, 0) (by decide)).trans fk194
  have fk210 : st198 (11, 0) = .inr (2, [.int 0, .ref (X.2.2 30), .int 0]) := (hs200 (11, 0) (by decide)).trans fk195
  have fk211 : st198 (11, 1) = .inr (2, [.int 0, .ref (X.2.2 30), .int 0]) := (hs200 (11, 1) (by decide)).trans fk185
  have sf212 : ∀ x : ro, x ≠ (2, 0) → x ≠ (3, 0) → x ≠ (4, 0) → x ≠ (1, 0) → x ≠ (5, 0) → x ≠ (6, 0) → x ≠ (7, 0) → x ≠ (8, 0) → x ≠ (9, 0) → x ≠ (10, 0) → x ≠ (11, 0) → x ≠ (11, 1) → st198 x = st x := fun x a0 a1 a2 a3 a4 a5 a6 a7 a8 a9 a10 a11 => (hs200 x a3).trans (sf197 x a0 a1 a2 a3 a4 a5 a6 a7 a8 a9 a10 a11)
  clear fk186 fk187 fk188 fk189 fk190 fk191 fk192 fk193 fk194 fk195 fk196 fk185 sf197
  refine lv_aload_n hx hb dX7_init_65 rfl (lv_at hl 0 rfl) ?_
  refine lv_iconst (v := 0) hx hb dX7_init_66 (by decide) ?_
  refine g_putx (r := (1, 0)) (Cn := RX7) (T := TX7) (N := 7) (ci := 10) (ty0 := tyX7) (fs2 := [.ref (ad164 (2, 0)), .ref (ad164 (5, 0)), .ref (ad164 (9, 0)), .ref (ad164 (10, 0)), .ref (ad164 (11, 0)), .ref (ad164 (11, 1)), .int 0]) C tinX7 tyX7_ok nmX7 hW hS (List.mem_append_left _ (List.mem_append_left _ (List.mem_append_left _ (List.mem_append_left _ (List.mem_append_left _ (List.mem_append_left _ (List.mem_append_left _ (List.mem_append_left _ (List.mem_append_left _ (List.mem_append_left _ (List.mem_append_left _ (List.mem_singleton.mpr rfl)))))))))))) fk199 rfl 6 (by decide) tw_1_212 (fun _ h9 => h9) rfl rfl rfl (Nat.le_of_ble_eq_true rfl) rfl dX7_init_67 (fun st213 H locs fk214 hs215 hW hS => ?_)
  have fk216 : st213 (2, 0) = .inr (7, [.ref (ad164 (3, 0)), .ref (ad164 (4, 0)), .int 0, .ref (X.2.2 0), .int 32]) := (hs215 (2, 0) (by decide)).trans fk201
  have fk217 : st213 (3, 0) = .inl (X.2.1 1, 60, .inl (fun _ => 0)) := (hs215 (3, 0) (by decide)).trans fk202
  have fk218 : st213 (4, 0) = .inl (X.2.1 2, 6, .inl (fun _ => 0)) := (hs215 (4, 0) (by decide)).trans fk203
  have fk219 : st213 (5, 0) = .inr (3, [.int 0, .ref (ad164 (6, 0)), .ref (ad164 (7, 0)), .ref (ad164 (8, 0)), .int 0, .int 0]) := (hs215 (5, 0) (by decide)).trans fk204
  have fk220 : st213 (6, 0) = .inl (X.2.1 2, 512, .inl (fun _ => 0)) := (hs215 (6, 0) (by decide)).trans fk205
  have fk221 : st213 (7, 0) = .inl (X.2.1 2, 512, .inl (fun _ => 0)) := (hs215 (7, 0) (by decide)).trans fk206
  have fk222 : st213 (8, 0) = .inl (X.2.1 3, 512, .inl (fun _ => 0)) := (hs215 (8, 0) (by decide)).trans fk207
  have fk223 : st213 (9, 0) = .inl (X.2.1 6, 6, .inr (.inr (.inr (.inr (fun _ => none))))) := (hs215 (9, 0) (by decide)).trans fk208
  have fk224 : st213 (10, 0) = .inl (X.2.1 7, 4, .inr (.inr (.inr (.inr (fun _ => none))))) := (hs215 (10, 0) (by decide)).trans fk209
  have fk225 : st213 (11, 0) = .inr (2, [.int 0, .ref (X.2.2 30), .int 0]) := (hs215 (11, 0) (by decide)).trans fk210
  have fk226 : st213 (11, 1) = .inr (2, [.int 0, .ref (X.2.2 30), .int 0]) := (hs215 (11, 1) (by decide)).trans fk211
  have sf227 : ∀ x : ro, x ≠ (2, 0) → x ≠ (3, 0) → x ≠ (4, 0) → x ≠ (1, 0) → x ≠ (5, 0) → x ≠ (6, 0) → x ≠ (7, 0) → x ≠ (8, 0) → x ≠ (9, 0) → x ≠ (10, 0) → x ≠ (11, 0) → x ≠ (11, 1) → st213 x = st x := fun x a0 a1 a2 a3 a4 a5 a6 a7 a8 a9 a10 a11 => (hs215 x a3).trans (sf212 x a0 a1 a2 a3 a4 a5 a6 a7 a8 a9 a10 a11)
  clear fk201 fk202 fk203 fk204 fk205 fk206 fk207 fk208 fk209 fk210 fk211 fk199 sf212
  refine lv_iconst (v := 0) hx hb dX7_init_70 (by decide) ?_
  refine lv_istore_n (lv' := [(1, .int 0), (0, .ref (ad164 (1, 0)))]) hx hb dX7_init_71 rfl hl (by decide) rfl (fun ls hl => ?_)
  refine lv_iload_n hx hb dX7_init_72 rfl (lv_at hl 0 rfl) ?_
  refine lv_bipush (v := 6) hx hb dX7_init_73 (by decide) ?_
  refine lv_icmp_ge (tgt := 97) hx hb dX7_init_75 (by decide) (fun c9 => absurd c9 (by decide)) (fun _ => ?_)
  refine lv_aload_n hx hb dX7_init_78 rfl (lv_at hl 1 rfl) ?_
  refine g_get (r := (1, 0)) (Cn := RX7) (T := TX7) (N := 7) (ci := 10) (v := .ref (ad164 (9, 0))) C tinX7 hW (List.mem_append_left _ (List.mem_append_left _ (List.mem_append_left _ (List.mem_append_left _ (List.mem_append_left _ (List.mem_append_left _ (List.mem_append_left _ (List.mem_append_left _ (List.mem_append_left _ (List.mem_append_left _ (List.mem_append_left _ (List.mem_singleton.mpr rfl)))))))))))) fk214 rfl 2 (by decide) tw_1_208 (fun _ h9 => h9) rfl dX7_init_79 ?_
  refine lv_iload_n hx hb dX7_init_82 rfl (lv_at hl 0 rfl) ?_
  refine g_newo (r := (20, 0)) (Cn := RX5) (T := TX5) (N := 7) (ci := 8) (ty0 := tyX5) (fs := [.int 0, .int 0, .int 0, .int 0, .null, .int 0, .int 0]) C tinX5 tyX5_ok hW hS (nmem_app (nmem_app (nmem_app (nmem_app (nmem_app (nmem_app (nmem_app (nmem_app (nmem_app (nmem_app (nmem_app (by decide) (by decide)) (by decide)) (by decide)) (by decide)) (by decide)) (by decide)) (by decide)) (by decide)) (by decide)) (by decide)) (by decide)) rfl tw_1_94 tw_1_124 tw_1_7 (by intro j hj; rcases (show j = 0 ∨ j = 1 ∨ j = 2 ∨ j = 3 ∨ j = 4 ∨ j = 5 ∨ j = 6 by omega) with rfl | rfl | rfl | rfl | rfl | rfl | rfl <;> rfl) (by rw [hR3]; exact Nat.le_of_ble_eq_true rfl) (by rw [hR4]; exact Nat.le_of_ble_eq_true rfl) dX7_init_83 (fun ad228 st229 H ha230 fk231 hs232 hW hS => ?_)
  have hl : lv_has ls 2 [(1, .int 0), (0, .ref (ad228 (1, 0)))] := by rw [ha230 (1, 0) (by decide)]; exact hl
  refine W.eq (g2 := F0 m 86 ls [.ref (ad228 (20, 0)), .int 0, .ref (ad228 (9, 0))]) (by rw [ha230 (9, 0) (by decide)] <;> rfl) ?_
  have fk233 : st229 (2, 0) = .inr (7, [.ref (ad228 (3, 0)), .ref (ad228 (4, 0)), .int 0, .ref (X.2.2 0), .int 32]) := ((hs232 (2, 0) (by decide)).trans fk216).trans (by rw [ha230 (3, 0) (by decide), ha230 (4, 0) (by decide)])
  have fk234 : st229 (3, 0) = .inl (X.2.1 1, 60, .inl (fun _ => 0)) := (hs232 (3, 0) (by decide)).trans fk217
  have fk235 : st229 (4, 0) = .inl (X.2.1 2, 6, .inl (fun _ => 0)) := (hs232 (4, 0) (by decide)).trans fk218
  have fk236 : st229 (5, 0) = .inr (3, [.int 0, .ref (ad228 (6, 0)), .ref (ad228 (7, 0)), .ref (ad228 (8, 0)), .int 0, .int 0]) := ((hs232 (5, 0) (by decide)).trans fk219).trans (by rw [ha230 (6, 0) (by decide), ha230 (7, 0) (by decide), ha230 (8, 0) (by decide)])
  have fk237 : st229 (6, 0) = .inl (X.2.1 2, 512, .inl (fun _ => 0)) := (hs232 (6, 0) (by decide)).trans fk220
  have fk238 : st229 (7, 0) = .inl (X.2.1 2, 512, .inl (fun _ => 0)) := (hs232 (7, 0) (by decide)).trans fk221
  have fk239 : st229 (8, 0) = .inl (X.2.1 3, 512, .inl (fun _ => 0)) := (hs232 (8, 0) (by decide)).trans fk222
  have fk240 : st229 (9, 0) = .inl (X.2.1 6, 6, .inr (.inr (.inr (.inr (fun _ => none))))) := (hs232 (9, 0) (by decide)).trans fk223
  have fk241 : st229 (10, 0) = .inl (X.2.1 7, 4, .inr (.inr (.inr (.inr (fun _ => none))))) := (hs232 (10, 0) (by decide)).trans fk224
  have fk242 : st229 (11, 0) = .inr (2, [.int 0, .ref (X.2.2 30), .int 0]) := (hs232 (11, 0) (by decide)).trans fk225
  have fk243 : st229 (11, 1) = .inr (2, [.int 0, .ref (X.2.2 30), .int 0]) := (hs232 (11, 1) (by decide)).trans fk226
  have fk244 : st229 (1, 0) = .inr (10, [.ref (ad228 (2, 0)), .ref (ad228 (5, 0)), .ref (ad228 (9, 0)), .ref (ad228 (10, 0)), .ref (ad228 (11, 0)), .ref (ad228 (11, 1)), .int 0]) := ((hs232 (1, 0) (by decide)).trans fk214).trans (by rw [ha230 (2, 0) (by decide), ha230 (5, 0) (by decide), ha230 (9, 0) (by decide), ha230 (10, 0) (by decide), ha230 (11, 0) (by decide), ha230 (11, 1) (by decide)])
  have af245 : ∀ x : ro, x ≠ (2, 0) → x ≠ (3, 0) → x ≠ (4, 0) → x ≠ (5, 0) → x ≠ (6, 0) → x ≠ (7, 0) → x ≠ (8, 0) → x ≠ (9, 0) → x ≠ (10, 0) → x ≠ (11, 0) → x ≠ (11, 1) → x ≠ (20, 0) → ad228 x = ad x := fun x a0 a1 a2 a3 a4 a5 a6 a7 a8 a9 a10 a11 => (ha230 x a11).trans (af180 x a0 a1 a2 a3 a4 a5 a6 a7 a8 a9 a10)
  have sf246 : ∀ x : ro, x ≠ (2, 0) → x ≠ (3, 0) → x ≠ (4, 0) → x ≠ (1, 0) → x ≠ (5, 0) → x ≠ (6, 0) → x ≠ (7, 0) → x ≠ (8, 0) → x ≠ (9, 0) → x ≠ (10, 0) → x ≠ (11, 0) → x ≠ (11, 1) → x ≠ (20, 0) → st229 x = st x := fun x a0 a1 a2 a3 a4 a5 a6 a7 a8 a9 a10 a11 a12 => (hs232 x a12).trans (sf227 x a0 a1 a2 a3 a4 a5 a6 a7 a8 a9 a10 a11)
  clear fk216 fk217 fk218 fk219 fk220 fk221 fk222 fk223 fk224 fk225 fk226 fk214 af180 sf227
  refine lv_dup hx hb dX7_init_86 rfl ?_
  refine g_callINv (k2 := 0) (As := []) (rest := [.ref (ad228 (20, 0)), .int 0, .ref (ad228 (9, 0))]) C (c_X5_init l X ([(1, 0)] ++ [(2, 0)] ++ [(3, 0)] ++ [(4, 0)] ++ [(5, 0)] ++ [(6, 0)] ++ [(7, 0)] ++ [(8, 0)] ++ [(9, 0)] ++ [(10, 0)] ++ [(11, 0)] ++ [(11, 1)] ++ [(20, 0)]) ad228 st229 0 (List.mem_append_right _ (List.mem_singleton.mpr rfl)) (nmem_app (nmem_app (nmem_app (nmem_app (nmem_app (nmem_app (nmem_app (nmem_app (nmem_app (nmem_app (nmem_app (nmem_app (by decide) (by decide)) (by decide)) (by decide)) (by decide)) (by decide)) (by decide)) (by decide)) (by decide)) (by decide)) (by decide)) (by decide)) (by decide)) fk231) ((g_gt C).2.1 ("RateGate", 49, ⟨"RateGate$Shipper", "<init>", "()V"⟩, "RateGate") (by decide +kernel)) tw_1_126 tw_1_7 tw_1_127 (by decide +kernel) ⟨by rw [hR1]; exact Nat.le_of_ble_eq_true rfl, by rw [hR2]; exact Nat.le_of_ble_eq_true rfl⟩ hW hS rfl hl.1 rfl (Nat.le_of_ble_eq_true rfl) dX7_init_87 ⟨by rw [hR3]; exact Nat.le_of_ble_eq_true rfl, by rw [hR4]; exact Nat.le_of_ble_eq_true rfl⟩ (fun  L9 ad247 st248 H locs hp hW hS => ?_)
  obtain ⟨adq, stq, z0, ha249, hs250, fk251, fk252⟩ := hp
  cases z0
  have hl : lv_has ls 2 [(1, .int 0), (0, .ref (ad247 (1, 0)))] := by rw [ha249 (1, 0) (by decide)]; exact hl
  refine W.eq (g2 := F0 m 90 ls [.ref (ad247 (20, 0)), .int 0, .ref (ad247 (9, 0))]) (by rw [ha249 (20, 0) (by decide), ha249 (9, 0) (by decide)] <;> rfl) ?_
  have fk253 : st248 (2, 0) = .inr (7, [.ref (ad247 (3, 0)), .ref (ad247 (4, 0)), .int 0, .ref (X.2.2 0), .int 32]) := ((hs250 (2, 0) (by decide) (by decide)).trans fk233).trans (by rw [ha249 (3, 0) (by decide), ha249 (4, 0) (by decide)])
  have fk254 : st248 (3, 0) = .inl (X.2.1 1, 60, .inl (fun _ => 0)) := (hs250 (3, 0) (by decide) (by decide)).trans fk234
  have fk255 : st248 (4, 0) = .inl (X.2.1 2, 6, .inl (fun _ => 0)) := (hs250 (4, 0) (by decide) (by decide)).trans fk235
  have fk256 : st248 (5, 0) = .inr (3, [.int 0, .ref (ad247 (6, 0)), .ref (ad247 (7, 0)), .ref (ad247 (8, 0)), .int 0, .int 0]) := ((hs250 (5, 0) (by decide) (by decide)).trans fk236).trans (by rw [ha249 (6, 0) (by decide), ha249 (7, 0) (by decide), ha249 (8, 0) (by decide)])
  have fk257 : st248 (6, 0) = .inl (X.2.1 2, 512, .inl (fun _ => 0)) := (hs250 (6, 0) (by decide) (by decide)).trans fk237
  have fk258 : st248 (7, 0) = .inl (X.2.1 2, 512, .inl (fun _ => 0)) := (hs250 (7, 0) (by decide) (by decide)).trans fk238
  have fk259 : st248 (8, 0) = .inl (X.2.1 3, 512, .inl (fun _ => 0)) := (hs250 (8, 0) (by decide) (by decide)).trans fk239
  have fk260 : st248 (9, 0) = .inl (X.2.1 6, 6, .inr (.inr (.inr (.inr (fun _ => none))))) := (hs250 (9, 0) (by decide) (by decide)).trans fk240
  have fk261 : st248 (10, 0) = .inl (X.2.1 7, 4, .inr (.inr (.inr (.inr (fun _ => none))))) := (hs250 (10, 0) (by decide) (by decide)).trans fk241
  have fk262 : st248 (11, 0) = .inr (2, [.int 0, .ref (X.2.2 30), .int 0]) := (hs250 (11, 0) (by decide) (by decide)).trans fk242
  have fk263 : st248 (11, 1) = .inr (2, [.int 0, .ref (X.2.2 30), .int 0]) := (hs250 (11, 1) (by decide) (by decide)).trans fk243
  have fk264 : st248 (1, 0) = .inr (10, [.ref (ad247 (2, 0)), .ref (ad247 (5, 0)), .ref (ad247 (9, 0)), .ref (ad247 (10, 0)), .ref (ad247 (11, 0)), .ref (ad247 (11, 1)), .int 0]) := ((hs250 (1, 0) (by decide) (by decide)).trans fk244).trans (by rw [ha249 (2, 0) (by decide), ha249 (5, 0) (by decide), ha249 (9, 0) (by decide), ha249 (10, 0) (by decide), ha249 (11, 0) (by decide), ha249 (11, 1) (by decide)])
  have af265 : ∀ x : ro, x ≠ (2, 0) → x ≠ (3, 0) → x ≠ (4, 0) → x ≠ (5, 0) → x ≠ (6, 0) → x ≠ (7, 0) → x ≠ (8, 0) → x ≠ (9, 0) → x ≠ (10, 0) → x ≠ (11, 0) → x ≠ (11, 1) → x ≠ (20, 0) → x ≠ (21, 0) → ad247 x = ad x := fun x a0 a1 a2 a3 a4 a5 a6 a7 a8 a9 a10 a11 a12 => (ha249 x a12).trans (af245 x a0 a1 a2 a3 a4 a5 a6 a7 a8 a9 a10 a11)
  have sf266 : ∀ x : ro, x ≠ (2, 0) → x ≠ (3, 0) → x ≠ (4, 0) → x ≠ (1, 0) → x ≠ (5, 0) → x ≠ (6, 0) → x ≠ (7, 0) → x ≠ (8, 0) → x ≠ (9, 0) → x ≠ (10, 0) → x ≠ (11, 0) → x ≠ (11, 1) → x ≠ (20, 0) → x ≠ (21, 0) → st248 x = st x := fun x a0 a1 a2 a3 a4 a5 a6 a7 a8 a9 a10 a11 a12 a13 => (hs250 x a12 a13).trans (sf246 x a0 a1 a2 a3 a4 a5 a6 a7 a8 a9 a10 a11 a12)
  clear fk233 fk234 fk235 fk236 fk237 fk238 fk239 fk240 fk241 fk242 fk243 fk244 fk231 af245 sf246
  refine g_astq (r := (9, 0)) (t0 := 6) C hW hS (List.mem_append_left _ (List.mem_append_left _ (List.mem_append_left _ (List.mem_append_left _ (List.mem_append_left _ (List.mem_append_right _ (List.mem_singleton.mpr rfl))))))) fk260 rfl (g_anyS (Cn := RX5) (T := TX5) (N := 7) C hW (List.mem_append_left _ (List.mem_append_right _ (List.mem_singleton.mpr rfl))) fk251 rfl) (vp_in_nI (n := 0) (N := 6) (by decide) (by decide)) dX7_init_90 (fun st267 H locs fk268 hs269 hW hS => ?_)
  rw [show (0 : Int32).toNatClampNeg = 0 from by decide] at fk268
  have fk270 : st267 (2, 0) = .inr (7, [.ref (ad247 (3, 0)), .ref (ad247 (4, 0)), .int 0, .ref (X.2.2 0), .int 32]) := (hs269 (2, 0) (by decide)).trans fk253
  have fk271 : st267 (3, 0) = .inl (X.2.1 1, 60, .inl (fun _ => 0)) := (hs269 (3, 0) (by decide)).trans fk254
  have fk272 : st267 (4, 0) = .inl (X.2.1 2, 6, .inl (fun _ => 0)) := (hs269 (4, 0) (by decide)).trans fk255
  have fk273 : st267 (5, 0) = .inr (3, [.int 0, .ref (ad247 (6, 0)), .ref (ad247 (7, 0)), .ref (ad247 (8, 0)), .int 0, .int 0]) := (hs269 (5, 0) (by decide)).trans fk256
  have fk274 : st267 (6, 0) = .inl (X.2.1 2, 512, .inl (fun _ => 0)) := (hs269 (6, 0) (by decide)).trans fk257
  have fk275 : st267 (7, 0) = .inl (X.2.1 2, 512, .inl (fun _ => 0)) := (hs269 (7, 0) (by decide)).trans fk258
  have fk276 : st267 (8, 0) = .inl (X.2.1 3, 512, .inl (fun _ => 0)) := (hs269 (8, 0) (by decide)).trans fk259
  have fk277 : st267 (10, 0) = .inl (X.2.1 7, 4, .inr (.inr (.inr (.inr (fun _ => none))))) := (hs269 (10, 0) (by decide)).trans fk261
  have fk278 : st267 (11, 0) = .inr (2, [.int 0, .ref (X.2.2 30), .int 0]) := (hs269 (11, 0) (by decide)).trans fk262
  have fk279 : st267 (11, 1) = .inr (2, [.int 0, .ref (X.2.2 30), .int 0]) := (hs269 (11, 1) (by decide)).trans fk263
  have fk280 : st267 (1, 0) = .inr (10, [.ref (ad247 (2, 0)), .ref (ad247 (5, 0)), .ref (ad247 (9, 0)), .ref (ad247 (10, 0)), .ref (ad247 (11, 0)), .ref (ad247 (11, 1)), .int 0]) := (hs269 (1, 0) (by decide)).trans fk264
  have fk281 : st267 (20, 0) = .inr (8, [.int 10, .int 60, .int 0, .int 0, .ref (ad247 (21, 0)), .int 0, .int 0]) := (hs269 (20, 0) (by decide)).trans fk251
  have fk282 : st267 (21, 0) = .inl (X.2.1 2, 50, .inl (fun _ => 0)) := (hs269 (21, 0) (by decide)).trans fk252
  have sf283 : ∀ x : ro, x ≠ (2, 0) → x ≠ (3, 0) → x ≠ (4, 0) → x ≠ (1, 0) → x ≠ (5, 0) → x ≠ (6, 0) → x ≠ (7, 0) → x ≠ (8, 0) → x ≠ (9, 0) → x ≠ (10, 0) → x ≠ (11, 0) → x ≠ (11, 1) → x ≠ (20, 0) → x ≠ (21, 0) → st267 x = st x := fun x a0 a1 a2 a3 a4 a5 a6 a7 a8 a9 a10 a11 a12 a13 => (hs269 x a8).trans (sf266 x a0 a1 a2 a3 a4 a5 a6 a7 a8 a9 a10 a11 a12 a13)
  clear fk253 fk254 fk255 fk256 fk257 fk258 fk259 fk260 fk261 fk262 fk263 fk264 fk251 fk252 sf266
  refine lv_iinc (v := 1) (lv' := [(1, .int 1), (0, .ref (ad247 (1, 0)))]) hx hb dX7_init_91 hl (k := 0) rfl (by decide) (by decide) rfl (fun ls hl => ?_)
  refine lv_goto (tgt := 72) hx hb dX7_init_94 (by decide) ?_
  refine lv_iload_n hx hb dX7_init_72 rfl (lv_at hl 0 rfl) ?_
  refine lv_bipush (v := 6) hx hb dX7_init_73 (by decide) ?_
  refine lv_icmp_ge (tgt := 97) hx hb dX7_init_75 (by decide) (fun c9 => absurd c9 (by decide)) (fun _ => ?_)
  refine lv_aload_n hx hb dX7_init_78 rfl (lv_at hl 1 rfl) ?_
  refine g_get (r := (1, 0)) (Cn := RX7) (T := TX7) (N := 7) (ci := 10) (v := .ref (ad247 (9, 0))) C tinX7 hW (List.mem_append_left _ (List.mem_append_left _ (List.mem_append_left _ (List.mem_append_left _ (List.mem_append_left _ (List.mem_append_left _ (List.mem_append_left _ (List.mem_append_left _ (List.mem_append_left _ (List.mem_append_left _ (List.mem_append_left _ (List.mem_append_left _ (List.mem_append_left _ (List.mem_singleton.mpr rfl)))))))))))))) fk280 rfl 2 (by decide) tw_1_208 (fun _ h9 => h9) rfl dX7_init_79 ?_
  refine lv_iload_n hx hb dX7_init_82 rfl (lv_at hl 0 rfl) ?_
  refine g_newo (r := (20, 1)) (Cn := RX5) (T := TX5) (N := 7) (ci := 8) (ty0 := tyX5) (fs := [.int 0, .int 0, .int 0, .int 0, .null, .int 0, .int 0]) C tinX5 tyX5_ok hW hS (nmem_app (nmem_app (nmem_app (nmem_app (nmem_app (nmem_app (nmem_app (nmem_app (nmem_app (nmem_app (nmem_app (nmem_app (nmem_app (by decide) (by decide)) (by decide)) (by decide)) (by decide)) (by decide)) (by decide)) (by decide)) (by decide)) (by decide)) (by decide)) (by decide)) (by decide)) (by decide)) rfl tw_1_94 tw_1_124 tw_1_7 (by intro j hj; rcases (show j = 0 ∨ j = 1 ∨ j = 2 ∨ j = 3 ∨ j = 4 ∨ j = 5 ∨ j = 6 by omega) with rfl | rfl | rfl | rfl | rfl | rfl | rfl <;> rfl) (by rw [hR3]; exact Nat.le_of_ble_eq_true rfl) (by rw [hR4]; exact Nat.le_of_ble_eq_true rfl) dX7_init_83 (fun ad285 st286 H ha287 fk288 hs289 hW hS => ?_)
  have hl : lv_has ls 2 [(1, .int 1), (0, .ref (ad285 (1, 0)))] := by rw [ha287 (1, 0) (by decide)]; exact hl
  refine W.eq (g2 := F0 m 86 ls [.ref (ad285 (20, 1)), .int 1, .ref (ad285 (9, 0))]) (by rw [ha287 (9, 0) (by decide)] <;> rfl) ?_
  have fk290 : st286 (2, 0) = .inr (7, [.ref (ad285 (3, 0)), .ref (ad285 (4, 0)), .int 0, .ref (X.2.2 0), .int 32]) := ((hs289 (2, 0) (by decide)).trans fk270).trans (by rw [ha287 (3, 0) (by decide), ha287 (4, 0) (by decide)])
  have fk291 : st286 (3, 0) = .inl (X.2.1 1, 60, .inl (fun _ => 0)) := (hs289 (3, 0) (by decide)).trans fk271
  have fk292 : st286 (4, 0) = .inl (X.2.1 2, 6, .inl (fun _ => 0)) := (hs289 (4, 0) (by decide)).trans fk272
  have fk293 : st286 (5, 0) = .inr (3, [.int 0, .ref (ad285 (6, 0)), .ref (ad285 (7, 0)), .ref (ad285 (8, 0)), .int 0, .int 0]) := ((hs289 (5, 0) (by decide)).trans fk273).trans (by rw [ha287 (6, 0) (by decide), ha287 (7, 0) (by decide), ha287 (8, 0) (by decide)])
  have fk294 : st286 (6, 0) = .inl (X.2.1 2, 512, .inl (fun _ => 0)) := (hs289 (6, 0) (by decide)).trans fk274
  have fk295 : st286 (7, 0) = .inl (X.2.1 2, 512, .inl (fun _ => 0)) := (hs289 (7, 0) (by decide)).trans fk275
  have fk296 : st286 (8, 0) = .inl (X.2.1 3, 512, .inl (fun _ => 0)) := (hs289 (8, 0) (by decide)).trans fk276
  have fk297 : st286 (10, 0) = .inl (X.2.1 7, 4, .inr (.inr (.inr (.inr (fun _ => none))))) := (hs289 (10, 0) (by decide)).trans fk277
  have fk298 : st286 (11, 0) = .inr (2, [.int 0, .ref (X.2.2 30), .int 0]) := (hs289 (11, 0) (by decide)).trans fk278
  have fk299 : st286 (11, 1) = .inr (2, [.int 0, .ref (X.2.2 30), .int 0]) := (hs289 (11, 1) (by decide)).trans fk279
  have fk300 : st286 (1, 0) = .inr (10, [.ref (ad285 (2, 0)), .ref (ad285 (5, 0)), .ref (ad285 (9, 0)), .ref (ad285 (10, 0)), .ref (ad285 (11, 0)), .ref (ad285 (11, 1)), .int 0]) := ((hs289 (1, 0) (by decide)).trans fk280).trans (by rw [ha287 (2, 0) (by decide), ha287 (5, 0) (by decide), ha287 (9, 0) (by decide), ha287 (10, 0) (by decide), ha287 (11, 0) (by decide), ha287 (11, 1) (by decide)])
  have fk301 : st286 (20, 0) = .inr (8, [.int 10, .int 60, .int 0, .int 0, .ref (ad285 (21, 0)), .int 0, .int 0]) := ((hs289 (20, 0) (by decide)).trans fk281).trans (by rw [ha287 (21, 0) (by decide)])
  have fk302 : st286 (21, 0) = .inl (X.2.1 2, 50, .inl (fun _ => 0)) := (hs289 (21, 0) (by decide)).trans fk282
  have af303 : ∀ x : ro, x ≠ (2, 0) → x ≠ (3, 0) → x ≠ (4, 0) → x ≠ (5, 0) → x ≠ (6, 0) → x ≠ (7, 0) → x ≠ (8, 0) → x ≠ (9, 0) → x ≠ (10, 0) → x ≠ (11, 0) → x ≠ (11, 1) → x ≠ (20, 0) → x ≠ (21, 0) → x ≠ (20, 1) → ad285 x = ad x := fun x a0 a1 a2 a3 a4 a5 a6 a7 a8 a9 a10 a11 a12 a13 => (ha287 x a13).trans (af265 x a0 a1 a2 a3 a4 a5 a6 a7 a8 a9 a10 a11 a12)
  have sf304 : ∀ x : ro, x ≠ (2, 0) → x ≠ (3, 0) → x ≠ (4, 0) → x ≠ (1, 0) → x ≠ (5, 0) → x ≠ (6, 0) → x ≠ (7, 0) → x ≠ (8, 0) → x ≠ (9, 0) → x ≠ (10, 0) → x ≠ (11, 0) → x ≠ (11, 1) → x ≠ (20, 0) → x ≠ (21, 0) → x ≠ (20, 1) → st286 x = st x := fun x a0 a1 a2 a3 a4 a5 a6 a7 a8 a9 a10 a11 a12 a13 a14 => (hs289 x a14).trans (sf283 x a0 a1 a2 a3 a4 a5 a6 a7 a8 a9 a10 a11 a12 a13)
  have fk305 : st286 (9, 0) = .inl (X.2.1 6, 6, .inr (.inr (.inr (.inr (va_up (fun _ => none) 0 (some (ad285 (20, 0)))))))) := ((hs289 (9, 0) (by decide)).trans fk268).trans (by rw [ha287 (20, 0) (by decide)])
  clear fk270 fk271 fk272 fk273 fk274 fk275 fk276 fk277 fk278 fk279 fk280 fk281 fk282 fk268 af265 sf283
  refine lv_dup hx hb dX7_init_86 rfl ?_
  refine g_callINv (k2 := 0) (As := []) (rest := [.ref (ad285 (20, 1)), .int 1, .ref (ad285 (9, 0))]) C (c_X5_init l X ([(1, 0)] ++ [(2, 0)] ++ [(3, 0)] ++ [(4, 0)] ++ [(5, 0)] ++ [(6, 0)] ++ [(7, 0)] ++ [(8, 0)] ++ [(9, 0)] ++ [(10, 0)] ++ [(11, 0)] ++ [(11, 1)] ++ [(20, 0)] ++ [(21, 0)] ++ [(20, 1)]) ad285 st286 1 (List.mem_append_right _ (List.mem_singleton.mpr rfl)) (nmem_app (nmem_app (nmem_app (nmem_app (nmem_app (nmem_app (nmem_app (nmem_app (nmem_app (nmem_app (nmem_app (nmem_app (nmem_app (nmem_app (by decide) (by decide)) (by decide)) (by decide)) (by decide)) (by decide)) (by decide)) (by decide)) (by decide)) (by decide)) (by decide)) (by decide)) (by decide)) (by decide)) (by decide)) fk288) ((g_gt C).2.1 ("RateGate", 49, ⟨"RateGate$Shipper", "<init>", "()V"⟩, "RateGate") (by decide +kernel)) tw_1_126 tw_1_7 tw_1_127 (by decide +kernel) ⟨by rw [hR1]; exact Nat.le_of_ble_eq_true rfl, by rw [hR2]; exact Nat.le_of_ble_eq_true rfl⟩ hW hS rfl hl.1 rfl (Nat.le_of_ble_eq_true rfl) dX7_init_87 ⟨by rw [hR3]; exact Nat.le_of_ble_eq_true rfl, by rw [hR4]; exact Nat.le_of_ble_eq_true rfl⟩ (fun  L9 ad306 st307 H locs hp hW hS => ?_)
  obtain ⟨adq, stq, z0, ha308, hs309, fk310, fk311⟩ := hp
  cases z0
  have hl : lv_has ls 2 [(1, .int 1), (0, .ref (ad306 (1, 0)))] := by rw [ha308 (1, 0) (by decide)]; exact hl
  refine W.eq (g2 := F0 m 90 ls [.ref (ad306 (20, 1)), .int 1, .ref (ad306 (9, 0))]) (by rw [ha308 (20, 1) (by decide), ha308 (9, 0) (by decide)] <;> rfl) ?_
  have fk312 : st307 (2, 0) = .inr (7, [.ref (ad306 (3, 0)), .ref (ad306 (4, 0)), .int 0, .ref (X.2.2 0), .int 32]) := ((hs309 (2, 0) (by decide) (by decide)).trans fk290).trans (by rw [ha308 (3, 0) (by decide), ha308 (4, 0) (by decide)])
  have fk313 : st307 (3, 0) = .inl (X.2.1 1, 60, .inl (fun _ => 0)) := (hs309 (3, 0) (by decide) (by decide)).trans fk291
  have fk314 : st307 (4, 0) = .inl (X.2.1 2, 6, .inl (fun _ => 0)) := (hs309 (4, 0) (by decide) (by decide)).trans fk292
  have fk315 : st307 (5, 0) = .inr (3, [.int 0, .ref (ad306 (6, 0)), .ref (ad306 (7, 0)), .ref (ad306 (8, 0)), .int 0, .int 0]) := ((hs309 (5, 0) (by decide) (by decide)).trans fk293).trans (by rw [ha308 (6, 0) (by decide), ha308 (7, 0) (by decide), ha308 (8, 0) (by decide)])
  have fk316 : st307 (6, 0) = .inl (X.2.1 2, 512, .inl (fun _ => 0)) := (hs309 (6, 0) (by decide) (by decide)).trans fk294
  have fk317 : st307 (7, 0) = .inl (X.2.1 2, 512, .inl (fun _ => 0)) := (hs309 (7, 0) (by decide) (by decide)).trans fk295
  have fk318 : st307 (8, 0) = .inl (X.2.1 3, 512, .inl (fun _ => 0)) := (hs309 (8, 0) (by decide) (by decide)).trans fk296
  have fk319 : st307 (10, 0) = .inl (X.2.1 7, 4, .inr (.inr (.inr (.inr (fun _ => none))))) := (hs309 (10, 0) (by decide) (by decide)).trans fk297
  have fk320 : st307 (11, 0) = .inr (2, [.int 0, .ref (X.2.2 30), .int 0]) := (hs309 (11, 0) (by decide) (by decide)).trans fk298
  have fk321 : st307 (11, 1) = .inr (2, [.int 0, .ref (X.2.2 30), .int 0]) := (hs309 (11, 1) (by decide) (by decide)).trans fk299
  have fk322 : st307 (1, 0) = .inr (10, [.ref (ad306 (2, 0)), .ref (ad306 (5, 0)), .ref (ad306 (9, 0)), .ref (ad306 (10, 0)), .ref (ad306 (11, 0)), .ref (ad306 (11, 1)), .int 0]) := ((hs309 (1, 0) (by decide) (by decide)).trans fk300).trans (by rw [ha308 (2, 0) (by decide), ha308 (5, 0) (by decide), ha308 (9, 0) (by decide), ha308 (10, 0) (by decide), ha308 (11, 0) (by decide), ha308 (11, 1) (by decide)])
  have fk323 : st307 (20, 0) = .inr (8, [.int 10, .int 60, .int 0, .int 0, .ref (ad306 (21, 0)), .int 0, .int 0]) := ((hs309 (20, 0) (by decide) (by decide)).trans fk301).trans (by rw [ha308 (21, 0) (by decide)])
  have fk324 : st307 (21, 0) = .inl (X.2.1 2, 50, .inl (fun _ => 0)) := (hs309 (21, 0) (by decide) (by decide)).trans fk302
  have af325 : ∀ x : ro, x ≠ (2, 0) → x ≠ (3, 0) → x ≠ (4, 0) → x ≠ (5, 0) → x ≠ (6, 0) → x ≠ (7, 0) → x ≠ (8, 0) → x ≠ (9, 0) → x ≠ (10, 0) → x ≠ (11, 0) → x ≠ (11, 1) → x ≠ (20, 0) → x ≠ (21, 0) → x ≠ (20, 1) → x ≠ (21, 1) → ad306 x = ad x := fun x a0 a1 a2 a3 a4 a5 a6 a7 a8 a9 a10 a11 a12 a13 a14 => (ha308 x a14).trans (af303 x a0 a1 a2 a3 a4 a5 a6 a7 a8 a9 a10 a11 a12 a13)
  have sf326 : ∀ x : ro, x ≠ (2, 0) → x ≠ (3, 0) → x ≠ (4, 0) → x ≠ (1, 0) → x ≠ (5, 0) → x ≠ (6, 0) → x ≠ (7, 0) → x ≠ (8, 0) → x ≠ (9, 0) → x ≠ (10, 0) → x ≠ (11, 0) → x ≠ (11, 1) → x ≠ (20, 0) → x ≠ (21, 0) → x ≠ (20, 1) → x ≠ (21, 1) → st307 x = st x := fun x a0 a1 a2 a3 a4 a5 a6 a7 a8 a9 a10 a11 a12 a13 a14 a15 => (hs309 x a14 a15).trans (sf304 x a0 a1 a2 a3 a4 a5 a6 a7 a8 a9 a10 a11 a12 a13 a14)
  have fk327 : st307 (9, 0) = .inl (X.2.1 6, 6, .inr (.inr (.inr (.inr (va_up (fun _ => none) 0 (some (ad306 (20, 0)))))))) := ((hs309 (9, 0) (by decide) (by decide)).trans fk305).trans (by rw [ha308 (20, 0) (by decide)])
  clear fk290 fk291 fk292 fk293 fk294 fk295 fk296 fk297 fk298 fk299 fk300 fk301 fk302 fk288 fk305 af303 sf304
  refine g_astq (r := (9, 0)) (t0 := 6) C hW hS (List.mem_append_left _ (List.mem_append_left _ (List.mem_append_left _ (List.mem_append_left _ (List.mem_append_left _ (List.mem_append_left _ (List.mem_append_left _ (List.mem_append_right _ (List.mem_singleton.mpr rfl))))))))) fk327 rfl (g_anyS (Cn := RX5) (T := TX5) (N := 7) C hW (List.mem_append_left _ (List.mem_append_right _ (List.mem_singleton.mpr rfl))) fk310 rfl) (vp_in_nI (n := 1) (N := 6) (by decide) (by decide)) dX7_init_90 (fun st328 H locs fk329 hs330 hW hS => ?_)
  rw [show (1 : Int32).toNatClampNeg = 1 from by decide] at fk329
  have fk331 : st328 (2, 0) = .inr (7, [.ref (ad306 (3, 0)), .ref (ad306 (4, 0)), .int 0, .ref (X.2.2 0), .int 32]) := (hs330 (2, 0) (by decide)).trans fk312
  have fk332 : st328 (3, 0) = .inl (X.2.1 1, 60, .inl (fun _ => 0)) := (hs330 (3, 0) (by decide)).trans fk313
  have fk333 : st328 (4, 0) = .inl (X.2.1 2, 6, .inl (fun _ => 0)) := (hs330 (4, 0) (by decide)).trans fk314
  have fk334 : st328 (5, 0) = .inr (3, [.int 0, .ref (ad306 (6, 0)), .ref (ad306 (7, 0)), .ref (ad306 (8, 0)), .int 0, .int 0]) := (hs330 (5, 0) (by decide)).trans fk315
  have fk335 : st328 (6, 0) = .inl (X.2.1 2, 512, .inl (fun _ => 0)) := (hs330 (6, 0) (by decide)).trans fk316
  have fk336 : st328 (7, 0) = .inl (X.2.1 2, 512, .inl (fun _ => 0)) := (hs330 (7, 0) (by decide)).trans fk317
  have fk337 : st328 (8, 0) = .inl (X.2.1 3, 512, .inl (fun _ => 0)) := (hs330 (8, 0) (by decide)).trans fk318
  have fk338 : st328 (10, 0) = .inl (X.2.1 7, 4, .inr (.inr (.inr (.inr (fun _ => none))))) := (hs330 (10, 0) (by decide)).trans fk319
  have fk339 : st328 (11, 0) = .inr (2, [.int 0, .ref (X.2.2 30), .int 0]) := (hs330 (11, 0) (by decide)).trans fk320
  have fk340 : st328 (11, 1) = .inr (2, [.int 0, .ref (X.2.2 30), .int 0]) := (hs330 (11, 1) (by decide)).trans fk321
  have fk341 : st328 (1, 0) = .inr (10, [.ref (ad306 (2, 0)), .ref (ad306 (5, 0)), .ref (ad306 (9, 0)), .ref (ad306 (10, 0)), .ref (ad306 (11, 0)), .ref (ad306 (11, 1)), .int 0]) := (hs330 (1, 0) (by decide)).trans fk322
  have fk342 : st328 (20, 0) = .inr (8, [.int 10, .int 60, .int 0, .int 0, .ref (ad306 (21, 0)), .int 0, .int 0]) := (hs330 (20, 0) (by decide)).trans fk323
  have fk343 : st328 (21, 0) = .inl (X.2.1 2, 50, .inl (fun _ => 0)) := (hs330 (21, 0) (by decide)).trans fk324
  have fk344 : st328 (20, 1) = .inr (8, [.int 10, .int 60, .int 0, .int 0, .ref (ad306 (21, 1)), .int 0, .int 0]) := (hs330 (20, 1) (by decide)).trans fk310
  have fk345 : st328 (21, 1) = .inl (X.2.1 2, 50, .inl (fun _ => 0)) := (hs330 (21, 1) (by decide)).trans fk311
  have sf346 : ∀ x : ro, x ≠ (2, 0) → x ≠ (3, 0) → x ≠ (4, 0) → x ≠ (1, 0) → x ≠ (5, 0) → x ≠ (6, 0) → x ≠ (7, 0) → x ≠ (8, 0) → x ≠ (9, 0) → x ≠ (10, 0) → x ≠ (11, 0) → x ≠ (11, 1) → x ≠ (20, 0) → x ≠ (21, 0) → x ≠ (20, 1) → x ≠ (21, 1) → st328 x = st x := fun x a0 a1 a2 a3 a4 a5 a6 a7 a8 a9 a10 a11 a12 a13 a14 a15 => (hs330 x a8).trans (sf326 x a0 a1 a2 a3 a4 a5 a6 a7 a8 a9 a10 a11 a12 a13 a14 a15)
  clear fk312 fk313 fk314 fk315 fk316 fk317 fk318 fk319 fk320 fk321 fk322 fk323 fk324 fk310 fk311 fk327 sf326
  refine lv_iinc (v := 2) (lv' := [(1, .int 2), (0, .ref (ad306 (1, 0)))]) hx hb dX7_init_91 hl (k := 0) rfl (by decide) (by decide) rfl (fun ls hl => ?_)
  refine lv_goto (tgt := 72) hx hb dX7_init_94 (by decide) ?_
  refine lv_iload_n hx hb dX7_init_72 rfl (lv_at hl 0 rfl) ?_
  refine lv_bipush (v := 6) hx hb dX7_init_73 (by decide) ?_
  refine lv_icmp_ge (tgt := 97) hx hb dX7_init_75 (by decide) (fun c9 => absurd c9 (by decide)) (fun _ => ?_)
  refine lv_aload_n hx hb dX7_init_78 rfl (lv_at hl 1 rfl) ?_
  refine g_get (r := (1, 0)) (Cn := RX7) (T := TX7) (N := 7) (ci := 10) (v := .ref (ad306 (9, 0))) C tinX7 hW (List.mem_append_left _ (List.mem_append_left _ (List.mem_append_left _ (List.mem_append_left _ (List.mem_append_left _ (List.mem_append_left _ (List.mem_append_left _ (List.mem_append_left _ (List.mem_append_left _ (List.mem_append_left _ (List.mem_append_left _ (List.mem_append_left _ (List.mem_append_left _ (List.mem_append_left _ (List.mem_append_left _ (List.mem_singleton.mpr rfl)))))))))))))))) fk341 rfl 2 (by decide) tw_1_208 (fun _ h9 => h9) rfl dX7_init_79 ?_
  refine lv_iload_n hx hb dX7_init_82 rfl (lv_at hl 0 rfl) ?_
  refine g_newo (r := (20, 2)) (Cn := RX5) (T := TX5) (N := 7) (ci := 8) (ty0 := tyX5) (fs := [.int 0, .int 0, .int 0, .int 0, .null, .int 0, .int 0]) C tinX5 tyX5_ok hW hS (nmem_app (nmem_app (nmem_app (nmem_app (nmem_app (nmem_app (nmem_app (nmem_app (nmem_app (nmem_app (nmem_app (nmem_app (nmem_app (nmem_app (nmem_app (by decide) (by decide)) (by decide)) (by decide)) (by decide)) (by decide)) (by decide)) (by decide)) (by decide)) (by decide)) (by decide)) (by decide)) (by decide)) (by decide)) (by decide)) (by decide)) rfl tw_1_94 tw_1_124 tw_1_7 (by intro j hj; rcases (show j = 0 ∨ j = 1 ∨ j = 2 ∨ j = 3 ∨ j = 4 ∨ j = 5 ∨ j = 6 by omega) with rfl | rfl | rfl | rfl | rfl | rfl | rfl <;> rfl) (by rw [hR3]; exact Nat.le_of_ble_eq_true rfl) (by rw [hR4]; exact Nat.le_of_ble_eq_true rfl) dX7_init_83 (fun ad348 st349 H ha350 fk351 hs352 hW hS => ?_)
  have hl : lv_has ls 2 [(1, .int 2), (0, .ref (ad348 (1, 0)))] := by rw [ha350 (1, 0) (by decide)]; exact hl
  refine W.eq (g2 := F0 m 86 ls [.ref (ad348 (20, 2)), .int 2, .ref (ad348 (9, 0))]) (by rw [ha350 (9, 0) (by decide)] <;> rfl) ?_
  have fk353 : st349 (2, 0) = .inr (7, [.ref (ad348 (3, 0)), .ref (ad348 (4, 0)), .int 0, .ref (X.2.2 0), .int 32]) := ((hs352 (2, 0) (by decide)).trans fk331).trans (by rw [ha350 (3, 0) (by decide), ha350 (4, 0) (by decide)])
  have fk354 : st349 (3, 0) = .inl (X.2.1 1, 60, .inl (fun _ => 0)) := (hs352 (3, 0) (by decide)).trans fk332
  have fk355 : st349 (4, 0) = .inl (X.2.1 2, 6, .inl (fun _ => 0)) := (hs352 (4, 0) (by decide)).trans fk333
  have fk356 : st349 (5, 0) = .inr (3, [.int 0, .ref (ad348 (6, 0)), .ref (ad348 (7, 0)), .ref (ad348 (8, 0)), .int 0, .int 0]) := ((hs352 (5, 0) (by decide)).trans fk334).trans (by rw [ha350 (6, 0) (by decide), ha350 (7, 0) (by decide), ha350 (8, 0) (by decide)])
  have fk357 : st349 (6, 0) = .inl (X.2.1 2, 512, .inl (fun _ => 0)) := (hs352 (6, 0) (by decide)).trans fk335
  have fk358 : st349 (7, 0) = .inl (X.2.1 2, 512, .inl (fun _ => 0)) := (hs352 (7, 0) (by decide)).trans fk336
  have fk359 : st349 (8, 0) = .inl (X.2.1 3, 512, .inl (fun _ => 0)) := (hs352 (8, 0) (by decide)).trans fk337
  have fk360 : st349 (10, 0) = .inl (X.2.1 7, 4, .inr (.inr (.inr (.inr (fun _ => none))))) := (hs352 (10, 0) (by decide)).trans fk338
  have fk361 : st349 (11, 0) = .inr (2, [.int 0, .ref (X.2.2 30), .int 0]) := (hs352 (11, 0) (by decide)).trans fk339
  have fk362 : st349 (11, 1) = .inr (2, [.int 0, .ref (X.2.2 30), .int 0]) := (hs352 (11, 1) (by decide)).trans fk340
  have fk363 : st349 (1, 0) = .inr (10, [.ref (ad348 (2, 0)), .ref (ad348 (5, 0)), .ref (ad348 (9, 0)), .ref (ad348 (10, 0)), .ref (ad348 (11, 0)), .ref (ad348 (11, 1)), .int 0]) := ((hs352 (1, 0) (by decide)).trans fk341).trans (by rw [ha350 (2, 0) (by decide), ha350 (5, 0) (by decide), ha350 (9, 0) (by decide), ha350 (10, 0) (by decide), ha350 (11, 0) (by decide), ha350 (11, 1) (by decide)])
  have fk364 : st349 (20, 0) = .inr (8, [.int 10, .int 60, .int 0, .int 0, .ref (ad348 (21, 0)), .int 0, .int 0]) := ((hs352 (20, 0) (by decide)).trans fk342).trans (by rw [ha350 (21, 0) (by decide)])
  have fk365 : st349 (21, 0) = .inl (X.2.1 2, 50, .inl (fun _ => 0)) := (hs352 (21, 0) (by decide)).trans fk343
  have fk366 : st349 (20, 1) = .inr (8, [.int 10, .int 60, .int 0, .int 0, .ref (ad348 (21, 1)), .int 0, .int 0]) := ((hs352 (20, 1) (by decide)).trans fk344).trans (by rw [ha350 (21, 1) (by decide)])
  have fk367 : st349 (21, 1) = .inl (X.2.1 2, 50, .inl (fun _ => 0)) := (hs352 (21, 1) (by decide)).trans fk345
  have af368 : ∀ x : ro, x ≠ (2, 0) → x ≠ (3, 0) → x ≠ (4, 0) → x ≠ (5, 0) → x ≠ (6, 0) → x ≠ (7, 0) → x ≠ (8, 0) → x ≠ (9, 0) → x ≠ (10, 0) → x ≠ (11, 0) → x ≠ (11, 1) → x ≠ (20, 0) → x ≠ (21, 0) → x ≠ (20, 1) → x ≠ (21, 1) → x ≠ (20, 2) → ad348 x = ad x := fun x a0 a1 a2 a3 a4 a5 a6 a7 a8 a9 a10 a11 a12 a13 a14 a15 => (ha350 x a15).trans (af325 x a0 a1 a2 a3 a4 a5 a6 a7 a8 a9 a10 a11 a12 a13 a14)
  have sf369 : ∀ x : ro, x ≠ (2, 0) → x ≠ (3, 0) → x ≠ (4, 0) → x ≠ (1, 0) → x ≠ (5, 0) → x ≠ (6, 0) → x ≠ (7, 0) → x ≠ (8, 0) → x ≠ (9, 0) → x ≠ (10, 0) → x ≠ (11, 0) → x ≠ (11, 1) → x ≠ (20, 0) → x ≠ (21, 0) → x ≠ (20, 1) → x ≠ (21, 1) → x ≠ (20, 2) → st349 x = st x := fun x a0 a1 a2 a3 a4 a5 a6 a7 a8 a9 a10 a11 a12 a13 a14 a15 a16 => (hs352 x a16).trans (sf346 x a0 a1 a2 a3 a4 a5 a6 a7 a8 a9 a10 a11 a12 a13 a14 a15)
  have fk370 : st349 (9, 0) = .inl (X.2.1 6, 6, .inr (.inr (.inr (.inr (va_up (va_up (fun _ => none) 0 (some (ad348 (20, 0)))) 1 (some (ad348 (20, 1)))))))) := ((hs352 (9, 0) (by decide)).trans fk329).trans (by rw [ha350 (20, 0) (by decide), ha350 (20, 1) (by decide)])
  clear fk331 fk332 fk333 fk334 fk335 fk336 fk337 fk338 fk339 fk340 fk341 fk342 fk343 fk344 fk345 fk329 af325 sf346
  refine lv_dup hx hb dX7_init_86 rfl ?_
  refine g_callINv (k2 := 0) (As := []) (rest := [.ref (ad348 (20, 2)), .int 2, .ref (ad348 (9, 0))]) C (c_X5_init l X ([(1, 0)] ++ [(2, 0)] ++ [(3, 0)] ++ [(4, 0)] ++ [(5, 0)] ++ [(6, 0)] ++ [(7, 0)] ++ [(8, 0)] ++ [(9, 0)] ++ [(10, 0)] ++ [(11, 0)] ++ [(11, 1)] ++ [(20, 0)] ++ [(21, 0)] ++ [(20, 1)] ++ [(21, 1)] ++ [(20, 2)]) ad348 st349 2 (List.mem_append_right _ (List.mem_singleton.mpr rfl)) (nmem_app (nmem_app (nmem_app (nmem_app (nmem_app (nmem_app (nmem_app (nmem_app (nmem_app (nmem_app (nmem_app (nmem_app (nmem_app (nmem_app (nmem_app (nmem_app (by decide) (by decide)) (by decide)) (by decide)) (by decide)) (by decide)) (by decide)) (by decide)) (by decide)) (by decide)) (by decide)) (by decide)) (by decide)) (by decide)) (by decide)) (by decide)) (by decide)) fk351) ((g_gt C).2.1 ("RateGate", 49, ⟨"RateGate$Shipper", "<init>", "()V"⟩, "RateGate") (by decide +kernel)) tw_1_126 tw_1_7 tw_1_127 (by decide +kernel) ⟨by rw [hR1]; exact Nat.le_of_ble_eq_true rfl, by rw [hR2]; exact Nat.le_of_ble_eq_true rfl⟩ hW hS rfl hl.1 rfl (Nat.le_of_ble_eq_true rfl) dX7_init_87 ⟨by rw [hR3]; exact Nat.le_of_ble_eq_true rfl, by rw [hR4]; exact Nat.le_of_ble_eq_true rfl⟩ (fun  L9 ad371 st372 H locs hp hW hS => ?_)
  obtain ⟨adq, stq, z0, ha373, hs374, fk375, fk376⟩ := hp
  cases z0
  have hl : lv_has ls 2 [(1, .int 2), (0, .ref (ad371 (1, 0)))] := by rw [ha373 (1, 0) (by decide)]; exact hl
  refine W.eq (g2 := F0 m 90 ls [.ref (ad371 (20, 2)), .int 2, .ref (ad371 (9, 0))]) (by rw [ha373 (20, 2) (by decide), ha373 (9, 0) (by decide)] <;> rfl) ?_
  have fk377 : st372 (2, 0) = .inr (7, [.ref (ad371 (3, 0)), .ref (ad371 (4, 0)), .int 0, .ref (X.2.2 0), .int 32]) := ((hs374 (2, 0) (by decide) (by decide)).trans fk353).trans (by rw [ha373 (3, 0) (by decide), ha373 (4, 0) (by decide)])
  have fk378 : st372 (3, 0) = .inl (X.2.1 1, 60, .inl (fun _ => 0)) := (hs374 (3, 0) (by decide) (by decide)).trans fk354
  have fk379 : st372 (4, 0) = .inl (X.2.1 2, 6, .inl (fun _ => 0)) := (hs374 (4, 0) (by decide) (by decide)).trans fk355
  have fk380 : st372 (5, 0) = .inr (3, [.int 0, .ref (ad371 (6, 0)), .ref (ad371 (7, 0)), .ref (ad371 (8, 0)), .int 0, .int 0]) := ((hs374 (5, 0) (by decide) (by decide)).trans fk356).trans (by rw [ha373 (6, 0) (by decide), ha373 (7, 0) (by decide), ha373 (8, 0) (by decide)])
  have fk381 : st372 (6, 0) = .inl (X.2.1 2, 512, .inl (fun _ => 0)) := (hs374 (6, 0) (by decide) (by decide)).trans fk357
  have fk382 : st372 (7, 0) = .inl (X.2.1 2, 512, .inl (fun _ => 0)) := (hs374 (7, 0) (by decide) (by decide)).trans fk358
  have fk383 : st372 (8, 0) = .inl (X.2.1 3, 512, .inl (fun _ => 0)) := (hs374 (8, 0) (by decide) (by decide)).trans fk359
  have fk384 : st372 (10, 0) = .inl (X.2.1 7, 4, .inr (.inr (.inr (.inr (fun _ => none))))) := (hs374 (10, 0) (by decide) (by decide)).trans fk360
  have fk385 : st372 (11, 0) = .inr (2, [.int 0, .ref (X.2.2 30), .int 0]) := (hs374 (11, 0) (by decide) (by decide)).trans fk361
  have fk386 : st372 (11, 1) = .inr (2, [.int 0, .ref (X.2.2 30), .int 0]) := (hs374 (11, 1) (by decide) (by decide)).trans fk362
  have fk387 : st372 (1, 0) = .inr (10, [.ref (ad371 (2, 0)), .ref (ad371 (5, 0)), .ref (ad371 (9, 0)), .ref (ad371 (10, 0)), .ref (ad371 (11, 0)), .ref (ad371 (11, 1)), .int 0]) := ((hs374 (1, 0) (by decide) (by decide)).trans fk363).trans (by rw [ha373 (2, 0) (by decide), ha373 (5, 0) (by decide), ha373 (9, 0) (by decide), ha373 (10, 0) (by decide), ha373 (11, 0) (by decide), ha373 (11, 1) (by decide)])
  have fk388 : st372 (20, 0) = .inr (8, [.int 10, .int 60, .int 0, .int 0, .ref (ad371 (21, 0)), .int 0, .int 0]) := ((hs374 (20, 0) (by decide) (by decide)).trans fk364).trans (by rw [ha373 (21, 0) (by decide)])
  have fk389 : st372 (21, 0) = .inl (X.2.1 2, 50, .inl (fun _ => 0)) := (hs374 (21, 0) (by decide) (by decide)).trans fk365
  have fk390 : st372 (20, 1) = .inr (8, [.int 10, .int 60, .int 0, .int 0, .ref (ad371 (21, 1)), .int 0, .int 0]) := ((hs374 (20, 1) (by decide) (by decide)).trans fk366).trans (by rw [ha373 (21, 1) (by decide)])
  have fk391 : st372 (21, 1) = .inl (X.2.1 2, 50, .inl (fun _ => 0)) := (hs374 (21, 1) (by decide) (by decide)).trans fk367
  have af392 : ∀ x : ro, x ≠ (2, 0) → x ≠ (3, 0) → x ≠ (4, 0) → x ≠ (5, 0) → x ≠ (6, 0) → x ≠ (7, 0) → x ≠ (8, 0) → x ≠ (9, 0) → x ≠ (10, 0) → x ≠ (11, 0) → x ≠ (11, 1) → x ≠ (20, 0) → x ≠ (21, 0) → x ≠ (20, 1) → x ≠ (21, 1) → x ≠ (20, 2) → x ≠ (21, 2) → ad371 x = ad x := fun x a0 a1 a2 a3 a4 a5 a6 a7 a8 a9 a10 a11 a12 a13 a14 a15 a16 => (ha373 x a16).trans (af368 x a0 a1 a2 a3 a4 a5 a6 a7 a8 a9 a10 a11 a12 a13 a14 a15)
  have sf393 : ∀ x : ro, x ≠ (2, 0) → x ≠ (3, 0) → x ≠ (4, 0) → x ≠ (1, 0) → x ≠ (5, 0) → x ≠ (6, 0) → x ≠ (7, 0) → x ≠ (8, 0) → x ≠ (9, 0) → x ≠ (10, 0) → x ≠ (11, 0) → x ≠ (11, 1) → x ≠ (20, 0) → x ≠ (21, 0) → x ≠ (20, 1) → x ≠ (21, 1) → x ≠ (20, 2) → x ≠ (21, 2) → st372 x = st x := fun x a0 a1 a2 a3 a4 a5 a6 a7 a8 a9 a10 a11 a12 a13 a14 a15 a16 a17 => (hs374 x a16 a17).trans (sf369 x a0 a1 a2 a3 a4 a5 a6 a7 a8 a9 a10 a11 a12 a13 a14 a15 a16)
  have fk394 : st372 (9, 0) = .inl (X.2.1 6, 6, .inr (.inr (.inr (.inr (va_up (va_up (fun _ => none) 0 (some (ad371 (20, 0)))) 1 (some (ad371 (20, 1)))))))) := ((hs374 (9, 0) (by decide) (by decide)).trans fk370).trans (by rw [ha373 (20, 0) (by decide), ha373 (20, 1) (by decide)])
  clear fk353 fk354 fk355 fk356 fk357 fk358 fk359 fk360 fk361 fk362 fk363 fk364 fk365 fk366 fk367 fk351 fk370 af368 sf369
  refine g_astq (r := (9, 0)) (t0 := 6) C hW hS (List.mem_append_left _ (List.mem_append_left _ (List.mem_append_left _ (List.mem_append_left _ (List.mem_append_left _ (List.mem_append_left _ (List.mem_append_left _ (List.mem_append_left _ (List.mem_append_left _ (List.mem_append_right _ (List.mem_singleton.mpr rfl))))))))))) fk394 rfl (g_anyS (Cn := RX5) (T := TX5) (N := 7) C hW (List.mem_append_left _ (List.mem_append_right _ (List.mem_singleton.mpr rfl))) fk375 rfl) (vp_in_nI (n := 2) (N := 6) (by decide) (by decide)) dX7_init_90 (fun st395 H locs fk396 hs397 hW hS => ?_)
  rw [show (2 : Int32).toNatClampNeg = 2 from by decide] at fk396
  have fk398 : st395 (2, 0) = .inr (7, [.ref (ad371 (3, 0)), .ref (ad371 (4, 0)), .int 0, .ref (X.2.2 0), .int 32]) := (hs397 (2, 0) (by decide)).trans fk377
  have fk399 : st395 (3, 0) = .inl (X.2.1 1, 60, .inl (fun _ => 0)) := (hs397 (3, 0) (by decide)).trans fk378
  have fk400 : st395 (4, 0) = .inl (X.2.1 2, 6, .inl (fun _ => 0)) := (hs397 (4, 0) (by decide)).trans fk379
  have fk401 : st395 (5, 0) = .inr (3, [.int 0, .ref (ad371 (6, 0)), .ref (ad371 (7, 0)), .ref (ad371 (8, 0)), .int 0, .int 0]) := (hs397 (5, 0) (by decide)).trans fk380
  have fk402 : st395 (6, 0) = .inl (X.2.1 2, 512, .inl (fun _ => 0)) := (hs397 (6, 0) (by decide)).trans fk381
  have fk403 : st395 (7, 0) = .inl (X.2.1 2, 512, .inl (fun _ => 0)) := (hs397 (7, 0) (by decide)).trans fk382
  have fk404 : st395 (8, 0) = .inl (X.2.1 3, 512, .inl (fun _ => 0)) := (hs397 (8, 0) (by decide)).trans fk383
  have fk405 : st395 (10, 0) = .inl (X.2.1 7, 4, .inr (.inr (.inr (.inr (fun _ => none))))) := (hs397 (10, 0) (by decide)).trans fk384
  have fk406 : st395 (11, 0) = .inr (2, [.int 0, .ref (X.2.2 30), .int 0]) := (hs397 (11, 0) (by decide)).trans fk385
  have fk407 : st395 (11, 1) = .inr (2, [.int 0, .ref (X.2.2 30), .int 0]) := (hs397 (11, 1) (by decide)).trans fk386
  have fk408 : st395 (1, 0) = .inr (10, [.ref (ad371 (2, 0)), .ref (ad371 (5, 0)), .ref (ad371 (9, 0)), .ref (ad371 (10, 0)), .ref (ad371 (11, 0)), .ref (ad371 (11, 1)), .int 0]) := (hs397 (1, 0) (by decide)).trans fk387
  have fk409 : st395 (20, 0) = .inr (8, [.int 10, .int 60, .int 0, .int 0, .ref (ad371 (21, 0)), .int 0, .int 0]) := (hs397 (20, 0) (by decide)).trans fk388
  have fk410 : st395 (21, 0) = .inl (X.2.1 2, 50, .inl (fun _ => 0)) := (hs397 (21, 0) (by decide)).trans fk389
  have fk411 : st395 (20, 1) = .inr (8, [.int 10, .int 60, .int 0, .int 0, .ref (ad371 (21, 1)), .int 0, .int 0]) := (hs397 (20, 1) (by decide)).trans fk390
  have fk412 : st395 (21, 1) = .inl (X.2.1 2, 50, .inl (fun _ => 0)) := (hs397 (21, 1) (by decide)).trans fk391
  have fk413 : st395 (20, 2) = .inr (8, [.int 10, .int 60, .int 0, .int 0, .ref (ad371 (21, 2)), .int 0, .int 0]) := (hs397 (20, 2) (by decide)).trans fk375
  have fk414 : st395 (21, 2) = .inl (X.2.1 2, 50, .inl (fun _ => 0)) := (hs397 (21, 2) (by decide)).trans fk376
  have sf415 : ∀ x : ro, x ≠ (2, 0) → x ≠ (3, 0) → x ≠ (4, 0) → x ≠ (1, 0) → x ≠ (5, 0) → x ≠ (6, 0) → x ≠ (7, 0) → x ≠ (8, 0) → x ≠ (9, 0) → x ≠ (10, 0) → x ≠ (11, 0) → x ≠ (11, 1) → x ≠ (20, 0) → x ≠ (21, 0) → x ≠ (20, 1) → x ≠ (21, 1) → x ≠ (20, 2) → x ≠ (21, 2) → st395 x = st x := fun x a0 a1 a2 a3 a4 a5 a6 a7 a8 a9 a10 a11 a12 a13 a14 a15 a16 a17 => (hs397 x a8).trans (sf393 x a0 a1 a2 a3 a4 a5 a6 a7 a8 a9 a10 a11 a12 a13 a14 a15 a16 a17)
  clear fk377 fk378 fk379 fk380 fk381 fk382 fk383 fk384 fk385 fk386 fk387 fk388 fk389 fk390 fk391 fk375 fk376 fk394 sf393
  refine lv_iinc (v := 3) (lv' := [(1, .int 3), (0, .ref (ad371 (1, 0)))]) hx hb dX7_init_91 hl (k := 0) rfl (by decide) (by decide) rfl (fun ls hl => ?_)
  refine lv_goto (tgt := 72) hx hb dX7_init_94 (by decide) ?_
  refine lv_iload_n hx hb dX7_init_72 rfl (lv_at hl 0 rfl) ?_
  refine lv_bipush (v := 6) hx hb dX7_init_73 (by decide) ?_
  refine lv_icmp_ge (tgt := 97) hx hb dX7_init_75 (by decide) (fun c9 => absurd c9 (by decide)) (fun _ => ?_)
  refine lv_aload_n hx hb dX7_init_78 rfl (lv_at hl 1 rfl) ?_
  refine g_get (r := (1, 0)) (Cn := RX7) (T := TX7) (N := 7) (ci := 10) (v := .ref (ad371 (9, 0))) C tinX7 hW (List.mem_append_left _ (List.mem_append_left _ (List.mem_append_left _ (List.mem_append_left _ (List.mem_append_left _ (List.mem_append_left _ (List.mem_append_left _ (List.mem_append_left _ (List.mem_append_left _ (List.mem_append_left _ (List.mem_append_left _ (List.mem_append_left _ (List.mem_append_left _ (List.mem_append_left _ (List.mem_append_left _ (List.mem_append_left _ (List.mem_append_left _ (List.mem_singleton.mpr rfl)))))))))))))))))) fk408 rfl 2 (by decide) tw_1_208 (fun _ h9 => h9) rfl dX7_init_79 ?_
  refine lv_iload_n hx hb dX7_init_82 rfl (lv_at hl 0 rfl) ?_
  refine g_newo (r := (20, 3)) (Cn := RX5) (T := TX5) (N := 7) (ci := 8) (ty0 := tyX5) (fs := [.int 0, .int 0, .int 0, .int 0, .null, .int 0, .int 0]) C tinX5 tyX5_ok hW hS (nmem_app (nmem_app (nmem_app (nmem_app (nmem_app (nmem_app (nmem_app (nmem_app (nmem_app (nmem_app (nmem_app (nmem_app (nmem_app (nmem_app (nmem_app (nmem_app (nmem_app (by decide) (by decide)) (by decide)) (by decide)) (by decide)) (by decide)) (by decide)) (by decide)) (by decide)) (by decide)) (by decide)) (by decide)) (by decide)) (by decide)) (by decide)) (by decide)) (by decide)) (by decide)) rfl tw_1_94 tw_1_124 tw_1_7 (by intro j hj; rcases (show j = 0 ∨ j = 1 ∨ j = 2 ∨ j = 3 ∨ j = 4 ∨ j = 5 ∨ j = 6 by omega) with rfl | rfl | rfl | rfl | rfl | rfl | rfl <;> rfl) (by rw [hR3]; exact Nat.le_of_ble_eq_true rfl) (by rw [hR4]; exact Nat.le_of_ble_eq_true rfl) dX7_init_83 (fun ad417 st418 H ha419 fk420 hs421 hW hS => ?_)
  have hl : lv_has ls 2 [(1, .int 3), (0, .ref (ad417 (1, 0)))] := by rw [ha419 (1, 0) (by decide)]; exact hl
  refine W.eq (g2 := F0 m 86 ls [.ref (ad417 (20, 3)), .int 3, .ref (ad417 (9, 0))]) (by rw [ha419 (9, 0) (by decide)] <;> rfl) ?_
  have fk422 : st418 (2, 0) = .inr (7, [.ref (ad417 (3, 0)), .ref (ad417 (4, 0)), .int 0, .ref (X.2.2 0), .int 32]) := ((hs421 (2, 0) (by decide)).trans fk398).trans (by rw [ha419 (3, 0) (by decide), ha419 (4, 0) (by decide)])
  have fk423 : st418 (3, 0) = .inl (X.2.1 1, 60, .inl (fun _ => 0)) := (hs421 (3, 0) (by decide)).trans fk399
  have fk424 : st418 (4, 0) = .inl (X.2.1 2, 6, .inl (fun _ => 0)) := (hs421 (4, 0) (by decide)).trans fk400
  have fk425 : st418 (5, 0) = .inr (3, [.int 0, .ref (ad417 (6, 0)), .ref (ad417 (7, 0)), .ref (ad417 (8, 0)), .int 0, .int 0]) := ((hs421 (5, 0) (by decide)).trans fk401).trans (by rw [ha419 (6, 0) (by decide), ha419 (7, 0) (by decide), ha419 (8, 0) (by decide)])
  have fk426 : st418 (6, 0) = .inl (X.2.1 2, 512, .inl (fun _ => 0)) := (hs421 (6, 0) (by decide)).trans fk402
  have fk427 : st418 (7, 0) = .inl (X.2.1 2, 512, .inl (fun _ => 0)) := (hs421 (7, 0) (by decide)).trans fk403
  have fk428 : st418 (8, 0) = .inl (X.2.1 3, 512, .inl (fun _ => 0)) := (hs421 (8, 0) (by decide)).trans fk404
  have fk429 : st418 (10, 0) = .inl (X.2.1 7, 4, .inr (.inr (.inr (.inr (fun _ => none))))) := (hs421 (10, 0) (by decide)).trans fk405
  have fk430 : st418 (11, 0) = .inr (2, [.int 0, .ref (X.2.2 30), .int 0]) := (hs421 (11, 0) (by decide)).trans fk406
  have fk431 : st418 (11, 1) = .inr (2, [.int 0, .ref (X.2.2 30), .int 0]) := (hs421 (11, 1) (by decide)).trans fk407
  have fk432 : st418 (1, 0) = .inr (10, [.ref (ad417 (2, 0)), .ref (ad417 (5, 0)), .ref (ad417 (9, 0)), .ref (ad417 (10, 0)), .ref (ad417 (11, 0)), .ref (ad417 (11, 1)), .int 0]) := ((hs421 (1, 0) (by decide)).trans fk408).trans (by rw [ha419 (2, 0) (by decide), ha419 (5, 0) (by decide), ha419 (9, 0) (by decide), ha419 (10, 0) (by decide), ha419 (11, 0) (by decide), ha419 (11, 1) (by decide)])
  have fk433 : st418 (20, 0) = .inr (8, [.int 10, .int 60, .int 0, .int 0, .ref (ad417 (21, 0)), .int 0, .int 0]) := ((hs421 (20, 0) (by decide)).trans fk409).trans (by rw [ha419 (21, 0) (by decide)])
  have fk434 : st418 (21, 0) = .inl (X.2.1 2, 50, .inl (fun _ => 0)) := (hs421 (21, 0) (by decide)).trans fk410
  have fk435 : st418 (20, 1) = .inr (8, [.int 10, .int 60, .int 0, .int 0, .ref (ad417 (21, 1)), .int 0, .int 0]) := ((hs421 (20, 1) (by decide)).trans fk411).trans (by rw [ha419 (21, 1) (by decide)])
  have fk436 : st418 (21, 1) = .inl (X.2.1 2, 50, .inl (fun _ => 0)) := (hs421 (21, 1) (by decide)).trans fk412
  have fk437 : st418 (20, 2) = .inr (8, [.int 10, .int 60, .int 0, .int 0, .ref (ad417 (21, 2)), .int 0, .int 0]) := ((hs421 (20, 2) (by decide)).trans fk413).trans (by rw [ha419 (21, 2) (by decide)])
  have fk438 : st418 (21, 2) = .inl (X.2.1 2, 50, .inl (fun _ => 0)) := (hs421 (21, 2) (by decide)).trans fk414
  have af439 : ∀ x : ro, x ≠ (2, 0) → x ≠ (3, 0) → x ≠ (4, 0) → x ≠ (5, 0) → x ≠ (6, 0) → x ≠ (7, 0) → x ≠ (8, 0) → x ≠ (9, 0) → x ≠ (10, 0) → x ≠ (11, 0) → x ≠ (11, 1) → x ≠ (20, 0) → x ≠ (21, 0) → x ≠ (20, 1) → x ≠ (21, 1) → x ≠ (20, 2) → x ≠ (21, 2) → x ≠ (20, 3) → ad417 x = ad x := fun x a0 a1 a2 a3 a4 a5 a6 a7 a8 a9 a10 a11 a12 a13 a14 a15 a16 a17 => (ha419 x a17).trans (af392 x a0 a1 a2 a3 a4 a5 a6 a7 a8 a9 a10 a11 a12 a13 a14 a15 a16)
  have sf440 : ∀ x : ro, x ≠ (2, 0) → x ≠ (3, 0) → x ≠ (4, 0) → x ≠ (1, 0) → x ≠ (5, 0) → x ≠ (6, 0) → x ≠ (7, 0) → x ≠ (8, 0) → x ≠ (9, 0) → x ≠ (10, 0) → x ≠ (11, 0) → x ≠ (11, 1) → x ≠ (20, 0) → x ≠ (21, 0) → x ≠ (20, 1) → x ≠ (21, 1) → x ≠ (20, 2) → x ≠ (21, 2) → x ≠ (20, 3) → st418 x = st x := fun x a0 a1 a2 a3 a4 a5 a6 a7 a8 a9 a10 a11 a12 a13 a14 a15 a16 a17 a18 => (hs421 x a18).trans (sf415 x a0 a1 a2 a3 a4 a5 a6 a7 a8 a9 a10 a11 a12 a13 a14 a15 a16 a17)
  have fk441 : st418 (9, 0) = .inl (X.2.1 6, 6, .inr (.inr (.inr (.inr (va_up (va_up (va_up (fun _ => none) 0 (some (ad417 (20, 0)))) 1 (some (ad417 (20, 1)))) 2 (some (ad417 (20, 2)))))))) := ((hs421 (9, 0) (by decide)).trans fk396).trans (by rw [ha419 (20, 0) (by decide), ha419 (20, 1) (by decide), ha419 (20, 2) (by decide)])
  clear fk398 fk399 fk400 fk401 fk402 fk403 fk404 fk405 fk406 fk407 fk408 fk409 fk410 fk411 fk412 fk413 fk414 fk396 af392 sf415
  refine lv_dup hx hb dX7_init_86 rfl ?_
  refine g_callINv (k2 := 0) (As := []) (rest := [.ref (ad417 (20, 3)), .int 3, .ref (ad417 (9, 0))]) C (c_X5_init l X ([(1, 0)] ++ [(2, 0)] ++ [(3, 0)] ++ [(4, 0)] ++ [(5, 0)] ++ [(6, 0)] ++ [(7, 0)] ++ [(8, 0)] ++ [(9, 0)] ++ [(10, 0)] ++ [(11, 0)] ++ [(11, 1)] ++ [(20, 0)] ++ [(21, 0)] ++ [(20, 1)] ++ [(21, 1)] ++ [(20, 2)] ++ [(21, 2)] ++ [(20, 3)]) ad417 st418 3 (List.mem_append_right _ (List.mem_singleton.mpr rfl)) (nmem_app (nmem_app (nmem_app (nmem_app (nmem_app (nmem_app (nmem_app (nmem_app (nmem_app (nmem_app (nmem_app (nmem_app (nmem_app (nmem_app (nmem_app (nmem_app (nmem_app (nmem_app (by decide) (by decide)) (by decide)) (by decide)) (by decide)) (by decide)) (by decide)) (by decide)) (by decide)) (by decide)) (by decide)) (by decide)) (by decide)) (by decide)) (by decide)) (by decide)) (by decide)) (by decide)) (by decide)) fk420) ((g_gt C).2.1 ("RateGate", 49, ⟨"RateGate$Shipper", "<init>", "()V"⟩, "RateGate") (by decide +kernel)) tw_1_126 tw_1_7 tw_1_127 (by decide +kernel) ⟨by rw [hR1]; exact Nat.le_of_ble_eq_true rfl, by rw [hR2]; exact Nat.le_of_ble_eq_true rfl⟩ hW hS rfl hl.1 rfl (Nat.le_of_ble_eq_true rfl) dX7_init_87 ⟨by rw [hR3]; exact Nat.le_of_ble_eq_true rfl, by rw [hR4]; exact Nat.le_of_ble_eq_true rfl⟩ (fun  L9 ad442 st443 H locs hp hW hS => ?_)
  obtain ⟨adq, stq, z0, ha444, hs445, fk446, fk447⟩ := hp
  cases z0
  have hl : lv_has ls 2 [(1, .int 3), (0, .ref (ad442 (1, 0)))] := by rw [ha444 (1, 0) (by decide)]; exact hl
  refine W.eq (g2 := F0 m 90 ls [.ref (ad442 (20, 3)), .int 3, .ref (ad442 (9, 0))]) (by rw [ha444 (20, 3) (by decide), ha444 (9, 0) (by decide)] <;> rfl) ?_
  have fk448 : st443 (2, 0) = .inr (7, [.ref (ad442 (3, 0)), .ref (ad442 (4, 0)), .int 0, .ref (X.2.2 0), .int 32]) := ((hs445 (2, 0) (by decide) (by decide)).trans fk422).trans (by rw [ha444 (3, 0) (by decide), ha444 (4, 0) (by decide)])
  have fk449 : st443 (3, 0) = .inl (X.2.1 1, 60, .inl (fun _ => 0)) := (hs445 (3, 0) (by decide) (by decide)).trans fk423
  have fk450 : st443 (4, 0) = .inl (X.2.1 2, 6, .inl (fun _ => 0)) := (hs445 (4, 0) (by decide) (by decide)).trans fk424
  have fk451 : st443 (5, 0) = .inr (3, [.int 0, .ref (ad442 (6, 0)), .ref (ad442 (7, 0)), .ref (ad442 (8, 0)), .int 0, .int 0]) := ((hs445 (5, 0) (by decide) (by decide)).trans fk425).trans (by rw [ha444 (6, 0) (by decide), ha444 (7, 0) (by decide), ha444 (8, 0) (by decide)])
  have fk452 : st443 (6, 0) = .inl (X.2.1 2, 512, .inl (fun _ => 0)) := (hs445 (6, 0) (by decide) (by decide)).trans fk426
  have fk453 : st443 (7, 0) = .inl (X.2.1 2, 512, .inl (fun _ => 0)) := (hs445 (7, 0) (by decide) (by decide)).trans fk427
  have fk454 : st443 (8, 0) = .inl (X.2.1 3, 512, .inl (fun _ => 0)) := (hs445 (8, 0) (by decide) (by decide)).trans fk428
  have fk455 : st443 (10, 0) = .inl (X.2.1 7, 4, .inr (.inr (.inr (.inr (fun _ => none))))) := (hs445 (10, 0) (by decide) (by decide)).trans fk429
  have fk456 : st443 (11, 0) = .inr (2, [.int 0, .ref (X.2.2 30), .int 0]) := (hs445 (11, 0) (by decide) (by decide)).trans fk430
  have fk457 : st443 (11, 1) = .inr (2, [.int 0, .ref (X.2.2 30), .int 0]) := (hs445 (11, 1) (by decide) (by decide)).trans fk431
  have fk458 : st443 (1, 0) = .inr (10, [.ref (ad442 (2, 0)), .ref (ad442 (5, 0)), .ref (ad442 (9, 0)), .ref (ad442 (10, 0)), .ref (ad442 (11, 0)), .ref (ad442 (11, 1)), .int 0]) := ((hs445 (1, 0) (by decide) (by decide)).trans fk432).trans (by rw [ha444 (2, 0) (by decide), ha444 (5, 0) (by decide), ha444 (9, 0) (by decide), ha444 (10, 0) (by decide), ha444 (11, 0) (by decide), ha444 (11, 1) (by decide)])
  have fk459 : st443 (20, 0) = .inr (8, [.int 10, .int 60, .int 0, .int 0, .ref (ad442 (21, 0)), .int 0, .int 0]) := ((hs445 (20, 0) (by decide) (by decide)).trans fk433).trans (by rw [ha444 (21, 0) (by decide)])
  have fk460 : st443 (21, 0) = .inl (X.2.1 2, 50, .inl (fun _ => 0)) := (hs445 (21, 0) (by decide) (by decide)).trans fk434
  have fk461 : st443 (20, 1) = .inr (8, [.int 10, .int 60, .int 0, .int 0, .ref (ad442 (21, 1)), .int 0, .int 0]) := ((hs445 (20, 1) (by decide) (by decide)).trans fk435).trans (by rw [ha444 (21, 1) (by decide)])
  have fk462 : st443 (21, 1) = .inl (X.2.1 2, 50, .inl (fun _ => 0)) := (hs445 (21, 1) (by decide) (by decide)).trans fk436
  have fk463 : st443 (20, 2) = .inr (8, [.int 10, .int 60, .int 0, .int 0, .ref (ad442 (21, 2)), .int 0, .int 0]) := ((hs445 (20, 2) (by decide) (by decide)).trans fk437).trans (by rw [ha444 (21, 2) (by decide)])
  have fk464 : st443 (21, 2) = .inl (X.2.1 2, 50, .inl (fun _ => 0)) := (hs445 (21, 2) (by decide) (by decide)).trans fk438
  have af465 : ∀ x : ro, x ≠ (2, 0) → x ≠ (3, 0) → x ≠ (4, 0) → x ≠ (5, 0) → x ≠ (6, 0) → x ≠ (7, 0) → x ≠ (8, 0) → x ≠ (9, 0) → x ≠ (10, 0) → x ≠ (11, 0) → x ≠ (11, 1) → x ≠ (20, 0) → x ≠ (21, 0) → x ≠ (20, 1) → x ≠ (21, 1) → x ≠ (20, 2) → x ≠ (21, 2) → x ≠ (20, 3) → x ≠ (21, 3) → ad442 x = ad x := fun x a0 a1 a2 a3 a4 a5 a6 a7 a8 a9 a10 a11 a12 a13 a14 a15 a16 a17 a18 => (ha444 x a18).trans (af439 x a0 a1 a2 a3 a4 a5 a6 a7 a8 a9 a10 a11 a12 a13 a14 a15 a16 a17)
  have sf466 : ∀ x : ro, x ≠ (2, 0) → x ≠ (3, 0) → x ≠ (4, 0) → x ≠ (1, 0) → x ≠ (5, 0) → x ≠ (6, 0) → x ≠ (7, 0) → x ≠ (8, 0) → x ≠ (9, 0) → x ≠ (10, 0) → x ≠ (11, 0) → x ≠ (11, 1) → x ≠ (20, 0) → x ≠ (21, 0) → x ≠ (20, 1) → x ≠ (21, 1) → x ≠ (20, 2) → x ≠ (21, 2) → x ≠ (20, 3) → x ≠ (21, 3) → st443 x = st x := fun x a0 a1 a2 a3 a4 a5 a6 a7 a8 a9 a10 a11 a12 a13 a14 a15 a16 a17 a18 a19 => (hs445 x a18 a19).trans (sf440 x a0 a1 a2 a3 a4 a5 a6 a7 a8 a9 a10 a11 a12 a13 a14 a15 a16 a17 a18)
  have fk467 : st443 (9, 0) = .inl (X.2.1 6, 6, .inr (.inr (.inr (.inr (va_up (va_up (va_up (fun _ => none) 0 (some (ad442 (20, 0)))) 1 (some (ad442 (20, 1)))) 2 (some (ad442 (20, 2)))))))) := ((hs445 (9, 0) (by decide) (by decide)).trans fk441).trans (by rw [ha444 (20, 0) (by decide), ha444 (20, 1) (by decide), ha444 (20, 2) (by decide)])
  clear fk422 fk423 fk424 fk425 fk426 fk427 fk428 fk429 fk430 fk431 fk432 fk433 fk434 fk435 fk436 fk437 fk438 fk420 fk441 af439 sf440
  refine g_astq (r := (9, 0)) (t0 := 6) C hW hS (List.mem_append_left _ (List.mem_append_left _ (List.mem_append_left _ (List.mem_append_left _ (List.mem_append_left _ (List.mem_append_left _ (List.mem_append_left _ (List.mem_append_left _ (List.mem_append_left _ (List.mem_append_left _ (List.mem_append_left _ (List.mem_append_right _ (List.mem_singleton.mpr rfl))))))))))))) fk467 rfl (g_anyS (Cn := RX5) (T := TX5) (N := 7) C hW (List.mem_append_left _ (List.mem_append_right _ (List.mem_singleton.mpr rfl))) fk446 rfl) (vp_in_nI (n := 3) (N := 6) (by decide) (by decide)) dX7_init_90 (fun st468 H locs fk469 hs470 hW hS => ?_)
  rw [show (3 : Int32).toNatClampNeg = 3 from by decide] at fk469
  have fk471 : st468 (2, 0) = .inr (7, [.ref (ad442 (3, 0)), .ref (ad442 (4, 0)), .int 0, .ref (X.2.2 0), .int 32]) := (hs470 (2, 0) (by decide)).trans fk448
  have fk472 : st468 (3, 0) = .inl (X.2.1 1, 60, .inl (fun _ => 0)) := (hs470 (3, 0) (by decide)).trans fk449
  have fk473 : st468 (4, 0) = .inl (X.2.1 2, 6, .inl (fun _ => 0)) := (hs470 (4, 0) (by decide)).trans fk450
  have fk474 : st468 (5, 0) = .inr (3, [.int 0, .ref (ad442 (6, 0)), .ref (ad442 (7, 0)), .ref (ad442 (8, 0)), .int 0, .int 0]) := (hs470 (5, 0) (by decide)).trans fk451
  have fk475 : st468 (6, 0) = .inl (X.2.1 2, 512, .inl (fun _ => 0)) := (hs470 (6, 0) (by decide)).trans fk452
  have fk476 : st468 (7, 0) = .inl (X.2.1 2, 512, .inl (fun _ => 0)) := (hs470 (7, 0) (by decide)).trans fk453
  have fk477 : st468 (8, 0) = .inl (X.2.1 3, 512, .inl (fun _ => 0)) := (hs470 (8, 0) (by decide)).trans fk454
  have fk478 : st468 (10, 0) = .inl (X.2.1 7, 4, .inr (.inr (.inr (.inr (fun _ => none))))) := (hs470 (10, 0) (by decide)).trans fk455
  have fk479 : st468 (11, 0) = .inr (2, [.int 0, .ref (X.2.2 30), .int 0]) := (hs470 (11, 0) (by decide)).trans fk456
  have fk480 : st468 (11, 1) = .inr (2, [.int 0, .ref (X.2.2 30), .int 0]) := (hs470 (11, 1) (by decide)).trans fk457
  have fk481 : st468 (1, 0) = .inr (10, [.ref (ad442 (2, 0)), .ref (ad442 (5, 0)), .ref (ad442 (9, 0)), .ref (ad442 (10, 0)), .ref (ad442 (11, 0)), .ref (ad442 (11, 1)), .int 0]) := (hs470 (1, 0) (by decide)).trans fk458
  have fk482 : st468 (20, 0) = .inr (8, [.int 10, .int 60, .int 0, .int 0, .ref (ad442 (21, 0)), .int 0, .int 0]) := (hs470 (20, 0) (by decide)).trans fk459
  have fk483 : st468 (21, 0) = .inl (X.2.1 2, 50, .inl (fun _ => 0)) := (hs470 (21, 0) (by decide)).trans fk460
  have fk484 : st468 (20, 1) = .inr (8, [.int 10, .int 60, .int 0, .int 0, .ref (ad442 (21, 1)), .int 0, .int 0]) := (hs470 (20, 1) (by decide)).trans fk461
  have fk485 : st468 (21, 1) = .inl (X.2.1 2, 50, .inl (fun _ => 0)) := (hs470 (21, 1) (by decide)).trans fk462
  have fk486 : st468 (20, 2) = .inr (8, [.int 10, .int 60, .int 0, .int 0, .ref (ad442 (21, 2)), .int 0, .int 0]) := (hs470 (20, 2) (by decide)).trans fk463
  have fk487 : st468 (21, 2) = .inl (X.2.1 2, 50, .inl (fun _ => 0)) := (hs470 (21, 2) (by decide)).trans fk464
  have fk488 : st468 (20, 3) = .inr (8, [.int 10, .int 60, .int 0, .int 0, .ref (ad442 (21, 3)), .int 0, .int 0]) := (hs470 (20, 3) (by decide)).trans fk446
  have fk489 : st468 (21, 3) = .inl (X.2.1 2, 50, .inl (fun _ => 0)) := (hs470 (21, 3) (by decide)).trans fk447
  have sf490 : ∀ x : ro, x ≠ (2, 0) → x ≠ (3, 0) → x ≠ (4, 0) → x ≠ (1, 0) → x ≠ (5, 0) → x ≠ (6, 0) → x ≠ (7, 0) → x ≠ (8, 0) → x ≠ (9, 0) → x ≠ (10, 0) → x ≠ (11, 0) → x ≠ (11, 1) → x ≠ (20, 0) → x ≠ (21, 0) → x ≠ (20, 1) → x ≠ (21, 1) → x ≠ (20, 2) → x ≠ (21, 2) → x ≠ (20, 3) → x ≠ (21, 3) → st468 x = st x := fun x a0 a1 a2 a3 a4 a5 a6 a7 a8 a9 a10 a11 a12 a13 a14 a15 a16 a17 a18 a19 => (hs470 x a8).trans (sf466 x a0 a1 a2 a3 a4 a5 a6 a7 a8 a9 a10 a11 a12 a13 a14 a15 a16 a17 a18 a19)
  clear fk448 fk449 fk450 fk451 fk452 fk453 fk454 fk455 fk456 fk457 fk458 fk459 fk460 fk461 fk462 fk463 fk464 fk446 fk447 fk467 sf466
  refine lv_iinc (v := 4) (lv' := [(1, .int 4), (0, .ref (ad442 (1, 0)))]) hx hb dX7_init_91 hl (k := 0) rfl (by decide) (by decide) rfl (fun ls hl => ?_)
  refine lv_goto (tgt := 72) hx hb dX7_init_94 (by decide) ?_
  refine lv_iload_n hx hb dX7_init_72 rfl (lv_at hl 0 rfl) ?_
  refine lv_bipush (v := 6) hx hb dX7_init_73 (by decide) ?_
  refine lv_icmp_ge (tgt := 97) hx hb dX7_init_75 (by decide) (fun c9 => absurd c9 (by decide)) (fun _ => ?_)
  refine lv_aload_n hx hb dX7_init_78 rfl (lv_at hl 1 rfl) ?_
  refine g_get (r := (1, 0)) (Cn := RX7) (T := TX7) (N := 7) (ci := 10) (v := .ref (ad442 (9, 0))) C tinX7 hW (List.mem_append_left _ (List.mem_append_left _ (List.mem_append_left _ (List.mem_append_left _ (List.mem_append_left _ (List.mem_append_left _ (List.mem_append_left _ (List.mem_append_left _ (List.mem_append_left _ (List.mem_append_left _ (List.mem_append_left _ (List.mem_append_left _ (List.mem_append_left _ (List.mem_append_left _ (List.mem_append_left _ (List.mem_append_left _ (List.mem_append_left _ (List.mem_append_left _ (List.mem_append_left _ (List.mem_singleton.mpr rfl)))))))))))))))))))) fk481 rfl 2 (by decide) tw_1_208 (fun _ h9 => h9) rfl dX7_init_79 ?_
  refine lv_iload_n hx hb dX7_init_82 rfl (lv_at hl 0 rfl) ?_
  refine g_newo (r := (20, 4)) (Cn := RX5) (T := TX5) (N := 7) (ci := 8) (ty0 := tyX5) (fs := [.int 0, .int 0, .int 0, .int 0, .null, .int 0, .int 0]) C tinX5 tyX5_ok hW hS (nmem_app (nmem_app (nmem_app (nmem_app (nmem_app (nmem_app (nmem_app (nmem_app (nmem_app (nmem_app (nmem_app (nmem_app (nmem_app (nmem_app (nmem_app (nmem_app (nmem_app (nmem_app (nmem_app (by decide) (by decide)) (by decide)) (by decide)) (by decide)) (by decide)) (by decide)) (by decide)) (by decide)) (by decide)) (by decide)) (by decide)) (by decide)) (by decide)) (by decide)) (by decide)) (by decide)) (by decide)) (by decide)) (by decide)) rfl tw_1_94 tw_1_124 tw_1_7 (by intro j hj; rcases (show j = 0 ∨ j = 1 ∨ j = 2 ∨ j = 3 ∨ j = 4 ∨ j = 5 ∨ j = 6 by omega) with rfl | rfl | rfl | rfl | rfl | rfl | rfl <;> rfl) (by rw [hR3]; exact Nat.le_of_ble_eq_true rfl) (by rw [hR4]; exact Nat.le_of_ble_eq_true rfl) dX7_init_83 (fun ad492 st493 H ha494 fk495 hs496 hW hS => ?_)
  have hl : lv_has ls 2 [(1, .int 4), (0, .ref (ad492 (1, 0)))] := by rw [ha494 (1, 0) (by decide)]; exact hl
  refine W.eq (g2 := F0 m 86 ls [.ref (ad492 (20, 4)), .int 4, .ref (ad492 (9, 0))]) (by rw [ha494 (9, 0) (by decide)] <;> rfl) ?_
  have fk497 : st493 (2, 0) = .inr (7, [.ref (ad492 (3, 0)), .ref (ad492 (4, 0)), .int 0, .ref (X.2.2 0), .int 32]) := ((hs496 (2, 0) (by decide)).trans fk471).trans (by rw [ha494 (3, 0) (by decide), ha494 (4, 0) (by decide)])
  have fk498 : st493 (3, 0) = .inl (X.2.1 1, 60, .inl (fun _ => 0)) := (hs496 (3, 0) (by decide)).trans fk472
  have fk499 : st493 (4, 0) = .inl (X.2.1 2, 6, .inl (fun _ => 0)) := (hs496 (4, 0) (by decide)).trans fk473
  have fk500 : st493 (5, 0) = .inr (3, [.int 0, .ref (ad492 (6, 0)), .ref (ad492 (7, 0)), .ref (ad492 (8, 0)), .int 0, .int 0]) := ((hs496 (5, 0) (by decide)).trans fk474).trans (by rw [ha494 (6, 0) (by decide), ha494 (7, 0) (by decide), ha494 (8, 0) (by decide)])
  have fk501 : st493 (6, 0) = .inl (X.2.1 2, 512, .inl (fun _ => 0)) := (hs496 (6, 0) (by decide)).trans fk475
  have fk502 : st493 (7, 0) = .inl (X.2.1 2, 512, .inl (fun _ => 0)) := (hs496 (7, 0) (by decide)).trans fk476
  have fk503 : st493 (8, 0) = .inl (X.2.1 3, 512, .inl (fun _ => 0)) := (hs496 (8, 0) (by decide)).trans fk477
  have fk504 : st493 (10, 0) = .inl (X.2.1 7, 4, .inr (.inr (.inr (.inr (fun _ => none))))) := (hs496 (10, 0) (by decide)).trans fk478
  have fk505 : st493 (11, 0) = .inr (2, [.int 0, .ref (X.2.2 30), .int 0]) := (hs496 (11, 0) (by decide)).trans fk479
  have fk506 : st493 (11, 1) = .inr (2, [.int 0, .ref (X.2.2 30), .int 0]) := (hs496 (11, 1) (by decide)).trans fk480
  have fk507 : st493 (1, 0) = .inr (10, [.ref (ad492 (2, 0)), .ref (ad492 (5, 0)), .ref (ad492 (9, 0)), .ref (ad492 (10, 0)), .ref (ad492 (11, 0)), .ref (ad492 (11, 1)), .int 0]) := ((hs496 (1, 0) (by decide)).trans fk481).trans (by rw [ha494 (2, 0) (by decide), ha494 (5, 0) (by decide), ha494 (9, 0) (by decide), ha494 (10, 0) (by decide), ha494 (11, 0) (by decide), ha494 (11, 1) (by decide)])
  have fk508 : st493 (20, 0) = .inr (8, [.int 10, .int 60, .int 0, .int 0, .ref (ad492 (21, 0)), .int 0, .int 0]) := ((hs496 (20, 0) (by decide)).trans fk482).trans (by rw [ha494 (21, 0) (by decide)])
  have fk509 : st493 (21, 0) = .inl (X.2.1 2, 50, .inl (fun _ => 0)) := (hs496 (21, 0) (by decide)).trans fk483
  have fk510 : st493 (20, 1) = .inr (8, [.int 10, .int 60, .int 0, .int 0, .ref (ad492 (21, 1)), .int 0, .int 0]) := ((hs496 (20, 1) (by decide)).trans fk484).trans (by rw [ha494 (21, 1) (by decide)])
  have fk511 : st493 (21, 1) = .inl (X.2.1 2, 50, .inl (fun _ => 0)) := (hs496 (21, 1) (by decide)).trans fk485
  have fk512 : st493 (20, 2) = .inr (8, [.int 10, .int 60, .int 0, .int 0, .ref (ad492 (21, 2)), .int 0, .int 0]) := ((hs496 (20, 2) (by decide)).trans fk486).trans (by rw [ha494 (21, 2) (by decide)])
  have fk513 : st493 (21, 2) = .inl (X.2.1 2, 50, .inl (fun _ => 0)) := (hs496 (21, 2) (by decide)).trans fk487
  have fk514 : st493 (20, 3) = .inr (8, [.int 10, .int 60, .int 0, .int 0, .ref (ad492 (21, 3)), .int 0, .int 0]) := ((hs496 (20, 3) (by decide)).trans fk488).trans (by rw [ha494 (21, 3) (by decide)])
  have fk515 : st493 (21, 3) = .inl (X.2.1 2, 50, .inl (fun _ => 0)) := (hs496 (21, 3) (by decide)).trans fk489
  have af516 : ∀ x : ro, x ≠ (2, 0) → x ≠ (3, 0) → x ≠ (4, 0) → x ≠ (5, 0) → x ≠ (6, 0) → x ≠ (7, 0) → x ≠ (8, 0) → x ≠ (9, 0) → x ≠ (10, 0) → x ≠ (11, 0) → x ≠ (11, 1) → x ≠ (20, 0) → x ≠ (21, 0) → x ≠ (20, 1) → x ≠ (21, 1) → x ≠ (20, 2) → x ≠ (21, 2) → x ≠ (20, 3) → x ≠ (21, 3) → x ≠ (20, 4) → ad492 x = ad x := fun x a0 a1 a2 a3 a4 a5 a6 a7 a8 a9 a10 a11 a12 a13 a14 a15 a16 a17 a18 a19 => (ha494 x a19).trans (af465 x a0 a1 a2 a3 a4 a5 a6 a7 a8 a9 a10 a11 a12 a13 a14 a15 a16 a17 a18)
  have sf517 : ∀ x : ro, x ≠ (2, 0) → x ≠ (3, 0) → x ≠ (4, 0) → x ≠ (1, 0) → x ≠ (5, 0) → x ≠ (6, 0) → x ≠ (7, 0) → x ≠ (8, 0) → x ≠ (9, 0) → x ≠ (10, 0) → x ≠ (11, 0) → x ≠ (11, 1) → x ≠ (20, 0) → x ≠ (21, 0) → x ≠ (20, 1) → x ≠ (21, 1) → x ≠ (20, 2) → x ≠ (21, 2) → x ≠ (20, 3) → x ≠ (21, 3) → x ≠ (20, 4) → st493 x = st x := fun x a0 a1 a2 a3 a4 a5 a6 a7 a8 a9 a10 a11 a12 a13 a14 a15 a16 a17 a18 a19 a20 => (hs496 x a20).trans (sf490 x a0 a1 a2 a3 a4 a5 a6 a7 a8 a9 a10 a11 a12 a13 a14 a15 a16 a17 a18 a19)
  have fk518 : st493 (9, 0) = .inl (X.2.1 6, 6, .inr (.inr (.inr (.inr (va_up (va_up (va_up (va_up (fun _ => none) 0 (some (ad492 (20, 0)))) 1 (some (ad492 (20, 1)))) 2 (some (ad492 (20, 2)))) 3 (some (ad492 (20, 3)))))))) := ((hs496 (9, 0) (by decide)).trans fk469).trans (by rw [ha494 (20, 0) (by decide), ha494 (20, 1) (by decide), ha494 (20, 2) (by decide), ha494 (20, 3) (by decide)])
  clear fk471 fk472 fk473 fk474 fk475 fk476 fk477 fk478 fk479 fk480 fk481 fk482 fk483 fk484 fk485 fk486 fk487 fk488 fk489 fk469 af465 sf490
  refine lv_dup hx hb dX7_init_86 rfl ?_
  refine g_callINv (k2 := 0) (As := []) (rest := [.ref (ad492 (20, 4)), .int 4, .ref (ad492 (9, 0))]) C (c_X5_init l X ([(1, 0)] ++ [(2, 0)] ++ [(3, 0)] ++ [(4, 0)] ++ [(5, 0)] ++ [(6, 0)] ++ [(7, 0)] ++ [(8, 0)] ++ [(9, 0)] ++ [(10, 0)] ++ [(11, 0)] ++ [(11, 1)] ++ [(20, 0)] ++ [(21, 0)] ++ [(20, 1)] ++ [(21, 1)] ++ [(20, 2)] ++ [(21, 2)] ++ [(20, 3)] ++ [(21, 3)] ++ [(20, 4)]) ad492 st493 4 (List.mem_append_right _ (List.mem_singleton.mpr rfl)) (nmem_app (nmem_app (nmem_app (nmem_app (nmem_app (nmem_app (nmem_app (nmem_app (nmem_app (nmem_app (nmem_app (nmem_app (nmem_app (nmem_app (nmem_app (nmem_app (nmem_app (nmem_app (nmem_app (nmem_app (by decide) (by decide)) (by decide)) (by decide)) (by decide)) (by decide)) (by decide)) (by decide)) (by decide)) (by decide)) (by decide)) (by decide)) (by decide)) (by decide)) (by decide)) (by decide)) (by decide)) (by decide)) (by decide)) (by decide)) (by decide)) fk495) ((g_gt C).2.1 ("RateGate", 49, ⟨"RateGate$Shipper", "<init>", "()V"⟩, "RateGate") (by decide +kernel)) tw_1_126 tw_1_7 tw_1_127 (by decide +kernel) ⟨by rw [hR1]; exact Nat.le_of_ble_eq_true rfl, by rw [hR2]; exact Nat.le_of_ble_eq_true rfl⟩ hW hS rfl hl.1 rfl (Nat.le_of_ble_eq_true rfl) dX7_init_87 ⟨by rw [hR3]; exact Nat.le_of_ble_eq_true rfl, by rw [hR4]; exact Nat.le_of_ble_eq_true rfl⟩ (fun  L9 ad519 st520 H locs hp hW hS => ?_)
  obtain ⟨adq, stq, z0, ha521, hs522, fk523, fk524⟩ := hp
  cases z0
  have hl : lv_has ls 2 [(1, .int 4), (0, .ref (ad519 (1, 0)))] := by rw [ha521 (1, 0) (by decide)]; exact hl
  refine W.eq (g2 := F0 m 90 ls [.ref (ad519 (20, 4)), .int 4, .ref (ad519 (9, 0))]) (by rw [ha521 (20, 4) (by decide), ha521 (9, 0) (by decide)] <;> rfl) ?_
  have fk525 : st520 (2, 0) = .inr (7, [.ref (ad519 (3, 0)), .ref (ad519 (4, 0)), .int 0, .ref (X.2.2 0), .int 32]) := ((hs522 (2, 0) (by decide) (by decide)).trans fk497).trans (by rw [ha521 (3, 0) (by decide), ha521 (4, 0) (by decide)])
  have fk526 : st520 (3, 0) = .inl (X.2.1 1, 60, .inl (fun _ => 0)) := (hs522 (3, 0) (by decide) (by decide)).trans fk498
  have fk527 : st520 (4, 0) = .inl (X.2.1 2, 6, .inl (fun _ => 0)) := (hs522 (4, 0) (by decide) (by decide)).trans fk499
  have fk528 : st520 (5, 0) = .inr (3, [.int 0, .ref (ad519 (6, 0)), .ref (ad519 (7, 0)), .ref (ad519 (8, 0)), .int 0, .int 0]) := ((hs522 (5, 0) (by decide) (by decide)).trans fk500).trans (by rw [ha521 (6, 0) (by decide), ha521 (7, 0) (by decide), ha521 (8, 0) (by decide)])
  have fk529 : st520 (6, 0) = .inl (X.2.1 2, 512, .inl (fun _ => 0)) := (hs522 (6, 0) (by decide) (by decide)).trans fk501
  have fk530 : st520 (7, 0) = .inl (X.2.1 2, 512, .inl (fun _ => 0)) := (hs522 (7, 0) (by decide) (by decide)).trans fk502
  have fk531 : st520 (8, 0) = .inl (X.2.1 3, 512, .inl (fun _ => 0)) := (hs522 (8, 0) (by decide) (by decide)).trans fk503
  have fk532 : st520 (10, 0) = .inl (X.2.1 7, 4, .inr (.inr (.inr (.inr (fun _ => none))))) := (hs522 (10, 0) (by decide) (by decide)).trans fk504
  have fk533 : st520 (11, 0) = .inr (2, [.int 0, .ref (X.2.2 30), .int 0]) := (hs522 (11, 0) (by decide) (by decide)).trans fk505
  have fk534 : st520 (11, 1) = .inr (2, [.int 0, .ref (X.2.2 30), .int 0]) := (hs522 (11, 1) (by decide) (by decide)).trans fk506
  have fk535 : st520 (1, 0) = .inr (10, [.ref (ad519 (2, 0)), .ref (ad519 (5, 0)), .ref (ad519 (9, 0)), .ref (ad519 (10, 0)), .ref (ad519 (11, 0)), .ref (ad519 (11, 1)), .int 0]) := ((hs522 (1, 0) (by decide) (by decide)).trans fk507).trans (by rw [ha521 (2, 0) (by decide), ha521 (5, 0) (by decide), ha521 (9, 0) (by decide), ha521 (10, 0) (by decide), ha521 (11, 0) (by decide), ha521 (11, 1) (by decide)])
  have fk536 : st520 (20, 0) = .inr (8, [.int 10, .int 60, .int 0, .int 0, .ref (ad519 (21, 0)), .int 0, .int 0]) := ((hs522 (20, 0) (by decide) (by decide)).trans fk508).trans (by rw [ha521 (21, 0) (by decide)])
  have fk537 : st520 (21, 0) = .inl (X.2.1 2, 50, .inl (fun _ => 0)) := (hs522 (21, 0) (by decide) (by decide)).trans fk509
  have fk538 : st520 (20, 1) = .inr (8, [.int 10, .int 60, .int 0, .int 0, .ref (ad519 (21, 1)), .int 0, .int 0]) := ((hs522 (20, 1) (by decide) (by decide)).trans fk510).trans (by rw [ha521 (21, 1) (by decide)])
  have fk539 : st520 (21, 1) = .inl (X.2.1 2, 50, .inl (fun _ => 0)) := (hs522 (21, 1) (by decide) (by decide)).trans fk511
  have fk540 : st520 (20, 2) = .inr (8, [.int 10, .int 60, .int 0, .int 0, .ref (ad519 (21, 2)), .int 0, .int 0]) := ((hs522 (20, 2) (by decide) (by decide)).trans fk512).trans (by rw [ha521 (21, 2) (by decide)])
  have fk541 : st520 (21, 2) = .inl (X.2.1 2, 50, .inl (fun _ => 0)) := (hs522 (21, 2) (by decide) (by decide)).trans fk513
  have fk542 : st520 (20, 3) = .inr (8, [.int 10, .int 60, .int 0, .int 0, .ref (ad519 (21, 3)), .int 0, .int 0]) := ((hs522 (20, 3) (by decide) (by decide)).trans fk514).trans (by rw [ha521 (21, 3) (by decide)])
  have fk543 : st520 (21, 3) = .inl (X.2.1 2, 50, .inl (fun _ => 0)) := (hs522 (21, 3) (by decide) (by decide)).trans fk515
  have af544 : ∀ x : ro, x ≠ (2, 0) → x ≠ (3, 0) → x ≠ (4, 0) → x ≠ (5, 0) → x ≠ (6, 0) → x ≠ (7, 0) → x ≠ (8, 0) → x ≠ (9, 0) → x ≠ (10, 0) → x ≠ (11, 0) → x ≠ (11, 1) → x ≠ (20, 0) → x ≠ (21, 0) → x ≠ (20, 1) → x ≠ (21, 1) → x ≠ (20, 2) → x ≠ (21, 2) → x ≠ (20, 3) → x ≠ (21, 3) → x ≠ (20, 4) → x ≠ (21, 4) → ad519 x = ad x := fun x a0 a1 a2 a3 a4 a5 a6 a7 a8 a9 a10 a11 a12 a13 a14 a15 a16 a17 a18 a19 a20 => (ha521 x a20).trans (af516 x a0 a1 a2 a3 a4 a5 a6 a7 a8 a9 a10 a11 a12 a13 a14 a15 a16 a17 a18 a19)
  have sf545 : ∀ x : ro, x ≠ (2, 0) → x ≠ (3, 0) → x ≠ (4, 0) → x ≠ (1, 0) → x ≠ (5, 0) → x ≠ (6, 0) → x ≠ (7, 0) → x ≠ (8, 0) → x ≠ (9, 0) → x ≠ (10, 0) → x ≠ (11, 0) → x ≠ (11, 1) → x ≠ (20, 0) → x ≠ (21, 0) → x ≠ (20, 1) → x ≠ (21, 1) → x ≠ (20, 2) → x ≠ (21, 2) → x ≠ (20, 3) → x ≠ (21, 3) → x ≠ (20, 4) → x ≠ (21, 4) → st520 x = st x := fun x a0 a1 a2 a3 a4 a5 a6 a7 a8 a9 a10 a11 a12 a13 a14 a15 a16 a17 a18 a19 a20 a21 => (hs522 x a20 a21).trans (sf517 x a0 a1 a2 a3 a4 a5 a6 a7 a8 a9 a10 a11 a12 a13 a14 a15 a16 a17 a18 a19 a20)
  have fk546 : st520 (9, 0) = .inl (X.2.1 6, 6, .inr (.inr (.inr (.inr (va_up (va_up (va_up (va_up (fun _ => none) 0 (some (ad519 (20, 0)))) 1 (some (ad519 (20, 1)))) 2 (some (ad519 (20, 2)))) 3 (some (ad519 (20, 3)))))))) := ((hs522 (9, 0) (by decide) (by decide)).trans fk518).trans (by rw [ha521 (20, 0) (by decide), ha521 (20, 1) (by decide), ha521 (20, 2) (by decide), ha521 (20, 3) (by decide)])
  clear fk497 fk498 fk499 fk500 fk501 fk502 fk503 fk504 fk505 fk506 fk507 fk508 fk509 fk510 fk511 fk512 fk513 fk514 fk515 fk495 fk518 af516 sf517
  refine g_astq (r := (9, 0)) (t0 := 6) C hW hS (List.mem_append_left _ (List.mem_append_left _ (List.mem_append_left _ (List.mem_append_left _ (List.mem_append_left _ (List.mem_append_left _ (List.mem_append_left _ (List.mem_append_left _ (List.mem_append_left _ (List.mem_append_left _ (List.mem_append_left _ (List.mem_append_left _ (List.mem_append_left _ (List.mem_append_right _ (List.mem_singleton.mpr rfl))))))))))))))) fk546 rfl (g_anyS (Cn := RX5) (T := TX5) (N := 7) C hW (List.mem_append_left _ (List.mem_append_right _ (List.mem_singleton.mpr rfl))) fk523 rfl) (vp_in_nI (n := 4) (N := 6) (by decide) (by decide)) dX7_init_90 (fun st547 H locs fk548 hs549 hW hS => ?_)
  rw [show (4 : Int32).toNatClampNeg = 4 from by decide] at fk548
  have fk550 : st547 (2, 0) = .inr (7, [.ref (ad519 (3, 0)), .ref (ad519 (4, 0)), .int 0, .ref (X.2.2 0), .int 32]) := (hs549 (2, 0) (by decide)).trans fk525
  have fk551 : st547 (3, 0) = .inl (X.2.1 1, 60, .inl (fun _ => 0)) := (hs549 (3, 0) (by decide)).trans fk526
  have fk552 : st547 (4, 0) = .inl (X.2.1 2, 6, .inl (fun _ => 0)) := (hs549 (4, 0) (by decide)).trans fk527
  have fk553 : st547 (5, 0) = .inr (3, [.int 0, .ref (ad519 (6, 0)), .ref (ad519 (7, 0)), .ref (ad519 (8, 0)), .int 0, .int 0]) := (hs549 (5, 0) (by decide)).trans fk528
  have fk554 : st547 (6, 0) = .inl (X.2.1 2, 512, .inl (fun _ => 0)) := (hs549 (6, 0) (by decide)).trans fk529
  have fk555 : st547 (7, 0) = .inl (X.2.1 2, 512, .inl (fun _ => 0)) := (hs549 (7, 0) (by decide)).trans fk530
  have fk556 : st547 (8, 0) = .inl (X.2.1 3, 512, .inl (fun _ => 0)) := (hs549 (8, 0) (by decide)).trans fk531
  have fk557 : st547 (10, 0) = .inl (X.2.1 7, 4, .inr (.inr (.inr (.inr (fun _ => none))))) := (hs549 (10, 0) (by decide)).trans fk532
  have fk558 : st547 (11, 0) = .inr (2, [.int 0, .ref (X.2.2 30), .int 0]) := (hs549 (11, 0) (by decide)).trans fk533
  have fk559 : st547 (11, 1) = .inr (2, [.int 0, .ref (X.2.2 30), .int 0]) := (hs549 (11, 1) (by decide)).trans fk534
  have fk560 : st547 (1, 0) = .inr (10, [.ref (ad519 (2, 0)), .ref (ad519 (5, 0)), .ref (ad519 (9, 0)), .ref (ad519 (10, 0)), .ref (ad519 (11, 0)), .ref (ad519 (11, 1)), .int 0]) := (hs549 (1, 0) (by decide)).trans fk535
  have fk561 : st547 (20, 0) = .inr (8, [.int 10, .int 60, .int 0, .int 0, .ref (ad519 (21, 0)), .int 0, .int 0]) := (hs549 (20, 0) (by decide)).trans fk536
  have fk562 : st547 (21, 0) = .inl (X.2.1 2, 50, .inl (fun _ => 0)) := (hs549 (21, 0) (by decide)).trans fk537
  have fk563 : st547 (20, 1) = .inr (8, [.int 10, .int 60, .int 0, .int 0, .ref (ad519 (21, 1)), .int 0, .int 0]) := (hs549 (20, 1) (by decide)).trans fk538
  have fk564 : st547 (21, 1) = .inl (X.2.1 2, 50, .inl (fun _ => 0)) := (hs549 (21, 1) (by decide)).trans fk539
  have fk565 : st547 (20, 2) = .inr (8, [.int 10, .int 60, .int 0, .int 0, .ref (ad519 (21, 2)), .int 0, .int 0]) := (hs549 (20, 2) (by decide)).trans fk540
  have fk566 : st547 (21, 2) = .inl (X.2.1 2, 50, .inl (fun _ => 0)) := (hs549 (21, 2) (by decide)).trans fk541
  have fk567 : st547 (20, 3) = .inr (8, [.int 10, .int 60, .int 0, .int 0, .ref (ad519 (21, 3)), .int 0, .int 0]) := (hs549 (20, 3) (by decide)).trans fk542
  have fk568 : st547 (21, 3) = .inl (X.2.1 2, 50, .inl (fun _ => 0)) := (hs549 (21, 3) (by decide)).trans fk543
  have fk569 : st547 (20, 4) = .inr (8, [.int 10, .int 60, .int 0, .int 0, .ref (ad519 (21, 4)), .int 0, .int 0]) := (hs549 (20, 4) (by decide)).trans fk523
  have fk570 : st547 (21, 4) = .inl (X.2.1 2, 50, .inl (fun _ => 0)) := (hs549 (21, 4) (by decide)).trans fk524
  have sf571 : ∀ x : ro, x ≠ (2, 0) → x ≠ (3, 0) → x ≠ (4, 0) → x ≠ (1, 0) → x ≠ (5, 0) → x ≠ (6, 0) → x ≠ (7, 0) → x ≠ (8, 0) → x ≠ (9, 0) → x ≠ (10, 0) → x ≠ (11, 0) → x ≠ (11, 1) → x ≠ (20, 0) → x ≠ (21, 0) → x ≠ (20, 1) → x ≠ (21, 1) → x ≠ (20, 2) → x ≠ (21, 2) → x ≠ (20, 3) → x ≠ (21, 3) → x ≠ (20, 4) → x ≠ (21, 4) → st547 x = st x := fun x a0 a1 a2 a3 a4 a5 a6 a7 a8 a9 a10 a11 a12 a13 a14 a15 a16 a17 a18 a19 a20 a21 => (hs549 x a8).trans (sf545 x a0 a1 a2 a3 a4 a5 a6 a7 a8 a9 a10 a11 a12 a13 a14 a15 a16 a17 a18 a19 a20 a21)
  clear fk525 fk526 fk527 fk528 fk529 fk530 fk531 fk532 fk533 fk534 fk535 fk536 fk537 fk538 fk539 fk540 fk541 fk542 fk543 fk523 fk524 fk546 sf545
  refine lv_iinc (v := 5) (lv' := [(1, .int 5), (0, .ref (ad519 (1, 0)))]) hx hb dX7_init_91 hl (k := 0) rfl (by decide) (by decide) rfl (fun ls hl => ?_)
  refine lv_goto (tgt := 72) hx hb dX7_init_94 (by decide) ?_
  refine lv_iload_n hx hb dX7_init_72 rfl (lv_at hl 0 rfl) ?_
  refine lv_bipush (v := 6) hx hb dX7_init_73 (by decide) ?_
  refine lv_icmp_ge (tgt := 97) hx hb dX7_init_75 (by decide) (fun c9 => absurd c9 (by decide)) (fun _ => ?_)
  refine lv_aload_n hx hb dX7_init_78 rfl (lv_at hl 1 rfl) ?_
  refine g_get (r := (1, 0)) (Cn := RX7) (T := TX7) (N := 7) (ci := 10) (v := .ref (ad519 (9, 0))) C tinX7 hW (List.mem_append_left _ (List.mem_append_left _ (List.mem_append_left _ (List.mem_append_left _ (List.mem_append_left _ (List.mem_append_left _ (List.mem_append_left _ (List.mem_append_left _ (List.mem_append_left _ (List.mem_append_left _ (List.mem_append_left _ (List.mem_append_left _ (List.mem_append_left _ (List.mem_append_left _ (List.mem_append_left _ (List.mem_append_left _ (List.mem_append_left _ (List.mem_append_left _ (List.mem_append_left _ (List.mem_append_left _ (List.mem_append_left _ (List.mem_singleton.mpr rfl)))))))))))))))))))))) fk560 rfl 2 (by decide) tw_1_208 (fun _ h9 => h9) rfl dX7_init_79 ?_
  refine lv_iload_n hx hb dX7_init_82 rfl (lv_at hl 0 rfl) ?_
  refine g_newo (r := (20, 5)) (Cn := RX5) (T := TX5) (N := 7) (ci := 8) (ty0 := tyX5) (fs := [.int 0, .int 0, .int 0, .int 0, .null, .int 0, .int 0]) C tinX5 tyX5_ok hW hS (nmem_app (nmem_app (nmem_app (nmem_app (nmem_app (nmem_app (nmem_app (nmem_app (nmem_app (nmem_app (nmem_app (nmem_app (nmem_app (nmem_app (nmem_app (nmem_app (nmem_app (nmem_app (nmem_app (nmem_app (nmem_app (by decide) (by decide)) (by decide)) (by decide)) (by decide)) (by decide)) (by decide)) (by decide)) (by decide)) (by decide)) (by decide)) (by decide)) (by decide)) (by decide)) (by decide)) (by decide)) (by decide)) (by decide)) (by decide)) (by decide)) (by decide)) (by decide)) rfl tw_1_94 tw_1_124 tw_1_7 (by intro j hj; rcases (show j = 0 ∨ j = 1 ∨ j = 2 ∨ j = 3 ∨ j = 4 ∨ j = 5 ∨ j = 6 by omega) with rfl | rfl | rfl | rfl | rfl | rfl | rfl <;> rfl) (by rw [hR3]; exact Nat.le_of_ble_eq_true rfl) (by rw [hR4]; exact Nat.le_of_ble_eq_true rfl) dX7_init_83 (fun ad573 st574 H ha575 fk576 hs577 hW hS => ?_)
  have hl : lv_has ls 2 [(1, .int 5), (0, .ref (ad573 (1, 0)))] := by rw [ha575 (1, 0) (by decide)]; exact hl
  refine W.eq (g2 := F0 m 86 ls [.ref (ad573 (20, 5)), .int 5, .ref (ad573 (9, 0))]) (by rw [ha575 (9, 0) (by decide)] <;> rfl) ?_
  have fk578 : st574 (2, 0) = .inr (7, [.ref (ad573 (3, 0)), .ref (ad573 (4, 0)), .int 0, .ref (X.2.2 0), .int 32]) := ((hs577 (2, 0) (by decide)).trans fk550).trans (by rw [ha575 (3, 0) (by decide), ha575 (4, 0) (by decide)])
  have fk579 : st574 (3, 0) = .inl (X.2.1 1, 60, .inl (fun _ => 0)) := (hs577 (3, 0) (by decide)).trans fk551
  have fk580 : st574 (4, 0) = .inl (X.2.1 2, 6, .inl (fun _ => 0)) := (hs577 (4, 0) (by decide)).trans fk552
  have fk581 : st574 (5, 0) = .inr (3, [.int 0, .ref (ad573 (6, 0)), .ref (ad573 (7, 0)), .ref (ad573 (8, 0)), .int 0, .int 0]) := ((hs577 (5, 0) (by decide)).trans fk553).trans (by rw [ha575 (6, 0) (by decide), ha575 (7, 0) (by decide), ha575 (8, 0) (by decide)])
  have fk582 : st574 (6, 0) = .inl (X.2.1 2, 512, .inl (fun _ => 0)) := (hs577 (6, 0) (by decide)).trans fk554
  have fk583 : st574 (7, 0) = .inl (X.2.1 2, 512, .inl (fun _ => 0)) := (hs577 (7, 0) (by decide)).trans fk555
  have fk584 : st574 (8, 0) = .inl (X.2.1 3, 512, .inl (fun _ => 0)) := (hs577 (8, 0) (by decide)).trans fk556
  have fk585 : st574 (10, 0) = .inl (X.2.1 7, 4, .inr (.inr (.inr (.inr (fun _ => none))))) := (hs577 (10, 0) (by decide)).trans fk557
  have fk586 : st574 (11, 0) = .inr (2, [.int 0, .ref (X.2.2 30), .int 0]) := (hs577 (11, 0) (by decide)).trans fk558
  have fk587 : st574 (11, 1) = .inr (2, [.int 0, .ref (X.2.2 30), .int 0]) := (hs577 (11, 1) (by decide)).trans fk559
  have fk588 : st574 (1, 0) = .inr (10, [.ref (ad573 (2, 0)), .ref (ad573 (5, 0)), .ref (ad573 (9, 0)), .ref (ad573 (10, 0)), .ref (ad573 (11, 0)), .ref (ad573 (11, 1)), .int 0]) := ((hs577 (1, 0) (by decide)).trans fk560).trans (by rw [ha575 (2, 0) (by decide), ha575 (5, 0) (by decide), ha575 (9, 0) (by decide), ha575 (10, 0) (by decide), ha575 (11, 0) (by decide), ha575 (11, 1) (by decide)])
  have fk589 : st574 (20, 0) = .inr (8, [.int 10, .int 60, .int 0, .int 0, .ref (ad573 (21, 0)), .int 0, .int 0]) := ((hs577 (20, 0) (by decide)).trans fk561).trans (by rw [ha575 (21, 0) (by decide)])
  have fk590 : st574 (21, 0) = .inl (X.2.1 2, 50, .inl (fun _ => 0)) := (hs577 (21, 0) (by decide)).trans fk562
  have fk591 : st574 (20, 1) = .inr (8, [.int 10, .int 60, .int 0, .int 0, .ref (ad573 (21, 1)), .int 0, .int 0]) := ((hs577 (20, 1) (by decide)).trans fk563).trans (by rw [ha575 (21, 1) (by decide)])
  have fk592 : st574 (21, 1) = .inl (X.2.1 2, 50, .inl (fun _ => 0)) := (hs577 (21, 1) (by decide)).trans fk564
  have fk593 : st574 (20, 2) = .inr (8, [.int 10, .int 60, .int 0, .int 0, .ref (ad573 (21, 2)), .int 0, .int 0]) := ((hs577 (20, 2) (by decide)).trans fk565).trans (by rw [ha575 (21, 2) (by decide)])
  have fk594 : st574 (21, 2) = .inl (X.2.1 2, 50, .inl (fun _ => 0)) := (hs577 (21, 2) (by decide)).trans fk566
  have fk595 : st574 (20, 3) = .inr (8, [.int 10, .int 60, .int 0, .int 0, .ref (ad573 (21, 3)), .int 0, .int 0]) := ((hs577 (20, 3) (by decide)).trans fk567).trans (by rw [ha575 (21, 3) (by decide)])
  have fk596 : st574 (21, 3) = .inl (X.2.1 2, 50, .inl (fun _ => 0)) := (hs577 (21, 3) (by decide)).trans fk568
  have fk597 : st574 (20, 4) = .inr (8, [.int 10, .int 60, .int 0, .int 0, .ref (ad573 (21, 4)), .int 0, .int 0]) := ((hs577 (20, 4) (by decide)).trans fk569).trans (by rw [ha575 (21, 4) (by decide)])
  have fk598 : st574 (21, 4) = .inl (X.2.1 2, 50, .inl (fun _ => 0)) := (hs577 (21, 4) (by decide)).trans fk570
  have af599 : ∀ x : ro, x ≠ (2, 0) → x ≠ (3, 0) → x ≠ (4, 0) → x ≠ (5, 0) → x ≠ (6, 0) → x ≠ (7, 0) → x ≠ (8, 0) → x ≠ (9, 0) → x ≠ (10, 0) → x ≠ (11, 0) → x ≠ (11, 1) → x ≠ (20, 0) → x ≠ (21, 0) → x ≠ (20, 1) → x ≠ (21, 1) → x ≠ (20, 2) → x ≠ (21, 2) → x ≠ (20, 3) → x ≠ (21, 3) → x ≠ (20, 4) → x ≠ (21, 4) → x ≠ (20, 5) → ad573 x = ad x := fun x a0 a1 a2 a3 a4 a5 a6 a7 a8 a9 a10 a11 a12 a13 a14 a15 a16 a17 a18 a19 a20 a21 => (ha575 x a21).trans (af544 x a0 a1 a2 a3 a4 a5 a6 a7 a8 a9 a10 a11 a12 a13 a14 a15 a16 a17 a18 a19 a20)
  have sf600 : ∀ x : ro, x ≠ (2, 0) → x ≠ (3, 0) → x ≠ (4, 0) → x ≠ (1, 0) → x ≠ (5, 0) → x ≠ (6, 0) → x ≠ (7, 0) → x ≠ (8, 0) → x ≠ (9, 0) → x ≠ (10, 0) → x ≠ (11, 0) → x ≠ (11, 1) → x ≠ (20, 0) → x ≠ (21, 0) → x ≠ (20, 1) → x ≠ (21, 1) → x ≠ (20, 2) → x ≠ (21, 2) → x ≠ (20, 3) → x ≠ (21, 3) → x ≠ (20, 4) → x ≠ (21, 4) → x ≠ (20, 5) → st574 x = st x := fun x a0 a1 a2 a3 a4 a5 a6 a7 a8 a9 a10 a11 a12 a13 a14 a15 a16 a17 a18 a19 a20 a21 a22 => (hs577 x a22).trans (sf571 x a0 a1 a2 a3 a4 a5 a6 a7 a8 a9 a10 a11 a12 a13 a14 a15 a16 a17 a18 a19 a20 a21)
  have fk601 : st574 (9, 0) = .inl (X.2.1 6, 6, .inr (.inr (.inr (.inr (va_up (va_up (va_up (va_up (va_up (fun _ => none) 0 (some (ad573 (20, 0)))) 1 (some (ad573 (20, 1)))) 2 (some (ad573 (20, 2)))) 3 (some (ad573 (20, 3)))) 4 (some (ad573 (20, 4)))))))) := ((hs577 (9, 0) (by decide)).trans fk548).trans (by rw [ha575 (20, 0) (by decide), ha575 (20, 1) (by decide), ha575 (20, 2) (by decide), ha575 (20, 3) (by decide), ha575 (20, 4) (by decide)])
  clear fk550 fk551 fk552 fk553 fk554 fk555 fk556 fk557 fk558 fk559 fk560 fk561 fk562 fk563 fk564 fk565 fk566 fk567 fk568 fk569 fk570 fk548 af544 sf571
  refine lv_dup hx hb dX7_init_86 rfl ?_
  refine g_callINv (k2 := 0) (As := []) (rest := [.ref (ad573 (20, 5)), .int 5, .ref (ad573 (9, 0))]) C (c_X5_init l X ([(1, 0)] ++ [(2, 0)] ++ [(3, 0)] ++ [(4, 0)] ++ [(5, 0)] ++ [(6, 0)] ++ [(7, 0)] ++ [(8, 0)] ++ [(9, 0)] ++ [(10, 0)] ++ [(11, 0)] ++ [(11, 1)] ++ [(20, 0)] ++ [(21, 0)] ++ [(20, 1)] ++ [(21, 1)] ++ [(20, 2)] ++ [(21, 2)] ++ [(20, 3)] ++ [(21, 3)] ++ [(20, 4)] ++ [(21, 4)] ++ [(20, 5)]) ad573 st574 5 (List.mem_append_right _ (List.mem_singleton.mpr rfl)) (nmem_app (nmem_app (nmem_app (nmem_app (nmem_app (nmem_app (nmem_app (nmem_app (nmem_app (nmem_app (nmem_app (nmem_app (nmem_app (nmem_app (nmem_app (nmem_app (nmem_app (nmem_app (nmem_app (nmem_app (nmem_app (nmem_app (by decide) (by decide)) (by decide)) (by decide)) (by decide)) (by decide)) (by decide)) (by decide)) (by decide)) (by decide)) (by decide)) (by decide)) (by decide)) (by decide)) (by decide)) (by decide)) (by decide)) (by decide)) (by decide)) (by decide)) (by decide)) (by decide)) (by decide)) fk576) ((g_gt C).2.1 ("RateGate", 49, ⟨"RateGate$Shipper", "<init>", "()V"⟩, "RateGate") (by decide +kernel)) tw_1_126 tw_1_7 tw_1_127 (by decide +kernel) ⟨by rw [hR1]; exact Nat.le_of_ble_eq_true rfl, by rw [hR2]; exact Nat.le_of_ble_eq_true rfl⟩ hW hS rfl hl.1 rfl (Nat.le_of_ble_eq_true rfl) dX7_init_87 ⟨by rw [hR3]; exact Nat.le_of_ble_eq_true rfl, by rw [hR4]; exact Nat.le_of_ble_eq_true rfl⟩ (fun  L9 ad602 st603 H locs hp hW hS => ?_)
  obtain ⟨adq, stq, z0, ha604, hs605, fk606, fk607⟩ := hp
  cases z0
  have hl : lv_has ls 2 [(1, .int 5), (0, .ref (ad602 (1, 0)))] := by rw [ha604 (1, 0) (by decide)]; exact hl
  refine W.eq (g2 := F0 m 90 ls [.ref (ad602 (20, 5)), .int 5, .ref (ad602 (9, 0))]) (by rw [ha604 (20, 5) (by decide), ha604 (9, 0) (by decide)] <;> rfl) ?_
  have fk608 : st603 (2, 0) = .inr (7, [.ref (ad602 (3, 0)), .ref (ad602 (4, 0)), .int 0, .ref (X.2.2 0), .int 32]) := ((hs605 (2, 0) (by decide) (by decide)).trans fk578).trans (by rw [ha604 (3, 0) (by decide), ha604 (4, 0) (by decide)])
  have fk609 : st603 (3, 0) = .inl (X.2.1 1, 60, .inl (fun _ => 0)) := (hs605 (3, 0) (by decide) (by decide)).trans fk579
  have fk610 : st603 (4, 0) = .inl (X.2.1 2, 6, .inl (fun _ => 0)) := (hs605 (4, 0) (by decide) (by decide)).trans fk580
  have fk611 : st603 (5, 0) = .inr (3, [.int 0, .ref (ad602 (6, 0)), .ref (ad602 (7, 0)), .ref (ad602 (8, 0)), .int 0, .int 0]) := ((hs605 (5, 0) (by decide) (by decide)).trans fk581).trans (by rw [ha604 (6, 0) (by decide), ha604 (7, 0) (by decide), ha604 (8, 0) (by decide)])
  have fk612 : st603 (6, 0) = .inl (X.2.1 2, 512, .inl (fun _ => 0)) := (hs605 (6, 0) (by decide) (by decide)).trans fk582
  have fk613 : st603 (7, 0) = .inl (X.2.1 2, 512, .inl (fun _ => 0)) := (hs605 (7, 0) (by decide) (by decide)).trans fk583
  have fk614 : st603 (8, 0) = .inl (X.2.1 3, 512, .inl (fun _ => 0)) := (hs605 (8, 0) (by decide) (by decide)).trans fk584
  have fk615 : st603 (10, 0) = .inl (X.2.1 7, 4, .inr (.inr (.inr (.inr (fun _ => none))))) := (hs605 (10, 0) (by decide) (by decide)).trans fk585
  have fk616 : st603 (11, 0) = .inr (2, [.int 0, .ref (X.2.2 30), .int 0]) := (hs605 (11, 0) (by decide) (by decide)).trans fk586
  have fk617 : st603 (11, 1) = .inr (2, [.int 0, .ref (X.2.2 30), .int 0]) := (hs605 (11, 1) (by decide) (by decide)).trans fk587
  have fk618 : st603 (1, 0) = .inr (10, [.ref (ad602 (2, 0)), .ref (ad602 (5, 0)), .ref (ad602 (9, 0)), .ref (ad602 (10, 0)), .ref (ad602 (11, 0)), .ref (ad602 (11, 1)), .int 0]) := ((hs605 (1, 0) (by decide) (by decide)).trans fk588).trans (by rw [ha604 (2, 0) (by decide), ha604 (5, 0) (by decide), ha604 (9, 0) (by decide), ha604 (10, 0) (by decide), ha604 (11, 0) (by decide), ha604 (11, 1) (by decide)])
  have fk619 : st603 (20, 0) = .inr (8, [.int 10, .int 60, .int 0, .int 0, .ref (ad602 (21, 0)), .int 0, .int 0]) := ((hs605 (20, 0) (by decide) (by decide)).trans fk589).trans (by rw [ha604 (21, 0) (by decide)])
  have fk620 : st603 (21, 0) = .inl (X.2.1 2, 50, .inl (fun _ => 0)) := (hs605 (21, 0) (by decide) (by decide)).trans fk590
  have fk621 : st603 (20, 1) = .inr (8, [.int 10, .int 60, .int 0, .int 0, .ref (ad602 (21, 1)), .int 0, .int 0]) := ((hs605 (20, 1) (by decide) (by decide)).trans fk591).trans (by rw [ha604 (21, 1) (by decide)])
  have fk622 : st603 (21, 1) = .inl (X.2.1 2, 50, .inl (fun _ => 0)) := (hs605 (21, 1) (by decide) (by decide)).trans fk592
  have fk623 : st603 (20, 2) = .inr (8, [.int 10, .int 60, .int 0, .int 0, .ref (ad602 (21, 2)), .int 0, .int 0]) := ((hs605 (20, 2) (by decide) (by decide)).trans fk593).trans (by rw [ha604 (21, 2) (by decide)])
  have fk624 : st603 (21, 2) = .inl (X.2.1 2, 50, .inl (fun _ => 0)) := (hs605 (21, 2) (by decide) (by decide)).trans fk594
  have fk625 : st603 (20, 3) = .inr (8, [.int 10, .int 60, .int 0, .int 0, .ref (ad602 (21, 3)), .int 0, .int 0]) := ((hs605 (20, 3) (by decide) (by decide)).trans fk595).trans (by rw [ha604 (21, 3) (by decide)])
  have fk626 : st603 (21, 3) = .inl (X.2.1 2, 50, .inl (fun _ => 0)) := (hs605 (21, 3) (by decide) (by decide)).trans fk596
  have fk627 : st603 (20, 4) = .inr (8, [.int 10, .int 60, .int 0, .int 0, .ref (ad602 (21, 4)), .int 0, .int 0]) := ((hs605 (20, 4) (by decide) (by decide)).trans fk597).trans (by rw [ha604 (21, 4) (by decide)])
  have fk628 : st603 (21, 4) = .inl (X.2.1 2, 50, .inl (fun _ => 0)) := (hs605 (21, 4) (by decide) (by decide)).trans fk598
  have af629 : ∀ x : ro, x ≠ (2, 0) → x ≠ (3, 0) → x ≠ (4, 0) → x ≠ (5, 0) → x ≠ (6, 0) → x ≠ (7, 0) → x ≠ (8, 0) → x ≠ (9, 0) → x ≠ (10, 0) → x ≠ (11, 0) → x ≠ (11, 1) → x ≠ (20, 0) → x ≠ (21, 0) → x ≠ (20, 1) → x ≠ (21, 1) → x ≠ (20, 2) → x ≠ (21, 2) → x ≠ (20, 3) → x ≠ (21, 3) → x ≠ (20, 4) → x ≠ (21, 4) → x ≠ (20, 5) → x ≠ (21, 5) → ad602 x = ad x := fun x a0 a1 a2 a3 a4 a5 a6 a7 a8 a9 a10 a11 a12 a13 a14 a15 a16 a17 a18 a19 a20 a21 a22 => (ha604 x a22).trans (af599 x a0 a1 a2 a3 a4 a5 a6 a7 a8 a9 a10 a11 a12 a13 a14 a15 a16 a17 a18 a19 a20 a21)
  have sf630 : ∀ x : ro, x ≠ (2, 0) → x ≠ (3, 0) → x ≠ (4, 0) → x ≠ (1, 0) → x ≠ (5, 0) → x ≠ (6, 0) → x ≠ (7, 0) → x ≠ (8, 0) → x ≠ (9, 0) → x ≠ (10, 0) → x ≠ (11, 0) → x ≠ (11, 1) → x ≠ (20, 0) → x ≠ (21, 0) → x ≠ (20, 1) → x ≠ (21, 1) → x ≠ (20, 2) → x ≠ (21, 2) → x ≠ (20, 3) → x ≠ (21, 3) → x ≠ (20, 4) → x ≠ (21, 4) → x ≠ (20, 5) → x ≠ (21, 5) → st603 x = st x := fun x a0 a1 a2 a3 a4 a5 a6 a7 a8 a9 a10 a11 a12 a13 a14 a15 a16 a17 a18 a19 a20 a21 a22 a23 => (hs605 x a22 a23).trans (sf600 x a0 a1 a2 a3 a4 a5 a6 a7 a8 a9 a10 a11 a12 a13 a14 a15 a16 a17 a18 a19 a20 a21 a22)
  have fk631 : st603 (9, 0) = .inl (X.2.1 6, 6, .inr (.inr (.inr (.inr (va_up (va_up (va_up (va_up (va_up (fun _ => none) 0 (some (ad602 (20, 0)))) 1 (some (ad602 (20, 1)))) 2 (some (ad602 (20, 2)))) 3 (some (ad602 (20, 3)))) 4 (some (ad602 (20, 4)))))))) := ((hs605 (9, 0) (by decide) (by decide)).trans fk601).trans (by rw [ha604 (20, 0) (by decide), ha604 (20, 1) (by decide), ha604 (20, 2) (by decide), ha604 (20, 3) (by decide), ha604 (20, 4) (by decide)])
  clear fk578 fk579 fk580 fk581 fk582 fk583 fk584 fk585 fk586 fk587 fk588 fk589 fk590 fk591 fk592 fk593 fk594 fk595 fk596 fk597 fk598 fk576 fk601 af599 sf600
  refine g_astq (r := (9, 0)) (t0 := 6) C hW hS (List.mem_append_left _ (List.mem_append_left _ (List.mem_append_left _ (List.mem_append_left _ (List.mem_append_left _ (List.mem_append_left _ (List.mem_append_left _ (List.mem_append_left _ (List.mem_append_left _ (List.mem_append_left _ (List.mem_append_left _ (List.mem_append_left _ (List.mem_append_left _ (List.mem_append_left _ (List.mem_append_left _ (List.mem_append_right _ (List.mem_singleton.mpr rfl))))))))))))))))) fk631 rfl (g_anyS (Cn := RX5) (T := TX5) (N := 7) C hW (List.mem_append_left _ (List.mem_append_right _ (List.mem_singleton.mpr rfl))) fk606 rfl) (vp_in_nI (n := 5) (N := 6) (by decide) (by decide)) dX7_init_90 (fun st632 H locs fk633 hs634 hW hS => ?_)
  rw [show (5 : Int32).toNatClampNeg = 5 from by decide] at fk633
  have fk635 : st632 (2, 0) = .inr (7, [.ref (ad602 (3, 0)), .ref (ad602 (4, 0)), .int 0, .ref (X.2.2 0), .int 32]) := (hs634 (2, 0) (by decide)).trans fk608
  have fk636 : st632 (3, 0) = .inl (X.2.1 1, 60, .inl (fun _ => 0)) := (hs634 (3, 0) (by decide)).trans fk609
  have fk637 : st632 (4, 0) = .inl (X.2.1 2, 6, .inl (fun _ => 0)) := (hs634 (4, 0) (by decide)).trans fk610
  have fk638 : st632 (5, 0) = .inr (3, [.int 0, .ref (ad602 (6, 0)), .ref (ad602 (7, 0)), .ref (ad602 (8, 0)), .int 0, .int 0]) := (hs634 (5, 0) (by decide)).trans fk611
  have fk639 : st632 (6, 0) = .inl (X.2.1 2, 512, .inl (fun _ => 0)) := (hs634 (6, 0) (by decide)).trans fk612
  have fk640 : st632 (7, 0) = .inl (X.2.1 2, 512, .inl (fun _ => 0)) := (hs634 (7, 0) (by decide)).trans fk613
  have fk641 : st632 (8, 0) = .inl (X.2.1 3, 512, .inl (fun _ => 0)) := (hs634 (8, 0) (by decide)).trans fk614
  have fk642 : st632 (10, 0) = .inl (X.2.1 7, 4, .inr (.inr (.inr (.inr (fun _ => none))))) := (hs634 (10, 0) (by decide)).trans fk615
  have fk643 : st632 (11, 0) = .inr (2, [.int 0, .ref (X.2.2 30), .int 0]) := (hs634 (11, 0) (by decide)).trans fk616
  have fk644 : st632 (11, 1) = .inr (2, [.int 0, .ref (X.2.2 30), .int 0]) := (hs634 (11, 1) (by decide)).trans fk617
  have fk645 : st632 (1, 0) = .inr (10, [.ref (ad602 (2, 0)), .ref (ad602 (5, 0)), .ref (ad602 (9, 0)), .ref (ad602 (10, 0)), .ref (ad602 (11, 0)), .ref (ad602 (11, 1)), .int 0]) := (hs634 (1, 0) (by decide)).trans fk618
  have fk646 : st632 (20, 0) = .inr (8, [.int 10, .int 60, .int 0, .int 0, .ref (ad602 (21, 0)), .int 0, .int 0]) := (hs634 (20, 0) (by decide)).trans fk619
  have fk647 : st632 (21, 0) = .inl (X.2.1 2, 50, .inl (fun _ => 0)) := (hs634 (21, 0) (by decide)).trans fk620
  have fk648 : st632 (20, 1) = .inr (8, [.int 10, .int 60, .int 0, .int 0, .ref (ad602 (21, 1)), .int 0, .int 0]) := (hs634 (20, 1) (by decide)).trans fk621
  have fk649 : st632 (21, 1) = .inl (X.2.1 2, 50, .inl (fun _ => 0)) := (hs634 (21, 1) (by decide)).trans fk622
  have fk650 : st632 (20, 2) = .inr (8, [.int 10, .int 60, .int 0, .int 0, .ref (ad602 (21, 2)), .int 0, .int 0]) := (hs634 (20, 2) (by decide)).trans fk623
  have fk651 : st632 (21, 2) = .inl (X.2.1 2, 50, .inl (fun _ => 0)) := (hs634 (21, 2) (by decide)).trans fk624
  have fk652 : st632 (20, 3) = .inr (8, [.int 10, .int 60, .int 0, .int 0, .ref (ad602 (21, 3)), .int 0, .int 0]) := (hs634 (20, 3) (by decide)).trans fk625
  have fk653 : st632 (21, 3) = .inl (X.2.1 2, 50, .inl (fun _ => 0)) := (hs634 (21, 3) (by decide)).trans fk626
  have fk654 : st632 (20, 4) = .inr (8, [.int 10, .int 60, .int 0, .int 0, .ref (ad602 (21, 4)), .int 0, .int 0]) := (hs634 (20, 4) (by decide)).trans fk627
  have fk655 : st632 (21, 4) = .inl (X.2.1 2, 50, .inl (fun _ => 0)) := (hs634 (21, 4) (by decide)).trans fk628
  have fk656 : st632 (20, 5) = .inr (8, [.int 10, .int 60, .int 0, .int 0, .ref (ad602 (21, 5)), .int 0, .int 0]) := (hs634 (20, 5) (by decide)).trans fk606
  have fk657 : st632 (21, 5) = .inl (X.2.1 2, 50, .inl (fun _ => 0)) := (hs634 (21, 5) (by decide)).trans fk607
  have sf658 : ∀ x : ro, x ≠ (2, 0) → x ≠ (3, 0) → x ≠ (4, 0) → x ≠ (1, 0) → x ≠ (5, 0) → x ≠ (6, 0) → x ≠ (7, 0) → x ≠ (8, 0) → x ≠ (9, 0) → x ≠ (10, 0) → x ≠ (11, 0) → x ≠ (11, 1) → x ≠ (20, 0) → x ≠ (21, 0) → x ≠ (20, 1) → x ≠ (21, 1) → x ≠ (20, 2) → x ≠ (21, 2) → x ≠ (20, 3) → x ≠ (21, 3) → x ≠ (20, 4) → x ≠ (21, 4) → x ≠ (20, 5) → x ≠ (21, 5) → st632 x = st x := fun x a0 a1 a2 a3 a4 a5 a6 a7 a8 a9 a10 a11 a12 a13 a14 a15 a16 a17 a18 a19 a20 a21 a22 a23 => (hs634 x a8).trans (sf630 x a0 a1 a2 a3 a4 a5 a6 a7 a8 a9 a10 a11 a12 a13 a14 a15 a16 a17 a18 a19 a20 a21 a22 a23)
  clear fk608 fk609 fk610 fk611 fk612 fk613 fk614 fk615 fk616 fk617 fk618 fk619 fk620 fk621 fk622 fk623 fk624 fk625 fk626 fk627 fk628 fk606 fk607 fk631 sf630
  refine lv_iinc (v := 6) (lv' := [(1, .int 6), (0, .ref (ad602 (1, 0)))]) hx hb dX7_init_91 hl (k := 0) rfl (by decide) (by decide) rfl (fun ls hl => ?_)
  refine lv_goto (tgt := 72) hx hb dX7_init_94 (by decide) ?_
  refine lv_iload_n hx hb dX7_init_72 rfl (lv_at hl 0 rfl) ?_
  refine lv_bipush (v := 6) hx hb dX7_init_73 (by decide) ?_
  refine lv_icmp_ge (tgt := 97) hx hb dX7_init_75 (by decide) (fun _ => ?_) (fun c9 => absurd (by decide) c9)
  refine lv_iconst (v := 0) hx hb dX7_init_97 (by decide) ?_
  refine lv_istore_n (lv' := [(1, .int 0), (0, .ref (ad602 (1, 0)))]) hx hb dX7_init_98 rfl hl (by decide) rfl (fun ls hl => ?_)
  refine lv_iload_n hx hb dX7_init_99 rfl (lv_at hl 0 rfl) ?_
  refine lv_iconst (v := 4) hx hb dX7_init_100 (by decide) ?_
  refine lv_icmp_ge (tgt := 123) hx hb dX7_init_101 (by decide) (fun c9 => absurd c9 (by decide)) (fun _ => ?_)
  refine lv_aload_n hx hb dX7_init_104 rfl (lv_at hl 1 rfl) ?_
  refine g_get (r := (1, 0)) (Cn := RX7) (T := TX7) (N := 7) (ci := 10) (v := .ref (ad602 (10, 0))) C tinX7 hW (List.mem_append_left _ (List.mem_append_left _ (List.mem_append_left _ (List.mem_append_left _ (List.mem_append_left _ (List.mem_append_left _ (List.mem_append_left _ (List.mem_append_left _ (List.mem_append_left _ (List.mem_append_left _ (List.mem_append_left _ (List.mem_append_left _ (List.mem_append_left _ (List.mem_append_left _ (List.mem_append_left _ (List.mem_append_left _ (List.mem_append_left _ (List.mem_append_left _ (List.mem_append_left _ (List.mem_append_left _ (List.mem_append_left _ (List.mem_append_left _ (List.mem_append_left _ (List.mem_singleton.mpr rfl)))))))))))))))))))))))) fk645 rfl 3 (by decide) tw_1_209 (fun _ h9 => h9) rfl dX7_init_105 ?_
  refine lv_iload_n hx hb dX7_init_108 rfl (lv_at hl 0 rfl) ?_
  refine g_newo (r := (30, 0)) (Cn := RX1) (T := TX1) (N := 7) (ci := 4) (ty0 := tyX1) (fs := [.int 0, .int 0, .int 0, .null, .int 0, .int 0, .int 0]) C tinX1 tyX1_ok hW hS (nmem_app (nmem_app (nmem_app (nmem_app (nmem_app (nmem_app (nmem_app (nmem_app (nmem_app (nmem_app (nmem_app (nmem_app (nmem_app (nmem_app (nmem_app (nmem_app (nmem_app (nmem_app (nmem_app (nmem_app (nmem_app (nmem_app (nmem_app (by decide) (by decide)) (by decide)) (by decide)) (by decide)) (by decide)) (by decide)) (by decide)) (by decide)) (by decide)) (by decide)) (by decide)) (by decide)) (by decide)) (by decide)) (by decide)) (by decide)) (by decide)) (by decide)) (by decide)) (by decide)) (by decide)) (by decide)) (by decide)) rfl tw_1_96 tw_1_155 tw_1_8 (by intro j hj; rcases (show j = 0 ∨ j = 1 ∨ j = 2 ∨ j = 3 ∨ j = 4 ∨ j = 5 ∨ j = 6 by omega) with rfl | rfl | rfl | rfl | rfl | rfl | rfl <;> rfl) (by rw [hR3]; exact Nat.le_of_ble_eq_true rfl) (by rw [hR4]; exact Nat.le_of_ble_eq_true rfl) dX7_init_109 (fun ad660 st661 H ha662 fk663 hs664 hW hS => ?_)
  have hl : lv_has ls 2 [(1, .int 0), (0, .ref (ad660 (1, 0)))] := by rw [ha662 (1, 0) (by decide)]; exact hl
  refine W.eq (g2 := F0 m 112 ls [.ref (ad660 (30, 0)), .int 0, .ref (ad660 (10, 0))]) (by rw [ha662 (10, 0) (by decide)] <;> rfl) ?_
  have fk665 : st661 (2, 0) = .inr (7, [.ref (ad660 (3, 0)), .ref (ad660 (4, 0)), .int 0, .ref (X.2.2 0), .int 32]) := ((hs664 (2, 0) (by decide)).trans fk635).trans (by rw [ha662 (3, 0) (by decide), ha662 (4, 0) (by decide)])
  have fk666 : st661 (3, 0) = .inl (X.2.1 1, 60, .inl (fun _ => 0)) := (hs664 (3, 0) (by decide)).trans fk636
  have fk667 : st661 (4, 0) = .inl (X.2.1 2, 6, .inl (fun _ => 0)) := (hs664 (4, 0) (by decide)).trans fk637
  have fk668 : st661 (5, 0) = .inr (3, [.int 0, .ref (ad660 (6, 0)), .ref (ad660 (7, 0)), .ref (ad660 (8, 0)), .int 0, .int 0]) := ((hs664 (5, 0) (by decide)).trans fk638).trans (by rw [ha662 (6, 0) (by decide), ha662 (7, 0) (by decide), ha662 (8, 0) (by decide)])
  have fk669 : st661 (6, 0) = .inl (X.2.1 2, 512, .inl (fun _ => 0)) := (hs664 (6, 0) (by decide)).trans fk639
  have fk670 : st661 (7, 0) = .inl (X.2.1 2, 512, .inl (fun _ => 0)) := (hs664 (7, 0) (by decide)).trans fk640
  have fk671 : st661 (8, 0) = .inl (X.2.1 3, 512, .inl (fun _ => 0)) := (hs664 (8, 0) (by decide)).trans fk641
  have fk672 : st661 (10, 0) = .inl (X.2.1 7, 4, .inr (.inr (.inr (.inr (fun _ => none))))) := (hs664 (10, 0) (by decide)).trans fk642
  have fk673 : st661 (11, 0) = .inr (2, [.int 0, .ref (X.2.2 30), .int 0]) := (hs664 (11, 0) (by decide)).trans fk643
  have fk674 : st661 (11, 1) = .inr (2, [.int 0, .ref (X.2.2 30), .int 0]) := (hs664 (11, 1) (by decide)).trans fk644
  have fk675 : st661 (1, 0) = .inr (10, [.ref (ad660 (2, 0)), .ref (ad660 (5, 0)), .ref (ad660 (9, 0)), .ref (ad660 (10, 0)), .ref (ad660 (11, 0)), .ref (ad660 (11, 1)), .int 0]) := ((hs664 (1, 0) (by decide)).trans fk645).trans (by rw [ha662 (2, 0) (by decide), ha662 (5, 0) (by decide), ha662 (9, 0) (by decide), ha662 (10, 0) (by decide), ha662 (11, 0) (by decide), ha662 (11, 1) (by decide)])
  have fk676 : st661 (20, 0) = .inr (8, [.int 10, .int 60, .int 0, .int 0, .ref (ad660 (21, 0)), .int 0, .int 0]) := ((hs664 (20, 0) (by decide)).trans fk646).trans (by rw [ha662 (21, 0) (by decide)])
  have fk677 : st661 (21, 0) = .inl (X.2.1 2, 50, .inl (fun _ => 0)) := (hs664 (21, 0) (by decide)).trans fk647
  have fk678 : st661 (20, 1) = .inr (8, [.int 10, .int 60, .int 0, .int 0, .ref (ad660 (21, 1)), .int 0, .int 0]) := ((hs664 (20, 1) (by decide)).trans fk648).trans (by rw [ha662 (21, 1) (by decide)])
  have fk679 : st661 (21, 1) = .inl (X.2.1 2, 50, .inl (fun _ => 0)) := (hs664 (21, 1) (by decide)).trans fk649
  have fk680 : st661 (20, 2) = .inr (8, [.int 10, .int 60, .int 0, .int 0, .ref (ad660 (21, 2)), .int 0, .int 0]) := ((hs664 (20, 2) (by decide)).trans fk650).trans (by rw [ha662 (21, 2) (by decide)])
  have fk681 : st661 (21, 2) = .inl (X.2.1 2, 50, .inl (fun _ => 0)) := (hs664 (21, 2) (by decide)).trans fk651
  have fk682 : st661 (20, 3) = .inr (8, [.int 10, .int 60, .int 0, .int 0, .ref (ad660 (21, 3)), .int 0, .int 0]) := ((hs664 (20, 3) (by decide)).trans fk652).trans (by rw [ha662 (21, 3) (by decide)])
  have fk683 : st661 (21, 3) = .inl (X.2.1 2, 50, .inl (fun _ => 0)) := (hs664 (21, 3) (by decide)).trans fk653
  have fk684 : st661 (20, 4) = .inr (8, [.int 10, .int 60, .int 0, .int 0, .ref (ad660 (21, 4)), .int 0, .int 0]) := ((hs664 (20, 4) (by decide)).trans fk654).trans (by rw [ha662 (21, 4) (by decide)])
  have fk685 : st661 (21, 4) = .inl (X.2.1 2, 50, .inl (fun _ => 0)) := (hs664 (21, 4) (by decide)).trans fk655
  have fk686 : st661 (20, 5) = .inr (8, [.int 10, .int 60, .int 0, .int 0, .ref (ad660 (21, 5)), .int 0, .int 0]) := ((hs664 (20, 5) (by decide)).trans fk656).trans (by rw [ha662 (21, 5) (by decide)])
  have fk687 : st661 (21, 5) = .inl (X.2.1 2, 50, .inl (fun _ => 0)) := (hs664 (21, 5) (by decide)).trans fk657
  have af688 : ∀ x : ro, x ≠ (2, 0) → x ≠ (3, 0) → x ≠ (4, 0) → x ≠ (5, 0) → x ≠ (6, 0) → x ≠ (7, 0) → x ≠ (8, 0) → x ≠ (9, 0) → x ≠ (10, 0) → x ≠ (11, 0) → x ≠ (11, 1) → x ≠ (20, 0) → x ≠ (21, 0) → x ≠ (20, 1) → x ≠ (21, 1) → x ≠ (20, 2) → x ≠ (21, 2) → x ≠ (20, 3) → x ≠ (21, 3) → x ≠ (20, 4) → x ≠ (21, 4) → x ≠ (20, 5) → x ≠ (21, 5) → x ≠ (30, 0) → ad660 x = ad x := fun x a0 a1 a2 a3 a4 a5 a6 a7 a8 a9 a10 a11 a12 a13 a14 a15 a16 a17 a18 a19 a20 a21 a22 a23 => (ha662 x a23).trans (af629 x a0 a1 a2 a3 a4 a5 a6 a7 a8 a9 a10 a11 a12 a13 a14 a15 a16 a17 a18 a19 a20 a21 a22)
  have sf689 : ∀ x : ro, x ≠ (2, 0) → x ≠ (3, 0) → x ≠ (4, 0) → x ≠ (1, 0) → x ≠ (5, 0) → x ≠ (6, 0) → x ≠ (7, 0) → x ≠ (8, 0) → x ≠ (9, 0) → x ≠ (10, 0) → x ≠ (11, 0) → x ≠ (11, 1) → x ≠ (20, 0) → x ≠ (21, 0) → x ≠ (20, 1) → x ≠ (21, 1) → x ≠ (20, 2) → x ≠ (21, 2) → x ≠ (20, 3) → x ≠ (21, 3) → x ≠ (20, 4) → x ≠ (21, 4) → x ≠ (20, 5) → x ≠ (21, 5) → x ≠ (30, 0) → st661 x = st x := fun x a0 a1 a2 a3 a4 a5 a6 a7 a8 a9 a10 a11 a12 a13 a14 a15 a16 a17 a18 a19 a20 a21 a22 a23 a24 => (hs664 x a24).trans (sf658 x a0 a1 a2 a3 a4 a5 a6 a7 a8 a9 a10 a11 a12 a13 a14 a15 a16 a17 a18 a19 a20 a21 a22 a23)
  have fk690 : st661 (9, 0) = .inl (X.2.1 6, 6, .inr (.inr (.inr (.inr (va_up (va_up (va_up (va_up (va_up (va_up (fun _ => none) 0 (some (ad660 (20, 0)))) 1 (some (ad660 (20, 1)))) 2 (some (ad660 (20, 2)))) 3 (some (ad660 (20, 3)))) 4 (some (ad660 (20, 4)))) 5 (some (ad660 (20, 5)))))))) := ((hs664 (9, 0) (by decide)).trans fk633).trans (by rw [ha662 (20, 0) (by decide), ha662 (20, 1) (by decide), ha662 (20, 2) (by decide), ha662 (20, 3) (by decide), ha662 (20, 4) (by decide), ha662 (20, 5) (by decide)])
  clear fk635 fk636 fk637 fk638 fk639 fk640 fk641 fk642 fk643 fk644 fk645 fk646 fk647 fk648 fk649 fk650 fk651 fk652 fk653 fk654 fk655 fk656 fk657 fk633 af629 sf658
  refine lv_dup hx hb dX7_init_112 rfl ?_
  refine g_callINv (k2 := 0) (As := []) (rest := [.ref (ad660 (30, 0)), .int 0, .ref (ad660 (10, 0))]) C (c_X1_init l X ([(1, 0)] ++ [(2, 0)] ++ [(3, 0)] ++ [(4, 0)] ++ [(5, 0)] ++ [(6, 0)] ++ [(7, 0)] ++ [(8, 0)] ++ [(9, 0)] ++ [(10, 0)] ++ [(11, 0)] ++ [(11, 1)] ++ [(20, 0)] ++ [(21, 0)] ++ [(20, 1)] ++ [(21, 1)] ++ [(20, 2)] ++ [(21, 2)] ++ [(20, 3)] ++ [(21, 3)] ++ [(20, 4)] ++ [(21, 4)] ++ [(20, 5)] ++ [(21, 5)] ++ [(30, 0)]) ad660 st661 0 (List.mem_append_right _ (List.mem_singleton.mpr rfl)) (nmem_app (nmem_app (nmem_app (nmem_app (nmem_app (nmem_app (nmem_app (nmem_app (nmem_app (nmem_app (nmem_app (nmem_app (nmem_app (nmem_app (nmem_app (nmem_app (nmem_app (nmem_app (nmem_app (nmem_app (nmem_app (nmem_app (nmem_app (nmem_app (by decide) (by decide)) (by decide)) (by decide)) (by decide)) (by decide)) (by decide)) (by decide)) (by decide)) (by decide)) (by decide)) (by decide)) (by decide)) (by decide)) (by decide)) (by decide)) (by decide)) (by decide)) (by decide)) (by decide)) (by decide)) (by decide)) (by decide)) (by decide)) (by decide)) fk663) ((g_gt C).2.1 ("RateGate", 50, ⟨"RateGate$Carrier", "<init>", "()V"⟩, "RateGate") (by decide +kernel)) tw_1_157 tw_1_8 tw_1_158 (by decide +kernel) ⟨by rw [hR1]; exact Nat.le_of_ble_eq_true rfl, by rw [hR2]; exact Nat.le_of_ble_eq_true rfl⟩ hW hS rfl hl.1 rfl (Nat.le_of_ble_eq_true rfl) dX7_init_113 ⟨by rw [hR3]; exact Nat.le_of_ble_eq_true rfl, by rw [hR4]; exact Nat.le_of_ble_eq_true rfl⟩ (fun  L9 ad691 st692 H locs hp hW hS => ?_)
  obtain ⟨adq, stq, z0, ha693, hs694, fk695, fk696⟩ := hp
  cases z0
  have hl : lv_has ls 2 [(1, .int 0), (0, .ref (ad691 (1, 0)))] := by rw [ha693 (1, 0) (by decide)]; exact hl
  refine W.eq (g2 := F0 m 116 ls [.ref (ad691 (30, 0)), .int 0, .ref (ad691 (10, 0))]) (by rw [ha693 (30, 0) (by decide), ha693 (10, 0) (by decide)] <;> rfl) ?_
  have fk697 : st692 (2, 0) = .inr (7, [.ref (ad691 (3, 0)), .ref (ad691 (4, 0)), .int 0, .ref (X.2.2 0), .int 32]) := ((hs694 (2, 0) (by decide) (by decide)).trans fk665).trans (by rw [ha693 (3, 0) (by decide), ha693 (4, 0) (by decide)])
  have fk698 : st692 (3, 0) = .inl (X.2.1 1, 60, .inl (fun _ => 0)) := (hs694 (3, 0) (by decide) (by decide)).trans fk666
  have fk699 : st692 (4, 0) = .inl (X.2.1 2, 6, .inl (fun _ => 0)) := (hs694 (4, 0) (by decide) (by decide)).trans fk667
  have fk700 : st692 (5, 0) = .inr (3, [.int 0, .ref (ad691 (6, 0)), .ref (ad691 (7, 0)), .ref (ad691 (8, 0)), .int 0, .int 0]) := ((hs694 (5, 0) (by decide) (by decide)).trans fk668).trans (by rw [ha693 (6, 0) (by decide), ha693 (7, 0) (by decide), ha693 (8, 0) (by decide)])
  have fk701 : st692 (6, 0) = .inl (X.2.1 2, 512, .inl (fun _ => 0)) := (hs694 (6, 0) (by decide) (by decide)).trans fk669
  have fk702 : st692 (7, 0) = .inl (X.2.1 2, 512, .inl (fun _ => 0)) := (hs694 (7, 0) (by decide) (by decide)).trans fk670
  have fk703 : st692 (8, 0) = .inl (X.2.1 3, 512, .inl (fun _ => 0)) := (hs694 (8, 0) (by decide) (by decide)).trans fk671
  have fk704 : st692 (10, 0) = .inl (X.2.1 7, 4, .inr (.inr (.inr (.inr (fun _ => none))))) := (hs694 (10, 0) (by decide) (by decide)).trans fk672
  have fk705 : st692 (11, 0) = .inr (2, [.int 0, .ref (X.2.2 30), .int 0]) := (hs694 (11, 0) (by decide) (by decide)).trans fk673
  have fk706 : st692 (11, 1) = .inr (2, [.int 0, .ref (X.2.2 30), .int 0]) := (hs694 (11, 1) (by decide) (by decide)).trans fk674
  have fk707 : st692 (1, 0) = .inr (10, [.ref (ad691 (2, 0)), .ref (ad691 (5, 0)), .ref (ad691 (9, 0)), .ref (ad691 (10, 0)), .ref (ad691 (11, 0)), .ref (ad691 (11, 1)), .int 0]) := ((hs694 (1, 0) (by decide) (by decide)).trans fk675).trans (by rw [ha693 (2, 0) (by decide), ha693 (5, 0) (by decide), ha693 (9, 0) (by decide), ha693 (10, 0) (by decide), ha693 (11, 0) (by decide), ha693 (11, 1) (by decide)])
  have fk708 : st692 (20, 0) = .inr (8, [.int 10, .int 60, .int 0, .int 0, .ref (ad691 (21, 0)), .int 0, .int 0]) := ((hs694 (20, 0) (by decide) (by decide)).trans fk676).trans (by rw [ha693 (21, 0) (by decide)])
  have fk709 : st692 (21, 0) = .inl (X.2.1 2, 50, .inl (fun _ => 0)) := (hs694 (21, 0) (by decide) (by decide)).trans fk677
  have fk710 : st692 (20, 1) = .inr (8, [.int 10, .int 60, .int 0, .int 0, .ref (ad691 (21, 1)), .int 0, .int 0]) := ((hs694 (20, 1) (by decide) (by decide)).trans fk678).trans (by rw [ha693 (21, 1) (by decide)])
  have fk711 : st692 (21, 1) = .inl (X.2.1 2, 50, .inl (fun _ => 0)) := (hs694 (21, 1) (by decide) (by decide)).trans fk679
  have fk712 : st692 (20, 2) = .inr (8, [.int 10, .int 60, .int 0, .int 0, .ref (ad691 (21, 2)), .int 0, .int 0]) := ((hs694 (20, 2) (by decide) (by decide)).trans fk680).trans (by rw [ha693 (21, 2) (by decide)])
  have fk713 : st692 (21, 2) = .inl (X.2.1 2, 50, .inl (fun _ => 0)) := (hs694 (21, 2) (by decide) (by decide)).trans fk681
  have fk714 : st692 (20, 3) = .inr (8, [.int 10, .int 60, .int 0, .int 0, .ref (ad691 (21, 3)), .int 0, .int 0]) := ((hs694 (20, 3) (by decide) (by decide)).trans fk682).trans (by rw [ha693 (21, 3) (by decide)])
  have fk715 : st692 (21, 3) = .inl (X.2.1 2, 50, .inl (fun _ => 0)) := (hs694 (21, 3) (by decide) (by decide)).trans fk683
  have fk716 : st692 (20, 4) = .inr (8, [.int 10, .int 60, .int 0, .int 0, .ref (ad691 (21, 4)), .int 0, .int 0]) := ((hs694 (20, 4) (by decide) (by decide)).trans fk684).trans (by rw [ha693 (21, 4) (by decide)])
  have fk717 : st692 (21, 4) = .inl (X.2.1 2, 50, .inl (fun _ => 0)) := (hs694 (21, 4) (by decide) (by decide)).trans fk685
  have fk718 : st692 (20, 5) = .inr (8, [.int 10, .int 60, .int 0, .int 0, .ref (ad691 (21, 5)), .int 0, .int 0]) := ((hs694 (20, 5) (by decide) (by decide)).trans fk686).trans (by rw [ha693 (21, 5) (by decide)])
  have fk719 : st692 (21, 5) = .inl (X.2.1 2, 50, .inl (fun _ => 0)) := (hs694 (21, 5) (by decide) (by decide)).trans fk687
  have af720 : ∀ x : ro, x ≠ (2, 0) → x ≠ (3, 0) → x ≠ (4, 0) → x ≠ (5, 0) → x ≠ (6, 0) → x ≠ (7, 0) → x ≠ (8, 0) → x ≠ (9, 0) → x ≠ (10, 0) → x ≠ (11, 0) → x ≠ (11, 1) → x ≠ (20, 0) → x ≠ (21, 0) → x ≠ (20, 1) → x ≠ (21, 1) → x ≠ (20, 2) → x ≠ (21, 2) → x ≠ (20, 3) → x ≠ (21, 3) → x ≠ (20, 4) → x ≠ (21, 4) → x ≠ (20, 5) → x ≠ (21, 5) → x ≠ (30, 0) → x ≠ (31, 0) → ad691 x = ad x := fun x a0 a1 a2 a3 a4 a5 a6 a7 a8 a9 a10 a11 a12 a13 a14 a15 a16 a17 a18 a19 a20 a21 a22 a23 a24 => (ha693 x a24).trans (af688 x a0 a1 a2 a3 a4 a5 a6 a7 a8 a9 a10 a11 a12 a13 a14 a15 a16 a17 a18 a19 a20 a21 a22 a23)
  have sf721 : ∀ x : ro, x ≠ (2, 0) → x ≠ (3, 0) → x ≠ (4, 0) → x ≠ (1, 0) → x ≠ (5, 0) → x ≠ (6, 0) → x ≠ (7, 0) → x ≠ (8, 0) → x ≠ (9, 0) → x ≠ (10, 0) → x ≠ (11, 0) → x ≠ (11, 1) → x ≠ (20, 0) → x ≠ (21, 0) → x ≠ (20, 1) → x ≠ (21, 1) → x ≠ (20, 2) → x ≠ (21, 2) → x ≠ (20, 3) → x ≠ (21, 3) → x ≠ (20, 4) → x ≠ (21, 4) → x ≠ (20, 5) → x ≠ (21, 5) → x ≠ (30, 0) → x ≠ (31, 0) → st692 x = st x := fun x a0 a1 a2 a3 a4 a5 a6 a7 a8 a9 a10 a11 a12 a13 a14 a15 a16 a17 a18 a19 a20 a21 a22 a23 a24 a25 => (hs694 x a24 a25).trans (sf689 x a0 a1 a2 a3 a4 a5 a6 a7 a8 a9 a10 a11 a12 a13 a14 a15 a16 a17 a18 a19 a20 a21 a22 a23 a24)
  have fk722 : st692 (9, 0) = .inl (X.2.1 6, 6, .inr (.inr (.inr (.inr (va_up (va_up (va_up (va_up (va_up (va_up (fun _ => none) 0 (some (ad691 (20, 0)))) 1 (some (ad691 (20, 1)))) 2 (some (ad691 (20, 2)))) 3 (some (ad691 (20, 3)))) 4 (some (ad691 (20, 4)))) 5 (some (ad691 (20, 5)))))))) := ((hs694 (9, 0) (by decide) (by decide)).trans fk690).trans (by rw [ha693 (20, 0) (by decide), ha693 (20, 1) (by decide), ha693 (20, 2) (by decide), ha693 (20, 3) (by decide), ha693 (20, 4) (by decide), ha693 (20, 5) (by decide)])
  clear fk665 fk666 fk667 fk668 fk669 fk670 fk671 fk672 fk673 fk674 fk675 fk676 fk677 fk678 fk679 fk680 fk681 fk682 fk683 fk684 fk685 fk686 fk687 fk663 fk690 af688 sf689
  refine g_astq (r := (10, 0)) (t0 := 7) C hW hS (List.mem_append_left _ (List.mem_append_left _ (List.mem_append_left _ (List.mem_append_left _ (List.mem_append_left _ (List.mem_append_left _ (List.mem_append_left _ (List.mem_append_left _ (List.mem_append_left _ (List.mem_append_left _ (List.mem_append_left _ (List.mem_append_left _ (List.mem_append_left _ (List.mem_append_left _ (List.mem_append_left _ (List.mem_append_left _ (List.mem_append_right _ (List.mem_singleton.mpr rfl)))))))))))))))))) fk704 rfl (g_anyS (Cn := RX1) (T := TX1) (N := 7) C hW (List.mem_append_left _ (List.mem_append_right _ (List.mem_singleton.mpr rfl))) fk695 rfl) (vp_in_nI (n := 0) (N := 4) (by decide) (by decide)) dX7_init_116 (fun st723 H locs fk724 hs725 hW hS => ?_)
  rw [show (0 : Int32).toNatClampNeg = 0 from by decide] at fk724
  have fk726 : st723 (2, 0) = .inr (7, [.ref (ad691 (3, 0)), .ref (ad691 (4, 0)), .int 0, .ref (X.2.2 0), .int 32]) := (hs725 (2, 0) (by decide)).trans fk697
  have fk727 : st723 (3, 0) = .inl (X.2.1 1, 60, .inl (fun _ => 0)) := (hs725 (3, 0) (by decide)).trans fk698
  have fk728 : st723 (4, 0) = .inl (X.2.1 2, 6, .inl (fun _ => 0)) := (hs725 (4, 0) (by decide)).trans fk699
  have fk729 : st723 (5, 0) = .inr (3, [.int 0, .ref (ad691 (6, 0)), .ref (ad691 (7, 0)), .ref (ad691 (8, 0)), .int 0, .int 0]) := (hs725 (5, 0) (by decide)).trans fk700
  have fk730 : st723 (6, 0) = .inl (X.2.1 2, 512, .inl (fun _ => 0)) := (hs725 (6, 0) (by decide)).trans fk701
  have fk731 : st723 (7, 0) = .inl (X.2.1 2, 512, .inl (fun _ => 0)) := (hs725 (7, 0) (by decide)).trans fk702
  have fk732 : st723 (8, 0) = .inl (X.2.1 3, 512, .inl (fun _ => 0)) := (hs725 (8, 0) (by decide)).trans fk703
  have fk733 : st723 (11, 0) = .inr (2, [.int 0, .ref (X.2.2 30), .int 0]) := (hs725 (11, 0) (by decide)).trans fk705
  have fk734 : st723 (11, 1) = .inr (2, [.int 0, .ref (X.2.2 30), .int 0]) := (hs725 (11, 1) (by decide)).trans fk706
  have fk735 : st723 (1, 0) = .inr (10, [.ref (ad691 (2, 0)), .ref (ad691 (5, 0)), .ref (ad691 (9, 0)), .ref (ad691 (10, 0)), .ref (ad691 (11, 0)), .ref (ad691 (11, 1)), .int 0]) := (hs725 (1, 0) (by decide)).trans fk707
  have fk736 : st723 (20, 0) = .inr (8, [.int 10, .int 60, .int 0, .int 0, .ref (ad691 (21, 0)), .int 0, .int 0]) := (hs725 (20, 0) (by decide)).trans fk708
  have fk737 : st723 (21, 0) = .inl (X.2.1 2, 50, .inl (fun _ => 0)) := (hs725 (21, 0) (by decide)).trans fk709
  have fk738 : st723 (20, 1) = .inr (8, [.int 10, .int 60, .int 0, .int 0, .ref (ad691 (21, 1)), .int 0, .int 0]) := (hs725 (20, 1) (by decide)).trans fk710
  have fk739 : st723 (21, 1) = .inl (X.2.1 2, 50, .inl (fun _ => 0)) := (hs725 (21, 1) (by decide)).trans fk711
  have fk740 : st723 (20, 2) = .inr (8, [.int 10, .int 60, .int 0, .int 0, .ref (ad691 (21, 2)), .int 0, .int 0]) := (hs725 (20, 2) (by decide)).trans fk712
  have fk741 : st723 (21, 2) = .inl (X.2.1 2, 50, .inl (fun _ => 0)) := (hs725 (21, 2) (by decide)).trans fk713
  have fk742 : st723 (20, 3) = .inr (8, [.int 10, .int 60, .int 0, .int 0, .ref (ad691 (21, 3)), .int 0, .int 0]) := (hs725 (20, 3) (by decide)).trans fk714
  have fk743 : st723 (21, 3) = .inl (X.2.1 2, 50, .inl (fun _ => 0)) := (hs725 (21, 3) (by decide)).trans fk715
  have fk744 : st723 (20, 4) = .inr (8, [.int 10, .int 60, .int 0, .int 0, .ref (ad691 (21, 4)), .int 0, .int 0]) := (hs725 (20, 4) (by decide)).trans fk716
  have fk745 : st723 (21, 4) = .inl (X.2.1 2, 50, .inl (fun _ => 0)) := (hs725 (21, 4) (by decide)).trans fk717
  have fk746 : st723 (20, 5) = .inr (8, [.int 10, .int 60, .int 0, .int 0, .ref (ad691 (21, 5)), .int 0, .int 0]) := (hs725 (20, 5) (by decide)).trans fk718
  have fk747 : st723 (21, 5) = .inl (X.2.1 2, 50, .inl (fun _ => 0)) := (hs725 (21, 5) (by decide)).trans fk719
  have fk748 : st723 (30, 0) = .inr (4, [.int 1, .int 0, .int 0, .ref (ad691 (31, 0)), .int 0, .int 0, .int 0]) := (hs725 (30, 0) (by decide)).trans fk695
  have fk749 : st723 (31, 0) = .inr (9, [.int 500, .int 100, .int 20]) := (hs725 (31, 0) (by decide)).trans fk696
  have fk750 : st723 (9, 0) = .inl (X.2.1 6, 6, .inr (.inr (.inr (.inr (va_up (va_up (va_up (va_up (va_up (va_up (fun _ => none) 0 (some (ad691 (20, 0)))) 1 (some (ad691 (20, 1)))) 2 (some (ad691 (20, 2)))) 3 (some (ad691 (20, 3)))) 4 (some (ad691 (20, 4)))) 5 (some (ad691 (20, 5)))))))) := (hs725 (9, 0) (by decide)).trans fk722
  have sf751 : ∀ x : ro, x ≠ (2, 0) → x ≠ (3, 0) → x ≠ (4, 0) → x ≠ (1, 0) → x ≠ (5, 0) → x ≠ (6, 0) → x ≠ (7, 0) → x ≠ (8, 0) → x ≠ (9, 0) → x ≠ (10, 0) → x ≠ (11, 0) → x ≠ (11, 1) → x ≠ (20, 0) → x ≠ (21, 0) → x ≠ (20, 1) → x ≠ (21, 1) → x ≠ (20, 2) → x ≠ (21, 2) → x ≠ (20, 3) → x ≠ (21, 3) → x ≠ (20, 4) → x ≠ (21, 4) → x ≠ (20, 5) → x ≠ (21, 5) → x ≠ (30, 0) → x ≠ (31, 0) → st723 x = st x := fun x a0 a1 a2 a3 a4 a5 a6 a7 a8 a9 a10 a11 a12 a13 a14 a15 a16 a17 a18 a19 a20 a21 a22 a23 a24 a25 => (hs725 x a9).trans (sf721 x a0 a1 a2 a3 a4 a5 a6 a7 a8 a9 a10 a11 a12 a13 a14 a15 a16 a17 a18 a19 a20 a21 a22 a23 a24 a25)
  clear fk697 fk698 fk699 fk700 fk701 fk702 fk703 fk704 fk705 fk706 fk707 fk708 fk709 fk710 fk711 fk712 fk713 fk714 fk715 fk716 fk717 fk718 fk719 fk695 fk696 fk722 sf721
  refine lv_iinc (v := 1) (lv' := [(1, .int 1), (0, .ref (ad691 (1, 0)))]) hx hb dX7_init_117 hl (k := 0) rfl (by decide) (by decide) rfl (fun ls hl => ?_)
  refine lv_goto (tgt := 99) hx hb dX7_init_120 (by decide) ?_
  refine lv_iload_n hx hb dX7_init_99 rfl (lv_at hl 0 rfl) ?_
  refine lv_iconst (v := 4) hx hb dX7_init_100 (by decide) ?_
  refine lv_icmp_ge (tgt := 123) hx hb dX7_init_101 (by decide) (fun c9 => absurd c9 (by decide)) (fun _ => ?_)
  refine lv_aload_n hx hb dX7_init_104 rfl (lv_at hl 1 rfl) ?_
  refine g_get (r := (1, 0)) (Cn := RX7) (T := TX7) (N := 7) (ci := 10) (v := .ref (ad691 (10, 0))) C tinX7 hW (List.mem_append_left _ (List.mem_append_left _ (List.mem_append_left _ (List.mem_append_left _ (List.mem_append_left _ (List.mem_append_left _ (List.mem_append_left _ (List.mem_append_left _ (List.mem_append_left _ (List.mem_append_left _ (List.mem_append_left _ (List.mem_append_left _ (List.mem_append_left _ (List.mem_append_left _ (List.mem_append_left _ (List.mem_append_left _ (List.mem_append_left _ (List.mem_append_left _ (List.mem_append_left _ (List.mem_append_left _ (List.mem_append_left _ (List.mem_append_left _ (List.mem_append_left _ (List.mem_append_left _ (List.mem_append_left _ (List.mem_singleton.mpr rfl)))))))))))))))))))))))))) fk735 rfl 3 (by decide) tw_1_209 (fun _ h9 => h9) rfl dX7_init_105 ?_
  refine lv_iload_n hx hb dX7_init_108 rfl (lv_at hl 0 rfl) ?_
  refine g_newo (r := (30, 1)) (Cn := RX1) (T := TX1) (N := 7) (ci := 4) (ty0 := tyX1) (fs := [.int 0, .int 0, .int 0, .null, .int 0, .int 0, .int 0]) C tinX1 tyX1_ok hW hS (nmem_app (nmem_app (nmem_app (nmem_app (nmem_app (nmem_app (nmem_app (nmem_app (nmem_app (nmem_app (nmem_app (nmem_app (nmem_app (nmem_app (nmem_app (nmem_app (nmem_app (nmem_app (nmem_app (nmem_app (nmem_app (nmem_app (nmem_app (nmem_app (nmem_app (by decide) (by decide)) (by decide)) (by decide)) (by decide)) (by decide)) (by decide)) (by decide)) (by decide)) (by decide)) (by decide)) (by decide)) (by decide)) (by decide)) (by decide)) (by decide)) (by decide)) (by decide)) (by decide)) (by decide)) (by decide)) (by decide)) (by decide)) (by decide)) (by decide)) (by decide)) rfl tw_1_96 tw_1_155 tw_1_8 (by intro j hj; rcases (show j = 0 ∨ j = 1 ∨ j = 2 ∨ j = 3 ∨ j = 4 ∨ j = 5 ∨ j = 6 by omega) with rfl | rfl | rfl | rfl | rfl | rfl | rfl <;> rfl) (by rw [hR3]; exact Nat.le_of_ble_eq_true rfl) (by rw [hR4]; exact Nat.le_of_ble_eq_true rfl) dX7_init_109 (fun ad753 st754 H ha755 fk756 hs757 hW hS => ?_)
  have hl : lv_has ls 2 [(1, .int 1), (0, .ref (ad753 (1, 0)))] := by rw [ha755 (1, 0) (by decide)]; exact hl
  refine W.eq (g2 := F0 m 112 ls [.ref (ad753 (30, 1)), .int 1, .ref (ad753 (10, 0))]) (by rw [ha755 (10, 0) (by decide)] <;> rfl) ?_
  have fk758 : st754 (2, 0) = .inr (7, [.ref (ad753 (3, 0)), .ref (ad753 (4, 0)), .int 0, .ref (X.2.2 0), .int 32]) := ((hs757 (2, 0) (by decide)).trans fk726).trans (by rw [ha755 (3, 0) (by decide), ha755 (4, 0) (by decide)])
  have fk759 : st754 (3, 0) = .inl (X.2.1 1, 60, .inl (fun _ => 0)) := (hs757 (3, 0) (by decide)).trans fk727
  have fk760 : st754 (4, 0) = .inl (X.2.1 2, 6, .inl (fun _ => 0)) := (hs757 (4, 0) (by decide)).trans fk728
  have fk761 : st754 (5, 0) = .inr (3, [.int 0, .ref (ad753 (6, 0)), .ref (ad753 (7, 0)), .ref (ad753 (8, 0)), .int 0, .int 0]) := ((hs757 (5, 0) (by decide)).trans fk729).trans (by rw [ha755 (6, 0) (by decide), ha755 (7, 0) (by decide), ha755 (8, 0) (by decide)])
  have fk762 : st754 (6, 0) = .inl (X.2.1 2, 512, .inl (fun _ => 0)) := (hs757 (6, 0) (by decide)).trans fk730
  have fk763 : st754 (7, 0) = .inl (X.2.1 2, 512, .inl (fun _ => 0)) := (hs757 (7, 0) (by decide)).trans fk731
  have fk764 : st754 (8, 0) = .inl (X.2.1 3, 512, .inl (fun _ => 0)) := (hs757 (8, 0) (by decide)).trans fk732
  have fk765 : st754 (11, 0) = .inr (2, [.int 0, .ref (X.2.2 30), .int 0]) := (hs757 (11, 0) (by decide)).trans fk733
  have fk766 : st754 (11, 1) = .inr (2, [.int 0, .ref (X.2.2 30), .int 0]) := (hs757 (11, 1) (by decide)).trans fk734
  have fk767 : st754 (1, 0) = .inr (10, [.ref (ad753 (2, 0)), .ref (ad753 (5, 0)), .ref (ad753 (9, 0)), .ref (ad753 (10, 0)), .ref (ad753 (11, 0)), .ref (ad753 (11, 1)), .int 0]) := ((hs757 (1, 0) (by decide)).trans fk735).trans (by rw [ha755 (2, 0) (by decide), ha755 (5, 0) (by decide), ha755 (9, 0) (by decide), ha755 (10, 0) (by decide), ha755 (11, 0) (by decide), ha755 (11, 1) (by decide)])
  have fk768 : st754 (20, 0) = .inr (8, [.int 10, .int 60, .int 0, .int 0, .ref (ad753 (21, 0)), .int 0, .int 0]) := ((hs757 (20, 0) (by decide)).trans fk736).trans (by rw [ha755 (21, 0) (by decide)])
  have fk769 : st754 (21, 0) = .inl (X.2.1 2, 50, .inl (fun _ => 0)) := (hs757 (21, 0) (by decide)).trans fk737
  have fk770 : st754 (20, 1) = .inr (8, [.int 10, .int 60, .int 0, .int 0, .ref (ad753 (21, 1)), .int 0, .int 0]) := ((hs757 (20, 1) (by decide)).trans fk738).trans (by rw [ha755 (21, 1) (by decide)])
  have fk771 : st754 (21, 1) = .inl (X.2.1 2, 50, .inl (fun _ => 0)) := (hs757 (21, 1) (by decide)).trans fk739
  have fk772 : st754 (20, 2) = .inr (8, [.int 10, .int 60, .int 0, .int 0, .ref (ad753 (21, 2)), .int 0, .int 0]) := ((hs757 (20, 2) (by decide)).trans fk740).trans (by rw [ha755 (21, 2) (by decide)])
  have fk773 : st754 (21, 2) = .inl (X.2.1 2, 50, .inl (fun _ => 0)) := (hs757 (21, 2) (by decide)).trans fk741
  have fk774 : st754 (20, 3) = .inr (8, [.int 10, .int 60, .int 0, .int 0, .ref (ad753 (21, 3)), .int 0, .int 0]) := ((hs757 (20, 3) (by decide)).trans fk742).trans (by rw [ha755 (21, 3) (by decide)])
  have fk775 : st754 (21, 3) = .inl (X.2.1 2, 50, .inl (fun _ => 0)) := (hs757 (21, 3) (by decide)).trans fk743
  have fk776 : st754 (20, 4) = .inr (8, [.int 10, .int 60, .int 0, .int 0, .ref (ad753 (21, 4)), .int 0, .int 0]) := ((hs757 (20, 4) (by decide)).trans fk744).trans (by rw [ha755 (21, 4) (by decide)])
  have fk777 : st754 (21, 4) = .inl (X.2.1 2, 50, .inl (fun _ => 0)) := (hs757 (21, 4) (by decide)).trans fk745
  have fk778 : st754 (20, 5) = .inr (8, [.int 10, .int 60, .int 0, .int 0, .ref (ad753 (21, 5)), .int 0, .int 0]) := ((hs757 (20, 5) (by decide)).trans fk746).trans (by rw [ha755 (21, 5) (by decide)])
  have fk779 : st754 (21, 5) = .inl (X.2.1 2, 50, .inl (fun _ => 0)) := (hs757 (21, 5) (by decide)).trans fk747
  have fk780 : st754 (30, 0) = .inr (4, [.int 1, .int 0, .int 0, .ref (ad753 (31, 0)), .int 0, .int 0, .int 0]) := ((hs757 (30, 0) (by decide)).trans fk748).trans (by rw [ha755 (31, 0) (by decide)])
  have fk781 : st754 (31, 0) = .inr (9, [.int 500, .int 100, .int 20]) := (hs757 (31, 0) (by decide)).trans fk749
  have af782 : ∀ x : ro, x ≠ (2, 0) → x ≠ (3, 0) → x ≠ (4, 0) → x ≠ (5, 0) → x ≠ (6, 0) → x ≠ (7, 0) → x ≠ (8, 0) → x ≠ (9, 0) → x ≠ (10, 0) → x ≠ (11, 0) → x ≠ (11, 1) → x ≠ (20, 0) → x ≠ (21, 0) → x ≠ (20, 1) → x ≠ (21, 1) → x ≠ (20, 2) → x ≠ (21, 2) → x ≠ (20, 3) → x ≠ (21, 3) → x ≠ (20, 4) → x ≠ (21, 4) → x ≠ (20, 5) → x ≠ (21, 5) → x ≠ (30, 0) → x ≠ (31, 0) → x ≠ (30, 1) → ad753 x = ad x := fun x a0 a1 a2 a3 a4 a5 a6 a7 a8 a9 a10 a11 a12 a13 a14 a15 a16 a17 a18 a19 a20 a21 a22 a23 a24 a25 => (ha755 x a25).trans (af720 x a0 a1 a2 a3 a4 a5 a6 a7 a8 a9 a10 a11 a12 a13 a14 a15 a16 a17 a18 a19 a20 a21 a22 a23 a24)
  have sf783 : ∀ x : ro, x ≠ (2, 0) → x ≠ (3, 0) → x ≠ (4, 0) → x ≠ (1, 0) → x ≠ (5, 0) → x ≠ (6, 0) → x ≠ (7, 0) → x ≠ (8, 0) → x ≠ (9, 0) → x ≠ (10, 0) → x ≠ (11, 0) → x ≠ (11, 1) → x ≠ (20, 0) → x ≠ (21, 0) → x ≠ (20, 1) → x ≠ (21, 1) → x ≠ (20, 2) → x ≠ (21, 2) → x ≠ (20, 3) → x ≠ (21, 3) → x ≠ (20, 4) → x ≠ (21, 4) → x ≠ (20, 5) → x ≠ (21, 5) → x ≠ (30, 0) → x ≠ (31, 0) → x ≠ (30, 1) → st754 x = st x := fun x a0 a1 a2 a3 a4 a5 a6 a7 a8 a9 a10 a11 a12 a13 a14 a15 a16 a17 a18 a19 a20 a21 a22 a23 a24 a25 a26 => (hs757 x a26).trans (sf751 x a0 a1 a2 a3 a4 a5 a6 a7 a8 a9 a10 a11 a12 a13 a14 a15 a16 a17 a18 a19 a20 a21 a22 a23 a24 a25)
  have fk784 : st754 (9, 0) = .inl (X.2.1 6, 6, .inr (.inr (.inr (.inr (va_up (va_up (va_up (va_up (va_up (va_up (fun _ => none) 0 (some (ad753 (20, 0)))) 1 (some (ad753 (20, 1)))) 2 (some (ad753 (20, 2)))) 3 (some (ad753 (20, 3)))) 4 (some (ad753 (20, 4)))) 5 (some (ad753 (20, 5)))))))) := ((hs757 (9, 0) (by decide)).trans fk750).trans (by rw [ha755 (20, 0) (by decide), ha755 (20, 1) (by decide), ha755 (20, 2) (by decide), ha755 (20, 3) (by decide), ha755 (20, 4) (by decide), ha755 (20, 5) (by decide)])
  have fk785 : st754 (10, 0) = .inl (X.2.1 7, 4, .inr (.inr (.inr (.inr (va_up (fun _ => none) 0 (some (ad753 (30, 0)))))))) := ((hs757 (10, 0) (by decide)).trans fk724).trans (by rw [ha755 (30, 0) (by decide)])
  clear fk726 fk727 fk728 fk729 fk730 fk731 fk732 fk733 fk734 fk735 fk736 fk737 fk738 fk739 fk740 fk741 fk742 fk743 fk744 fk745 fk746 fk747 fk748 fk749 fk750 fk724 af720 sf751
  refine lv_dup hx hb dX7_init_112 rfl ?_
  refine g_callINv (k2 := 0) (As := []) (rest := [.ref (ad753 (30, 1)), .int 1, .ref (ad753 (10, 0))]) C (c_X1_init l X ([(1, 0)] ++ [(2, 0)] ++ [(3, 0)] ++ [(4, 0)] ++ [(5, 0)] ++ [(6, 0)] ++ [(7, 0)] ++ [(8, 0)] ++ [(9, 0)] ++ [(10, 0)] ++ [(11, 0)] ++ [(11, 1)] ++ [(20, 0)] ++ [(21, 0)] ++ [(20, 1)] ++ [(21, 1)] ++ [(20, 2)] ++ [(21, 2)] ++ [(20, 3)] ++ [(21, 3)] ++ [(20, 4)] ++ [(21, 4)] ++ [(20, 5)] ++ [(21, 5)] ++ [(30, 0)] ++ [(31, 0)] ++ [(30, 1)]) ad753 st754 1 (List.mem_append_right _ (List.mem_singleton.mpr rfl)) (nmem_app (nmem_app (nmem_app (nmem_app (nmem_app (nmem_app (nmem_app (nmem_app (nmem_app (nmem_app (nmem_app (nmem_app (nmem_app (nmem_app (nmem_app (nmem_app (nmem_app (nmem_app (nmem_app (nmem_app (nmem_app (nmem_app (nmem_app (nmem_app (nmem_app (nmem_app (by decide) (by decide)) (by decide)) (by decide)) (by decide)) (by decide)) (by decide)) (by decide)) (by decide)) (by decide)) (by decide)) (by decide)) (by decide)) (by decide)) (by decide)) (by decide)) (by decide)) (by decide)) (by decide)) (by decide)) (by decide)) (by decide)) (by decide)) (by decide)) (by decide)) (by decide)) (by decide)) fk756) ((g_gt C).2.1 ("RateGate", 50, ⟨"RateGate$Carrier", "<init>", "()V"⟩, "RateGate") (by decide +kernel)) tw_1_157 tw_1_8 tw_1_158 (by decide +kernel) ⟨by rw [hR1]; exact Nat.le_of_ble_eq_true rfl, by rw [hR2]; exact Nat.le_of_ble_eq_true rfl⟩ hW hS rfl hl.1 rfl (Nat.le_of_ble_eq_true rfl) dX7_init_113 ⟨by rw [hR3]; exact Nat.le_of_ble_eq_true rfl, by rw [hR4]; exact Nat.le_of_ble_eq_true rfl⟩ (fun  L9 ad786 st787 H locs hp hW hS => ?_)
  obtain ⟨adq, stq, z0, ha788, hs789, fk790, fk791⟩ := hp
  cases z0
  have hl : lv_has ls 2 [(1, .int 1), (0, .ref (ad786 (1, 0)))] := by rw [ha788 (1, 0) (by decide)]; exact hl
  refine W.eq (g2 := F0 m 116 ls [.ref (ad786 (30, 1)), .int 1, .ref (ad786 (10, 0))]) (by rw [ha788 (30, 1) (by decide), ha788 (10, 0) (by decide)] <;> rfl) ?_
  have fk792 : st787 (2, 0) = .inr (7, [.ref (ad786 (3, 0)), .ref (ad786 (4, 0)), .int 0, .ref (X.2.2 0), .int 32]) := ((hs789 (2, 0) (by decide) (by decide)).trans fk758).trans (by rw [ha788 (3, 0) (by decide), ha788 (4, 0) (by decide)])
  have fk793 : st787 (3, 0) = .inl (X.2.1 1, 60, .inl (fun _ => 0)) := (hs789 (3, 0) (by decide) (by decide)).trans fk759
  have fk794 : st787 (4, 0) = .inl (X.2.1 2, 6, .inl (fun _ => 0)) := (hs789 (4, 0) (by decide) (by decide)).trans fk760
  have fk795 : st787 (5, 0) = .inr (3, [.int 0, .ref (ad786 (6, 0)), .ref (ad786 (7, 0)), .ref (ad786 (8, 0)), .int 0, .int 0]) := ((hs789 (5, 0) (by decide) (by decide)).trans fk761).trans (by rw [ha788 (6, 0) (by decide), ha788 (7, 0) (by decide), ha788 (8, 0) (by decide)])
  have fk796 : st787 (6, 0) = .inl (X.2.1 2, 512, .inl (fun _ => 0)) := (hs789 (6, 0) (by decide) (by decide)).trans fk762
  have fk797 : st787 (7, 0) = .inl (X.2.1 2, 512, .inl (fun _ => 0)) := (hs789 (7, 0) (by decide) (by decide)).trans fk763
  have fk798 : st787 (8, 0) = .inl (X.2.1 3, 512, .inl (fun _ => 0)) := (hs789 (8, 0) (by decide) (by decide)).trans fk764
  have fk799 : st787 (11, 0) = .inr (2, [.int 0, .ref (X.2.2 30), .int 0]) := (hs789 (11, 0) (by decide) (by decide)).trans fk765
  have fk800 : st787 (11, 1) = .inr (2, [.int 0, .ref (X.2.2 30), .int 0]) := (hs789 (11, 1) (by decide) (by decide)).trans fk766
  have fk801 : st787 (1, 0) = .inr (10, [.ref (ad786 (2, 0)), .ref (ad786 (5, 0)), .ref (ad786 (9, 0)), .ref (ad786 (10, 0)), .ref (ad786 (11, 0)), .ref (ad786 (11, 1)), .int 0]) := ((hs789 (1, 0) (by decide) (by decide)).trans fk767).trans (by rw [ha788 (2, 0) (by decide), ha788 (5, 0) (by decide), ha788 (9, 0) (by decide), ha788 (10, 0) (by decide), ha788 (11, 0) (by decide), ha788 (11, 1) (by decide)])
  have fk802 : st787 (20, 0) = .inr (8, [.int 10, .int 60, .int 0, .int 0, .ref (ad786 (21, 0)), .int 0, .int 0]) := ((hs789 (20, 0) (by decide) (by decide)).trans fk768).trans (by rw [ha788 (21, 0) (by decide)])
  have fk803 : st787 (21, 0) = .inl (X.2.1 2, 50, .inl (fun _ => 0)) := (hs789 (21, 0) (by decide) (by decide)).trans fk769
  have fk804 : st787 (20, 1) = .inr (8, [.int 10, .int 60, .int 0, .int 0, .ref (ad786 (21, 1)), .int 0, .int 0]) := ((hs789 (20, 1) (by decide) (by decide)).trans fk770).trans (by rw [ha788 (21, 1) (by decide)])
  have fk805 : st787 (21, 1) = .inl (X.2.1 2, 50, .inl (fun _ => 0)) := (hs789 (21, 1) (by decide) (by decide)).trans fk771
  have fk806 : st787 (20, 2) = .inr (8, [.int 10, .int 60, .int 0, .int 0, .ref (ad786 (21, 2)), .int 0, .int 0]) := ((hs789 (20, 2) (by decide) (by decide)).trans fk772).trans (by rw [ha788 (21, 2) (by decide)])
  have fk807 : st787 (21, 2) = .inl (X.2.1 2, 50, .inl (fun _ => 0)) := (hs789 (21, 2) (by decide) (by decide)).trans fk773
  have fk808 : st787 (20, 3) = .inr (8, [.int 10, .int 60, .int 0, .int 0, .ref (ad786 (21, 3)), .int 0, .int 0]) := ((hs789 (20, 3) (by decide) (by decide)).trans fk774).trans (by rw [ha788 (21, 3) (by decide)])
  have fk809 : st787 (21, 3) = .inl (X.2.1 2, 50, .inl (fun _ => 0)) := (hs789 (21, 3) (by decide) (by decide)).trans fk775
  have fk810 : st787 (20, 4) = .inr (8, [.int 10, .int 60, .int 0, .int 0, .ref (ad786 (21, 4)), .int 0, .int 0]) := ((hs789 (20, 4) (by decide) (by decide)).trans fk776).trans (by rw [ha788 (21, 4) (by decide)])
  have fk811 : st787 (21, 4) = .inl (X.2.1 2, 50, .inl (fun _ => 0)) := (hs789 (21, 4) (by decide) (by decide)).trans fk777
  have fk812 : st787 (20, 5) = .inr (8, [.int 10, .int 60, .int 0, .int 0, .ref (ad786 (21, 5)), .int 0, .int 0]) := ((hs789 (20, 5) (by decide) (by decide)).trans fk778).trans (by rw [ha788 (21, 5) (by decide)])
  have fk813 : st787 (21, 5) = .inl (X.2.1 2, 50, .inl (fun _ => 0)) := (hs789 (21, 5) (by decide) (by decide)).trans fk779
  have fk814 : st787 (30, 0) = .inr (4, [.int 1, .int 0, .int 0, .ref (ad786 (31, 0)), .int 0, .int 0, .int 0]) := ((hs789 (30, 0) (by decide) (by decide)).trans fk780).trans (by rw [ha788 (31, 0) (by decide)])
  have fk815 : st787 (31, 0) = .inr (9, [.int 500, .int 100, .int 20]) := (hs789 (31, 0) (by decide) (by decide)).trans fk781
  have af816 : ∀ x : ro, x ≠ (2, 0) → x ≠ (3, 0) → x ≠ (4, 0) → x ≠ (5, 0) → x ≠ (6, 0) → x ≠ (7, 0) → x ≠ (8, 0) → x ≠ (9, 0) → x ≠ (10, 0) → x ≠ (11, 0) → x ≠ (11, 1) → x ≠ (20, 0) → x ≠ (21, 0) → x ≠ (20, 1) → x ≠ (21, 1) → x ≠ (20, 2) → x ≠ (21, 2) → x ≠ (20, 3) → x ≠ (21, 3) → x ≠ (20, 4) → x ≠ (21, 4) → x ≠ (20, 5) → x ≠ (21, 5) → x ≠ (30, 0) → x ≠ (31, 0) → x ≠ (30, 1) → x ≠ (31, 1) → ad786 x = ad x := fun x a0 a1 a2 a3 a4 a5 a6 a7 a8 a9 a10 a11 a12 a13 a14 a15 a16 a17 a18 a19 a20 a21 a22 a23 a24 a25 a26 => (ha788 x a26).trans (af782 x a0 a1 a2 a3 a4 a5 a6 a7 a8 a9 a10 a11 a12 a13 a14 a15 a16 a17 a18 a19 a20 a21 a22 a23 a24 a25)
  have sf817 : ∀ x : ro, x ≠ (2, 0) → x ≠ (3, 0) → x ≠ (4, 0) → x ≠ (1, 0) → x ≠ (5, 0) → x ≠ (6, 0) → x ≠ (7, 0) → x ≠ (8, 0) → x ≠ (9, 0) → x ≠ (10, 0) → x ≠ (11, 0) → x ≠ (11, 1) → x ≠ (20, 0) → x ≠ (21, 0) → x ≠ (20, 1) → x ≠ (21, 1) → x ≠ (20, 2) → x ≠ (21, 2) → x ≠ (20, 3) → x ≠ (21, 3) → x ≠ (20, 4) → x ≠ (21, 4) → x ≠ (20, 5) → x ≠ (21, 5) → x ≠ (30, 0) → x ≠ (31, 0) → x ≠ (30, 1) → x ≠ (31, 1) → st787 x = st x := fun x a0 a1 a2 a3 a4 a5 a6 a7 a8 a9 a10 a11 a12 a13 a14 a15 a16 a17 a18 a19 a20 a21 a22 a23 a24 a25 a26 a27 => (hs789 x a26 a27).trans (sf783 x a0 a1 a2 a3 a4 a5 a6 a7 a8 a9 a10 a11 a12 a13 a14 a15 a16 a17 a18 a19 a20 a21 a22 a23 a24 a25 a26)
  have fk818 : st787 (9, 0) = .inl (X.2.1 6, 6, .inr (.inr (.inr (.inr (va_up (va_up (va_up (va_up (va_up (va_up (fun _ => none) 0 (some (ad786 (20, 0)))) 1 (some (ad786 (20, 1)))) 2 (some (ad786 (20, 2)))) 3 (some (ad786 (20, 3)))) 4 (some (ad786 (20, 4)))) 5 (some (ad786 (20, 5)))))))) := ((hs789 (9, 0) (by decide) (by decide)).trans fk784).trans (by rw [ha788 (20, 0) (by decide), ha788 (20, 1) (by decide), ha788 (20, 2) (by decide), ha788 (20, 3) (by decide), ha788 (20, 4) (by decide), ha788 (20, 5) (by decide)])
  have fk819 : st787 (10, 0) = .inl (X.2.1 7, 4, .inr (.inr (.inr (.inr (va_up (fun _ => none) 0 (some (ad786 (30, 0)))))))) := ((hs789 (10, 0) (by decide) (by decide)).trans fk785).trans (by rw [ha788 (30, 0) (by decide)])
  clear fk758 fk759 fk760 fk761 fk762 fk763 fk764 fk765 fk766 fk767 fk768 fk769 fk770 fk771 fk772 fk773 fk774 fk775 fk776 fk777 fk778 fk779 fk780 fk781 fk756 fk784 fk785 af782 sf783
  refine g_astq (r := (10, 0)) (t0 := 7) C hW hS (List.mem_append_left _ (List.mem_append_left _ (List.mem_append_left _ (List.mem_append_left _ (List.mem_append_left _ (List.mem_append_left _ (List.mem_append_left _ (List.mem_append_left _ (List.mem_append_left _ (List.mem_append_left _ (List.mem_append_left _ (List.mem_append_left _ (List.mem_append_left _ (List.mem_append_left _ (List.mem_append_left _ (List.mem_append_left _ (List.mem_append_left _ (List.mem_append_left _ (List.mem_append_right _ (List.mem_singleton.mpr rfl)))))))))))))))))))) fk819 rfl (g_anyS (Cn := RX1) (T := TX1) (N := 7) C hW (List.mem_append_left _ (List.mem_append_right _ (List.mem_singleton.mpr rfl))) fk790 rfl) (vp_in_nI (n := 1) (N := 4) (by decide) (by decide)) dX7_init_116 (fun st820 H locs fk821 hs822 hW hS => ?_)
  rw [show (1 : Int32).toNatClampNeg = 1 from by decide] at fk821
  have fk823 : st820 (2, 0) = .inr (7, [.ref (ad786 (3, 0)), .ref (ad786 (4, 0)), .int 0, .ref (X.2.2 0), .int 32]) := (hs822 (2, 0) (by decide)).trans fk792
  have fk824 : st820 (3, 0) = .inl (X.2.1 1, 60, .inl (fun _ => 0)) := (hs822 (3, 0) (by decide)).trans fk793
  have fk825 : st820 (4, 0) = .inl (X.2.1 2, 6, .inl (fun _ => 0)) := (hs822 (4, 0) (by decide)).trans fk794
  have fk826 : st820 (5, 0) = .inr (3, [.int 0, .ref (ad786 (6, 0)), .ref (ad786 (7, 0)), .ref (ad786 (8, 0)), .int 0, .int 0]) := (hs822 (5, 0) (by decide)).trans fk795
  have fk827 : st820 (6, 0) = .inl (X.2.1 2, 512, .inl (fun _ => 0)) := (hs822 (6, 0) (by decide)).trans fk796
  have fk828 : st820 (7, 0) = .inl (X.2.1 2, 512, .inl (fun _ => 0)) := (hs822 (7, 0) (by decide)).trans fk797
  have fk829 : st820 (8, 0) = .inl (X.2.1 3, 512, .inl (fun _ => 0)) := (hs822 (8, 0) (by decide)).trans fk798
  have fk830 : st820 (11, 0) = .inr (2, [.int 0, .ref (X.2.2 30), .int 0]) := (hs822 (11, 0) (by decide)).trans fk799
  have fk831 : st820 (11, 1) = .inr (2, [.int 0, .ref (X.2.2 30), .int 0]) := (hs822 (11, 1) (by decide)).trans fk800
  have fk832 : st820 (1, 0) = .inr (10, [.ref (ad786 (2, 0)), .ref (ad786 (5, 0)), .ref (ad786 (9, 0)), .ref (ad786 (10, 0)), .ref (ad786 (11, 0)), .ref (ad786 (11, 1)), .int 0]) := (hs822 (1, 0) (by decide)).trans fk801
  have fk833 : st820 (20, 0) = .inr (8, [.int 10, .int 60, .int 0, .int 0, .ref (ad786 (21, 0)), .int 0, .int 0]) := (hs822 (20, 0) (by decide)).trans fk802
  have fk834 : st820 (21, 0) = .inl (X.2.1 2, 50, .inl (fun _ => 0)) := (hs822 (21, 0) (by decide)).trans fk803
  have fk835 : st820 (20, 1) = .inr (8, [.int 10, .int 60, .int 0, .int 0, .ref (ad786 (21, 1)), .int 0, .int 0]) := (hs822 (20, 1) (by decide)).trans fk804
  have fk836 : st820 (21, 1) = .inl (X.2.1 2, 50, .inl (fun _ => 0)) := (hs822 (21, 1) (by decide)).trans fk805
  have fk837 : st820 (20, 2) = .inr (8, [.int 10, .int 60, .int 0, .int 0, .ref (ad786 (21, 2)), .int 0, .int 0]) := (hs822 (20, 2) (by decide)).trans fk806
  have fk838 : st820 (21, 2) = .inl (X.2.1 2, 50, .inl (fun _ => 0)) := (hs822 (21, 2) (by decide)).trans fk807
  have fk839 : st820 (20, 3) = .inr (8, [.int 10, .int 60, .int 0, .int 0, .ref (ad786 (21, 3)), .int 0, .int 0]) := (hs822 (20, 3) (by decide)).trans fk808
  have fk840 : st820 (21, 3) = .inl (X.2.1 2, 50, .inl (fun _ => 0)) := (hs822 (21, 3) (by decide)).trans fk809
  have fk841 : st820 (20, 4) = .inr (8, [.int 10, .int 60, .int 0, .int 0, .ref (ad786 (21, 4)), .int 0, .int 0]) := (hs822 (20, 4) (by decide)).trans fk810
  have fk842 : st820 (21, 4) = .inl (X.2.1 2, 50, .inl (fun _ => 0)) := (hs822 (21, 4) (by decide)).trans fk811
  have fk843 : st820 (20, 5) = .inr (8, [.int 10, .int 60, .int 0, .int 0, .ref (ad786 (21, 5)), .int 0, .int 0]) := (hs822 (20, 5) (by decide)).trans fk812
  have fk844 : st820 (21, 5) = .inl (X.2.1 2, 50, .inl (fun _ => 0)) := (hs822 (21, 5) (by decide)).trans fk813
  have fk845 : st820 (30, 0) = .inr (4, [.int 1, .int 0, .int 0, .ref (ad786 (31, 0)), .int 0, .int 0, .int 0]) := (hs822 (30, 0) (by decide)).trans fk814
  have fk846 : st820 (31, 0) = .inr (9, [.int 500, .int 100, .int 20]) := (hs822 (31, 0) (by decide)).trans fk815
  have fk847 : st820 (30, 1) = .inr (4, [.int 1, .int 0, .int 0, .ref (ad786 (31, 1)), .int 0, .int 0, .int 0]) := (hs822 (30, 1) (by decide)).trans fk790
  have fk848 : st820 (31, 1) = .inr (9, [.int 500, .int 100, .int 20]) := (hs822 (31, 1) (by decide)).trans fk791
  have fk849 : st820 (9, 0) = .inl (X.2.1 6, 6, .inr (.inr (.inr (.inr (va_up (va_up (va_up (va_up (va_up (va_up (fun _ => none) 0 (some (ad786 (20, 0)))) 1 (some (ad786 (20, 1)))) 2 (some (ad786 (20, 2)))) 3 (some (ad786 (20, 3)))) 4 (some (ad786 (20, 4)))) 5 (some (ad786 (20, 5)))))))) := (hs822 (9, 0) (by decide)).trans fk818
  have sf850 : ∀ x : ro, x ≠ (2, 0) → x ≠ (3, 0) → x ≠ (4, 0) → x ≠ (1, 0) → x ≠ (5, 0) → x ≠ (6, 0) → x ≠ (7, 0) → x ≠ (8, 0) → x ≠ (9, 0) → x ≠ (10, 0) → x ≠ (11, 0) → x ≠ (11, 1) → x ≠ (20, 0) → x ≠ (21, 0) → x ≠ (20, 1) → x ≠ (21, 1) → x ≠ (20, 2) → x ≠ (21, 2) → x ≠ (20, 3) → x ≠ (21, 3) → x ≠ (20, 4) → x ≠ (21, 4) → x ≠ (20, 5) → x ≠ (21, 5) → x ≠ (30, 0) → x ≠ (31, 0) → x ≠ (30, 1) → x ≠ (31, 1) → st820 x = st x := fun x a0 a1 a2 a3 a4 a5 a6 a7 a8 a9 a10 a11 a12 a13 a14 a15 a16 a17 a18 a19 a20 a21 a22 a23 a24 a25 a26 a27 => (hs822 x a9).trans (sf817 x a0 a1 a2 a3 a4 a5 a6 a7 a8 a9 a10 a11 a12 a13 a14 a15 a16 a17 a18 a19 a20 a21 a22 a23 a24 a25 a26 a27)
  clear fk792 fk793 fk794 fk795 fk796 fk797 fk798 fk799 fk800 fk801 fk802 fk803 fk804 fk805 fk806 fk807 fk808 fk809 fk810 fk811 fk812 fk813 fk814 fk815 fk790 fk791 fk818 fk819 sf817
  refine lv_iinc (v := 2) (lv' := [(1, .int 2), (0, .ref (ad786 (1, 0)))]) hx hb dX7_init_117 hl (k := 0) rfl (by decide) (by decide) rfl (fun ls hl => ?_)
  refine lv_goto (tgt := 99) hx hb dX7_init_120 (by decide) ?_
  refine lv_iload_n hx hb dX7_init_99 rfl (lv_at hl 0 rfl) ?_
  refine lv_iconst (v := 4) hx hb dX7_init_100 (by decide) ?_
  refine lv_icmp_ge (tgt := 123) hx hb dX7_init_101 (by decide) (fun c9 => absurd c9 (by decide)) (fun _ => ?_)
  refine lv_aload_n hx hb dX7_init_104 rfl (lv_at hl 1 rfl) ?_
  refine g_get (r := (1, 0)) (Cn := RX7) (T := TX7) (N := 7) (ci := 10) (v := .ref (ad786 (10, 0))) C tinX7 hW (List.mem_append_left _ (List.mem_append_left _ (List.mem_append_left _ (List.mem_append_left _ (List.mem_append_left _ (List.mem_append_left _ (List.mem_append_left _ (List.mem_append_left _ (List.mem_append_left _ (List.mem_append_left _ (List.mem_append_left _ (List.mem_append_left _ (List.mem_append_left _ (List.mem_append_left _ (List.mem_append_left _ (List.mem_append_left _ (List.mem_append_left _ (List.mem_append_left _ (List.mem_append_left _ (List.mem_append_left _ (List.mem_append_left _ (List.mem_append_left _ (List.mem_append_left _ (List.mem_append_left _ (List.mem_append_left _ (List.mem_append_left _ (List.mem_append_left _ (List.mem_singleton.mpr rfl)))))))))))))))))))))))))))) fk832 rfl 3 (by decide) tw_1_209 (fun _ h9 => h9) rfl dX7_init_105 ?_
  refine lv_iload_n hx hb dX7_init_108 rfl (lv_at hl 0 rfl) ?_
  refine g_newo (r := (30, 2)) (Cn := RX1) (T := TX1) (N := 7) (ci := 4) (ty0 := tyX1) (fs := [.int 0, .int 0, .int 0, .null, .int 0, .int 0, .int 0]) C tinX1 tyX1_ok hW hS (nmem_app (nmem_app (nmem_app (nmem_app (nmem_app (nmem_app (nmem_app (nmem_app (nmem_app (nmem_app (nmem_app (nmem_app (nmem_app (nmem_app (nmem_app (nmem_app (nmem_app (nmem_app (nmem_app (nmem_app (nmem_app (nmem_app (nmem_app (nmem_app (nmem_app (nmem_app (nmem_app (by decide) (by decide)) (by decide)) (by decide)) (by decide)) (by decide)) (by decide)) (by decide)) (by decide)) (by decide)) (by decide)) (by decide)) (by decide)) (by decide)) (by decide)) (by decide)) (by decide)) (by decide)) (by decide)) (by decide)) (by decide)) (by decide)) (by decide)) (by decide)) (by decide)) (by decide)) (by decide)) (by decide)) rfl tw_1_96 tw_1_155 tw_1_8 (by intro j hj; rcases (show j = 0 ∨ j = 1 ∨ j = 2 ∨ j = 3 ∨ j = 4 ∨ j = 5 ∨ j = 6 by omega) with rfl | rfl | rfl | rfl | rfl | rfl | rfl <;> rfl) (by rw [hR3]; exact Nat.le_of_ble_eq_true rfl) (by rw [hR4]; exact Nat.le_of_ble_eq_true rfl) dX7_init_109 (fun ad852 st853 H ha854 fk855 hs856 hW hS => ?_)
  have hl : lv_has ls 2 [(1, .int 2), (0, .ref (ad852 (1, 0)))] := by rw [ha854 (1, 0) (by decide)]; exact hl
  refine W.eq (g2 := F0 m 112 ls [.ref (ad852 (30, 2)), .int 2, .ref (ad852 (10, 0))]) (by rw [ha854 (10, 0) (by decide)] <;> rfl) ?_
  have fk857 : st853 (2, 0) = .inr (7, [.ref (ad852 (3, 0)), .ref (ad852 (4, 0)), .int 0, .ref (X.2.2 0), .int 32]) := ((hs856 (2, 0) (by decide)).trans fk823).trans (by rw [ha854 (3, 0) (by decide), ha854 (4, 0) (by decide)])
  have fk858 : st853 (3, 0) = .inl (X.2.1 1, 60, .inl (fun _ => 0)) := (hs856 (3, 0) (by decide)).trans fk824
  have fk859 : st853 (4, 0) = .inl (X.2.1 2, 6, .inl (fun _ => 0)) := (hs856 (4, 0) (by decide)).trans fk825
  have fk860 : st853 (5, 0) = .inr (3, [.int 0, .ref (ad852 (6, 0)), .ref (ad852 (7, 0)), .ref (ad852 (8, 0)), .int 0, .int 0]) := ((hs856 (5, 0) (by decide)).trans fk826).trans (by rw [ha854 (6, 0) (by decide), ha854 (7, 0) (by decide), ha854 (8, 0) (by decide)])
  have fk861 : st853 (6, 0) = .inl (X.2.1 2, 512, .inl (fun _ => 0)) := (hs856 (6, 0) (by decide)).trans fk827
  have fk862 : st853 (7, 0) = .inl (X.2.1 2, 512, .inl (fun _ => 0)) := (hs856 (7, 0) (by decide)).trans fk828
  have fk863 : st853 (8, 0) = .inl (X.2.1 3, 512, .inl (fun _ => 0)) := (hs856 (8, 0) (by decide)).trans fk829
  have fk864 : st853 (11, 0) = .inr (2, [.int 0, .ref (X.2.2 30), .int 0]) := (hs856 (11, 0) (by decide)).trans fk830
  have fk865 : st853 (11, 1) = .inr (2, [.int 0, .ref (X.2.2 30), .int 0]) := (hs856 (11, 1) (by decide)).trans fk831
  have fk866 : st853 (1, 0) = .inr (10, [.ref (ad852 (2, 0)), .ref (ad852 (5, 0)), .ref (ad852 (9, 0)), .ref (ad852 (10, 0)), .ref (ad852 (11, 0)), .ref (ad852 (11, 1)), .int 0]) := ((hs856 (1, 0) (by decide)).trans fk832).trans (by rw [ha854 (2, 0) (by decide), ha854 (5, 0) (by decide), ha854 (9, 0) (by decide), ha854 (10, 0) (by decide), ha854 (11, 0) (by decide), ha854 (11, 1) (by decide)])
  have fk867 : st853 (20, 0) = .inr (8, [.int 10, .int 60, .int 0, .int 0, .ref (ad852 (21, 0)), .int 0, .int 0]) := ((hs856 (20, 0) (by decide)).trans fk833).trans (by rw [ha854 (21, 0) (by decide)])
  have fk868 : st853 (21, 0) = .inl (X.2.1 2, 50, .inl (fun _ => 0)) := (hs856 (21, 0) (by decide)).trans fk834
  have fk869 : st853 (20, 1) = .inr (8, [.int 10, .int 60, .int 0, .int 0, .ref (ad852 (21, 1)), .int 0, .int 0]) := ((hs856 (20, 1) (by decide)).trans fk835).trans (by rw [ha854 (21, 1) (by decide)])
  have fk870 : st853 (21, 1) = .inl (X.2.1 2, 50, .inl (fun _ => 0)) := (hs856 (21, 1) (by decide)).trans fk836
  have fk871 : st853 (20, 2) = .inr (8, [.int 10, .int 60, .int 0, .int 0, .ref (ad852 (21, 2)), .int 0, .int 0]) := ((hs856 (20, 2) (by decide)).trans fk837).trans (by rw [ha854 (21, 2) (by decide)])
  have fk872 : st853 (21, 2) = .inl (X.2.1 2, 50, .inl (fun _ => 0)) := (hs856 (21, 2) (by decide)).trans fk838
  have fk873 : st853 (20, 3) = .inr (8, [.int 10, .int 60, .int 0, .int 0, .ref (ad852 (21, 3)), .int 0, .int 0]) := ((hs856 (20, 3) (by decide)).trans fk839).trans (by rw [ha854 (21, 3) (by decide)])
  have fk874 : st853 (21, 3) = .inl (X.2.1 2, 50, .inl (fun _ => 0)) := (hs856 (21, 3) (by decide)).trans fk840
  have fk875 : st853 (20, 4) = .inr (8, [.int 10, .int 60, .int 0, .int 0, .ref (ad852 (21, 4)), .int 0, .int 0]) := ((hs856 (20, 4) (by decide)).trans fk841).trans (by rw [ha854 (21, 4) (by decide)])
  have fk876 : st853 (21, 4) = .inl (X.2.1 2, 50, .inl (fun _ => 0)) := (hs856 (21, 4) (by decide)).trans fk842
  have fk877 : st853 (20, 5) = .inr (8, [.int 10, .int 60, .int 0, .int 0, .ref (ad852 (21, 5)), .int 0, .int 0]) := ((hs856 (20, 5) (by decide)).trans fk843).trans (by rw [ha854 (21, 5) (by decide)])
  have fk878 : st853 (21, 5) = .inl (X.2.1 2, 50, .inl (fun _ => 0)) := (hs856 (21, 5) (by decide)).trans fk844
  have fk879 : st853 (30, 0) = .inr (4, [.int 1, .int 0, .int 0, .ref (ad852 (31, 0)), .int 0, .int 0, .int 0]) := ((hs856 (30, 0) (by decide)).trans fk845).trans (by rw [ha854 (31, 0) (by decide)])
  have fk880 : st853 (31, 0) = .inr (9, [.int 500, .int 100, .int 20]) := (hs856 (31, 0) (by decide)).trans fk846
  have fk881 : st853 (30, 1) = .inr (4, [.int 1, .int 0, .int 0, .ref (ad852 (31, 1)), .int 0, .int 0, .int 0]) := ((hs856 (30, 1) (by decide)).trans fk847).trans (by rw [ha854 (31, 1) (by decide)])
  have fk882 : st853 (31, 1) = .inr (9, [.int 500, .int 100, .int 20]) := (hs856 (31, 1) (by decide)).trans fk848
  have af883 : ∀ x : ro, x ≠ (2, 0) → x ≠ (3, 0) → x ≠ (4, 0) → x ≠ (5, 0) → x ≠ (6, 0) → x ≠ (7, 0) → x ≠ (8, 0) → x ≠ (9, 0) → x ≠ (10, 0) → x ≠ (11, 0) → x ≠ (11, 1) → x ≠ (20, 0) → x ≠ (21, 0) → x ≠ (20, 1) → x ≠ (21, 1) → x ≠ (20, 2) → x ≠ (21, 2) → x ≠ (20, 3) → x ≠ (21, 3) → x ≠ (20, 4) → x ≠ (21, 4) → x ≠ (20, 5) → x ≠ (21, 5) → x ≠ (30, 0) → x ≠ (31, 0) → x ≠ (30, 1) → x ≠ (31, 1) → x ≠ (30, 2) → ad852 x = ad x := fun x a0 a1 a2 a3 a4 a5 a6 a7 a8 a9 a10 a11 a12 a13 a14 a15 a16 a17 a18 a19 a20 a21 a22 a23 a24 a25 a26 a27 => (ha854 x a27).trans (af816 x a0 a1 a2 a3 a4 a5 a6 a7 a8 a9 a10 a11 a12 a13 a14 a15 a16 a17 a18 a19 a20 a21 a22 a23 a24 a25 a26)
  have sf884 : ∀ x : ro, x ≠ (2, 0) → x ≠ (3, 0) → x ≠ (4, 0) → x ≠ (1, 0) → x ≠ (5, 0) → x ≠ (6, 0) → x ≠ (7, 0) → x ≠ (8, 0) → x ≠ (9, 0) → x ≠ (10, 0) → x ≠ (11, 0) → x ≠ (11, 1) → x ≠ (20, 0) → x ≠ (21, 0) → x ≠ (20, 1) → x ≠ (21, 1) → x ≠ (20, 2) → x ≠ (21, 2) → x ≠ (20, 3) → x ≠ (21, 3) → x ≠ (20, 4) → x ≠ (21, 4) → x ≠ (20, 5) → x ≠ (21, 5) → x ≠ (30, 0) → x ≠ (31, 0) → x ≠ (30, 1) → x ≠ (31, 1) → x ≠ (30, 2) → st853 x = st x := fun x a0 a1 a2 a3 a4 a5 a6 a7 a8 a9 a10 a11 a12 a13 a14 a15 a16 a17 a18 a19 a20 a21 a22 a23 a24 a25 a26 a27 a28 => (hs856 x a28).trans (sf850 x a0 a1 a2 a3 a4 a5 a6 a7 a8 a9 a10 a11 a12 a13 a14 a15 a16 a17 a18 a19 a20 a21 a22 a23 a24 a25 a26 a27)
  have fk885 : st853 (9, 0) = .inl (X.2.1 6, 6, .inr (.inr (.inr (.inr (va_up (va_up (va_up (va_up (va_up (va_up (fun _ => none) 0 (some (ad852 (20, 0)))) 1 (some (ad852 (20, 1)))) 2 (some (ad852 (20, 2)))) 3 (some (ad852 (20, 3)))) 4 (some (ad852 (20, 4)))) 5 (some (ad852 (20, 5)))))))) := ((hs856 (9, 0) (by decide)).trans fk849).trans (by rw [ha854 (20, 0) (by decide), ha854 (20, 1) (by decide), ha854 (20, 2) (by decide), ha854 (20, 3) (by decide), ha854 (20, 4) (by decide), ha854 (20, 5) (by decide)])
  have fk886 : st853 (10, 0) = .inl (X.2.1 7, 4, .inr (.inr (.inr (.inr (va_up (va_up (fun _ => none) 0 (some (ad852 (30, 0)))) 1 (some (ad852 (30, 1)))))))) := ((hs856 (10, 0) (by decide)).trans fk821).trans (by rw [ha854 (30, 0) (by decide), ha854 (30, 1) (by decide)])
  clear fk823 fk824 fk825 fk826 fk827 fk828 fk829 fk830 fk831 fk832 fk833 fk834 fk835 fk836 fk837 fk838 fk839 fk840 fk841 fk842 fk843 fk844 fk845 fk846 fk847 fk848 fk849 fk821 af816 sf850
  refine lv_dup hx hb dX7_init_112 rfl ?_
  refine g_callINv (k2 := 0) (As := []) (rest := [.ref (ad852 (30, 2)), .int 2, .ref (ad852 (10, 0))]) C (c_X1_init l X ([(1, 0)] ++ [(2, 0)] ++ [(3, 0)] ++ [(4, 0)] ++ [(5, 0)] ++ [(6, 0)] ++ [(7, 0)] ++ [(8, 0)] ++ [(9, 0)] ++ [(10, 0)] ++ [(11, 0)] ++ [(11, 1)] ++ [(20, 0)] ++ [(21, 0)] ++ [(20, 1)] ++ [(21, 1)] ++ [(20, 2)] ++ [(21, 2)] ++ [(20, 3)] ++ [(21, 3)] ++ [(20, 4)] ++ [(21, 4)] ++ [(20, 5)] ++ [(21, 5)] ++ [(30, 0)] ++ [(31, 0)] ++ [(30, 1)] ++ [(31, 1)] ++ [(30, 2)]) ad852 st853 2 (List.mem_append_right _ (List.mem_singleton.mpr rfl)) (nmem_app (nmem_app (nmem_app (nmem_app (nmem_app (nmem_app (nmem_app (nmem_app (nmem_app (nmem_app (nmem_app (nmem_app (nmem_app (nmem_app (nmem_app (nmem_app (nmem_app (nmem_app (nmem_app (nmem_app (nmem_app (nmem_app (nmem_app (nmem_app (nmem_app (nmem_app (nmem_app (nmem_app (by decide) (by decide)) (by decide)) (by decide)) (by decide)) (by decide)) (by decide)) (by decide)) (by decide)) (by decide)) (by decide)) (by decide)) (by decide)) (by decide)) (by decide)) (by decide)) (by decide)) (by decide)) (by decide)) (by decide)) (by decide)) (by decide)) (by decide)) (by decide)) (by decide)) (by decide)) (by decide)) (by decide)) (by decide)) fk855) ((g_gt C).2.1 ("RateGate", 50, ⟨"RateGate$Carrier", "<init>", "()V"⟩, "RateGate") (by decide +kernel)) tw_1_157 tw_1_8 tw_1_158 (by decide +kernel) ⟨by rw [hR1]; exact Nat.le_of_ble_eq_true rfl, by rw [hR2]; exact Nat.le_of_ble_eq_true rfl⟩ hW hS rfl hl.1 rfl (Nat.le_of_ble_eq_true rfl) dX7_init_113 ⟨by rw [hR3]; exact Nat.le_of_ble_eq_true rfl, by rw [hR4]; exact Nat.le_of_ble_eq_true rfl⟩ (fun  L9 ad887 st888 H locs hp hW hS => ?_)
  obtain ⟨adq, stq, z0, ha889, hs890, fk891, fk892⟩ := hp
  cases z0
  have hl : lv_has ls 2 [(1, .int 2), (0, .ref (ad887 (1, 0)))] := by rw [ha889 (1, 0) (by decide)]; exact hl
  refine W.eq (g2 := F0 m 116 ls [.ref (ad887 (30, 2)), .int 2, .ref (ad887 (10, 0))]) (by rw [ha889 (30, 2) (by decide), ha889 (10, 0) (by decide)] <;> rfl) ?_
  have fk893 : st888 (2, 0) = .inr (7, [.ref (ad887 (3, 0)), .ref (ad887 (4, 0)), .int 0, .ref (X.2.2 0), .int 32]) := ((hs890 (2, 0) (by decide) (by decide)).trans fk857).trans (by rw [ha889 (3, 0) (by decide), ha889 (4, 0) (by decide)])
  have fk894 : st888 (3, 0) = .inl (X.2.1 1, 60, .inl (fun _ => 0)) := (hs890 (3, 0) (by decide) (by decide)).trans fk858
  have fk895 : st888 (4, 0) = .inl (X.2.1 2, 6, .inl (fun _ => 0)) := (hs890 (4, 0) (by decide) (by decide)).trans fk859
  have fk896 : st888 (5, 0) = .inr (3, [.int 0, .ref (ad887 (6, 0)), .ref (ad887 (7, 0)), .ref (ad887 (8, 0)), .int 0, .int 0]) := ((hs890 (5, 0) (by decide) (by decide)).trans fk860).trans (by rw [ha889 (6, 0) (by decide), ha889 (7, 0) (by decide), ha889 (8, 0) (by decide)])
  have fk897 : st888 (6, 0) = .inl (X.2.1 2, 512, .inl (fun _ => 0)) := (hs890 (6, 0) (by decide) (by decide)).trans fk861
  have fk898 : st888 (7, 0) = .inl (X.2.1 2, 512, .inl (fun _ => 0)) := (hs890 (7, 0) (by decide) (by decide)).trans fk862
  have fk899 : st888 (8, 0) = .inl (X.2.1 3, 512, .inl (fun _ => 0)) := (hs890 (8, 0) (by decide) (by decide)).trans fk863
  have fk900 : st888 (11, 0) = .inr (2, [.int 0, .ref (X.2.2 30), .int 0]) := (hs890 (11, 0) (by decide) (by decide)).trans fk864
  have fk901 : st888 (11, 1) = .inr (2, [.int 0, .ref (X.2.2 30), .int 0]) := (hs890 (11, 1) (by decide) (by decide)).trans fk865
  have fk902 : st888 (1, 0) = .inr (10, [.ref (ad887 (2, 0)), .ref (ad887 (5, 0)), .ref (ad887 (9, 0)), .ref (ad887 (10, 0)), .ref (ad887 (11, 0)), .ref (ad887 (11, 1)), .int 0]) := ((hs890 (1, 0) (by decide) (by decide)).trans fk866).trans (by rw [ha889 (2, 0) (by decide), ha889 (5, 0) (by decide), ha889 (9, 0) (by decide), ha889 (10, 0) (by decide), ha889 (11, 0) (by decide), ha889 (11, 1) (by decide)])
  have fk903 : st888 (20, 0) = .inr (8, [.int 10, .int 60, .int 0, .int 0, .ref (ad887 (21, 0)), .int 0, .int 0]) := ((hs890 (20, 0) (by decide) (by decide)).trans fk867).trans (by rw [ha889 (21, 0) (by decide)])
  have fk904 : st888 (21, 0) = .inl (X.2.1 2, 50, .inl (fun _ => 0)) := (hs890 (21, 0) (by decide) (by decide)).trans fk868
  have fk905 : st888 (20, 1) = .inr (8, [.int 10, .int 60, .int 0, .int 0, .ref (ad887 (21, 1)), .int 0, .int 0]) := ((hs890 (20, 1) (by decide) (by decide)).trans fk869).trans (by rw [ha889 (21, 1) (by decide)])
  have fk906 : st888 (21, 1) = .inl (X.2.1 2, 50, .inl (fun _ => 0)) := (hs890 (21, 1) (by decide) (by decide)).trans fk870
  have fk907 : st888 (20, 2) = .inr (8, [.int 10, .int 60, .int 0, .int 0, .ref (ad887 (21, 2)), .int 0, .int 0]) := ((hs890 (20, 2) (by decide) (by decide)).trans fk871).trans (by rw [ha889 (21, 2) (by decide)])
  have fk908 : st888 (21, 2) = .inl (X.2.1 2, 50, .inl (fun _ => 0)) := (hs890 (21, 2) (by decide) (by decide)).trans fk872
  have fk909 : st888 (20, 3) = .inr (8, [.int 10, .int 60, .int 0, .int 0, .ref (ad887 (21, 3)), .int 0, .int 0]) := ((hs890 (20, 3) (by decide) (by decide)).trans fk873).trans (by rw [ha889 (21, 3) (by decide)])
  have fk910 : st888 (21, 3) = .inl (X.2.1 2, 50, .inl (fun _ => 0)) := (hs890 (21, 3) (by decide) (by decide)).trans fk874
  have fk911 : st888 (20, 4) = .inr (8, [.int 10, .int 60, .int 0, .int 0, .ref (ad887 (21, 4)), .int 0, .int 0]) := ((hs890 (20, 4) (by decide) (by decide)).trans fk875).trans (by rw [ha889 (21, 4) (by decide)])
  have fk912 : st888 (21, 4) = .inl (X.2.1 2, 50, .inl (fun _ => 0)) := (hs890 (21, 4) (by decide) (by decide)).trans fk876
  have fk913 : st888 (20, 5) = .inr (8, [.int 10, .int 60, .int 0, .int 0, .ref (ad887 (21, 5)), .int 0, .int 0]) := ((hs890 (20, 5) (by decide) (by decide)).trans fk877).trans (by rw [ha889 (21, 5) (by decide)])
  have fk914 : st888 (21, 5) = .inl (X.2.1 2, 50, .inl (fun _ => 0)) := (hs890 (21, 5) (by decide) (by decide)).trans fk878
  have fk915 : st888 (30, 0) = .inr (4, [.int 1, .int 0, .int 0, .ref (ad887 (31, 0)), .int 0, .int 0, .int 0]) := ((hs890 (30, 0) (by decide) (by decide)).trans fk879).trans (by rw [ha889 (31, 0) (by decide)])
  have fk916 : st888 (31, 0) = .inr (9, [.int 500, .int 100, .int 20]) := (hs890 (31, 0) (by decide) (by decide)).trans fk880
  have fk917 : st888 (30, 1) = .inr (4, [.int 1, .int 0, .int 0, .ref (ad887 (31, 1)), .int 0, .int 0, .int 0]) := ((hs890 (30, 1) (by decide) (by decide)).trans fk881).trans (by rw [ha889 (31, 1) (by decide)])
  have fk918 : st888 (31, 1) = .inr (9, [.int 500, .int 100, .int 20]) := (hs890 (31, 1) (by decide) (by decide)).trans fk882
  have af919 : ∀ x : ro, x ≠ (2, 0) → x ≠ (3, 0) → x ≠ (4, 0) → x ≠ (5, 0) → x ≠ (6, 0) → x ≠ (7, 0) → x ≠ (8, 0) → x ≠ (9, 0) → x ≠ (10, 0) → x ≠ (11, 0) → x ≠ (11, 1) → x ≠ (20, 0) → x ≠ (21, 0) → x ≠ (20, 1) → x ≠ (21, 1) → x ≠ (20, 2) → x ≠ (21, 2) → x ≠ (20, 3) → x ≠ (21, 3) → x ≠ (20, 4) → x ≠ (21, 4) → x ≠ (20, 5) → x ≠ (21, 5) → x ≠ (30, 0) → x ≠ (31, 0) → x ≠ (30, 1) → x ≠ (31, 1) → x ≠ (30, 2) → x ≠ (31, 2) → ad887 x = ad x := fun x a0 a1 a2 a3 a4 a5 a6 a7 a8 a9 a10 a11 a12 a13 a14 a15 a16 a17 a18 a19 a20 a21 a22 a23 a24 a25 a26 a27 a28 => (ha889 x a28).trans (af883 x a0 a1 a2 a3 a4 a5 a6 a7 a8 a9 a10 a11 a12 a13 a14 a15 a16 a17 a18 a19 a20 a21 a22 a23 a24 a25 a26 a27)
  have sf920 : ∀ x : ro, x ≠ (2, 0) → x ≠ (3, 0) → x ≠ (4, 0) → x ≠ (1, 0) → x ≠ (5, 0) → x ≠ (6, 0) → x ≠ (7, 0) → x ≠ (8, 0) → x ≠ (9, 0) → x ≠ (10, 0) → x ≠ (11, 0) → x ≠ (11, 1) → x ≠ (20, 0) → x ≠ (21, 0) → x ≠ (20, 1) → x ≠ (21, 1) → x ≠ (20, 2) → x ≠ (21, 2) → x ≠ (20, 3) → x ≠ (21, 3) → x ≠ (20, 4) → x ≠ (21, 4) → x ≠ (20, 5) → x ≠ (21, 5) → x ≠ (30, 0) → x ≠ (31, 0) → x ≠ (30, 1) → x ≠ (31, 1) → x ≠ (30, 2) → x ≠ (31, 2) → st888 x = st x := fun x a0 a1 a2 a3 a4 a5 a6 a7 a8 a9 a10 a11 a12 a13 a14 a15 a16 a17 a18 a19 a20 a21 a22 a23 a24 a25 a26 a27 a28 a29 => (hs890 x a28 a29).trans (sf884 x a0 a1 a2 a3 a4 a5 a6 a7 a8 a9 a10 a11 a12 a13 a14 a15 a16 a17 a18 a19 a20 a21 a22 a23 a24 a25 a26 a27 a28)
  have fk921 : st888 (9, 0) = .inl (X.2.1 6, 6, .inr (.inr (.inr (.inr (va_up (va_up (va_up (va_up (va_up (va_up (fun _ => none) 0 (some (ad887 (20, 0)))) 1 (some (ad887 (20, 1)))) 2 (some (ad887 (20, 2)))) 3 (some (ad887 (20, 3)))) 4 (some (ad887 (20, 4)))) 5 (some (ad887 (20, 5)))))))) := ((hs890 (9, 0) (by decide) (by decide)).trans fk885).trans (by rw [ha889 (20, 0) (by decide), ha889 (20, 1) (by decide), ha889 (20, 2) (by decide), ha889 (20, 3) (by decide), ha889 (20, 4) (by decide), ha889 (20, 5) (by decide)])
  have fk922 : st888 (10, 0) = .inl (X.2.1 7, 4, .inr (.inr (.inr (.inr (va_up (va_up (fun _ => none) 0 (some (ad887 (30, 0)))) 1 (some (ad887 (30, 1)))))))) := ((hs890 (10, 0) (by decide) (by decide)).trans fk886).trans (by rw [ha889 (30, 0) (by decide), ha889 (30, 1) (by decide)])
  clear fk857 fk858 fk859 fk860 fk861 fk862 fk863 fk864 fk865 fk866 fk867 fk868 fk869 fk870 fk871 fk872 fk873 fk874 fk875 fk876 fk877 fk878 fk879 fk880 fk881 fk882 fk855 fk885 fk886 af883 sf884
  refine g_astq (r := (10, 0)) (t0 := 7) C hW hS (List.mem_append_left _ (List.mem_append_left _ (List.mem_append_left _ (List.mem_append_left _ (List.mem_append_left _ (List.mem_append_left _ (List.mem_append_left _ (List.mem_append_left _ (List.mem_append_left _ (List.mem_append_left _ (List.mem_append_left _ (List.mem_append_left _ (List.mem_append_left _ (List.mem_append_left _ (List.mem_append_left _ (List.mem_append_left _ (List.mem_append_left _ (List.mem_append_left _ (List.mem_append_left _ (List.mem_append_left _ (List.mem_append_right _ (List.mem_singleton.mpr rfl)))))))))))))))))))))) fk922 rfl (g_anyS (Cn := RX1) (T := TX1) (N := 7) C hW (List.mem_append_left _ (List.mem_append_right _ (List.mem_singleton.mpr rfl))) fk891 rfl) (vp_in_nI (n := 2) (N := 4) (by decide) (by decide)) dX7_init_116 (fun st923 H locs fk924 hs925 hW hS => ?_)
  rw [show (2 : Int32).toNatClampNeg = 2 from by decide] at fk924
  have fk926 : st923 (2, 0) = .inr (7, [.ref (ad887 (3, 0)), .ref (ad887 (4, 0)), .int 0, .ref (X.2.2 0), .int 32]) := (hs925 (2, 0) (by decide)).trans fk893
  have fk927 : st923 (3, 0) = .inl (X.2.1 1, 60, .inl (fun _ => 0)) := (hs925 (3, 0) (by decide)).trans fk894
  have fk928 : st923 (4, 0) = .inl (X.2.1 2, 6, .inl (fun _ => 0)) := (hs925 (4, 0) (by decide)).trans fk895
  have fk929 : st923 (5, 0) = .inr (3, [.int 0, .ref (ad887 (6, 0)), .ref (ad887 (7, 0)), .ref (ad887 (8, 0)), .int 0, .int 0]) := (hs925 (5, 0) (by decide)).trans fk896
  have fk930 : st923 (6, 0) = .inl (X.2.1 2, 512, .inl (fun _ => 0)) := (hs925 (6, 0) (by decide)).trans fk897
  have fk931 : st923 (7, 0) = .inl (X.2.1 2, 512, .inl (fun _ => 0)) := (hs925 (7, 0) (by decide)).trans fk898
  have fk932 : st923 (8, 0) = .inl (X.2.1 3, 512, .inl (fun _ => 0)) := (hs925 (8, 0) (by decide)).trans fk899
  have fk933 : st923 (11, 0) = .inr (2, [.int 0, .ref (X.2.2 30), .int 0]) := (hs925 (11, 0) (by decide)).trans fk900
  have fk934 : st923 (11, 1) = .inr (2, [.int 0, .ref (X.2.2 30), .int 0]) := (hs925 (11, 1) (by decide)).trans fk901
  have fk935 : st923 (1, 0) = .inr (10, [.ref (ad887 (2, 0)), .ref (ad887 (5, 0)), .ref (ad887 (9, 0)), .ref (ad887 (10, 0)), .ref (ad887 (11, 0)), .ref (ad887 (11, 1)), .int 0]) := (hs925 (1, 0) (by decide)).trans fk902
  have fk936 : st923 (20, 0) = .inr (8, [.int 10, .int 60, .int 0, .int 0, .ref (ad887 (21, 0)), .int 0, .int 0]) := (hs925 (20, 0) (by decide)).trans fk903
  have fk937 : st923 (21, 0) = .inl (X.2.1 2, 50, .inl (fun _ => 0)) := (hs925 (21, 0) (by decide)).trans fk904
  have fk938 : st923 (20, 1) = .inr (8, [.int 10, .int 60, .int 0, .int 0, .ref (ad887 (21, 1)), .int 0, .int 0]) := (hs925 (20, 1) (by decide)).trans fk905
  have fk939 : st923 (21, 1) = .inl (X.2.1 2, 50, .inl (fun _ => 0)) := (hs925 (21, 1) (by decide)).trans fk906
  have fk940 : st923 (20, 2) = .inr (8, [.int 10, .int 60, .int 0, .int 0, .ref (ad887 (21, 2)), .int 0, .int 0]) := (hs925 (20, 2) (by decide)).trans fk907
  have fk941 : st923 (21, 2) = .inl (X.2.1 2, 50, .inl (fun _ => 0)) := (hs925 (21, 2) (by decide)).trans fk908
  have fk942 : st923 (20, 3) = .inr (8, [.int 10, .int 60, .int 0, .int 0, .ref (ad887 (21, 3)), .int 0, .int 0]) := (hs925 (20, 3) (by decide)).trans fk909
  have fk943 : st923 (21, 3) = .inl (X.2.1 2, 50, .inl (fun _ => 0)) := (hs925 (21, 3) (by decide)).trans fk910
  have fk944 : st923 (20, 4) = .inr (8, [.int 10, .int 60, .int 0, .int 0, .ref (ad887 (21, 4)), .int 0, .int 0]) := (hs925 (20, 4) (by decide)).trans fk911
  have fk945 : st923 (21, 4) = .inl (X.2.1 2, 50, .inl (fun _ => 0)) := (hs925 (21, 4) (by decide)).trans fk912
  have fk946 : st923 (20, 5) = .inr (8, [.int 10, .int 60, .int 0, .int 0, .ref (ad887 (21, 5)), .int 0, .int 0]) := (hs925 (20, 5) (by decide)).trans fk913
  have fk947 : st923 (21, 5) = .inl (X.2.1 2, 50, .inl (fun _ => 0)) := (hs925 (21, 5) (by decide)).trans fk914
  have fk948 : st923 (30, 0) = .inr (4, [.int 1, .int 0, .int 0, .ref (ad887 (31, 0)), .int 0, .int 0, .int 0]) := (hs925 (30, 0) (by decide)).trans fk915
  have fk949 : st923 (31, 0) = .inr (9, [.int 500, .int 100, .int 20]) := (hs925 (31, 0) (by decide)).trans fk916
  have fk950 : st923 (30, 1) = .inr (4, [.int 1, .int 0, .int 0, .ref (ad887 (31, 1)), .int 0, .int 0, .int 0]) := (hs925 (30, 1) (by decide)).trans fk917
  have fk951 : st923 (31, 1) = .inr (9, [.int 500, .int 100, .int 20]) := (hs925 (31, 1) (by decide)).trans fk918
  have fk952 : st923 (30, 2) = .inr (4, [.int 1, .int 0, .int 0, .ref (ad887 (31, 2)), .int 0, .int 0, .int 0]) := (hs925 (30, 2) (by decide)).trans fk891
  have fk953 : st923 (31, 2) = .inr (9, [.int 500, .int 100, .int 20]) := (hs925 (31, 2) (by decide)).trans fk892
  have fk954 : st923 (9, 0) = .inl (X.2.1 6, 6, .inr (.inr (.inr (.inr (va_up (va_up (va_up (va_up (va_up (va_up (fun _ => none) 0 (some (ad887 (20, 0)))) 1 (some (ad887 (20, 1)))) 2 (some (ad887 (20, 2)))) 3 (some (ad887 (20, 3)))) 4 (some (ad887 (20, 4)))) 5 (some (ad887 (20, 5)))))))) := (hs925 (9, 0) (by decide)).trans fk921
  have sf955 : ∀ x : ro, x ≠ (2, 0) → x ≠ (3, 0) → x ≠ (4, 0) → x ≠ (1, 0) → x ≠ (5, 0) → x ≠ (6, 0) → x ≠ (7, 0) → x ≠ (8, 0) → x ≠ (9, 0) → x ≠ (10, 0) → x ≠ (11, 0) → x ≠ (11, 1) → x ≠ (20, 0) → x ≠ (21, 0) → x ≠ (20, 1) → x ≠ (21, 1) → x ≠ (20, 2) → x ≠ (21, 2) → x ≠ (20, 3) → x ≠ (21, 3) → x ≠ (20, 4) → x ≠ (21, 4) → x ≠ (20, 5) → x ≠ (21, 5) → x ≠ (30, 0) → x ≠ (31, 0) → x ≠ (30, 1) → x ≠ (31, 1) → x ≠ (30, 2) → x ≠ (31, 2) → st923 x = st x := fun x a0 a1 a2 a3 a4 a5 a6 a7 a8 a9 a10 a11 a12 a13 a14 a15 a16 a17 a18 a19 a20 a21 a22 a23 a24 a25 a26 a27 a28 a29 => (hs925 x a9).trans (sf920 x a0 a1 a2 a3 a4 a5 a6 a7 a8 a9 a10 a11 a12 a13 a14 a15 a16 a17 a18 a19 a20 a21 a22 a23 a24 a25 a26 a27 a28 a29)
  clear fk893 fk894 fk895 fk896 fk897 fk898 fk899 fk900 fk901 fk902 fk903 fk904 fk905 fk906 fk907 fk908 fk909 fk910 fk911 fk912 fk913 fk914 fk915 fk916 fk917 fk918 fk891 fk892 fk921 fk922 sf920
  refine lv_iinc (v := 3) (lv' := [(1, .int 3), (0, .ref (ad887 (1, 0)))]) hx hb dX7_init_117 hl (k := 0) rfl (by decide) (by decide) rfl (fun ls hl => ?_)
  refine lv_goto (tgt := 99) hx hb dX7_init_120 (by decide) ?_
  refine lv_iload_n hx hb dX7_init_99 rfl (lv_at hl 0 rfl) ?_
  refine lv_iconst (v := 4) hx hb dX7_init_100 (by decide) ?_
  refine lv_icmp_ge (tgt := 123) hx hb dX7_init_101 (by decide) (fun c9 => absurd c9 (by decide)) (fun _ => ?_)
  refine lv_aload_n hx hb dX7_init_104 rfl (lv_at hl 1 rfl) ?_
  refine g_get (r := (1, 0)) (Cn := RX7) (T := TX7) (N := 7) (ci := 10) (v := .ref (ad887 (10, 0))) C tinX7 hW (List.mem_append_left _ (List.mem_append_left _ (List.mem_append_left _ (List.mem_append_left _ (List.mem_append_left _ (List.mem_append_left _ (List.mem_append_left _ (List.mem_append_left _ (List.mem_append_left _ (List.mem_append_left _ (List.mem_append_left _ (List.mem_append_left _ (List.mem_append_left _ (List.mem_append_left _ (List.mem_append_left _ (List.mem_append_left _ (List.mem_append_left _ (List.mem_append_left _ (List.mem_append_left _ (List.mem_append_left _ (List.mem_append_left _ (List.mem_append_left _ (List.mem_append_left _ (List.mem_append_left _ (List.mem_append_left _ (List.mem_append_left _ (List.mem_append_left _ (List.mem_append_left _ (List.mem_append_left _ (List.mem_singleton.mpr rfl)))))))))))))))))))))))))))))) fk935 rfl 3 (by decide) tw_1_209 (fun _ h9 => h9) rfl dX7_init_105 ?_
  refine lv_iload_n hx hb dX7_init_108 rfl (lv_at hl 0 rfl) ?_
  refine g_newo (r := (30, 3)) (Cn := RX1) (T := TX1) (N := 7) (ci := 4) (ty0 := tyX1) (fs := [.int 0, .int 0, .int 0, .null, .int 0, .int 0, .int 0]) C tinX1 tyX1_ok hW hS (nmem_app (nmem_app (nmem_app (nmem_app (nmem_app (nmem_app (nmem_app (nmem_app (nmem_app (nmem_app (nmem_app (nmem_app (nmem_app (nmem_app (nmem_app (nmem_app (nmem_app (nmem_app (nmem_app (nmem_app (nmem_app (nmem_app (nmem_app (nmem_app (nmem_app (nmem_app (nmem_app (nmem_app (nmem_app (by decide) (by decide)) (by decide)) (by decide)) (by decide)) (by decide)) (by decide)) (by decide)) (by decide)) (by decide)) (by decide)) (by decide)) (by decide)) (by decide)) (by decide)) (by decide)) (by decide)) (by decide)) (by decide)) (by decide)) (by decide)) (by decide)) (by decide)) (by decide)) (by decide)) (by decide)) (by decide)) (by decide)) (by decide)) (by decide)) rfl tw_1_96 tw_1_155 tw_1_8 (by intro j hj; rcases (show j = 0 ∨ j = 1 ∨ j = 2 ∨ j = 3 ∨ j = 4 ∨ j = 5 ∨ j = 6 by omega) with rfl | rfl | rfl | rfl | rfl | rfl | rfl <;> rfl) (by rw [hR3]; exact Nat.le_of_ble_eq_true rfl) (by rw [hR4]; exact Nat.le_of_ble_eq_true rfl) dX7_init_109 (fun ad957 st958 H ha959 fk960 hs961 hW hS => ?_)
  have hl : lv_has ls 2 [(1, .int 3), (0, .ref (ad957 (1, 0)))] := by rw [ha959 (1, 0) (by decide)]; exact hl
  refine W.eq (g2 := F0 m 112 ls [.ref (ad957 (30, 3)), .int 3, .ref (ad957 (10, 0))]) (by rw [ha959 (10, 0) (by decide)] <;> rfl) ?_
  have fk962 : st958 (2, 0) = .inr (7, [.ref (ad957 (3, 0)), .ref (ad957 (4, 0)), .int 0, .ref (X.2.2 0), .int 32]) := ((hs961 (2, 0) (by decide)).trans fk926).trans (by rw [ha959 (3, 0) (by decide), ha959 (4, 0) (by decide)])
  have fk963 : st958 (3, 0) = .inl (X.2.1 1, 60, .inl (fun _ => 0)) := (hs961 (3, 0) (by decide)).trans fk927
  have fk964 : st958 (4, 0) = .inl (X.2.1 2, 6, .inl (fun _ => 0)) := (hs961 (4, 0) (by decide)).trans fk928
  have fk965 : st958 (5, 0) = .inr (3, [.int 0, .ref (ad957 (6, 0)), .ref (ad957 (7, 0)), .ref (ad957 (8, 0)), .int 0, .int 0]) := ((hs961 (5, 0) (by decide)).trans fk929).trans (by rw [ha959 (6, 0) (by decide), ha959 (7, 0) (by decide), ha959 (8, 0) (by decide)])
  have fk966 : st958 (6, 0) = .inl (X.2.1 2, 512, .inl (fun _ => 0)) := (hs961 (6, 0) (by decide)).trans fk930
  have fk967 : st958 (7, 0) = .inl (X.2.1 2, 512, .inl (fun _ => 0)) := (hs961 (7, 0) (by decide)).trans fk931
  have fk968 : st958 (8, 0) = .inl (X.2.1 3, 512, .inl (fun _ => 0)) := (hs961 (8, 0) (by decide)).trans fk932
  have fk969 : st958 (11, 0) = .inr (2, [.int 0, .ref (X.2.2 30), .int 0]) := (hs961 (11, 0) (by decide)).trans fk933
  have fk970 : st958 (11, 1) = .inr (2, [.int 0, .ref (X.2.2 30), .int 0]) := (hs961 (11, 1) (by decide)).trans fk934
  have fk971 : st958 (1, 0) = .inr (10, [.ref (ad957 (2, 0)), .ref (ad957 (5, 0)), .ref (ad957 (9, 0)), .ref (ad957 (10, 0)), .ref (ad957 (11, 0)), .ref (ad957 (11, 1)), .int 0]) := ((hs961 (1, 0) (by decide)).trans fk935).trans (by rw [ha959 (2, 0) (by decide), ha959 (5, 0) (by decide), ha959 (9, 0) (by decide), ha959 (10, 0) (by decide), ha959 (11, 0) (by decide), ha959 (11, 1) (by decide)])
  have fk972 : st958 (20, 0) = .inr (8, [.int 10, .int 60, .int 0, .int 0, .ref (ad957 (21, 0)), .int 0, .int 0]) := ((hs961 (20, 0) (by decide)).trans fk936).trans (by rw [ha959 (21, 0) (by decide)])
  have fk973 : st958 (21, 0) = .inl (X.2.1 2, 50, .inl (fun _ => 0)) := (hs961 (21, 0) (by decide)).trans fk937
  have fk974 : st958 (20, 1) = .inr (8, [.int 10, .int 60, .int 0, .int 0, .ref (ad957 (21, 1)), .int 0, .int 0]) := ((hs961 (20, 1) (by decide)).trans fk938).trans (by rw [ha959 (21, 1) (by decide)])
  have fk975 : st958 (21, 1) = .inl (X.2.1 2, 50, .inl (fun _ => 0)) := (hs961 (21, 1) (by decide)).trans fk939
  have fk976 : st958 (20, 2) = .inr (8, [.int 10, .int 60, .int 0, .int 0, .ref (ad957 (21, 2)), .int 0, .int 0]) := ((hs961 (20, 2) (by decide)).trans fk940).trans (by rw [ha959 (21, 2) (by decide)])
  have fk977 : st958 (21, 2) = .inl (X.2.1 2, 50, .inl (fun _ => 0)) := (hs961 (21, 2) (by decide)).trans fk941
  have fk978 : st958 (20, 3) = .inr (8, [.int 10, .int 60, .int 0, .int 0, .ref (ad957 (21, 3)), .int 0, .int 0]) := ((hs961 (20, 3) (by decide)).trans fk942).trans (by rw [ha959 (21, 3) (by decide)])
  have fk979 : st958 (21, 3) = .inl (X.2.1 2, 50, .inl (fun _ => 0)) := (hs961 (21, 3) (by decide)).trans fk943
  have fk980 : st958 (20, 4) = .inr (8, [.int 10, .int 60, .int 0, .int 0, .ref (ad957 (21, 4)), .int 0, .int 0]) := ((hs961 (20, 4) (by decide)).trans fk944).trans (by rw [ha959 (21, 4) (by decide)])
  have fk981 : st958 (21, 4) = .inl (X.2.1 2, 50, .inl (fun _ => 0)) := (hs961 (21, 4) (by decide)).trans fk945
  have fk982 : st958 (20, 5) = .inr (8, [.int 10, .int 60, .int 0, .int 0, .ref (ad957 (21, 5)), .int 0, .int 0]) := ((hs961 (20, 5) (by decide)).trans fk946).trans (by rw [ha959 (21, 5) (by decide)])
  have fk983 : st958 (21, 5) = .inl (X.2.1 2, 50, .inl (fun _ => 0)) := (hs961 (21, 5) (by decide)).trans fk947
  have fk984 : st958 (30, 0) = .inr (4, [.int 1, .int 0, .int 0, .ref (ad957 (31, 0)), .int 0, .int 0, .int 0]) := ((hs961 (30, 0) (by decide)).trans fk948).trans (by rw [ha959 (31, 0) (by decide)])
  have fk985 : st958 (31, 0) = .inr (9, [.int 500, .int 100, .int 20]) := (hs961 (31, 0) (by decide)).trans fk949
  have fk986 : st958 (30, 1) = .inr (4, [.int 1, .int 0, .int 0, .ref (ad957 (31, 1)), .int 0, .int 0, .int 0]) := ((hs961 (30, 1) (by decide)).trans fk950).trans (by rw [ha959 (31, 1) (by decide)])
  have fk987 : st958 (31, 1) = .inr (9, [.int 500, .int 100, .int 20]) := (hs961 (31, 1) (by decide)).trans fk951
  have fk988 : st958 (30, 2) = .inr (4, [.int 1, .int 0, .int 0, .ref (ad957 (31, 2)), .int 0, .int 0, .int 0]) := ((hs961 (30, 2) (by decide)).trans fk952).trans (by rw [ha959 (31, 2) (by decide)])
  have fk989 : st958 (31, 2) = .inr (9, [.int 500, .int 100, .int 20]) := (hs961 (31, 2) (by decide)).trans fk953
  have af990 : ∀ x : ro, x ≠ (2, 0) → x ≠ (3, 0) → x ≠ (4, 0) → x ≠ (5, 0) → x ≠ (6, 0) → x ≠ (7, 0) → x ≠ (8, 0) → x ≠ (9, 0) → x ≠ (10, 0) → x ≠ (11, 0) → x ≠ (11, 1) → x ≠ (20, 0) → x ≠ (21, 0) → x ≠ (20, 1) → x ≠ (21, 1) → x ≠ (20, 2) → x ≠ (21, 2) → x ≠ (20, 3) → x ≠ (21, 3) → x ≠ (20, 4) → x ≠ (21, 4) → x ≠ (20, 5) → x ≠ (21, 5) → x ≠ (30, 0) → x ≠ (31, 0) → x ≠ (30, 1) → x ≠ (31, 1) → x ≠ (30, 2) → x ≠ (31, 2) → x ≠ (30, 3) → ad957 x = ad x := fun x a0 a1 a2 a3 a4 a5 a6 a7 a8 a9 a10 a11 a12 a13 a14 a15 a16 a17 a18 a19 a20 a21 a22 a23 a24 a25 a26 a27 a28 a29 => (ha959 x a29).trans (af919 x a0 a1 a2 a3 a4 a5 a6 a7 a8 a9 a10 a11 a12 a13 a14 a15 a16 a17 a18 a19 a20 a21 a22 a23 a24 a25 a26 a27 a28)
  have sf991 : ∀ x : ro, x ≠ (2, 0) → x ≠ (3, 0) → x ≠ (4, 0) → x ≠ (1, 0) → x ≠ (5, 0) → x ≠ (6, 0) → x ≠ (7, 0) → x ≠ (8, 0) → x ≠ (9, 0) → x ≠ (10, 0) → x ≠ (11, 0) → x ≠ (11, 1) → x ≠ (20, 0) → x ≠ (21, 0) → x ≠ (20, 1) → x ≠ (21, 1) → x ≠ (20, 2) → x ≠ (21, 2) → x ≠ (20, 3) → x ≠ (21, 3) → x ≠ (20, 4) → x ≠ (21, 4) → x ≠ (20, 5) → x ≠ (21, 5) → x ≠ (30, 0) → x ≠ (31, 0) → x ≠ (30, 1) → x ≠ (31, 1) → x ≠ (30, 2) → x ≠ (31, 2) → x ≠ (30, 3) → st958 x = st x := fun x a0 a1 a2 a3 a4 a5 a6 a7 a8 a9 a10 a11 a12 a13 a14 a15 a16 a17 a18 a19 a20 a21 a22 a23 a24 a25 a26 a27 a28 a29 a30 => (hs961 x a30).trans (sf955 x a0 a1 a2 a3 a4 a5 a6 a7 a8 a9 a10 a11 a12 a13 a14 a15 a16 a17 a18 a19 a20 a21 a22 a23 a24 a25 a26 a27 a28 a29)
  have fk992 : st958 (9, 0) = .inl (X.2.1 6, 6, .inr (.inr (.inr (.inr (va_up (va_up (va_up (va_up (va_up (va_up (fun _ => none) 0 (some (ad957 (20, 0)))) 1 (some (ad957 (20, 1)))) 2 (some (ad957 (20, 2)))) 3 (some (ad957 (20, 3)))) 4 (some (ad957 (20, 4)))) 5 (some (ad957 (20, 5)))))))) := ((hs961 (9, 0) (by decide)).trans fk954).trans (by rw [ha959 (20, 0) (by decide), ha959 (20, 1) (by decide), ha959 (20, 2) (by decide), ha959 (20, 3) (by decide), ha959 (20, 4) (by decide), ha959 (20, 5) (by decide)])
  have fk993 : st958 (10, 0) = .inl (X.2.1 7, 4, .inr (.inr (.inr (.inr (va_up (va_up (va_up (fun _ => none) 0 (some (ad957 (30, 0)))) 1 (some (ad957 (30, 1)))) 2 (some (ad957 (30, 2)))))))) := ((hs961 (10, 0) (by decide)).trans fk924).trans (by rw [ha959 (30, 0) (by decide), ha959 (30, 1) (by decide), ha959 (30, 2) (by decide)])
  clear fk926 fk927 fk928 fk929 fk930 fk931 fk932 fk933 fk934 fk935 fk936 fk937 fk938 fk939 fk940 fk941 fk942 fk943 fk944 fk945 fk946 fk947 fk948 fk949 fk950 fk951 fk952 fk953 fk954 fk924 af919 sf955
  refine lv_dup hx hb dX7_init_112 rfl ?_
  refine g_callINv (k2 := 0) (As := []) (rest := [.ref (ad957 (30, 3)), .int 3, .ref (ad957 (10, 0))]) C (c_X1_init l X ([(1, 0)] ++ [(2, 0)] ++ [(3, 0)] ++ [(4, 0)] ++ [(5, 0)] ++ [(6, 0)] ++ [(7, 0)] ++ [(8, 0)] ++ [(9, 0)] ++ [(10, 0)] ++ [(11, 0)] ++ [(11, 1)] ++ [(20, 0)] ++ [(21, 0)] ++ [(20, 1)] ++ [(21, 1)] ++ [(20, 2)] ++ [(21, 2)] ++ [(20, 3)] ++ [(21, 3)] ++ [(20, 4)] ++ [(21, 4)] ++ [(20, 5)] ++ [(21, 5)] ++ [(30, 0)] ++ [(31, 0)] ++ [(30, 1)] ++ [(31, 1)] ++ [(30, 2)] ++ [(31, 2)] ++ [(30, 3)]) ad957 st958 3 (List.mem_append_right _ (List.mem_singleton.mpr rfl)) (nmem_app (nmem_app (nmem_app (nmem_app (nmem_app (nmem_app (nmem_app (nmem_app (nmem_app (nmem_app (nmem_app (nmem_app (nmem_app (nmem_app (nmem_app (nmem_app (nmem_app (nmem_app (nmem_app (nmem_app (nmem_app (nmem_app (nmem_app (nmem_app (nmem_app (nmem_app (nmem_app (nmem_app (nmem_app (nmem_app (by decide) (by decide)) (by decide)) (by decide)) (by decide)) (by decide)) (by decide)) (by decide)) (by decide)) (by decide)) (by decide)) (by decide)) (by decide)) (by decide)) (by decide)) (by decide)) (by decide)) (by decide)) (by decide)) (by decide)) (by decide)) (by decide)) (by decide)) (by decide)) (by decide)) (by decide)) (by decide)) (by decide)) (by decide)) (by decide)) (by decide)) fk960) ((g_gt C).2.1 ("RateGate", 50, ⟨"RateGate$Carrier", "<init>", "()V"⟩, "RateGate") (by decide +kernel)) tw_1_157 tw_1_8 tw_1_158 (by decide +kernel) ⟨by rw [hR1]; exact Nat.le_of_ble_eq_true rfl, by rw [hR2]; exact Nat.le_of_ble_eq_true rfl⟩ hW hS rfl hl.1 rfl (Nat.le_of_ble_eq_true rfl) dX7_init_113 ⟨by rw [hR3]; exact Nat.le_of_ble_eq_true rfl, by rw [hR4]; exact Nat.le_of_ble_eq_true rfl⟩ (fun  L9 ad994 st995 H locs hp hW hS => ?_)
  obtain ⟨adq, stq, z0, ha996, hs997, fk998, fk999⟩ := hp
  cases z0
  have hl : lv_has ls 2 [(1, .int 3), (0, .ref (ad994 (1, 0)))] := by rw [ha996 (1, 0) (by decide)]; exact hl
  refine W.eq (g2 := F0 m 116 ls [.ref (ad994 (30, 3)), .int 3, .ref (ad994 (10, 0))]) (by rw [ha996 (30, 3) (by decide), ha996 (10, 0) (by decide)] <;> rfl) ?_
  have fk1000 : st995 (2, 0) = .inr (7, [.ref (ad994 (3, 0)), .ref (ad994 (4, 0)), .int 0, .ref (X.2.2 0), .int 32]) := ((hs997 (2, 0) (by decide) (by decide)).trans fk962).trans (by rw [ha996 (3, 0) (by decide), ha996 (4, 0) (by decide)])
  have fk1001 : st995 (3, 0) = .inl (X.2.1 1, 60, .inl (fun _ => 0)) := (hs997 (3, 0) (by decide) (by decide)).trans fk963
  have fk1002 : st995 (4, 0) = .inl (X.2.1 2, 6, .inl (fun _ => 0)) := (hs997 (4, 0) (by decide) (by decide)).trans fk964
  have fk1003 : st995 (5, 0) = .inr (3, [.int 0, .ref (ad994 (6, 0)), .ref (ad994 (7, 0)), .ref (ad994 (8, 0)), .int 0, .int 0]) := ((hs997 (5, 0) (by decide) (by decide)).trans fk965).trans (by rw [ha996 (6, 0) (by decide), ha996 (7, 0) (by decide), ha996 (8, 0) (by decide)])
  have fk1004 : st995 (6, 0) = .inl (X.2.1 2, 512, .inl (fun _ => 0)) := (hs997 (6, 0) (by decide) (by decide)).trans fk966
  have fk1005 : st995 (7, 0) = .inl (X.2.1 2, 512, .inl (fun _ => 0)) := (hs997 (7, 0) (by decide) (by decide)).trans fk967
  have fk1006 : st995 (8, 0) = .inl (X.2.1 3, 512, .inl (fun _ => 0)) := (hs997 (8, 0) (by decide) (by decide)).trans fk968
  have fk1007 : st995 (11, 0) = .inr (2, [.int 0, .ref (X.2.2 30), .int 0]) := (hs997 (11, 0) (by decide) (by decide)).trans fk969
  have fk1008 : st995 (11, 1) = .inr (2, [.int 0, .ref (X.2.2 30), .int 0]) := (hs997 (11, 1) (by decide) (by decide)).trans fk970
  have fk1009 : st995 (1, 0) = .inr (10, [.ref (ad994 (2, 0)), .ref (ad994 (5, 0)), .ref (ad994 (9, 0)), .ref (ad994 (10, 0)), .ref (ad994 (11, 0)), .ref (ad994 (11, 1)), .int 0]) := ((hs997 (1, 0) (by decide) (by decide)).trans fk971).trans (by rw [ha996 (2, 0) (by decide), ha996 (5, 0) (by decide), ha996 (9, 0) (by decide), ha996 (10, 0) (by decide), ha996 (11, 0) (by decide), ha996 (11, 1) (by decide)])
  have fk1010 : st995 (20, 0) = .inr (8, [.int 10, .int 60, .int 0, .int 0, .ref (ad994 (21, 0)), .int 0, .int 0]) := ((hs997 (20, 0) (by decide) (by decide)).trans fk972).trans (by rw [ha996 (21, 0) (by decide)])
  have fk1011 : st995 (21, 0) = .inl (X.2.1 2, 50, .inl (fun _ => 0)) := (hs997 (21, 0) (by decide) (by decide)).trans fk973
  have fk1012 : st995 (20, 1) = .inr (8, [.int 10, .int 60, .int 0, .int 0, .ref (ad994 (21, 1)), .int 0, .int 0]) := ((hs997 (20, 1) (by decide) (by decide)).trans fk974).trans (by rw [ha996 (21, 1) (by decide)])
  have fk1013 : st995 (21, 1) = .inl (X.2.1 2, 50, .inl (fun _ => 0)) := (hs997 (21, 1) (by decide) (by decide)).trans fk975
  have fk1014 : st995 (20, 2) = .inr (8, [.int 10, .int 60, .int 0, .int 0, .ref (ad994 (21, 2)), .int 0, .int 0]) := ((hs997 (20, 2) (by decide) (by decide)).trans fk976).trans (by rw [ha996 (21, 2) (by decide)])
  have fk1015 : st995 (21, 2) = .inl (X.2.1 2, 50, .inl (fun _ => 0)) := (hs997 (21, 2) (by decide) (by decide)).trans fk977
  have fk1016 : st995 (20, 3) = .inr (8, [.int 10, .int 60, .int 0, .int 0, .ref (ad994 (21, 3)), .int 0, .int 0]) := ((hs997 (20, 3) (by decide) (by decide)).trans fk978).trans (by rw [ha996 (21, 3) (by decide)])
  have fk1017 : st995 (21, 3) = .inl (X.2.1 2, 50, .inl (fun _ => 0)) := (hs997 (21, 3) (by decide) (by decide)).trans fk979
  have fk1018 : st995 (20, 4) = .inr (8, [.int 10, .int 60, .int 0, .int 0, .ref (ad994 (21, 4)), .int 0, .int 0]) := ((hs997 (20, 4) (by decide) (by decide)).trans fk980).trans (by rw [ha996 (21, 4) (by decide)])
  have fk1019 : st995 (21, 4) = .inl (X.2.1 2, 50, .inl (fun _ => 0)) := (hs997 (21, 4) (by decide) (by decide)).trans fk981
  have fk1020 : st995 (20, 5) = .inr (8, [.int 10, .int 60, .int 0, .int 0, .ref (ad994 (21, 5)), .int 0, .int 0]) := ((hs997 (20, 5) (by decide) (by decide)).trans fk982).trans (by rw [ha996 (21, 5) (by decide)])
  have fk1021 : st995 (21, 5) = .inl (X.2.1 2, 50, .inl (fun _ => 0)) := (hs997 (21, 5) (by decide) (by decide)).trans fk983
  have fk1022 : st995 (30, 0) = .inr (4, [.int 1, .int 0, .int 0, .ref (ad994 (31, 0)), .int 0, .int 0, .int 0]) := ((hs997 (30, 0) (by decide) (by decide)).trans fk984).trans (by rw [ha996 (31, 0) (by decide)])
  have fk1023 : st995 (31, 0) = .inr (9, [.int 500, .int 100, .int 20]) := (hs997 (31, 0) (by decide) (by decide)).trans fk985
  have fk1024 : st995 (30, 1) = .inr (4, [.int 1, .int 0, .int 0, .ref (ad994 (31, 1)), .int 0, .int 0, .int 0]) := ((hs997 (30, 1) (by decide) (by decide)).trans fk986).trans (by rw [ha996 (31, 1) (by decide)])
  have fk1025 : st995 (31, 1) = .inr (9, [.int 500, .int 100, .int 20]) := (hs997 (31, 1) (by decide) (by decide)).trans fk987
  have fk1026 : st995 (30, 2) = .inr (4, [.int 1, .int 0, .int 0, .ref (ad994 (31, 2)), .int 0, .int 0, .int 0]) := ((hs997 (30, 2) (by decide) (by decide)).trans fk988).trans (by rw [ha996 (31, 2) (by decide)])
  have fk1027 : st995 (31, 2) = .inr (9, [.int 500, .int 100, .int 20]) := (hs997 (31, 2) (by decide) (by decide)).trans fk989
  have af1028 : ∀ x : ro, x ≠ (2, 0) → x ≠ (3, 0) → x ≠ (4, 0) → x ≠ (5, 0) → x ≠ (6, 0) → x ≠ (7, 0) → x ≠ (8, 0) → x ≠ (9, 0) → x ≠ (10, 0) → x ≠ (11, 0) → x ≠ (11, 1) → x ≠ (20, 0) → x ≠ (21, 0) → x ≠ (20, 1) → x ≠ (21, 1) → x ≠ (20, 2) → x ≠ (21, 2) → x ≠ (20, 3) → x ≠ (21, 3) → x ≠ (20, 4) → x ≠ (21, 4) → x ≠ (20, 5) → x ≠ (21, 5) → x ≠ (30, 0) → x ≠ (31, 0) → x ≠ (30, 1) → x ≠ (31, 1) → x ≠ (30, 2) → x ≠ (31, 2) → x ≠ (30, 3) → x ≠ (31, 3) → ad994 x = ad x := fun x a0 a1 a2 a3 a4 a5 a6 a7 a8 a9 a10 a11 a12 a13 a14 a15 a16 a17 a18 a19 a20 a21 a22 a23 a24 a25 a26 a27 a28 a29 a30 => (ha996 x a30).trans (af990 x a0 a1 a2 a3 a4 a5 a6 a7 a8 a9 a10 a11 a12 a13 a14 a15 a16 a17 a18 a19 a20 a21 a22 a23 a24 a25 a26 a27 a28 a29)
  have sf1029 : ∀ x : ro, x ≠ (2, 0) → x ≠ (3, 0) → x ≠ (4, 0) → x ≠ (1, 0) → x ≠ (5, 0) → x ≠ (6, 0) → x ≠ (7, 0) → x ≠ (8, 0) → x ≠ (9, 0) → x ≠ (10, 0) → x ≠ (11, 0) → x ≠ (11, 1) → x ≠ (20, 0) → x ≠ (21, 0) → x ≠ (20, 1) → x ≠ (21, 1) → x ≠ (20, 2) → x ≠ (21, 2) → x ≠ (20, 3) → x ≠ (21, 3) → x ≠ (20, 4) → x ≠ (21, 4) → x ≠ (20, 5) → x ≠ (21, 5) → x ≠ (30, 0) → x ≠ (31, 0) → x ≠ (30, 1) → x ≠ (31, 1) → x ≠ (30, 2) → x ≠ (31, 2) → x ≠ (30, 3) → x ≠ (31, 3) → st995 x = st x := fun x a0 a1 a2 a3 a4 a5 a6 a7 a8 a9 a10 a11 a12 a13 a14 a15 a16 a17 a18 a19 a20 a21 a22 a23 a24 a25 a26 a27 a28 a29 a30 a31 => (hs997 x a30 a31).trans (sf991 x a0 a1 a2 a3 a4 a5 a6 a7 a8 a9 a10 a11 a12 a13 a14 a15 a16 a17 a18 a19 a20 a21 a22 a23 a24 a25 a26 a27 a28 a29 a30)
  have fk1030 : st995 (9, 0) = .inl (X.2.1 6, 6, .inr (.inr (.inr (.inr (va_up (va_up (va_up (va_up (va_up (va_up (fun _ => none) 0 (some (ad994 (20, 0)))) 1 (some (ad994 (20, 1)))) 2 (some (ad994 (20, 2)))) 3 (some (ad994 (20, 3)))) 4 (some (ad994 (20, 4)))) 5 (some (ad994 (20, 5)))))))) := ((hs997 (9, 0) (by decide) (by decide)).trans fk992).trans (by rw [ha996 (20, 0) (by decide), ha996 (20, 1) (by decide), ha996 (20, 2) (by decide), ha996 (20, 3) (by decide), ha996 (20, 4) (by decide), ha996 (20, 5) (by decide)])
  have fk1031 : st995 (10, 0) = .inl (X.2.1 7, 4, .inr (.inr (.inr (.inr (va_up (va_up (va_up (fun _ => none) 0 (some (ad994 (30, 0)))) 1 (some (ad994 (30, 1)))) 2 (some (ad994 (30, 2)))))))) := ((hs997 (10, 0) (by decide) (by decide)).trans fk993).trans (by rw [ha996 (30, 0) (by decide), ha996 (30, 1) (by decide), ha996 (30, 2) (by decide)])
  clear fk962 fk963 fk964 fk965 fk966 fk967 fk968 fk969 fk970 fk971 fk972 fk973 fk974 fk975 fk976 fk977 fk978 fk979 fk980 fk981 fk982 fk983 fk984 fk985 fk986 fk987 fk988 fk989 fk960 fk992 fk993 af990 sf991
  refine g_astq (r := (10, 0)) (t0 := 7) C hW hS (List.mem_append_left _ (List.mem_append_left _ (List.mem_append_left _ (List.mem_append_left _ (List.mem_append_left _ (List.mem_append_left _ (List.mem_append_left _ (List.mem_append_left _ (List.mem_append_left _ (List.mem_append_left _ (List.mem_append_left _ (List.mem_append_left _ (List.mem_append_left _ (List.mem_append_left _ (List.mem_append_left _ (List.mem_append_left _ (List.mem_append_left _ (List.mem_append_left _ (List.mem_append_left _ (List.mem_append_left _ (List.mem_append_left _ (List.mem_append_left _ (List.mem_append_right _ (List.mem_singleton.mpr rfl)))))))))))))))))))))))) fk1031 rfl (g_anyS (Cn := RX1) (T := TX1) (N := 7) C hW (List.mem_append_left _ (List.mem_append_right _ (List.mem_singleton.mpr rfl))) fk998 rfl) (vp_in_nI (n := 3) (N := 4) (by decide) (by decide)) dX7_init_116 (fun st1032 H locs fk1033 hs1034 hW hS => ?_)
  rw [show (3 : Int32).toNatClampNeg = 3 from by decide] at fk1033
  have fk1035 : st1032 (2, 0) = .inr (7, [.ref (ad994 (3, 0)), .ref (ad994 (4, 0)), .int 0, .ref (X.2.2 0), .int 32]) := (hs1034 (2, 0) (by decide)).trans fk1000
  have fk1036 : st1032 (3, 0) = .inl (X.2.1 1, 60, .inl (fun _ => 0)) := (hs1034 (3, 0) (by decide)).trans fk1001
  have fk1037 : st1032 (4, 0) = .inl (X.2.1 2, 6, .inl (fun _ => 0)) := (hs1034 (4, 0) (by decide)).trans fk1002
  have fk1038 : st1032 (5, 0) = .inr (3, [.int 0, .ref (ad994 (6, 0)), .ref (ad994 (7, 0)), .ref (ad994 (8, 0)), .int 0, .int 0]) := (hs1034 (5, 0) (by decide)).trans fk1003
  have fk1039 : st1032 (6, 0) = .inl (X.2.1 2, 512, .inl (fun _ => 0)) := (hs1034 (6, 0) (by decide)).trans fk1004
  have fk1040 : st1032 (7, 0) = .inl (X.2.1 2, 512, .inl (fun _ => 0)) := (hs1034 (7, 0) (by decide)).trans fk1005
  have fk1041 : st1032 (8, 0) = .inl (X.2.1 3, 512, .inl (fun _ => 0)) := (hs1034 (8, 0) (by decide)).trans fk1006
  have fk1042 : st1032 (11, 0) = .inr (2, [.int 0, .ref (X.2.2 30), .int 0]) := (hs1034 (11, 0) (by decide)).trans fk1007
  have fk1043 : st1032 (11, 1) = .inr (2, [.int 0, .ref (X.2.2 30), .int 0]) := (hs1034 (11, 1) (by decide)).trans fk1008
  have fk1044 : st1032 (1, 0) = .inr (10, [.ref (ad994 (2, 0)), .ref (ad994 (5, 0)), .ref (ad994 (9, 0)), .ref (ad994 (10, 0)), .ref (ad994 (11, 0)), .ref (ad994 (11, 1)), .int 0]) := (hs1034 (1, 0) (by decide)).trans fk1009
  have fk1045 : st1032 (20, 0) = .inr (8, [.int 10, .int 60, .int 0, .int 0, .ref (ad994 (21, 0)), .int 0, .int 0]) := (hs1034 (20, 0) (by decide)).trans fk1010
  have fk1046 : st1032 (21, 0) = .inl (X.2.1 2, 50, .inl (fun _ => 0)) := (hs1034 (21, 0) (by decide)).trans fk1011
  have fk1047 : st1032 (20, 1) = .inr (8, [.int 10, .int 60, .int 0, .int 0, .ref (ad994 (21, 1)), .int 0, .int 0]) := (hs1034 (20, 1) (by decide)).trans fk1012
  have fk1048 : st1032 (21, 1) = .inl (X.2.1 2, 50, .inl (fun _ => 0)) := (hs1034 (21, 1) (by decide)).trans fk1013
  have fk1049 : st1032 (20, 2) = .inr (8, [.int 10, .int 60, .int 0, .int 0, .ref (ad994 (21, 2)), .int 0, .int 0]) := (hs1034 (20, 2) (by decide)).trans fk1014
  have fk1050 : st1032 (21, 2) = .inl (X.2.1 2, 50, .inl (fun _ => 0)) := (hs1034 (21, 2) (by decide)).trans fk1015
  have fk1051 : st1032 (20, 3) = .inr (8, [.int 10, .int 60, .int 0, .int 0, .ref (ad994 (21, 3)), .int 0, .int 0]) := (hs1034 (20, 3) (by decide)).trans fk1016
  have fk1052 : st1032 (21, 3) = .inl (X.2.1 2, 50, .inl (fun _ => 0)) := (hs1034 (21, 3) (by decide)).trans fk1017
  have fk1053 : st1032 (20, 4) = .inr (8, [.int 10, .int 60, .int 0, .int 0, .ref (ad994 (21, 4)), .int 0, .int 0]) := (hs1034 (20, 4) (by decide)).trans fk1018
  have fk1054 : st1032 (21, 4) = .inl (X.2.1 2, 50, .inl (fun _ => 0)) := (hs1034 (21, 4) (by decide)).trans fk1019
  have fk1055 : st1032 (20, 5) = .inr (8, [.int 10, .int 60, .int 0, .int 0, .ref (ad994 (21, 5)), .int 0, .int 0]) := (hs1034 (20, 5) (by decide)).trans fk1020
  have fk1056 : st1032 (21, 5) = .inl (X.2.1 2, 50, .inl (fun _ => 0)) := (hs1034 (21, 5) (by decide)).trans fk1021
  have fk1057 : st1032 (30, 0) = .inr (4, [.int 1, .int 0, .int 0, .ref (ad994 (31, 0)), .int 0, .int 0, .int 0]) := (hs1034 (30, 0) (by decide)).trans fk1022
  have fk1058 : st1032 (31, 0) = .inr (9, [.int 500, .int 100, .int 20]) := (hs1034 (31, 0) (by decide)).trans fk1023
  have fk1059 : st1032 (30, 1) = .inr (4, [.int 1, .int 0, .int 0, .ref (ad994 (31, 1)), .int 0, .int 0, .int 0]) := (hs1034 (30, 1) (by decide)).trans fk1024
  have fk1060 : st1032 (31, 1) = .inr (9, [.int 500, .int 100, .int 20]) := (hs1034 (31, 1) (by decide)).trans fk1025
  have fk1061 : st1032 (30, 2) = .inr (4, [.int 1, .int 0, .int 0, .ref (ad994 (31, 2)), .int 0, .int 0, .int 0]) := (hs1034 (30, 2) (by decide)).trans fk1026
  have fk1062 : st1032 (31, 2) = .inr (9, [.int 500, .int 100, .int 20]) := (hs1034 (31, 2) (by decide)).trans fk1027
  have fk1063 : st1032 (30, 3) = .inr (4, [.int 1, .int 0, .int 0, .ref (ad994 (31, 3)), .int 0, .int 0, .int 0]) := (hs1034 (30, 3) (by decide)).trans fk998
  have fk1064 : st1032 (31, 3) = .inr (9, [.int 500, .int 100, .int 20]) := (hs1034 (31, 3) (by decide)).trans fk999
  have fk1065 : st1032 (9, 0) = .inl (X.2.1 6, 6, .inr (.inr (.inr (.inr (va_up (va_up (va_up (va_up (va_up (va_up (fun _ => none) 0 (some (ad994 (20, 0)))) 1 (some (ad994 (20, 1)))) 2 (some (ad994 (20, 2)))) 3 (some (ad994 (20, 3)))) 4 (some (ad994 (20, 4)))) 5 (some (ad994 (20, 5)))))))) := (hs1034 (9, 0) (by decide)).trans fk1030
  have sf1066 : ∀ x : ro, x ≠ (2, 0) → x ≠ (3, 0) → x ≠ (4, 0) → x ≠ (1, 0) → x ≠ (5, 0) → x ≠ (6, 0) → x ≠ (7, 0) → x ≠ (8, 0) → x ≠ (9, 0) → x ≠ (10, 0) → x ≠ (11, 0) → x ≠ (11, 1) → x ≠ (20, 0) → x ≠ (21, 0) → x ≠ (20, 1) → x ≠ (21, 1) → x ≠ (20, 2) → x ≠ (21, 2) → x ≠ (20, 3) → x ≠ (21, 3) → x ≠ (20, 4) → x ≠ (21, 4) → x ≠ (20, 5) → x ≠ (21, 5) → x ≠ (30, 0) → x ≠ (31, 0) → x ≠ (30, 1) → x ≠ (31, 1) → x ≠ (30, 2) → x ≠ (31, 2) → x ≠ (30, 3) → x ≠ (31, 3) → st1032 x = st x := fun x a0 a1 a2 a3 a4 a5 a6 a7 a8 a9 a10 a11 a12 a13 a14 a15 a16 a17 a18 a19 a20 a21 a22 a23 a24 a25 a26 a27 a28 a29 a30 a31 => (hs1034 x a9).trans (sf1029 x a0 a1 a2 a3 a4 a5 a6 a7 a8 a9 a10 a11 a12 a13 a14 a15 a16 a17 a18 a19 a20 a21 a22 a23 a24 a25 a26 a27 a28 a29 a30 a31)
  clear fk1000 fk1001 fk1002 fk1003 fk1004 fk1005 fk1006 fk1007 fk1008 fk1009 fk1010 fk1011 fk1012 fk1013 fk1014 fk1015 fk1016 fk1017 fk1018 fk1019 fk1020 fk1021 fk1022 fk1023 fk1024 fk1025 fk1026 fk1027 fk998 fk999 fk1030 fk1031 sf1029
  refine lv_iinc (v := 4) (lv' := [(1, .int 4), (0, .ref (ad994 (1, 0)))]) hx hb dX7_init_117 hl (k := 0) rfl (by decide) (by decide) rfl (fun ls hl => ?_)
  refine lv_goto (tgt := 99) hx hb dX7_init_120 (by decide) ?_
  refine lv_iload_n hx hb dX7_init_99 rfl (lv_at hl 0 rfl) ?_
  refine lv_iconst (v := 4) hx hb dX7_init_100 (by decide) ?_
  refine lv_icmp_ge (tgt := 123) hx hb dX7_init_101 (by decide) (fun _ => ?_) (fun c9 => absurd (by decide) c9)
  exact g_vret2 C hQ hW hS ⟨_, _, rfl, af1028, fk1044, fk1035, fk1036, fk1037, fk1038, fk1039, fk1040, fk1041, fk1065, fk1033, fk1042, fk1043, fk1045, fk1046, fk1047, fk1048, fk1049, fk1050, fk1051, fk1052, fk1053, fk1054, fk1055, fk1056, fk1057, fk1058, fk1059, fk1060, fk1061, fk1062, fk1063, fk1064⟩ (Nat.le_of_ble_eq_true rfl) (Nat.le_of_ble_eq_true rfl) dX7_init_123

