theorem pk_sub1 (n : Nat) : nI (n + 1) - nI n = 1 := by
  have h := pk_sub (a := n + 1) (b := n) (by omega)
  rw [show n + 1 - n = 1 by omega] at h
  exact h
theorem shr_half {n : Nat} (h : n ≤ 100) : nI n >>> ((1 : Int32) &&& 31) = nI (n / 2) := by
  have key : ∀ x : Fin 101, nI x.1 >>> ((1 : Int32) &&& 31) = nI (x.1 / 2) := by decide +kernel
  exact key ⟨n, by omega⟩
theorem nI_gt0 {n : Nat} (h : 0 < n) (h2 : n < 2 ^ 31) : 0 < nI n := (nI_ltI (a := 0) (by decide) h2).mpr h
set_option maxHeartbeats 4000000 in
set_option maxRecDepth 100000 in
theorem c_Jx4a65c_growA (l : Launch) (X : GX) (L : List ro) (ad : ro → Nat) (st : ro → va_E) (i : Nat) (m9 : Int32) (mA : (11, i) ∈ L) (nB : (12, i) ∉ L) (eA : st (11, i) = .inr (2, [.int m9, .ref (X.2.2 30), .int 0]))  : gMq l yJx4a65c_grow_92f84 cJx4a65c_grow_92f84 4 (some (.array (.object "java/lang/Object"))) 1 14 1 150 X [.ref (ad (11, i)), .int 1] L ad st (fun v u => ∃ ad' st', u = (L ++ [(12, i)], ad', st') ∧ (∀ x : ro, x ≠ (12, i) → ad' x = ad x) ∧ (∀ x : ro, x ≠ (12, i) → x ≠ (11, i) → st' x = st x) ∧ st' (11, i) = .inr (2, [.int m9, .ref (ad' (12, i)), .int 0]) ∧ st' (12, i) = .inl (X.2.1 5, 10, .inr (.inr (.inr (.inr (fun _ => none))))) ∧ v = some (ad' (12, i))) := by
  intro sz
  refine gM_of2 (Qc := fun A => va_Qq _ (gB X A) A) (by decide) (Nat.le_of_ble_eq_true rfl) ?_ sz
  intro p e s m args below meth c A R Q hR hQ C hW hS ls hl
  obtain ⟨hR1, hR2, hR3, hR4⟩ := hR
  have hx := C.1.1
  have hb := C.1.2.1
  have hml := C.1.2.2.1
  have hl : lv_has ls 4 [(0, .ref (ad (11, i))), (1, .int 1)] := hl
  refine lv_aload_n hx hb dJx4a65c_grow_92f84_0 rfl (lv_at hl 0 rfl) ?_
  refine g_get (r := (11, i)) (Cn := RJx4a65c) (T := TJx4a65c) (N := 3) (ci := 2) (v := .ref (X.2.2 30)) C tinJx4a65c hW mA eA rfl 1 (by decide) tw_1_112 (fun _ h9 => h9) rfl dJx4a65c_grow_92f84_1 ?_
  refine va_tlen (v := 0) hx hb (g_sf C).2.2.1.2 hS rfl dJx4a65c_grow_92f84_4 ?_
  refine lv_istore_n (lv' := [(2, .int 0), (0, .ref (ad (11, i))), (1, .int 1)]) hx hb dJx4a65c_grow_92f84_5 rfl hl (by decide) rfl (fun ls hl => ?_)
  refine lv_iload_n hx hb dJx4a65c_grow_92f84_6 rfl (lv_at hl 0 rfl) ?_
  refine lv_if_gt (tgt := 20) hx hb dJx4a65c_grow_92f84_7 (by decide) (fun c9 => absurd c9 (by decide)) (fun _ => ?_)
  refine lv_aload_n hx hb dJx4a65c_grow_92f84_10 rfl (lv_at hl 1 rfl) ?_
  refine g_get (r := (11, i)) (Cn := RJx4a65c) (T := TJx4a65c) (N := 3) (ci := 2) (v := .ref (X.2.2 30)) C tinJx4a65c hW mA eA rfl 1 (by decide) tw_1_112 (fun _ h9 => h9) rfl dJx4a65c_grow_92f84_11 ?_
  refine va_gets hx hb (g_sf C).2.2.1.1 hS C.1.2.2.2.1 (C.1.2.2.2.2 _ tw_1_110) (fun _ h9 => h9) dJx4a65c_grow_92f84_14 ?_
  refine lv_acmp_eq (rx := some (X.2.2 30)) (ry := some (X.2.2 30)) (tgt := 45) hx hb dJx4a65c_grow_92f84_17 (by decide) (fun c8 => ?_) (fun c8 => absurd rfl c8)
  refine lv_aload_n hx hb dJx4a65c_grow_92f84_45 rfl (lv_at hl 1 rfl) ?_
  refine lv_bipush (v := 10) hx hb dJx4a65c_grow_92f84_46 (by decide) ?_
  refine lv_iload_n hx hb dJx4a65c_grow_92f84_48 rfl (lv_at hl 2 rfl) ?_
  refine va_mmax hx hb (hml.trans hl.1.symm) C.1.2.2.2.1 (C.1.2.2.2.2 _ tw_5_13) (C.1.2.2.2.2 _ tw_2_61) (C.1.2.2.2.2 _ tw_1_19) (C.1.2.2.2.2 _ tw_2_62) (by rw [hR1]; exact Nat.le_of_ble_eq_true rfl) (by rw [hR2]; exact Nat.le_of_ble_eq_true rfl) (by rw [hR3]; first | exact Nat.zero_le _ | exact Nat.le_of_ble_eq_true rfl | omega) (by rw [hR4]; first | exact Nat.zero_le _ | exact Nat.le_of_ble_eq_true rfl | omega) dJx4a65c_grow_92f84_49 ?_
  refine lv_topE (y := 10) (by decide) ?_
  refine g_newr (r := (12, i)) (Cn := "java/lang/Object") (t0 := 5) (N' := 10) C hW hS nB tw_5_14 (by decide) rfl (by decide) (by decide) (by decide) (by rw [hR3]; exact Nat.le_of_ble_eq_true rfl) (by rw [hR4]; exact Nat.le_of_ble_eq_true rfl) dJx4a65c_grow_92f84_52 (fun ad1 st2 H ha3 fk4 hs5 hW hS => ?_)
  have hl : lv_has ls 4 [(2, .int 0), (0, .ref (ad1 (11, i))), (1, .int 1)] := by rw [ha3 (11, i) (rne (by omega))]; exact hl
  refine W.eq (g2 := F0 m 55 ls [.ref (ad1 (12, i)), .ref (ad1 (11, i))]) (by rw [ha3 (11, i) (rne (by omega))] <;> rfl) ?_
  have fk6 : st2 (11, i) = .inr (2, [.int m9, .ref (X.2.2 30), .int 0]) := (hs5 (11, i) (rne (by omega))).trans eA
  have af7 : ∀ x : ro, x ≠ (12, i) → ad1 x = ad x := fun x a0 => ha3 x a0
  have sf8 : ∀ x : ro, x ≠ (12, i) → st2 x = st x := fun x a0 => hs5 x a0
  refine lv_dup_x1 hx hb dJx4a65c_grow_92f84_55 rfl rfl ?_
  refine g_putx (r := (11, i)) (Cn := RJx4a65c) (T := TJx4a65c) (N := 3) (ci := 2) (ty0 := tyJx4a65c) (fs2 := [.int m9, .ref (ad1 (12, i)), .int 0]) C tinJx4a65c tyJx4a65c_ok nmJx4a65c hW hS (List.mem_append_left _ mA) fk6 rfl 1 (by decide) tw_1_112 (fun _ h9 => h9) rfl rfl rfl (Nat.le_of_ble_eq_true rfl) rfl dJx4a65c_grow_92f84_56 (fun st9 H locs fk10 hs11 hW hS => ?_)
  have fk12 : st9 (12, i) = .inl (X.2.1 5, 10, .inr (.inr (.inr (.inr (fun _ => none))))) := (hs11 (12, i) (rne (by omega))).trans fk4
  have sf13 : ∀ x : ro, x ≠ (12, i) → x ≠ (11, i) → st9 x = st x := fun x a0 a1 => (hs11 x a1).trans (sf8 x a0)
  exact g_qret2 (v := some (ad1 (12, i))) C (Or.inr ⟨_, rfl⟩) hQ hW hS ⟨_, _, rfl, (fun x b0 => af7 x b0), (fun x b0 b1 => sf13 x b0 b1), fk10, fk12, rfl⟩ (Nat.le_of_ble_eq_true rfl) (Nat.le_of_ble_eq_true rfl) dJx4a65c_grow_92f84_59

set_option maxHeartbeats 4000000 in
set_option maxRecDepth 100000 in
theorem c_Jx4a65c_growA0 (l : Launch) (X : GX) (L : List ro) (ad : ro → Nat) (st : ro → va_E) (i : Nat) (m9 : Int32) (mA : (11, i) ∈ L) (nB : (12, i) ∉ L) (eA : st (11, i) = .inr (2, [.int m9, .ref (X.2.2 30), .int 0]))  : gMq l yJx4a65c_grow_d5877 cJx4a65c_grow_d5877 1 (some (.array (.object "java/lang/Object"))) 2 37 1 150 X [.ref (ad (11, i))] L ad st (fun v u => ∃ ad' st', u = (L ++ [(12, i)], ad', st') ∧ (∀ x : ro, x ≠ (12, i) → ad' x = ad x) ∧ (∀ x : ro, x ≠ (12, i) → x ≠ (11, i) → st' x = st x) ∧ st' (11, i) = .inr (2, [.int m9, .ref (ad' (12, i)), .int 0]) ∧ st' (12, i) = .inl (X.2.1 5, 10, .inr (.inr (.inr (.inr (fun _ => none))))) ∧ v = some (ad' (12, i))) := by
  intro sz
  refine gM_of2 (Qc := fun A => va_Qq _ (gB X A) A) (by decide) (Nat.le_of_ble_eq_true rfl) ?_ sz
  intro p e s m args below meth c A R Q hR hQ C hW hS ls hl
  obtain ⟨hR1, hR2, hR3, hR4⟩ := hR
  have hx := C.1.1
  have hb := C.1.2.1
  have hml := C.1.2.2.1
  have hl : lv_has ls 1 [(0, .ref (ad (11, i)))] := hl
  refine lv_aload_n hx hb dJx4a65c_grow_d5877_0 rfl (lv_at hl 0 rfl) ?_
  refine lv_aload_n hx hb dJx4a65c_grow_d5877_1 rfl (lv_at hl 0 rfl) ?_
  refine g_get (r := (11, i)) (Cn := RJx4a65c) (T := TJx4a65c) (N := 3) (ci := 2) (v := .int 0) C tinJx4a65c hW mA eA rfl 2 (by decide) tw_1_113 (fun _ h9 => h9) rfl dJx4a65c_grow_d5877_2 ?_
  refine lv_iconst (v := 1) hx hb dJx4a65c_grow_d5877_5 (by decide) ?_
  refine lv_iadd hx hb dJx4a65c_grow_d5877_6 ?_
  refine lv_topE (y := 1) (by decide) ?_
  refine g_callVq (r := (11, i)) (T := TJx4a65c) (N := 3) (k2 := 1) (As := [.int 1]) (rest := []) C (c_Jx4a65c_growA l X L ad st i m9 mA nB eA) tw_4_220 tw_4_222 tw_0_19 tw_1_6 tw_4_223 (by decide +kernel) ⟨by rw [hR1]; exact Nat.le_of_ble_eq_true rfl, by rw [hR2]; exact Nat.le_of_ble_eq_true rfl⟩ hW hS mA eA rfl rfl hl.1 rfl (Nat.le_of_ble_eq_true rfl) dJx4a65c_grow_d5877_7 ⟨by rw [hR3]; exact Nat.le_of_ble_eq_true rfl, by rw [hR4]; exact Nat.le_of_ble_eq_true rfl⟩ (fun v1 L9 ad2 st3 H locs hp hW hS => ?_)
  obtain ⟨adq, stq, z0, ha4, hs5, fk6, fk7, h8⟩ := hp
  cases z0
  subst h8
  have hl : lv_has ls 1 [(0, .ref (ad2 (11, i)))] := by rw [ha4 (11, i) (rne (by omega))]; exact hl
  have af9 : ∀ x : ro, x ≠ (12, i) → ad2 x = ad x := fun x a0 => ha4 x a0
  have sf10 : ∀ x : ro, x ≠ (12, i) → x ≠ (11, i) → st3 x = st x := fun x a0 a1 => hs5 x a0 a1
  refine lv_topV (y := .ref (ad2 (12, i))) rfl ?_
  exact g_qret2 (v := some (ad2 (12, i))) C (Or.inr ⟨_, rfl⟩) hQ hW hS ⟨_, _, rfl, (fun x b0 => af9 x b0), (fun x b0 b1 => sf10 x b0 b1), fk6, fk7, rfl⟩ (Nat.le_of_ble_eq_true rfl) (Nat.le_of_ble_eq_true rfl) dJx4a65c_grow_d5877_10

set_option maxHeartbeats 4000000 in
set_option maxRecDepth 100000 in
theorem c_Jx4a65c_growB (l : Launch) (X : GX) (L : List ro) (ad : ro → Nat) (st : ro → va_E) (i n : Nat) (m9 : Int32) (mA : (11, i) ∈ L) (mB : (12, i) ∈ L) (nT : (65, 0) ∉ L) (eA : st (11, i) = .inr (2, [.int m9, .ref (ad (12, i)), .int (nI n)])) (eB : st (12, i) = .inl (X.2.1 5, n, .inr (.inr (.inr (.inr (fE ad i n)))))) (hi : i < 2) (hE : ∀ k, k < n → ((40 + 10 * i, k) : ro) ∈ L ∧ ∃ fs, st (40 + 10 * i, k) = .inr (elC i, fs)) (hn : n ≤ 100) (hn10 : 10 ≤ n) : gMq l yJx4a65c_grow_92f84 cJx4a65c_grow_92f84 4 (some (.array (.object "java/lang/Object"))) 3 104 1 150 X [.ref (ad (11, i)), .int (nI (n + 1))] L ad st (fun v u => ∃ ad' st', u = (L ++ [(65, 0)], ad', st') ∧ (∀ x : ro, x ≠ (65, 0) → ad' x = ad x) ∧ (∀ x : ro, x ≠ (65, 0) → x ≠ (11, i) → st' x = st x) ∧ st' (11, i) = .inr (2, [.int m9, .ref (ad' (65, 0)), .int (nI n)]) ∧ st' (65, 0) = .inl (X.2.1 5, (n + n / 2), .inr (.inr (.inr (.inr (va_cpy (fE ad i n) (fun _ => none) 0 0 n))))) ∧ v = some (ad' (65, 0))) := by
  intro sz
  refine gM_of2 (Qc := fun A => va_Qq _ (gB X A) A) (by decide) (Nat.le_of_ble_eq_true rfl) ?_ sz
  intro p e s m args below meth c A R Q hR hQ C hW hS ls hl
  obtain ⟨hR1, hR2, hR3, hR4⟩ := hR
  have hx := C.1.1
  have hb := C.1.2.1
  have hml := C.1.2.2.1
  have hl : lv_has ls 4 [(0, .ref (ad (11, i))), (1, .int (nI (n + 1)))] := hl
  refine lv_aload_n hx hb dJx4a65c_grow_92f84_0 rfl (lv_at hl 0 rfl) ?_
  refine g_get (r := (11, i)) (Cn := RJx4a65c) (T := TJx4a65c) (N := 3) (ci := 2) (v := .ref (ad (12, i))) C tinJx4a65c hW mA eA rfl 1 (by decide) tw_1_112 (fun _ h9 => h9) rfl dJx4a65c_grow_92f84_1 ?_
  refine g_alen (r := (12, i)) (t0 := 5) (v := nI n) C hW mB eB rfl rfl dJx4a65c_grow_92f84_4 ?_
  refine lv_istore_n (lv' := [(2, .int (nI n)), (0, .ref (ad (11, i))), (1, .int (nI (n + 1)))]) hx hb dJx4a65c_grow_92f84_5 rfl hl (by decide) rfl (fun ls hl => ?_)
  refine lv_iload_n hx hb dJx4a65c_grow_92f84_6 rfl (lv_at hl 0 rfl) ?_
  refine lv_if_gt (tgt := 20) hx hb dJx4a65c_grow_92f84_7 (by decide) (fun _ => ?_) (fun c9 => absurd (nI_gt0 (by omega) (by omega)) c9)
  refine lv_iload_n hx hb dJx4a65c_grow_92f84_20 rfl (lv_at hl 0 rfl) ?_
  refine lv_iload_n hx hb dJx4a65c_grow_92f84_21 rfl (lv_at hl 2 rfl) ?_
  refine lv_iload_n hx hb dJx4a65c_grow_92f84_22 rfl (lv_at hl 0 rfl) ?_
  refine lv_isub hx hb dJx4a65c_grow_92f84_23 ?_
  refine lv_topE (y := 1) (pk_sub1 n) ?_
  refine lv_iload_n hx hb dJx4a65c_grow_92f84_24 rfl (lv_at hl 0 rfl) ?_
  refine lv_iconst (v := 1) hx hb dJx4a65c_grow_92f84_25 (by decide) ?_
  refine lv_ishr hx hb dJx4a65c_grow_92f84_26 ?_
  refine lv_topE (y := nI (n / 2)) (shr_half hn) ?_
  refine g_callSi (k2 := 3) (As := [.int (nI n), .int 1, .int (nI (n / 2))]) (rest := []) C (c_J8_newLength_cabcc l X L ad st n (n / 2) (by omega) (by omega) (by omega)) tw_4_224 tw_2_226 tw_1_25 tw_2_227 (by decide +kernel) ⟨by rw [hR1]; exact Nat.le_of_ble_eq_true rfl, by rw [hR2]; exact Nat.le_of_ble_eq_true rfl⟩ hW hS rfl hl.1 rfl (Nat.le_of_ble_eq_true rfl) dJx4a65c_grow_92f84_27 ⟨Nat.zero_le _, Nat.zero_le _⟩ (fun x1 L9 ad2 st3 H locs hp hW hS => ?_)
  obtain ⟨z0, h4⟩ := hp
  cases z0
  subst h4
  refine lv_istore_n (lv' := [(3, .int (nI (n + (n / 2)))), (2, .int (nI n)), (0, .ref (ad (11, i))), (1, .int (nI (n + 1)))]) hx hb dJx4a65c_grow_92f84_30 rfl hl (by decide) rfl (fun ls hl => ?_)
  refine lv_aload_n hx hb dJx4a65c_grow_92f84_31 rfl (lv_at hl 2 rfl) ?_
  refine lv_aload_n hx hb dJx4a65c_grow_92f84_32 rfl (lv_at hl 2 rfl) ?_
  refine g_get (r := (11, i)) (Cn := RJx4a65c) (T := TJx4a65c) (N := 3) (ci := 2) (v := .ref (ad (12, i))) C tinJx4a65c hW mA eA rfl 1 (by decide) tw_1_112 (fun _ h9 => h9) rfl dJx4a65c_grow_92f84_33 ?_
  refine lv_iload_n hx hb dJx4a65c_grow_92f84_36 rfl (lv_at hl 0 rfl) ?_
  refine g_callSq (k2 := 2) (As := [.ref (ad (12, i)), .int (nI (n + (n / 2)))]) (rest := [.ref (ad (11, i))]) C (c_J7_copyOf_1904c l X L ad st i n (n + (n / 2)) mB nT eB hi (fun k hk => hE k (by omega)) hn (by omega) (by omega)) tw_4_225 tw_4_226 tw_1_16 tw_4_227 (by decide +kernel) ⟨by rw [hR1]; exact Nat.le_of_ble_eq_true rfl, by rw [hR2]; exact Nat.le_of_ble_eq_true rfl⟩ hW hS rfl hl.1 rfl (Nat.le_of_ble_eq_true rfl) dJx4a65c_grow_92f84_37 ⟨by rw [hR3]; exact Nat.le_of_ble_eq_true rfl, by rw [hR4]; exact Nat.le_of_ble_eq_true rfl⟩ (fun v5 L9 ad6 st7 H locs hp hW hS => ?_)
  obtain ⟨adq, stq, z0, ha8, hs9, fk10, h11⟩ := hp
  cases z0
  subst h11
  have hl : lv_has ls 4 [(3, .int (nI (n + (n / 2)))), (2, .int (nI n)), (0, .ref (ad6 (11, i))), (1, .int (nI (n + 1)))] := by rw [ha8 (11, i) (rne (by omega))]; exact hl
  refine W.eq (g2 := F0 m 40 ls [.ref (ad6 (65, 0)), .ref (ad6 (11, i))]) (by rw [ha8 (11, i) (rne (by omega))] <;> rfl) ?_
  have fk12 : st7 (11, i) = .inr (2, [.int m9, .ref (ad6 (12, i)), .int (nI n)]) := ((hs9 (11, i) (rne (by omega))).trans eA).trans (by rw [ha8 (12, i) (rne (by omega))])
  have fk13 : st7 (12, i) = .inl (X.2.1 5, n, .inr (.inr (.inr (.inr (fE ad i n))))) := (hs9 (12, i) (rne (by omega))).trans eB
  have af14 : ∀ x : ro, x ≠ (65, 0) → ad6 x = ad x := fun x a0 => ha8 x a0
  have sf15 : ∀ x : ro, x ≠ (65, 0) → st7 x = st x := fun x a0 => hs9 x a0
  refine lv_topV (y := .ref (ad6 (65, 0))) rfl ?_
  refine lv_dup_x1 hx hb dJx4a65c_grow_92f84_40 rfl rfl ?_
  refine g_putx (r := (11, i)) (Cn := RJx4a65c) (T := TJx4a65c) (N := 3) (ci := 2) (ty0 := tyJx4a65c) (fs2 := [.int m9, .ref (ad6 (65, 0)), .int (nI n)]) C tinJx4a65c tyJx4a65c_ok nmJx4a65c hW hS (List.mem_append_left _ mA) fk12 rfl 1 (by decide) tw_1_112 (fun _ h9 => h9) rfl rfl rfl (Nat.le_of_ble_eq_true rfl) rfl dJx4a65c_grow_92f84_41 (fun st16 H locs fk17 hs18 hW hS => ?_)
  have fk19 : st16 (12, i) = .inl (X.2.1 5, n, .inr (.inr (.inr (.inr (fE ad i n))))) := (hs18 (12, i) (rne (by omega))).trans fk13
  have fk20 : st16 (65, 0) = .inl (X.2.1 5, (n + (n / 2)), .inr (.inr (.inr (.inr (va_cpy (fE ad i n) (fun _ => none) 0 0 n))))) := (hs18 (65, 0) (rne (by omega))).trans fk10
  have sf21 : ∀ x : ro, x ≠ (65, 0) → x ≠ (11, i) → st16 x = st x := fun x a0 a1 => (hs18 x a1).trans (sf15 x a0)
  exact g_qret2 (v := some (ad6 (65, 0))) C (Or.inr ⟨_, rfl⟩) hQ hW hS ⟨_, _, rfl, (fun x b0 => af14 x b0), (fun x b0 b1 => sf21 x b0 b1), fk17, fk20, rfl⟩ (Nat.le_of_ble_eq_true rfl) (Nat.le_of_ble_eq_true rfl) dJx4a65c_grow_92f84_44

set_option maxHeartbeats 4000000 in
set_option maxRecDepth 100000 in
theorem c_Jx4a65c_growB0 (l : Launch) (X : GX) (L : List ro) (ad : ro → Nat) (st : ro → va_E) (i n : Nat) (m9 : Int32) (mA : (11, i) ∈ L) (mB : (12, i) ∈ L) (nT : (65, 0) ∉ L) (eA : st (11, i) = .inr (2, [.int m9, .ref (ad (12, i)), .int (nI n)])) (eB : st (12, i) = .inl (X.2.1 5, n, .inr (.inr (.inr (.inr (fE ad i n)))))) (hi : i < 2) (hE : ∀ k, k < n → ((40 + 10 * i, k) : ro) ∈ L ∧ ∃ fs, st (40 + 10 * i, k) = .inr (elC i, fs)) (hn : n ≤ 100) (hn10 : 10 ≤ n) : gMq l yJx4a65c_grow_d5877 cJx4a65c_grow_d5877 1 (some (.array (.object "java/lang/Object"))) 4 127 1 150 X [.ref (ad (11, i))] L ad st (fun v u => ∃ ad' st', u = (L ++ [(65, 0)], ad', st') ∧ (∀ x : ro, x ≠ (65, 0) → ad' x = ad x) ∧ (∀ x : ro, x ≠ (65, 0) → x ≠ (11, i) → st' x = st x) ∧ st' (11, i) = .inr (2, [.int m9, .ref (ad' (65, 0)), .int (nI n)]) ∧ st' (65, 0) = .inl (X.2.1 5, (n + n / 2), .inr (.inr (.inr (.inr (va_cpy (fE ad i n) (fun _ => none) 0 0 n))))) ∧ v = some (ad' (65, 0))) := by
  intro sz
  refine gM_of2 (Qc := fun A => va_Qq _ (gB X A) A) (by decide) (Nat.le_of_ble_eq_true rfl) ?_ sz
  intro p e s m args below meth c A R Q hR hQ C hW hS ls hl
  obtain ⟨hR1, hR2, hR3, hR4⟩ := hR
  have hx := C.1.1
  have hb := C.1.2.1
  have hml := C.1.2.2.1
  have hl : lv_has ls 1 [(0, .ref (ad (11, i)))] := hl
  refine lv_aload_n hx hb dJx4a65c_grow_d5877_0 rfl (lv_at hl 0 rfl) ?_
  refine lv_aload_n hx hb dJx4a65c_grow_d5877_1 rfl (lv_at hl 0 rfl) ?_
  refine g_get (r := (11, i)) (Cn := RJx4a65c) (T := TJx4a65c) (N := 3) (ci := 2) (v := .int (nI n)) C tinJx4a65c hW mA eA rfl 2 (by decide) tw_1_113 (fun _ h9 => h9) rfl dJx4a65c_grow_d5877_2 ?_
  refine lv_iconst (v := 1) hx hb dJx4a65c_grow_d5877_5 (by decide) ?_
  refine lv_iadd hx hb dJx4a65c_grow_d5877_6 ?_
  refine lv_topE (y := nI (n + 1)) (nI_1 n) ?_
  refine g_callVq (r := (11, i)) (T := TJx4a65c) (N := 3) (k2 := 1) (As := [.int (nI (n + 1))]) (rest := []) C (c_Jx4a65c_growB l X L ad st i n m9 mA mB nT eA eB hi (fun k hk => hE k (by omega)) hn hn10) tw_4_220 tw_4_222 tw_0_19 tw_1_6 tw_4_223 (by decide +kernel) ⟨by rw [hR1]; exact Nat.le_of_ble_eq_true rfl, by rw [hR2]; exact Nat.le_of_ble_eq_true rfl⟩ hW hS mA eA rfl rfl hl.1 rfl (Nat.le_of_ble_eq_true rfl) dJx4a65c_grow_d5877_7 ⟨by rw [hR3]; exact Nat.le_of_ble_eq_true rfl, by rw [hR4]; exact Nat.le_of_ble_eq_true rfl⟩ (fun v1 L9 ad2 st3 H locs hp hW hS => ?_)
  obtain ⟨adq, stq, z0, ha4, hs5, fk6, fk7, h8⟩ := hp
  cases z0
  subst h8
  have hl : lv_has ls 1 [(0, .ref (ad2 (11, i)))] := by rw [ha4 (11, i) (rne (by omega))]; exact hl
  have fk9 : st3 (12, i) = .inl (X.2.1 5, n, .inr (.inr (.inr (.inr (fE ad i n))))) := (hs5 (12, i) (rne (by omega)) (rne (by omega))).trans eB
  have af10 : ∀ x : ro, x ≠ (65, 0) → ad2 x = ad x := fun x a0 => ha4 x a0
  have sf11 : ∀ x : ro, x ≠ (65, 0) → x ≠ (11, i) → st3 x = st x := fun x a0 a1 => hs5 x a0 a1
  refine lv_topV (y := .ref (ad2 (65, 0))) rfl ?_
  exact g_qret2 (v := some (ad2 (65, 0))) C (Or.inr ⟨_, rfl⟩) hQ hW hS ⟨_, _, rfl, (fun x b0 => af10 x b0), (fun x b0 b1 => sf11 x b0 b1), fk6, fk7, rfl⟩ (Nat.le_of_ble_eq_true rfl) (Nat.le_of_ble_eq_true rfl) dJx4a65c_grow_d5877_10

