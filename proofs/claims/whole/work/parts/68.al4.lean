theorem sf_mod : Cond.sameField "java/util/ArrayList" "java/util/AbstractList" "modCount" "I" ∈ TB := tB_of (by decide +kernel) (by decide +kernel)
set_option maxHeartbeats 4000000 in
set_option maxRecDepth 100000 in
theorem c_Jx4a65c_add1N (l : Launch) (X : GX) (L : List ro) (ad : ro → Nat) (st : ro → va_E) (i n c0 : Nat) (m9 : Int32) (mA : (11, i) ∈ L) (mB : (12, i) ∈ L)  (eA : st (11, i) = .inr (2, [.int m9, .ref (ad (12, i)), .int (nI n)])) (eB : st (12, i) = .inl (X.2.1 5, c0, .inr (.inr (.inr (.inr (fE ad i n)))))) (hi : i < 2) (hE : ∀ k, k < n + 1 → ((40 + 10 * i, k) : ro) ∈ L ∧ ∃ fs, st (40 + 10 * i, k) = .inr (elC i, fs)) (hc0 : n < c0) (hc1 : 10 ≤ c0) (hc2 : c0 ≤ 150) : gMi l yJx4a65c_add_9ea2d cJx4a65c_add_9ea2d 2 (some .boolean) 6 170 1 150 X [.ref (ad (11, i)), .ref (ad (40 + 10 * i, n))] L ad st (fun v u => ∃ L' ad' st', u = (L', ad', st') ∧ alP X L ad st i (m9 + 1) n L' ad' st') := by
  intro sz
  refine gM_of2 (Qc := fun A => va_Qi _ (gB X A) A) (by decide) (Nat.le_of_ble_eq_true rfl) ?_ sz
  intro p e s m args below meth c A R Q hR hQ C hW hS ls hl
  obtain ⟨hR1, hR2, hR3, hR4⟩ := hR
  have hx := C.1.1
  have hb := C.1.2.1
  have hml := C.1.2.2.1
  have hl : lv_has ls 2 [(0, .ref (ad (11, i))), (1, .ref (ad (40 + 10 * i, n)))] := hl
  refine lv_aload_n hx hb dJx4a65c_add_9ea2d_0 rfl (lv_at hl 0 rfl) ?_
  refine lv_dup hx hb dJx4a65c_add_9ea2d_1 rfl ?_
  refine g_get (r := (11, i)) (Cn := RJx4a65c) (T := TJx4a65c) (N := 3) (ci := 2) (v := .int m9) C tinJx4a65c hW mA eA rfl 0 (by decide) tw_1_115 (fun x h9 => u_same (C.1.2.2.2.2 _ sf_mod) x h9) rfl dJx4a65c_add_9ea2d_2 ?_
  refine lv_iconst (v := 1) hx hb dJx4a65c_add_9ea2d_5 (by decide) ?_
  refine lv_iadd hx hb dJx4a65c_add_9ea2d_6 ?_
  refine lv_topE (y := m9 + 1) rfl ?_
  refine g_putx (r := (11, i)) (Cn := RJx4a65c) (T := TJx4a65c) (N := 3) (ci := 2) (ty0 := tyJx4a65c) (fs2 := [.int (m9 + 1), .ref (ad (12, i)), .int (nI n)]) C tinJx4a65c tyJx4a65c_ok nmJx4a65c hW hS mA eA rfl 0 (by decide) tw_1_115 (fun x h9 => u_same (C.1.2.2.2.2 _ sf_mod) x h9) rfl rfl rfl (Nat.le_of_ble_eq_true rfl) rfl dJx4a65c_add_9ea2d_7 (fun st1 H locs fk2 hs3 hW hS => ?_)
  have fk4 : st1 (12, i) = .inl (X.2.1 5, c0, .inr (.inr (.inr (.inr (fE ad i n))))) := (hs3 (12, i) (rne (by omega))).trans eB
  have sf5 : ∀ x : ro, x ≠ (11, i) → st1 x = st x := fun x a0 => hs3 x a0
  refine lv_aload_n hx hb dJx4a65c_add_9ea2d_10 rfl (lv_at hl 0 rfl) ?_
  refine lv_aload_n hx hb dJx4a65c_add_9ea2d_11 rfl (lv_at hl 1 rfl) ?_
  refine lv_aload_n hx hb dJx4a65c_add_9ea2d_12 rfl (lv_at hl 0 rfl) ?_
  refine g_get (r := (11, i)) (Cn := RJx4a65c) (T := TJx4a65c) (N := 3) (ci := 2) (v := .ref (ad (12, i))) C tinJx4a65c hW mA fk2 rfl 1 (by decide) tw_1_112 (fun _ h9 => h9) rfl dJx4a65c_add_9ea2d_13 ?_
  refine lv_aload_n hx hb dJx4a65c_add_9ea2d_16 rfl (lv_at hl 0 rfl) ?_
  refine g_get (r := (11, i)) (Cn := RJx4a65c) (T := TJx4a65c) (N := 3) (ci := 2) (v := .int (nI n)) C tinJx4a65c hW mA fk2 rfl 2 (by decide) tw_1_113 (fun _ h9 => h9) rfl dJx4a65c_add_9ea2d_17 ?_
  refine g_callVv (r := (11, i)) (T := TJx4a65c) (N := 3) (k2 := 3) (As := [.ref (ad (40 + 10 * i, n)), .ref (ad (12, i)), .int (nI n)]) (rest := []) C (c_Jx4a65c_addN l X L ad st1 i n c0 (m9 + 1) mA mB fk2 fk4 hi (fun k hk => ⟨(hE k (by omega)).1, by obtain ⟨fs, q⟩ := (hE k (by omega)).2; exact ⟨fs, (sf5 (40 + 10 * i, k) (rne (by omega))).trans q⟩⟩) hc0 hc1 hc2) tw_4_212 tw_4_214 tw_0_17 tw_1_6 tw_4_215 (by decide +kernel) ⟨by rw [hR1]; exact Nat.le_of_ble_eq_true rfl, by rw [hR2]; exact Nat.le_of_ble_eq_true rfl⟩ hW hS mA fk2 rfl rfl hl.1 rfl (Nat.le_of_ble_eq_true rfl) dJx4a65c_add_9ea2d_20 ⟨Nat.zero_le _, Nat.zero_le _⟩ (fun  L9 ad6 st7 H locs hp hW hS => ?_)
  obtain ⟨L5, ad5, st5, z0, z1, z2, z3, z4, cap, z5, z6, z7, z8⟩ := hp
  cases z0
  refine lv_iconst (v := 1) hx hb dJx4a65c_add_9ea2d_23 (by decide) ?_
  exact g_iret2 C hQ hW hS ⟨_, _, _, rfl, z1, z2, (fun x a1 a2 => (z3 x a1 a2).trans (sf5 x a1)), z4, cap, z5, z6, z7, z8⟩ (by decide) (Nat.zero_le _) (Nat.zero_le _) dJx4a65c_add_9ea2d_24

set_option maxHeartbeats 4000000 in
set_option maxRecDepth 100000 in
theorem c_Jx4a65c_add1A (l : Launch) (X : GX) (L : List ro) (ad : ro → Nat) (st : ro → va_E) (i : Nat) (m9 : Int32) (mA : (11, i) ∈ L) (nB : (12, i) ∉ L) (eA : st (11, i) = .inr (2, [.int m9, .ref (X.2.2 30), .int 0])) (hi : i < 2) (hE : ∀ k, k < 0 + 1 → ((40 + 10 * i, k) : ro) ∈ L ∧ ∃ fs, st (40 + 10 * i, k) = .inr (elC i, fs)) : gMi l yJx4a65c_add_9ea2d cJx4a65c_add_9ea2d 2 (some .boolean) 6 170 1 150 X [.ref (ad (11, i)), .ref (ad (40 + 10 * i, 0))] L ad st (fun v u => ∃ L' ad' st', u = (L', ad', st') ∧ alP X L ad st i (m9 + 1) 0 L' ad' st') := by
  intro sz
  refine gM_of2 (Qc := fun A => va_Qi _ (gB X A) A) (by decide) (Nat.le_of_ble_eq_true rfl) ?_ sz
  intro p e s m args below meth c A R Q hR hQ C hW hS ls hl
  obtain ⟨hR1, hR2, hR3, hR4⟩ := hR
  have hx := C.1.1
  have hb := C.1.2.1
  have hml := C.1.2.2.1
  have hl : lv_has ls 2 [(0, .ref (ad (11, i))), (1, .ref (ad (40 + 10 * i, 0)))] := hl
  refine lv_aload_n hx hb dJx4a65c_add_9ea2d_0 rfl (lv_at hl 0 rfl) ?_
  refine lv_dup hx hb dJx4a65c_add_9ea2d_1 rfl ?_
  refine g_get (r := (11, i)) (Cn := RJx4a65c) (T := TJx4a65c) (N := 3) (ci := 2) (v := .int m9) C tinJx4a65c hW mA eA rfl 0 (by decide) tw_1_115 (fun x h9 => u_same (C.1.2.2.2.2 _ sf_mod) x h9) rfl dJx4a65c_add_9ea2d_2 ?_
  refine lv_iconst (v := 1) hx hb dJx4a65c_add_9ea2d_5 (by decide) ?_
  refine lv_iadd hx hb dJx4a65c_add_9ea2d_6 ?_
  refine lv_topE (y := m9 + 1) rfl ?_
  refine g_putx (r := (11, i)) (Cn := RJx4a65c) (T := TJx4a65c) (N := 3) (ci := 2) (ty0 := tyJx4a65c) (fs2 := [.int (m9 + 1), .ref (X.2.2 30), .int 0]) C tinJx4a65c tyJx4a65c_ok nmJx4a65c hW hS mA eA rfl 0 (by decide) tw_1_115 (fun x h9 => u_same (C.1.2.2.2.2 _ sf_mod) x h9) rfl rfl rfl (Nat.le_of_ble_eq_true rfl) rfl dJx4a65c_add_9ea2d_7 (fun st1 H locs fk2 hs3 hW hS => ?_)
  have sf4 : ∀ x : ro, x ≠ (11, i) → st1 x = st x := fun x a0 => hs3 x a0
  refine lv_aload_n hx hb dJx4a65c_add_9ea2d_10 rfl (lv_at hl 0 rfl) ?_
  refine lv_aload_n hx hb dJx4a65c_add_9ea2d_11 rfl (lv_at hl 1 rfl) ?_
  refine lv_aload_n hx hb dJx4a65c_add_9ea2d_12 rfl (lv_at hl 0 rfl) ?_
  refine g_get (r := (11, i)) (Cn := RJx4a65c) (T := TJx4a65c) (N := 3) (ci := 2) (v := .ref (X.2.2 30)) C tinJx4a65c hW mA fk2 rfl 1 (by decide) tw_1_112 (fun _ h9 => h9) rfl dJx4a65c_add_9ea2d_13 ?_
  refine lv_aload_n hx hb dJx4a65c_add_9ea2d_16 rfl (lv_at hl 0 rfl) ?_
  refine g_get (r := (11, i)) (Cn := RJx4a65c) (T := TJx4a65c) (N := 3) (ci := 2) (v := .int 0) C tinJx4a65c hW mA fk2 rfl 2 (by decide) tw_1_113 (fun _ h9 => h9) rfl dJx4a65c_add_9ea2d_17 ?_
  refine g_callVv (r := (11, i)) (T := TJx4a65c) (N := 3) (k2 := 3) (As := [.ref (ad (40 + 10 * i, 0)), .ref (X.2.2 30), .int 0]) (rest := []) C (c_Jx4a65c_addA l X L ad st1 i (m9 + 1) mA nB fk2 hi (fun k hk => ⟨(hE k (by omega)).1, by obtain ⟨fs, q⟩ := (hE k (by omega)).2; exact ⟨fs, (sf4 (40 + 10 * i, k) (rne (by omega))).trans q⟩⟩)) tw_4_212 tw_4_214 tw_0_17 tw_1_6 tw_4_215 (by decide +kernel) ⟨by rw [hR1]; exact Nat.le_of_ble_eq_true rfl, by rw [hR2]; exact Nat.le_of_ble_eq_true rfl⟩ hW hS mA fk2 rfl rfl hl.1 rfl (Nat.le_of_ble_eq_true rfl) dJx4a65c_add_9ea2d_20 ⟨by rw [hR3]; exact Nat.le_of_ble_eq_true rfl, by rw [hR4]; exact Nat.le_of_ble_eq_true rfl⟩ (fun  L9 ad5 st6 H locs hp hW hS => ?_)
  obtain ⟨L5, ad5, st5, z0, z1, z2, z3, z4, cap, z5, z6, z7, z8⟩ := hp
  cases z0
  refine lv_iconst (v := 1) hx hb dJx4a65c_add_9ea2d_23 (by decide) ?_
  exact g_iret2 C hQ hW hS ⟨_, _, _, rfl, z1, z2, (fun x a1 a2 => (z3 x a1 a2).trans (sf4 x a1)), z4, cap, z5, z6, z7, z8⟩ (by decide) (Nat.le_of_ble_eq_true rfl) (Nat.le_of_ble_eq_true rfl) dJx4a65c_add_9ea2d_24

set_option maxHeartbeats 4000000 in
set_option maxRecDepth 100000 in
theorem c_Jx4a65c_add1B (l : Launch) (X : GX) (L : List ro) (ad : ro → Nat) (st : ro → va_E) (i n : Nat) (m9 : Int32) (mA : (11, i) ∈ L) (mB : (12, i) ∈ L) (nT : (65, 0) ∉ L) (eA : st (11, i) = .inr (2, [.int m9, .ref (ad (12, i)), .int (nI n)])) (eB : st (12, i) = .inl (X.2.1 5, n, .inr (.inr (.inr (.inr (fE ad i n)))))) (hi : i < 2) (hE : ∀ k, k < n + 1 → ((40 + 10 * i, k) : ro) ∈ L ∧ ∃ fs, st (40 + 10 * i, k) = .inr (elC i, fs)) (hn10 : 10 ≤ n) (hn : n ≤ 100) : gMi l yJx4a65c_add_9ea2d cJx4a65c_add_9ea2d 2 (some .boolean) 6 170 1 150 X [.ref (ad (11, i)), .ref (ad (40 + 10 * i, n))] L ad st (fun v u => ∃ L' ad' st', u = (L', ad', st') ∧ alP X L ad st i (m9 + 1) n L' ad' st') := by
  intro sz
  refine gM_of2 (Qc := fun A => va_Qi _ (gB X A) A) (by decide) (Nat.le_of_ble_eq_true rfl) ?_ sz
  intro p e s m args below meth c A R Q hR hQ C hW hS ls hl
  obtain ⟨hR1, hR2, hR3, hR4⟩ := hR
  have hx := C.1.1
  have hb := C.1.2.1
  have hml := C.1.2.2.1
  have hl : lv_has ls 2 [(0, .ref (ad (11, i))), (1, .ref (ad (40 + 10 * i, n)))] := hl
  refine lv_aload_n hx hb dJx4a65c_add_9ea2d_0 rfl (lv_at hl 0 rfl) ?_
  refine lv_dup hx hb dJx4a65c_add_9ea2d_1 rfl ?_
  refine g_get (r := (11, i)) (Cn := RJx4a65c) (T := TJx4a65c) (N := 3) (ci := 2) (v := .int m9) C tinJx4a65c hW mA eA rfl 0 (by decide) tw_1_115 (fun x h9 => u_same (C.1.2.2.2.2 _ sf_mod) x h9) rfl dJx4a65c_add_9ea2d_2 ?_
  refine lv_iconst (v := 1) hx hb dJx4a65c_add_9ea2d_5 (by decide) ?_
  refine lv_iadd hx hb dJx4a65c_add_9ea2d_6 ?_
  refine lv_topE (y := m9 + 1) rfl ?_
  refine g_putx (r := (11, i)) (Cn := RJx4a65c) (T := TJx4a65c) (N := 3) (ci := 2) (ty0 := tyJx4a65c) (fs2 := [.int (m9 + 1), .ref (ad (12, i)), .int (nI n)]) C tinJx4a65c tyJx4a65c_ok nmJx4a65c hW hS mA eA rfl 0 (by decide) tw_1_115 (fun x h9 => u_same (C.1.2.2.2.2 _ sf_mod) x h9) rfl rfl rfl (Nat.le_of_ble_eq_true rfl) rfl dJx4a65c_add_9ea2d_7 (fun st1 H locs fk2 hs3 hW hS => ?_)
  have fk4 : st1 (12, i) = .inl (X.2.1 5, n, .inr (.inr (.inr (.inr (fE ad i n))))) := (hs3 (12, i) (rne (by omega))).trans eB
  have sf5 : ∀ x : ro, x ≠ (11, i) → st1 x = st x := fun x a0 => hs3 x a0
  refine lv_aload_n hx hb dJx4a65c_add_9ea2d_10 rfl (lv_at hl 0 rfl) ?_
  refine lv_aload_n hx hb dJx4a65c_add_9ea2d_11 rfl (lv_at hl 1 rfl) ?_
  refine lv_aload_n hx hb dJx4a65c_add_9ea2d_12 rfl (lv_at hl 0 rfl) ?_
  refine g_get (r := (11, i)) (Cn := RJx4a65c) (T := TJx4a65c) (N := 3) (ci := 2) (v := .ref (ad (12, i))) C tinJx4a65c hW mA fk2 rfl 1 (by decide) tw_1_112 (fun _ h9 => h9) rfl dJx4a65c_add_9ea2d_13 ?_
  refine lv_aload_n hx hb dJx4a65c_add_9ea2d_16 rfl (lv_at hl 0 rfl) ?_
  refine g_get (r := (11, i)) (Cn := RJx4a65c) (T := TJx4a65c) (N := 3) (ci := 2) (v := .int (nI n)) C tinJx4a65c hW mA fk2 rfl 2 (by decide) tw_1_113 (fun _ h9 => h9) rfl dJx4a65c_add_9ea2d_17 ?_
  refine g_callVv (r := (11, i)) (T := TJx4a65c) (N := 3) (k2 := 3) (As := [.ref (ad (40 + 10 * i, n)), .ref (ad (12, i)), .int (nI n)]) (rest := []) C (c_Jx4a65c_addB l X L ad st1 i n (m9 + 1) mA mB nT fk2 fk4 hi (fun k hk => ⟨(hE k (by omega)).1, by obtain ⟨fs, q⟩ := (hE k (by omega)).2; exact ⟨fs, (sf5 (40 + 10 * i, k) (rne (by omega))).trans q⟩⟩) hn10 hn) tw_4_212 tw_4_214 tw_0_17 tw_1_6 tw_4_215 (by decide +kernel) ⟨by rw [hR1]; exact Nat.le_of_ble_eq_true rfl, by rw [hR2]; exact Nat.le_of_ble_eq_true rfl⟩ hW hS mA fk2 rfl rfl hl.1 rfl (Nat.le_of_ble_eq_true rfl) dJx4a65c_add_9ea2d_20 ⟨by rw [hR3]; exact Nat.le_of_ble_eq_true rfl, by rw [hR4]; exact Nat.le_of_ble_eq_true rfl⟩ (fun  L9 ad6 st7 H locs hp hW hS => ?_)
  obtain ⟨L5, ad5, st5, z0, z1, z2, z3, z4, cap, z5, z6, z7, z8⟩ := hp
  cases z0
  refine lv_iconst (v := 1) hx hb dJx4a65c_add_9ea2d_23 (by decide) ?_
  exact g_iret2 C hQ hW hS ⟨_, _, _, rfl, z1, z2, (fun x a1 a2 => (z3 x a1 a2).trans (sf5 x a1)), z4, cap, z5, z6, z7, z8⟩ (by decide) (Nat.le_of_ble_eq_true rfl) (Nat.le_of_ble_eq_true rfl) dJx4a65c_add_9ea2d_24

