set_option maxHeartbeats 4000000 in
set_option maxRecDepth 100000 in
theorem c_X6_init (l : Launch) (X : GX) (L : List ro) (ad : ro → Nat) (st : ro → va_E) (i : Nat) (a b c8 : Int32) (m31 : (31, i) ∈ L)  (e31 : st (31, i) = .inr (9, [.int 0, .int 0, .int 0]))  : gMv l yX6_init cX6_init 4 none 1 12 0 0 X [.ref (ad (31, i)), .int a, .int b, .int c8] L ad st (fun u => ∃ st', u = (L, ad, st') ∧ (∀ x : ro, x ≠ (31, i) → st' x = st x) ∧ st' (31, i) = .inr (9, [.int a, .int b, .int c8])) := by
  intro sz
  refine gM_of2 (Qc := fun A => va_Qv _ (gB X A) A) (by decide) (Nat.le_of_ble_eq_true rfl) ?_ sz
  intro p e s m args below meth c A R Q hR hQ C hW hS ls hl
  obtain ⟨hR1, hR2, hR3, hR4⟩ := hR
  have hx := C.1.1
  have hb := C.1.2.1
  have hml := C.1.2.2.1
  have hl : lv_has ls 4 [(0, .ref (ad (31, i))), (1, .int a), (2, .int b), (3, .int c8)] := hl
  refine lv_aload_n hx hb dX6_init_0 rfl (lv_at hl 0 rfl) ?_
  refine W.objInit hx hb C.1.2.2.2.1 (C.1.2.2.2.2 _ tw_1_165) (C.1.2.2.2.2 _ oi_inst) (C.1.2.2.2.2 _ oi_code) rfl (by rw [hml]; exact hl.1) rfl dX6_init_1 (by rw [hR1]; exact Nat.le_of_ble_eq_true rfl) (by rw [hR2]; exact Nat.le_of_ble_eq_true rfl) ?_
  refine W.eq (g2 := F0 m 4 ls []) rfl ?_
  refine lv_aload_n hx hb dX6_init_4 rfl (lv_at hl 0 rfl) ?_
  refine lv_iload_n hx hb dX6_init_5 rfl (lv_at hl 1 rfl) ?_
  refine g_putxF (r := (31, i)) (Cn := RX6) (T := TX6) (N := 3) (ci := 9) (ty0 := tyX6) (fs2 := [.int a, .int 0, .int 0]) C tinX6 tyX6_ok nmX6 hW hS m31 e31 rfl 0 (by decide) tw_1_166 rfl rfl rfl rfl (Nat.le_of_ble_eq_true rfl) rfl dX6_init_6 (fun st1 H locs fk2 hs3 hW hS => ?_)
  have sf4 : ∀ x : ro, x ≠ (31, i) → st1 x = st x := fun x a0 => hs3 x a0
  refine lv_aload_n hx hb dX6_init_9 rfl (lv_at hl 0 rfl) ?_
  refine lv_iload_n hx hb dX6_init_10 rfl (lv_at hl 2 rfl) ?_
  refine g_putxF (r := (31, i)) (Cn := RX6) (T := TX6) (N := 3) (ci := 9) (ty0 := tyX6) (fs2 := [.int a, .int b, .int 0]) C tinX6 tyX6_ok nmX6 hW hS m31 fk2 rfl 1 (by decide) tw_1_169 rfl rfl rfl rfl (Nat.le_of_ble_eq_true rfl) rfl dX6_init_11 (fun st5 H locs fk6 hs7 hW hS => ?_)
  have sf8 : ∀ x : ro, x ≠ (31, i) → st5 x = st x := fun x a0 => (hs7 x a0).trans (sf4 x a0)
  refine lv_aload_n hx hb dX6_init_14 rfl (lv_at hl 0 rfl) ?_
  refine lv_iload_n hx hb dX6_init_15 rfl (lv_at hl 3 rfl) ?_
  refine g_putxF (r := (31, i)) (Cn := RX6) (T := TX6) (N := 3) (ci := 9) (ty0 := tyX6) (fs2 := [.int a, .int b, .int c8]) C tinX6 tyX6_ok nmX6 hW hS m31 fk6 rfl 2 (by decide) tw_1_171 rfl rfl rfl rfl (Nat.le_of_ble_eq_true rfl) rfl dX6_init_16 (fun st9 H locs fk10 hs11 hW hS => ?_)
  have sf12 : ∀ x : ro, x ≠ (31, i) → st9 x = st x := fun x a0 => (hs11 x a0).trans (sf8 x a0)
  exact g_vret2 C hQ hW hS ⟨_, rfl, (fun x b0 => sf12 x b0), fk10⟩ (Nat.zero_le _) (Nat.zero_le _) dX6_init_19

set_option maxHeartbeats 4000000 in
set_option maxRecDepth 100000 in
theorem c_X2_init (l : Launch) (X : GX) (L : List ro) (ad : ro → Nat) (st : ro → va_E) (i j : Nat) (a b : Int32) (m50 : (50, i) ∈ L)  (e50 : st (50, i) = .inr (5, [.null, .int 0, .int 0, .int 0]))  : gMv l yX2_init cX2_init 4 none 1 12 0 0 X [.ref (ad (50, i)), .ref (ad (40, j)), .int a, .int b] L ad st (fun u => ∃ st', u = (L, ad, st') ∧ (∀ x : ro, x ≠ (50, i) → st' x = st x) ∧ st' (50, i) = .inr (5, [.ref (ad (40, j)), .int b, .int a, .int 0])) := by
  intro sz
  refine gM_of2 (Qc := fun A => va_Qv _ (gB X A) A) (by decide) (Nat.le_of_ble_eq_true rfl) ?_ sz
  intro p e s m args below meth c A R Q hR hQ C hW hS ls hl
  obtain ⟨hR1, hR2, hR3, hR4⟩ := hR
  have hx := C.1.1
  have hb := C.1.2.1
  have hml := C.1.2.2.1
  have hl : lv_has ls 4 [(0, .ref (ad (50, i))), (1, .ref (ad (40, j))), (2, .int a), (3, .int b)] := hl
  refine lv_aload_n hx hb dX2_init_0 rfl (lv_at hl 0 rfl) ?_
  refine W.objInit hx hb C.1.2.2.2.1 (C.1.2.2.2.2 _ tw_5_106) (C.1.2.2.2.2 _ oi_inst) (C.1.2.2.2.2 _ oi_code) rfl (by rw [hml]; exact hl.1) rfl dX2_init_1 (by rw [hR1]; exact Nat.le_of_ble_eq_true rfl) (by rw [hR2]; exact Nat.le_of_ble_eq_true rfl) ?_
  refine W.eq (g2 := F0 m 4 ls []) rfl ?_
  refine lv_aload_n hx hb dX2_init_4 rfl (lv_at hl 0 rfl) ?_
  refine lv_iconst (v := 0) hx hb dX2_init_5 (by decide) ?_
  refine g_putx (r := (50, i)) (Cn := RX2) (T := TX2) (N := 4) (ci := 5) (ty0 := tyX2) (fs2 := [.null, .int 0, .int 0, .int 0]) C tinX2 tyX2_ok nmX2 hW hS m50 e50 rfl 3 (by decide) tw_5_112 (fun _ h9 => h9) rfl rfl rfl (Nat.le_of_ble_eq_true rfl) rfl dX2_init_6 (fun st1 H locs fk2 hs3 hW hS => ?_)
  have sf4 : ∀ x : ro, x ≠ (50, i) → st1 x = st x := fun x a0 => hs3 x a0
  refine lv_aload_n hx hb dX2_init_9 rfl (lv_at hl 0 rfl) ?_
  refine lv_aload_n hx hb dX2_init_10 rfl (lv_at hl 1 rfl) ?_
  refine g_putxF (r := (50, i)) (Cn := RX2) (T := TX2) (N := 4) (ci := 5) (ty0 := tyX2) (fs2 := [.ref (ad (40, j)), .int 0, .int 0, .int 0]) C tinX2 tyX2_ok nmX2 hW hS m50 fk2 rfl 0 (by decide) tw_5_107 rfl rfl rfl rfl (Nat.le_of_ble_eq_true rfl) rfl dX2_init_11 (fun st5 H locs fk6 hs7 hW hS => ?_)
  have sf8 : ∀ x : ro, x ≠ (50, i) → st5 x = st x := fun x a0 => (hs7 x a0).trans (sf4 x a0)
  refine lv_aload_n hx hb dX2_init_14 rfl (lv_at hl 0 rfl) ?_
  refine lv_iload_n hx hb dX2_init_15 rfl (lv_at hl 2 rfl) ?_
  refine g_putx (r := (50, i)) (Cn := RX2) (T := TX2) (N := 4) (ci := 5) (ty0 := tyX2) (fs2 := [.ref (ad (40, j)), .int 0, .int a, .int 0]) C tinX2 tyX2_ok nmX2 hW hS m50 fk6 rfl 2 (by decide) tw_5_110 (fun _ h9 => h9) rfl rfl rfl (Nat.le_of_ble_eq_true rfl) rfl dX2_init_16 (fun st9 H locs fk10 hs11 hW hS => ?_)
  have sf12 : ∀ x : ro, x ≠ (50, i) → st9 x = st x := fun x a0 => (hs11 x a0).trans (sf8 x a0)
  refine lv_aload_n hx hb dX2_init_19 rfl (lv_at hl 0 rfl) ?_
  refine lv_iload_n hx hb dX2_init_20 rfl (lv_at hl 3 rfl) ?_
  refine g_putxF (r := (50, i)) (Cn := RX2) (T := TX2) (N := 4) (ci := 5) (ty0 := tyX2) (fs2 := [.ref (ad (40, j)), .int b, .int a, .int 0]) C tinX2 tyX2_ok nmX2 hW hS m50 fk10 rfl 1 (by decide) tw_5_109 rfl rfl rfl rfl (Nat.le_of_ble_eq_true rfl) rfl dX2_init_21 (fun st13 H locs fk14 hs15 hW hS => ?_)
  have sf16 : ∀ x : ro, x ≠ (50, i) → st13 x = st x := fun x a0 => (hs15 x a0).trans (sf12 x a0)
  exact g_vret2 C hQ hW hS ⟨_, rfl, (fun x b0 => sf16 x b0), fk14⟩ (Nat.zero_le _) (Nat.zero_le _) dX2_init_24

set_option maxHeartbeats 4000000 in
set_option maxRecDepth 100000 in
theorem c_X4_valueOfF (l : Launch) (X : GX) (L : List ro) (ad : ro → Nat) (st : ro → va_E) (p1 p2 : Int32) (q1 : Nat) (fv : Nat → Int32) (k : Nat) (m2 : (2, 0) ∈ L) (m4 : (4, 0) ∈ L)  (e2 : st (2, 0) = .inr (7, [.ref (ad (3, 0)), .ref (ad (4, 0)), .int p1, .ref q1, .int p2])) (e4 : st (4, 0) = .inl (X.2.1 2, 6, .inl fv)) (hk : k < 6) : gMi l yX4_valueOf cX4_valueOf 2 (some .int) 0 0 0 0 X [.ref (ad (2, 0)), .int (nI k)] L ad st (fun v u => u = (L, ad, st) ∧ v = fv k) := by
  intro sz
  refine gM_of2 (Qc := fun A => va_Qi _ (gB X A) A) (by decide) (Nat.le_of_ble_eq_true rfl) ?_ sz
  intro p e s m args below meth c A R Q hR hQ C hW hS ls hl
  obtain ⟨hR1, hR2, hR3, hR4⟩ := hR
  have hx := C.1.1
  have hb := C.1.2.1
  have hml := C.1.2.2.1
  have hl : lv_has ls 2 [(0, .ref (ad (2, 0))), (1, .int (nI k))] := hl
  refine lv_iload_n hx hb dX4_valueOf_0 rfl (lv_at hl 1 rfl) ?_
  refine lv_if_lt (tgt := 22) hx hb dX4_valueOf_1 (by decide) (fun c1 => ?_) (fun c1 => ?_)
  · have c1n := q_lt (a := k) (b := 0) (by omega) (by omega) c1
    refine lv_iconst (v := (-1)) hx hb dX4_valueOf_22 (by decide) ?_
    exact g_iret2 C hQ hW hS ⟨rfl, (by first | rfl | (exfalso; omega))⟩ rfl (Nat.zero_le _) (Nat.zero_le _) dX4_valueOf_23
  · have c1n := q_nlt (a := k) (b := 0) (by omega) (by omega) c1
    refine lv_iload_n hx hb dX4_valueOf_4 rfl (lv_at hl 1 rfl) ?_
    refine lv_aload_n hx hb dX4_valueOf_5 rfl (lv_at hl 0 rfl) ?_
    refine g_get (r := (2, 0)) (Cn := RX4) (T := TX4) (N := 5) (ci := 7) (v := .ref (ad (4, 0))) C tinX4 hW m2 e2 rfl 1 (by decide) tw_1_49 (fun _ h9 => h9) rfl dX4_valueOf_6 ?_
    refine g_alen (r := (4, 0)) (t0 := 2) (v := 6) C hW m4 e4 rfl rfl dX4_valueOf_9 ?_
    refine lv_icmp_ge (tgt := 22) hx hb dX4_valueOf_10 (by decide) (fun c2 => ?_) (fun c2 => ?_)
    · have c2n := q_le (a := 6) (b := k) (by omega) (by omega) c2
      refine lv_iconst (v := (-1)) hx hb dX4_valueOf_22 (by decide) ?_
      exact g_iret2 C hQ hW hS ⟨rfl, (by first | rfl | (exfalso; omega))⟩ rfl (Nat.zero_le _) (Nat.zero_le _) dX4_valueOf_23
    · have c2n := q_nle (a := 6) (b := k) (by omega) (by omega) c2
      refine lv_aload_n hx hb dX4_valueOf_13 rfl (lv_at hl 0 rfl) ?_
      refine g_get (r := (2, 0)) (Cn := RX4) (T := TX4) (N := 5) (ci := 7) (v := .ref (ad (4, 0))) C tinX4 hW m2 e2 rfl 1 (by decide) tw_1_49 (fun _ h9 => h9) rfl dX4_valueOf_14 ?_
      refine lv_iload_n hx hb dX4_valueOf_17 rfl (lv_at hl 1 rfl) ?_
      refine g_iald (r := (4, 0)) (n := 6) (f := fv) C hW m4 e4 (vp_in_nI (N := 6) (by omega) (by omega)) dX4_valueOf_18 ?_
      refine lv_topE (y := fv k) (by rw [nI_clamp (by omega)]) ?_
      refine lv_topE (y := fv k) rfl ?_
      refine lv_goto (tgt := 23) hx hb dX4_valueOf_19 (by decide) ?_
      exact g_iret2 C hQ hW hS ⟨rfl, (by first | rfl | (exfalso; omega))⟩ rfl (Nat.zero_le _) (Nat.zero_le _) dX4_valueOf_23

set_option maxHeartbeats 4000000 in
set_option maxRecDepth 100000 in
theorem c_X3_init (l : Launch) (X : GX) (L : List ro) (ad : ro → Nat) (st : ro → va_E) (i t : Nat) (z9 : Int32) (p1 p2 : Int32) (q1 : Nat) (fv : Nat → Int32) (m40 : (40, i) ∈ L) (m2 : (2, 0) ∈ L) (m4 : (4, 0) ∈ L)  (e40 : st (40, i) = .inr (6, [.int 0, .int 0, .int 0, .int 0, .int 0, .int 0, .null, .int 0])) (e2 : st (2, 0) = .inr (7, [.ref (ad (3, 0)), .ref (ad (4, 0)), .int p1, .ref q1, .int p2])) (e4 : st (4, 0) = .inl (X.2.1 2, 6, .inl fv))  : gMv l yX3_init cX3_init 4 none 1 21 0 0 X [.ref (ad (40, i)), .ref (ad (2, 0)), .ref (ad (31, t)), .int z9] L ad st (fun u => ∃ st', u = (L, ad, st') ∧ (∀ x : ro, x ≠ (40, i) → st' x = st x) ∧ st' (40, i) = .inr (6, [.int (fv 0), .int (fv 1), .int (fv 2), .int (fv 3), .int (fv 4), .int (if fv 5 = 1 then 1 else 0), .ref (ad (31, t)), .int z9])) := by
  intro sz
  refine gM_of2 (Qc := fun A => va_Qv _ (gB X A) A) (by decide) (Nat.le_of_ble_eq_true rfl) ?_ sz
  intro p e s m args below meth c A R Q hR hQ C hW hS ls hl
  obtain ⟨hR1, hR2, hR3, hR4⟩ := hR
  have hx := C.1.1
  have hb := C.1.2.1
  have hml := C.1.2.2.1
  have hl : lv_has ls 4 [(0, .ref (ad (40, i))), (1, .ref (ad (2, 0))), (2, .ref (ad (31, t))), (3, .int z9)] := hl
  refine lv_aload_n hx hb dX3_init_0 rfl (lv_at hl 0 rfl) ?_
  refine W.objInit hx hb C.1.2.2.2.1 (C.1.2.2.2.2 _ tw_4_172) (C.1.2.2.2.2 _ oi_inst) (C.1.2.2.2.2 _ oi_code) rfl (by rw [hml]; exact hl.1) rfl dX3_init_1 (by rw [hR1]; exact Nat.le_of_ble_eq_true rfl) (by rw [hR2]; exact Nat.le_of_ble_eq_true rfl) ?_
  refine W.eq (g2 := F0 m 4 ls []) rfl ?_
  refine lv_aload_n hx hb dX3_init_4 rfl (lv_at hl 0 rfl) ?_
  refine lv_aload_n hx hb dX3_init_5 rfl (lv_at hl 1 rfl) ?_
  refine lv_iconst (v := 0) hx hb dX3_init_6 (by decide) ?_
  refine g_callVi (r := (2, 0)) (T := TX4) (N := 5) (k2 := 1) (As := [.int 0]) (rest := [.ref (ad (40, i))]) C (c_X4_valueOfF l X L ad st p1 p2 q1 fv 0 m2 m4 e2 e4 (by decide)) tw_4_163 tw_2_172 tw_2_173 tw_1_2 tw_2_174 (by decide +kernel) ⟨by rw [hR1]; exact Nat.le_of_ble_eq_true rfl, by rw [hR2]; exact Nat.le_of_ble_eq_true rfl⟩ hW hS m2 e2 rfl rfl hl.1 rfl (Nat.le_of_ble_eq_true rfl) dX3_init_7 ⟨Nat.zero_le _, Nat.zero_le _⟩ (fun x1 L9 ad2 st3 H locs hp hW hS => ?_)
  obtain ⟨z0, h4⟩ := hp
  cases z0
  subst h4
  refine g_putxF (r := (40, i)) (Cn := RX3) (T := TX3) (N := 8) (ci := 6) (ty0 := tyX3) (fs2 := [.int (fv 0), .int 0, .int 0, .int 0, .int 0, .int 0, .null, .int 0]) C tinX3 tyX3_ok nmX3 hW hS m40 e40 rfl 0 (by decide) tw_4_173 rfl rfl rfl rfl (Nat.le_of_ble_eq_true rfl) rfl dX3_init_10 (fun st5 H locs fk6 hs7 hW hS => ?_)
  have fk8 : st5 (2, 0) = .inr (7, [.ref (ad (3, 0)), .ref (ad (4, 0)), .int p1, .ref q1, .int p2]) := (hs7 (2, 0) (rne (by omega))).trans e2
  have fk9 : st5 (4, 0) = .inl (X.2.1 2, 6, .inl fv) := (hs7 (4, 0) (rne (by omega))).trans e4
  have sf10 : ∀ x : ro, x ≠ (40, i) → st5 x = st x := fun x a0 => hs7 x a0
  refine lv_aload_n hx hb dX3_init_13 rfl (lv_at hl 0 rfl) ?_
  refine lv_aload_n hx hb dX3_init_14 rfl (lv_at hl 1 rfl) ?_
  refine lv_iconst (v := 1) hx hb dX3_init_15 (by decide) ?_
  refine g_callVi (r := (2, 0)) (T := TX4) (N := 5) (k2 := 1) (As := [.int 1]) (rest := [.ref (ad (40, i))]) C (c_X4_valueOfF l X L ad st5 p1 p2 q1 fv 1 m2 m4 fk8 fk9 (by decide)) tw_4_163 tw_2_172 tw_2_173 tw_1_2 tw_2_174 (by decide +kernel) ⟨by rw [hR1]; exact Nat.le_of_ble_eq_true rfl, by rw [hR2]; exact Nat.le_of_ble_eq_true rfl⟩ hW hS m2 fk8 rfl rfl hl.1 rfl (Nat.le_of_ble_eq_true rfl) dX3_init_16 ⟨Nat.zero_le _, Nat.zero_le _⟩ (fun x11 L9 ad12 st13 H locs hp hW hS => ?_)
  obtain ⟨z0, h14⟩ := hp
  cases z0
  subst h14
  refine g_putxF (r := (40, i)) (Cn := RX3) (T := TX3) (N := 8) (ci := 6) (ty0 := tyX3) (fs2 := [.int (fv 0), .int (fv 1), .int 0, .int 0, .int 0, .int 0, .null, .int 0]) C tinX3 tyX3_ok nmX3 hW hS m40 fk6 rfl 1 (by decide) tw_4_175 rfl rfl rfl rfl (Nat.le_of_ble_eq_true rfl) rfl dX3_init_19 (fun st15 H locs fk16 hs17 hW hS => ?_)
  have fk18 : st15 (2, 0) = .inr (7, [.ref (ad (3, 0)), .ref (ad (4, 0)), .int p1, .ref q1, .int p2]) := (hs17 (2, 0) (rne (by omega))).trans fk8
  have fk19 : st15 (4, 0) = .inl (X.2.1 2, 6, .inl fv) := (hs17 (4, 0) (rne (by omega))).trans fk9
  have sf20 : ∀ x : ro, x ≠ (40, i) → st15 x = st x := fun x a0 => (hs17 x a0).trans (sf10 x a0)
  refine lv_aload_n hx hb dX3_init_22 rfl (lv_at hl 0 rfl) ?_
  refine lv_aload_n hx hb dX3_init_23 rfl (lv_at hl 1 rfl) ?_
  refine lv_iconst (v := 2) hx hb dX3_init_24 (by decide) ?_
  refine g_callVi (r := (2, 0)) (T := TX4) (N := 5) (k2 := 1) (As := [.int 2]) (rest := [.ref (ad (40, i))]) C (c_X4_valueOfF l X L ad st15 p1 p2 q1 fv 2 m2 m4 fk18 fk19 (by decide)) tw_4_163 tw_2_172 tw_2_173 tw_1_2 tw_2_174 (by decide +kernel) ⟨by rw [hR1]; exact Nat.le_of_ble_eq_true rfl, by rw [hR2]; exact Nat.le_of_ble_eq_true rfl⟩ hW hS m2 fk18 rfl rfl hl.1 rfl (Nat.le_of_ble_eq_true rfl) dX3_init_25 ⟨Nat.zero_le _, Nat.zero_le _⟩ (fun x21 L9 ad22 st23 H locs hp hW hS => ?_)
  obtain ⟨z0, h24⟩ := hp
  cases z0
  subst h24
  refine g_putxF (r := (40, i)) (Cn := RX3) (T := TX3) (N := 8) (ci := 6) (ty0 := tyX3) (fs2 := [.int (fv 0), .int (fv 1), .int (fv 2), .int 0, .int 0, .int 0, .null, .int 0]) C tinX3 tyX3_ok nmX3 hW hS m40 fk16 rfl 2 (by decide) tw_4_177 rfl rfl rfl rfl (Nat.le_of_ble_eq_true rfl) rfl dX3_init_28 (fun st25 H locs fk26 hs27 hW hS => ?_)
  have fk28 : st25 (2, 0) = .inr (7, [.ref (ad (3, 0)), .ref (ad (4, 0)), .int p1, .ref q1, .int p2]) := (hs27 (2, 0) (rne (by omega))).trans fk18
  have fk29 : st25 (4, 0) = .inl (X.2.1 2, 6, .inl fv) := (hs27 (4, 0) (rne (by omega))).trans fk19
  have sf30 : ∀ x : ro, x ≠ (40, i) → st25 x = st x := fun x a0 => (hs27 x a0).trans (sf20 x a0)
  refine lv_aload_n hx hb dX3_init_31 rfl (lv_at hl 0 rfl) ?_
  refine lv_aload_n hx hb dX3_init_32 rfl (lv_at hl 1 rfl) ?_
  refine lv_iconst (v := 3) hx hb dX3_init_33 (by decide) ?_
  refine g_callVi (r := (2, 0)) (T := TX4) (N := 5) (k2 := 1) (As := [.int 3]) (rest := [.ref (ad (40, i))]) C (c_X4_valueOfF l X L ad st25 p1 p2 q1 fv 3 m2 m4 fk28 fk29 (by decide)) tw_4_163 tw_2_172 tw_2_173 tw_1_2 tw_2_174 (by decide +kernel) ⟨by rw [hR1]; exact Nat.le_of_ble_eq_true rfl, by rw [hR2]; exact Nat.le_of_ble_eq_true rfl⟩ hW hS m2 fk28 rfl rfl hl.1 rfl (Nat.le_of_ble_eq_true rfl) dX3_init_34 ⟨Nat.zero_le _, Nat.zero_le _⟩ (fun x31 L9 ad32 st33 H locs hp hW hS => ?_)
  obtain ⟨z0, h34⟩ := hp
  cases z0
  subst h34
  refine g_putxF (r := (40, i)) (Cn := RX3) (T := TX3) (N := 8) (ci := 6) (ty0 := tyX3) (fs2 := [.int (fv 0), .int (fv 1), .int (fv 2), .int (fv 3), .int 0, .int 0, .null, .int 0]) C tinX3 tyX3_ok nmX3 hW hS m40 fk26 rfl 3 (by decide) tw_4_178 rfl rfl rfl rfl (Nat.le_of_ble_eq_true rfl) rfl dX3_init_37 (fun st35 H locs fk36 hs37 hW hS => ?_)
  have fk38 : st35 (2, 0) = .inr (7, [.ref (ad (3, 0)), .ref (ad (4, 0)), .int p1, .ref q1, .int p2]) := (hs37 (2, 0) (rne (by omega))).trans fk28
  have fk39 : st35 (4, 0) = .inl (X.2.1 2, 6, .inl fv) := (hs37 (4, 0) (rne (by omega))).trans fk29
  have sf40 : ∀ x : ro, x ≠ (40, i) → st35 x = st x := fun x a0 => (hs37 x a0).trans (sf30 x a0)
  refine lv_aload_n hx hb dX3_init_40 rfl (lv_at hl 0 rfl) ?_
  refine lv_aload_n hx hb dX3_init_41 rfl (lv_at hl 1 rfl) ?_
  refine lv_iconst (v := 4) hx hb dX3_init_42 (by decide) ?_
  refine g_callVi (r := (2, 0)) (T := TX4) (N := 5) (k2 := 1) (As := [.int 4]) (rest := [.ref (ad (40, i))]) C (c_X4_valueOfF l X L ad st35 p1 p2 q1 fv 4 m2 m4 fk38 fk39 (by decide)) tw_4_163 tw_2_172 tw_2_173 tw_1_2 tw_2_174 (by decide +kernel) ⟨by rw [hR1]; exact Nat.le_of_ble_eq_true rfl, by rw [hR2]; exact Nat.le_of_ble_eq_true rfl⟩ hW hS m2 fk38 rfl rfl hl.1 rfl (Nat.le_of_ble_eq_true rfl) dX3_init_43 ⟨Nat.zero_le _, Nat.zero_le _⟩ (fun x41 L9 ad42 st43 H locs hp hW hS => ?_)
  obtain ⟨z0, h44⟩ := hp
  cases z0
  subst h44
  refine g_putxF (r := (40, i)) (Cn := RX3) (T := TX3) (N := 8) (ci := 6) (ty0 := tyX3) (fs2 := [.int (fv 0), .int (fv 1), .int (fv 2), .int (fv 3), .int (fv 4), .int 0, .null, .int 0]) C tinX3 tyX3_ok nmX3 hW hS m40 fk36 rfl 4 (by decide) tw_4_179 rfl rfl rfl rfl (Nat.le_of_ble_eq_true rfl) rfl dX3_init_46 (fun st45 H locs fk46 hs47 hW hS => ?_)
  have fk48 : st45 (2, 0) = .inr (7, [.ref (ad (3, 0)), .ref (ad (4, 0)), .int p1, .ref q1, .int p2]) := (hs47 (2, 0) (rne (by omega))).trans fk38
  have fk49 : st45 (4, 0) = .inl (X.2.1 2, 6, .inl fv) := (hs47 (4, 0) (rne (by omega))).trans fk39
  have sf50 : ∀ x : ro, x ≠ (40, i) → st45 x = st x := fun x a0 => (hs47 x a0).trans (sf40 x a0)
  refine lv_aload_n hx hb dX3_init_49 rfl (lv_at hl 0 rfl) ?_
  refine lv_aload_n hx hb dX3_init_50 rfl (lv_at hl 1 rfl) ?_
  refine lv_iconst (v := 5) hx hb dX3_init_51 (by decide) ?_
  refine g_callVi (r := (2, 0)) (T := TX4) (N := 5) (k2 := 1) (As := [.int 5]) (rest := [.ref (ad (40, i))]) C (c_X4_valueOfF l X L ad st45 p1 p2 q1 fv 5 m2 m4 fk48 fk49 (by decide)) tw_4_163 tw_2_172 tw_2_173 tw_1_2 tw_2_174 (by decide +kernel) ⟨by rw [hR1]; exact Nat.le_of_ble_eq_true rfl, by rw [hR2]; exact Nat.le_of_ble_eq_true rfl⟩ hW hS m2 fk48 rfl rfl hl.1 rfl (Nat.le_of_ble_eq_true rfl) dX3_init_52 ⟨Nat.zero_le _, Nat.zero_le _⟩ (fun x51 L9 ad52 st53 H locs hp hW hS => ?_)
  obtain ⟨z0, h54⟩ := hp
  cases z0
  subst h54
  refine lv_iconst (v := 1) hx hb dX3_init_55 (by decide) ?_
  refine lv_icmp_ne (tgt := 63) hx hb dX3_init_56 (by decide) (fun c55 => ?_) (fun c55 => ?_)
  · refine lv_iconst (v := 0) hx hb dX3_init_63 (by decide) ?_
    refine g_putxF (r := (40, i)) (Cn := RX3) (T := TX3) (N := 8) (ci := 6) (ty0 := tyX3) (fs2 := [.int (fv 0), .int (fv 1), .int (fv 2), .int (fv 3), .int (fv 4), .int 0, .null, .int 0]) C tinX3 tyX3_ok nmX3 hW hS m40 fk46 rfl 5 (by decide) tw_4_181 rfl rfl (by decide) (by decide) (Nat.le_of_ble_eq_true rfl) rfl dX3_init_64 (fun st56 H locs fk57 hs58 hW hS => ?_)
    have fk59 : st56 (2, 0) = .inr (7, [.ref (ad (3, 0)), .ref (ad (4, 0)), .int p1, .ref q1, .int p2]) := (hs58 (2, 0) (rne (by omega))).trans fk48
    have fk60 : st56 (4, 0) = .inl (X.2.1 2, 6, .inl fv) := (hs58 (4, 0) (rne (by omega))).trans fk49
    have sf61 : ∀ x : ro, x ≠ (40, i) → st56 x = st x := fun x a0 => (hs58 x a0).trans (sf50 x a0)
    refine lv_aload_n hx hb dX3_init_67 rfl (lv_at hl 0 rfl) ?_
    refine lv_aload_n hx hb dX3_init_68 rfl (lv_at hl 2 rfl) ?_
    refine g_putxF (r := (40, i)) (Cn := RX3) (T := TX3) (N := 8) (ci := 6) (ty0 := tyX3) (fs2 := [.int (fv 0), .int (fv 1), .int (fv 2), .int (fv 3), .int (fv 4), .int 0, .ref (ad (31, t)), .int 0]) C tinX3 tyX3_ok nmX3 hW hS m40 fk57 rfl 6 (by decide) tw_4_182 rfl rfl rfl rfl (Nat.le_of_ble_eq_true rfl) rfl dX3_init_69 (fun st62 H locs fk63 hs64 hW hS => ?_)
    have fk65 : st62 (2, 0) = .inr (7, [.ref (ad (3, 0)), .ref (ad (4, 0)), .int p1, .ref q1, .int p2]) := (hs64 (2, 0) (rne (by omega))).trans fk59
    have fk66 : st62 (4, 0) = .inl (X.2.1 2, 6, .inl fv) := (hs64 (4, 0) (rne (by omega))).trans fk60
    have sf67 : ∀ x : ro, x ≠ (40, i) → st62 x = st x := fun x a0 => (hs64 x a0).trans (sf61 x a0)
    refine lv_aload_n hx hb dX3_init_72 rfl (lv_at hl 0 rfl) ?_
    refine lv_iload_n hx hb dX3_init_73 rfl (lv_at hl 3 rfl) ?_
    refine g_putxF (r := (40, i)) (Cn := RX3) (T := TX3) (N := 8) (ci := 6) (ty0 := tyX3) (fs2 := [.int (fv 0), .int (fv 1), .int (fv 2), .int (fv 3), .int (fv 4), .int 0, .ref (ad (31, t)), .int z9]) C tinX3 tyX3_ok nmX3 hW hS m40 fk63 rfl 7 (by decide) tw_4_184 rfl rfl rfl rfl (Nat.le_of_ble_eq_true rfl) rfl dX3_init_74 (fun st68 H locs fk69 hs70 hW hS => ?_)
    have fk71 : st68 (2, 0) = .inr (7, [.ref (ad (3, 0)), .ref (ad (4, 0)), .int p1, .ref q1, .int p2]) := (hs70 (2, 0) (rne (by omega))).trans fk65
    have fk72 : st68 (4, 0) = .inl (X.2.1 2, 6, .inl fv) := (hs70 (4, 0) (rne (by omega))).trans fk66
    have sf73 : ∀ x : ro, x ≠ (40, i) → st68 x = st x := fun x a0 => (hs70 x a0).trans (sf67 x a0)
    exact g_vret2 C hQ hW hS ⟨_, rfl, (fun x b0 => sf73 x b0), (by rw [fk69, if_neg c55])⟩ (Nat.zero_le _) (Nat.zero_le _) dX3_init_77
  · refine lv_iconst (v := 1) hx hb dX3_init_59 (by decide) ?_
    refine lv_goto (tgt := 64) hx hb dX3_init_60 (by decide) ?_
    refine g_putxF (r := (40, i)) (Cn := RX3) (T := TX3) (N := 8) (ci := 6) (ty0 := tyX3) (fs2 := [.int (fv 0), .int (fv 1), .int (fv 2), .int (fv 3), .int (fv 4), .int 1, .null, .int 0]) C tinX3 tyX3_ok nmX3 hW hS m40 fk46 rfl 5 (by decide) tw_4_181 rfl rfl (by decide) (by decide) (Nat.le_of_ble_eq_true rfl) rfl dX3_init_64 (fun st74 H locs fk75 hs76 hW hS => ?_)
    have fk77 : st74 (2, 0) = .inr (7, [.ref (ad (3, 0)), .ref (ad (4, 0)), .int p1, .ref q1, .int p2]) := (hs76 (2, 0) (rne (by omega))).trans fk48
    have fk78 : st74 (4, 0) = .inl (X.2.1 2, 6, .inl fv) := (hs76 (4, 0) (rne (by omega))).trans fk49
    have sf79 : ∀ x : ro, x ≠ (40, i) → st74 x = st x := fun x a0 => (hs76 x a0).trans (sf50 x a0)
    refine lv_aload_n hx hb dX3_init_67 rfl (lv_at hl 0 rfl) ?_
    refine lv_aload_n hx hb dX3_init_68 rfl (lv_at hl 2 rfl) ?_
    refine g_putxF (r := (40, i)) (Cn := RX3) (T := TX3) (N := 8) (ci := 6) (ty0 := tyX3) (fs2 := [.int (fv 0), .int (fv 1), .int (fv 2), .int (fv 3), .int (fv 4), .int 1, .ref (ad (31, t)), .int 0]) C tinX3 tyX3_ok nmX3 hW hS m40 fk75 rfl 6 (by decide) tw_4_182 rfl rfl rfl rfl (Nat.le_of_ble_eq_true rfl) rfl dX3_init_69 (fun st80 H locs fk81 hs82 hW hS => ?_)
    have fk83 : st80 (2, 0) = .inr (7, [.ref (ad (3, 0)), .ref (ad (4, 0)), .int p1, .ref q1, .int p2]) := (hs82 (2, 0) (rne (by omega))).trans fk77
    have fk84 : st80 (4, 0) = .inl (X.2.1 2, 6, .inl fv) := (hs82 (4, 0) (rne (by omega))).trans fk78
    have sf85 : ∀ x : ro, x ≠ (40, i) → st80 x = st x := fun x a0 => (hs82 x a0).trans (sf79 x a0)
    refine lv_aload_n hx hb dX3_init_72 rfl (lv_at hl 0 rfl) ?_
    refine lv_iload_n hx hb dX3_init_73 rfl (lv_at hl 3 rfl) ?_
    refine g_putxF (r := (40, i)) (Cn := RX3) (T := TX3) (N := 8) (ci := 6) (ty0 := tyX3) (fs2 := [.int (fv 0), .int (fv 1), .int (fv 2), .int (fv 3), .int (fv 4), .int 1, .ref (ad (31, t)), .int z9]) C tinX3 tyX3_ok nmX3 hW hS m40 fk81 rfl 7 (by decide) tw_4_184 rfl rfl rfl rfl (Nat.le_of_ble_eq_true rfl) rfl dX3_init_74 (fun st86 H locs fk87 hs88 hW hS => ?_)
    have fk89 : st86 (2, 0) = .inr (7, [.ref (ad (3, 0)), .ref (ad (4, 0)), .int p1, .ref q1, .int p2]) := (hs88 (2, 0) (rne (by omega))).trans fk83
    have fk90 : st86 (4, 0) = .inl (X.2.1 2, 6, .inl fv) := (hs88 (4, 0) (rne (by omega))).trans fk84
    have sf91 : ∀ x : ro, x ≠ (40, i) → st86 x = st x := fun x a0 => (hs88 x a0).trans (sf85 x a0)
    exact g_vret2 C hQ hW hS ⟨_, rfl, (fun x b0 => sf91 x b0), (by rw [fk87, if_pos c55])⟩ (Nat.zero_le _) (Nat.zero_le _) dX3_init_77

set_option maxHeartbeats 4000000 in
set_option maxRecDepth 100000 in
theorem c_X5_init (l : Launch) (X : GX) (L : List ro) (ad : ro → Nat) (st : ro → va_E) (i : Nat) (m20 : (20, i) ∈ L) (n21 : (21, i) ∉ L) (e20 : st (20, i) = .inr (8, [.int 0, .int 0, .int 0, .int 0, .null, .int 0, .int 0]))  : gMv l yX5_init cX5_init 1 none 1 12 1 50 X [.ref (ad (20, i))] L ad st (fun u => ∃ ad' st', u = (L ++ [(21, i)], ad', st') ∧ (∀ x : ro, x ≠ (21, i) → ad' x = ad x) ∧ (∀ x : ro, x ≠ (20, i) → x ≠ (21, i) → st' x = st x) ∧ st' (20, i) = .inr (8, [.int 10, .int 60, .int 0, .int 0, .ref (ad' (21, i)), .int 0, .int 0]) ∧ st' (21, i) = .inl (X.2.1 2, 50, .inl (fun _ => 0))) := by
  intro sz
  refine gM_of2 (Qc := fun A => va_Qv _ (gB X A) A) (by decide) (Nat.le_of_ble_eq_true rfl) ?_ sz
  intro p e s m args below meth c A R Q hR hQ C hW hS ls hl
  obtain ⟨hR1, hR2, hR3, hR4⟩ := hR
  have hx := C.1.1
  have hb := C.1.2.1
  have hml := C.1.2.2.1
  have hl : lv_has ls 1 [(0, .ref (ad (20, i)))] := hl
  refine lv_aload_n hx hb dX5_init_0 rfl (lv_at hl 0 rfl) ?_
  refine W.objInit hx hb C.1.2.2.2.1 (C.1.2.2.2.2 _ tw_1_128) (C.1.2.2.2.2 _ oi_inst) (C.1.2.2.2.2 _ oi_code) rfl (by rw [hml]; exact hl.1) rfl dX5_init_1 (by rw [hR1]; exact Nat.le_of_ble_eq_true rfl) (by rw [hR2]; exact Nat.le_of_ble_eq_true rfl) ?_
  refine W.eq (g2 := F0 m 4 ls []) rfl ?_
  refine lv_aload_n hx hb dX5_init_4 rfl (lv_at hl 0 rfl) ?_
  refine lv_bipush (v := 10) hx hb dX5_init_5 (by decide) ?_
  refine g_putx (r := (20, i)) (Cn := RX5) (T := TX5) (N := 7) (ci := 8) (ty0 := tyX5) (fs2 := [.int 10, .int 0, .int 0, .int 0, .null, .int 0, .int 0]) C tinX5 tyX5_ok nmX5 hW hS m20 e20 rfl 0 (by decide) tw_1_129 (fun _ h9 => h9) rfl rfl rfl (Nat.le_of_ble_eq_true rfl) rfl dX5_init_7 (fun st1 H locs fk2 hs3 hW hS => ?_)
  have sf4 : ∀ x : ro, x ≠ (20, i) → st1 x = st x := fun x a0 => hs3 x a0
  refine lv_aload_n hx hb dX5_init_10 rfl (lv_at hl 0 rfl) ?_
  refine lv_bipush (v := 60) hx hb dX5_init_11 (by decide) ?_
  refine g_putx (r := (20, i)) (Cn := RX5) (T := TX5) (N := 7) (ci := 8) (ty0 := tyX5) (fs2 := [.int 10, .int 60, .int 0, .int 0, .null, .int 0, .int 0]) C tinX5 tyX5_ok nmX5 hW hS m20 fk2 rfl 1 (by decide) tw_1_131 (fun _ h9 => h9) rfl rfl rfl (Nat.le_of_ble_eq_true rfl) rfl dX5_init_13 (fun st5 H locs fk6 hs7 hW hS => ?_)
  have sf8 : ∀ x : ro, x ≠ (20, i) → st5 x = st x := fun x a0 => (hs7 x a0).trans (sf4 x a0)
  refine lv_aload_n hx hb dX5_init_16 rfl (lv_at hl 0 rfl) ?_
  refine lv_iconst (v := 0) hx hb dX5_init_17 (by decide) ?_
  refine g_putx (r := (20, i)) (Cn := RX5) (T := TX5) (N := 7) (ci := 8) (ty0 := tyX5) (fs2 := [.int 10, .int 60, .int 0, .int 0, .null, .int 0, .int 0]) C tinX5 tyX5_ok nmX5 hW hS m20 fk6 rfl 2 (by decide) tw_1_133 (fun _ h9 => h9) rfl rfl rfl (Nat.le_of_ble_eq_true rfl) rfl dX5_init_18 (fun st9 H locs fk10 hs11 hW hS => ?_)
  have sf12 : ∀ x : ro, x ≠ (20, i) → st9 x = st x := fun x a0 => (hs11 x a0).trans (sf8 x a0)
  refine lv_aload_n hx hb dX5_init_21 rfl (lv_at hl 0 rfl) ?_
  refine lv_iconst (v := 0) hx hb dX5_init_22 (by decide) ?_
  refine g_putx (r := (20, i)) (Cn := RX5) (T := TX5) (N := 7) (ci := 8) (ty0 := tyX5) (fs2 := [.int 10, .int 60, .int 0, .int 0, .null, .int 0, .int 0]) C tinX5 tyX5_ok nmX5 hW hS m20 fk10 rfl 3 (by decide) tw_1_135 (fun _ h9 => h9) rfl rfl rfl (Nat.le_of_ble_eq_true rfl) rfl dX5_init_23 (fun st13 H locs fk14 hs15 hW hS => ?_)
  have sf16 : ∀ x : ro, x ≠ (20, i) → st13 x = st x := fun x a0 => (hs15 x a0).trans (sf12 x a0)
  refine lv_aload_n hx hb dX5_init_26 rfl (lv_at hl 0 rfl) ?_
  refine lv_bipush (v := 50) hx hb dX5_init_27 (by decide) ?_
  refine g_newb (r := (21, i)) (atype := .int) (ty := .int) (t0 := 2) (N' := 50) (a0 := (50, .inl (fun _ => 0))) C hW hS n21 tw_1_65 rfl rfl (fun _ => rfl) (by decide) (by decide) (by decide) (by rw [hR3]; exact Nat.le_of_ble_eq_true rfl) (by rw [hR4]; exact Nat.le_of_ble_eq_true rfl) dX5_init_29 (fun ad17 st18 H ha19 fk20 hs21 hW hS => ?_)
  have hl : lv_has ls 1 [(0, .ref (ad17 (20, i)))] := by rw [ha19 (20, i) (rne (by omega))]; exact hl
  refine W.eq (g2 := F0 m 31 ls [.ref (ad17 (21, i)), .ref (ad17 (20, i))]) (by rw [ha19 (20, i) (rne (by omega))] <;> rfl) ?_
  have fk22 : st18 (20, i) = .inr (8, [.int 10, .int 60, .int 0, .int 0, .null, .int 0, .int 0]) := (hs21 (20, i) (rne (by omega))).trans fk14
  have af23 : ∀ x : ro, x ≠ (21, i) → ad17 x = ad x := fun x a0 => ha19 x a0
  have sf24 : ∀ x : ro, x ≠ (20, i) → x ≠ (21, i) → st18 x = st x := fun x a0 a1 => (hs21 x a1).trans (sf16 x a0)
  refine g_putxF (r := (20, i)) (Cn := RX5) (T := TX5) (N := 7) (ci := 8) (ty0 := tyX5) (fs2 := [.int 10, .int 60, .int 0, .int 0, .ref (ad17 (21, i)), .int 0, .int 0]) C tinX5 tyX5_ok nmX5 hW hS (List.mem_append_left _ m20) fk22 rfl 4 (by decide) tw_1_137 rfl rfl rfl rfl (Nat.le_of_ble_eq_true rfl) rfl dX5_init_31 (fun st25 H locs fk26 hs27 hW hS => ?_)
  have fk28 : st25 (21, i) = .inl (X.2.1 2, 50, .inl (fun _ => 0)) := (hs27 (21, i) (rne (by omega))).trans fk20
  have sf29 : ∀ x : ro, x ≠ (20, i) → x ≠ (21, i) → st25 x = st x := fun x a0 a1 => (hs27 x a0).trans (sf24 x a0 a1)
  refine lv_aload_n hx hb dX5_init_34 rfl (lv_at hl 0 rfl) ?_
  refine lv_iconst (v := 0) hx hb dX5_init_35 (by decide) ?_
  refine g_putx (r := (20, i)) (Cn := RX5) (T := TX5) (N := 7) (ci := 8) (ty0 := tyX5) (fs2 := [.int 10, .int 60, .int 0, .int 0, .ref (ad17 (21, i)), .int 0, .int 0]) C tinX5 tyX5_ok nmX5 hW hS (List.mem_append_left _ m20) fk26 rfl 5 (by decide) tw_1_138 (fun _ h9 => h9) rfl rfl rfl (Nat.le_of_ble_eq_true rfl) rfl dX5_init_36 (fun st30 H locs fk31 hs32 hW hS => ?_)
  have fk33 : st30 (21, i) = .inl (X.2.1 2, 50, .inl (fun _ => 0)) := (hs32 (21, i) (rne (by omega))).trans fk28
  have sf34 : ∀ x : ro, x ≠ (20, i) → x ≠ (21, i) → st30 x = st x := fun x a0 a1 => (hs32 x a0).trans (sf29 x a0 a1)
  refine lv_aload_n hx hb dX5_init_39 rfl (lv_at hl 0 rfl) ?_
  refine lv_iconst (v := 0) hx hb dX5_init_40 (by decide) ?_
  refine g_putx (r := (20, i)) (Cn := RX5) (T := TX5) (N := 7) (ci := 8) (ty0 := tyX5) (fs2 := [.int 10, .int 60, .int 0, .int 0, .ref (ad17 (21, i)), .int 0, .int 0]) C tinX5 tyX5_ok nmX5 hW hS (List.mem_append_left _ m20) fk31 rfl 6 (by decide) tw_1_139 (fun _ h9 => h9) rfl rfl rfl (Nat.le_of_ble_eq_true rfl) rfl dX5_init_41 (fun st35 H locs fk36 hs37 hW hS => ?_)
  have fk38 : st35 (21, i) = .inl (X.2.1 2, 50, .inl (fun _ => 0)) := (hs37 (21, i) (rne (by omega))).trans fk33
  have sf39 : ∀ x : ro, x ≠ (20, i) → x ≠ (21, i) → st35 x = st x := fun x a0 a1 => (hs37 x a0).trans (sf34 x a0 a1)
  exact g_vret2 C hQ hW hS ⟨_, _, rfl, (fun x b0 => af23 x b0), (fun x b0 b1 => sf39 x b0 b1), fk36, fk38⟩ (Nat.le_of_ble_eq_true rfl) (Nat.le_of_ble_eq_true rfl) dX5_init_44

set_option maxHeartbeats 4000000 in
set_option maxRecDepth 100000 in
theorem c_X1_init (l : Launch) (X : GX) (L : List ro) (ad : ro → Nat) (st : ro → va_E) (i : Nat) (m30 : (30, i) ∈ L) (n31 : (31, i) ∉ L) (e30 : st (30, i) = .inr (4, [.int 0, .int 0, .int 0, .null, .int 0, .int 0, .int 0]))  : gMv l yX1_init cX1_init 1 none 2 35 1 3 X [.ref (ad (30, i))] L ad st (fun u => ∃ ad' st', u = (L ++ [(31, i)], ad', st') ∧ (∀ x : ro, x ≠ (31, i) → ad' x = ad x) ∧ (∀ x : ro, x ≠ (30, i) → x ≠ (31, i) → st' x = st x) ∧ st' (30, i) = .inr (4, [.int 1, .int 0, .int 0, .ref (ad' (31, i)), .int 0, .int 0, .int 0]) ∧ st' (31, i) = .inr (9, [.int 500, .int 100, .int 20])) := by
  intro sz
  refine gM_of2 (Qc := fun A => va_Qv _ (gB X A) A) (by decide) (Nat.le_of_ble_eq_true rfl) ?_ sz
  intro p e s m args below meth c A R Q hR hQ C hW hS ls hl
  obtain ⟨hR1, hR2, hR3, hR4⟩ := hR
  have hx := C.1.1
  have hb := C.1.2.1
  have hml := C.1.2.2.1
  have hl : lv_has ls 1 [(0, .ref (ad (30, i)))] := hl
  refine lv_aload_n hx hb dX1_init_0 rfl (lv_at hl 0 rfl) ?_
  refine W.objInit hx hb C.1.2.2.2.1 (C.1.2.2.2.2 _ tw_1_159) (C.1.2.2.2.2 _ oi_inst) (C.1.2.2.2.2 _ oi_code) rfl (by rw [hml]; exact hl.1) rfl dX1_init_1 (by rw [hR1]; exact Nat.le_of_ble_eq_true rfl) (by rw [hR2]; exact Nat.le_of_ble_eq_true rfl) ?_
  refine W.eq (g2 := F0 m 4 ls []) rfl ?_
  refine lv_aload_n hx hb dX1_init_4 rfl (lv_at hl 0 rfl) ?_
  refine lv_iconst (v := 1) hx hb dX1_init_5 (by decide) ?_
  refine g_putx (r := (30, i)) (Cn := RX1) (T := TX1) (N := 7) (ci := 4) (ty0 := tyX1) (fs2 := [.int 1, .int 0, .int 0, .null, .int 0, .int 0, .int 0]) C tinX1 tyX1_ok nmX1 hW hS m30 e30 rfl 0 (by decide) tw_1_180 (fun _ h9 => h9) rfl (by decide) (by decide) (Nat.le_of_ble_eq_true rfl) rfl dX1_init_6 (fun st1 H locs fk2 hs3 hW hS => ?_)
  have sf4 : ∀ x : ro, x ≠ (30, i) → st1 x = st x := fun x a0 => hs3 x a0
  refine lv_aload_n hx hb dX1_init_9 rfl (lv_at hl 0 rfl) ?_
  refine lv_iconst (v := 0) hx hb dX1_init_10 (by decide) ?_
  refine g_putx (r := (30, i)) (Cn := RX1) (T := TX1) (N := 7) (ci := 4) (ty0 := tyX1) (fs2 := [.int 1, .int 0, .int 0, .null, .int 0, .int 0, .int 0]) C tinX1 tyX1_ok nmX1 hW hS m30 fk2 rfl 1 (by decide) tw_1_182 (fun _ h9 => h9) rfl rfl rfl (Nat.le_of_ble_eq_true rfl) rfl dX1_init_11 (fun st5 H locs fk6 hs7 hW hS => ?_)
  have sf8 : ∀ x : ro, x ≠ (30, i) → st5 x = st x := fun x a0 => (hs7 x a0).trans (sf4 x a0)
  refine lv_aload_n hx hb dX1_init_14 rfl (lv_at hl 0 rfl) ?_
  refine lv_iconst (v := 0) hx hb dX1_init_15 (by decide) ?_
  refine g_putx (r := (30, i)) (Cn := RX1) (T := TX1) (N := 7) (ci := 4) (ty0 := tyX1) (fs2 := [.int 1, .int 0, .int 0, .null, .int 0, .int 0, .int 0]) C tinX1 tyX1_ok nmX1 hW hS m30 fk6 rfl 2 (by decide) tw_1_184 (fun _ h9 => h9) rfl rfl rfl (Nat.le_of_ble_eq_true rfl) rfl dX1_init_16 (fun st9 H locs fk10 hs11 hW hS => ?_)
  have sf12 : ∀ x : ro, x ≠ (30, i) → st9 x = st x := fun x a0 => (hs11 x a0).trans (sf8 x a0)
  refine lv_aload_n hx hb dX1_init_19 rfl (lv_at hl 0 rfl) ?_
  refine g_newo (r := (31, i)) (Cn := RX6) (T := TX6) (N := 3) (ci := 9) (ty0 := tyX6) (fs := [.int 0, .int 0, .int 0]) C tinX6 tyX6_ok hW hS n31 rfl tw_1_160 tw_1_161 tw_1_9 (by intro j hj; rcases (show j = 0 ∨ j = 1 ∨ j = 2 by omega) with rfl | rfl | rfl <;> rfl) (by rw [hR3]; exact Nat.le_of_ble_eq_true rfl) (by rw [hR4]; exact Nat.le_of_ble_eq_true rfl) dX1_init_20 (fun ad13 st14 H ha15 fk16 hs17 hW hS => ?_)
  have hl : lv_has ls 1 [(0, .ref (ad13 (30, i)))] := by rw [ha15 (30, i) (rne (by omega))]; exact hl
  refine W.eq (g2 := F0 m 23 ls [.ref (ad13 (31, i)), .ref (ad13 (30, i))]) (by rw [ha15 (30, i) (rne (by omega))] <;> rfl) ?_
  have fk18 : st14 (30, i) = .inr (4, [.int 1, .int 0, .int 0, .null, .int 0, .int 0, .int 0]) := (hs17 (30, i) (rne (by omega))).trans fk10
  have af19 : ∀ x : ro, x ≠ (31, i) → ad13 x = ad x := fun x a0 => ha15 x a0
  have sf20 : ∀ x : ro, x ≠ (30, i) → x ≠ (31, i) → st14 x = st x := fun x a0 a1 => (hs17 x a1).trans (sf12 x a0)
  refine lv_dup hx hb dX1_init_23 rfl ?_
  refine lv_sipush (v := 500) hx hb dX1_init_24 (by decide) ?_
  refine lv_bipush (v := 100) hx hb dX1_init_27 (by decide) ?_
  refine lv_bipush (v := 20) hx hb dX1_init_29 (by decide) ?_
  refine g_callIv (k2 := 3) (As := [.int 500, .int 100, .int 20]) (rest := [.ref (ad13 (31, i)), .ref (ad13 (30, i))]) C (c_X6_init l X (L ++ [(31, i)]) ad13 st14 i 500 100 20 (List.mem_append_right _ (List.mem_singleton.mpr rfl)) fk16) tw_1_162 tw_1_163 tw_1_9 tw_1_164 (by decide +kernel) ⟨by rw [hR1]; exact Nat.le_of_ble_eq_true rfl, by rw [hR2]; exact Nat.le_of_ble_eq_true rfl⟩ hW hS rfl hl.1 rfl (Nat.le_of_ble_eq_true rfl) dX1_init_31 ⟨by rw [hR3]; exact Nat.le_of_ble_eq_true rfl, by rw [hR4]; exact Nat.le_of_ble_eq_true rfl⟩ (fun  L9 ad21 st22 H locs hp hW hS => ?_)
  obtain ⟨stq, z0, hs23, fk24⟩ := hp
  cases z0
  have fk25 : st22 (30, i) = .inr (4, [.int 1, .int 0, .int 0, .null, .int 0, .int 0, .int 0]) := (hs23 (30, i) (rne (by omega))).trans fk18
  have sf26 : ∀ x : ro, x ≠ (30, i) → x ≠ (31, i) → st22 x = st x := fun x a0 a1 => (hs23 x a1).trans (sf20 x a0 a1)
  refine g_putx (r := (30, i)) (Cn := RX1) (T := TX1) (N := 7) (ci := 4) (ty0 := tyX1) (fs2 := [.int 1, .int 0, .int 0, .ref (ad13 (31, i)), .int 0, .int 0, .int 0]) C tinX1 tyX1_ok nmX1 hW hS (List.mem_append_left _ m30) fk25 rfl 3 (by decide) tw_1_186 (fun _ h9 => h9) rfl rfl rfl (Nat.le_of_ble_eq_true rfl) rfl dX1_init_34 (fun st27 H locs fk28 hs29 hW hS => ?_)
  have fk30 : st27 (31, i) = .inr (9, [.int 500, .int 100, .int 20]) := (hs29 (31, i) (rne (by omega))).trans fk24
  have sf31 : ∀ x : ro, x ≠ (30, i) → x ≠ (31, i) → st27 x = st x := fun x a0 a1 => (hs29 x a0).trans (sf26 x a0 a1)
  refine lv_aload_n hx hb dX1_init_37 rfl (lv_at hl 0 rfl) ?_
  refine lv_iconst (v := 0) hx hb dX1_init_38 (by decide) ?_
  refine g_putx (r := (30, i)) (Cn := RX1) (T := TX1) (N := 7) (ci := 4) (ty0 := tyX1) (fs2 := [.int 1, .int 0, .int 0, .ref (ad13 (31, i)), .int 0, .int 0, .int 0]) C tinX1 tyX1_ok nmX1 hW hS (List.mem_append_left _ m30) fk28 rfl 4 (by decide) tw_1_188 (fun _ h9 => h9) rfl rfl rfl (Nat.le_of_ble_eq_true rfl) rfl dX1_init_39 (fun st32 H locs fk33 hs34 hW hS => ?_)
  have fk35 : st32 (31, i) = .inr (9, [.int 500, .int 100, .int 20]) := (hs34 (31, i) (rne (by omega))).trans fk30
  have sf36 : ∀ x : ro, x ≠ (30, i) → x ≠ (31, i) → st32 x = st x := fun x a0 a1 => (hs34 x a0).trans (sf31 x a0 a1)
  refine lv_aload_n hx hb dX1_init_42 rfl (lv_at hl 0 rfl) ?_
  refine lv_iconst (v := 0) hx hb dX1_init_43 (by decide) ?_
  refine g_putx (r := (30, i)) (Cn := RX1) (T := TX1) (N := 7) (ci := 4) (ty0 := tyX1) (fs2 := [.int 1, .int 0, .int 0, .ref (ad13 (31, i)), .int 0, .int 0, .int 0]) C tinX1 tyX1_ok nmX1 hW hS (List.mem_append_left _ m30) fk33 rfl 5 (by decide) tw_1_189 (fun _ h9 => h9) rfl (by decide) (by decide) (Nat.le_of_ble_eq_true rfl) rfl dX1_init_44 (fun st37 H locs fk38 hs39 hW hS => ?_)
  have fk40 : st37 (31, i) = .inr (9, [.int 500, .int 100, .int 20]) := (hs39 (31, i) (rne (by omega))).trans fk35
  have sf41 : ∀ x : ro, x ≠ (30, i) → x ≠ (31, i) → st37 x = st x := fun x a0 a1 => (hs39 x a0).trans (sf36 x a0 a1)
  refine lv_aload_n hx hb dX1_init_47 rfl (lv_at hl 0 rfl) ?_
  refine lv_iconst (v := 0) hx hb dX1_init_48 (by decide) ?_
  refine g_putx (r := (30, i)) (Cn := RX1) (T := TX1) (N := 7) (ci := 4) (ty0 := tyX1) (fs2 := [.int 1, .int 0, .int 0, .ref (ad13 (31, i)), .int 0, .int 0, .int 0]) C tinX1 tyX1_ok nmX1 hW hS (List.mem_append_left _ m30) fk38 rfl 6 (by decide) tw_1_190 (fun _ h9 => h9) rfl rfl rfl (Nat.le_of_ble_eq_true rfl) rfl dX1_init_49 (fun st42 H locs fk43 hs44 hW hS => ?_)
  have fk45 : st42 (31, i) = .inr (9, [.int 500, .int 100, .int 20]) := (hs44 (31, i) (rne (by omega))).trans fk40
  have sf46 : ∀ x : ro, x ≠ (30, i) → x ≠ (31, i) → st42 x = st x := fun x a0 a1 => (hs44 x a0).trans (sf41 x a0 a1)
  exact g_vret2 C hQ hW hS ⟨_, _, rfl, (fun x b0 => af19 x b0), (fun x b0 b1 => sf46 x b0 b1), fk43, fk45⟩ (Nat.le_of_ble_eq_true rfl) (Nat.le_of_ble_eq_true rfl) dX1_init_52

set_option maxHeartbeats 4000000 in
set_option maxRecDepth 100000 in
theorem c_X4_init (l : Launch) (X : GX) (L : List ro) (ad : ro → Nat) (st : ro → va_E)  (m2 : (2, 0) ∈ L) (n3 : (3, 0) ∉ L) (n4 : (4, 0) ∉ L) (e2 : st (2, 0) = .inr (7, [.null, .null, .int 0, .null, .int 0]))  : gMv l yX4_init cX4_init 1 none 1 12 2 66 X [.ref (ad (2, 0))] L ad st (fun u => ∃ ad' st', u = (L ++ [(3, 0)] ++ [(4, 0)], ad', st') ∧ (∀ x : ro, x ≠ (3, 0) → x ≠ (4, 0) → ad' x = ad x) ∧ (∀ x : ro, x ≠ (2, 0) → x ≠ (3, 0) → x ≠ (4, 0) → st' x = st x) ∧ st' (2, 0) = .inr (7, [.ref (ad' (3, 0)), .ref (ad' (4, 0)), .int 0, .ref (X.2.2 0), .int 32]) ∧ st' (3, 0) = .inl (X.2.1 1, 60, .inl (fun _ => 0)) ∧ st' (4, 0) = .inl (X.2.1 2, 6, .inl (fun _ => 0))) := by
  intro sz
  refine gM_of2 (Qc := fun A => va_Qv _ (gB X A) A) (by decide) (Nat.le_of_ble_eq_true rfl) ?_ sz
  intro p e s m args below meth c A R Q hR hQ C hW hS ls hl
  obtain ⟨hR1, hR2, hR3, hR4⟩ := hR
  have hx := C.1.1
  have hb := C.1.2.1
  have hml := C.1.2.2.1
  have hl : lv_has ls 1 [(0, .ref (ad (2, 0)))] := hl
  refine lv_aload_n hx hb dX4_init_0 rfl (lv_at hl 0 rfl) ?_
  refine W.objInit hx hb C.1.2.2.2.1 (C.1.2.2.2.2 _ tw_1_46) (C.1.2.2.2.2 _ oi_inst) (C.1.2.2.2.2 _ oi_code) rfl (by rw [hml]; exact hl.1) rfl dX4_init_1 (by rw [hR1]; exact Nat.le_of_ble_eq_true rfl) (by rw [hR2]; exact Nat.le_of_ble_eq_true rfl) ?_
  refine W.eq (g2 := F0 m 4 ls []) rfl ?_
  refine lv_aload_n hx hb dX4_init_4 rfl (lv_at hl 0 rfl) ?_
  refine lv_bipush (v := 60) hx hb dX4_init_5 (by decide) ?_
  refine g_newb (r := (3, 0)) (atype := .char) (ty := .char) (t0 := 1) (N' := 60) (a0 := (60, .inl (fun _ => 0))) C hW hS n3 tw_1_64 rfl rfl (fun _ => rfl) (by decide) (by decide) (by decide) (by rw [hR3]; exact Nat.le_of_ble_eq_true rfl) (by rw [hR4]; exact Nat.le_of_ble_eq_true rfl) dX4_init_7 (fun ad1 st2 H ha3 fk4 hs5 hW hS => ?_)
  have hl : lv_has ls 1 [(0, .ref (ad1 (2, 0)))] := by rw [ha3 (2, 0) (by decide)]; exact hl
  refine W.eq (g2 := F0 m 9 ls [.ref (ad1 (3, 0)), .ref (ad1 (2, 0))]) (by rw [ha3 (2, 0) (by decide)] <;> rfl) ?_
  have fk6 : st2 (2, 0) = .inr (7, [.null, .null, .int 0, .null, .int 0]) := (hs5 (2, 0) (by decide)).trans e2
  have af7 : ∀ x : ro, x ≠ (3, 0) → ad1 x = ad x := fun x a0 => ha3 x a0
  have sf8 : ∀ x : ro, x ≠ (3, 0) → st2 x = st x := fun x a0 => hs5 x a0
  refine g_putxF (r := (2, 0)) (Cn := RX4) (T := TX4) (N := 5) (ci := 7) (ty0 := tyX4) (fs2 := [.ref (ad1 (3, 0)), .null, .int 0, .null, .int 0]) C tinX4 tyX4_ok nmX4 hW hS (List.mem_append_left _ m2) fk6 rfl 0 (by decide) tw_1_48 rfl rfl rfl rfl (Nat.le_of_ble_eq_true rfl) rfl dX4_init_9 (fun st9 H locs fk10 hs11 hW hS => ?_)
  have fk12 : st9 (3, 0) = .inl (X.2.1 1, 60, .inl (fun _ => 0)) := (hs11 (3, 0) (by decide)).trans fk4
  have sf13 : ∀ x : ro, x ≠ (3, 0) → x ≠ (2, 0) → st9 x = st x := fun x a0 a1 => (hs11 x a1).trans (sf8 x a0)
  refine lv_aload_n hx hb dX4_init_12 rfl (lv_at hl 0 rfl) ?_
  refine lv_bipush (v := 6) hx hb dX4_init_13 (by decide) ?_
  refine g_newb (r := (4, 0)) (atype := .int) (ty := .int) (t0 := 2) (N' := 6) (a0 := (6, .inl (fun _ => 0))) C hW hS (nmem_app n4 (by decide)) tw_1_65 rfl rfl (fun _ => rfl) (by decide) (by decide) (by decide) (by rw [hR3]; exact Nat.le_of_ble_eq_true rfl) (by rw [hR4]; exact Nat.le_of_ble_eq_true rfl) dX4_init_15 (fun ad14 st15 H ha16 fk17 hs18 hW hS => ?_)
  have hl : lv_has ls 1 [(0, .ref (ad14 (2, 0)))] := by rw [ha16 (2, 0) (by decide)]; exact hl
  refine W.eq (g2 := F0 m 17 ls [.ref (ad14 (4, 0)), .ref (ad14 (2, 0))]) (by rw [ha16 (2, 0) (by decide)] <;> rfl) ?_
  have fk19 : st15 (3, 0) = .inl (X.2.1 1, 60, .inl (fun _ => 0)) := (hs18 (3, 0) (by decide)).trans fk12
  have fk20 : st15 (2, 0) = .inr (7, [.ref (ad14 (3, 0)), .null, .int 0, .null, .int 0]) := ((hs18 (2, 0) (by decide)).trans fk10).trans (by rw [ha16 (3, 0) (by decide)])
  have af21 : ∀ x : ro, x ≠ (3, 0) → x ≠ (4, 0) → ad14 x = ad x := fun x a0 a1 => (ha16 x a1).trans (af7 x a0)
  have sf22 : ∀ x : ro, x ≠ (3, 0) → x ≠ (2, 0) → x ≠ (4, 0) → st15 x = st x := fun x a0 a1 a2 => (hs18 x a2).trans (sf13 x a0 a1)
  refine g_putxF (r := (2, 0)) (Cn := RX4) (T := TX4) (N := 5) (ci := 7) (ty0 := tyX4) (fs2 := [.ref (ad14 (3, 0)), .ref (ad14 (4, 0)), .int 0, .null, .int 0]) C tinX4 tyX4_ok nmX4 hW hS (List.mem_append_left _ (List.mem_append_left _ m2)) fk20 rfl 1 (by decide) tw_1_49 rfl rfl rfl rfl (Nat.le_of_ble_eq_true rfl) rfl dX4_init_17 (fun st23 H locs fk24 hs25 hW hS => ?_)
  have fk26 : st23 (3, 0) = .inl (X.2.1 1, 60, .inl (fun _ => 0)) := (hs25 (3, 0) (by decide)).trans fk19
  have fk27 : st23 (4, 0) = .inl (X.2.1 2, 6, .inl (fun _ => 0)) := (hs25 (4, 0) (by decide)).trans fk17
  have sf28 : ∀ x : ro, x ≠ (3, 0) → x ≠ (2, 0) → x ≠ (4, 0) → st23 x = st x := fun x a0 a1 a2 => (hs25 x a1).trans (sf22 x a0 a1 a2)
  refine lv_aload_n hx hb dX4_init_20 rfl (lv_at hl 0 rfl) ?_
  refine lv_iconst (v := 0) hx hb dX4_init_21 (by decide) ?_
  refine g_putx (r := (2, 0)) (Cn := RX4) (T := TX4) (N := 5) (ci := 7) (ty0 := tyX4) (fs2 := [.ref (ad14 (3, 0)), .ref (ad14 (4, 0)), .int 0, .null, .int 0]) C tinX4 tyX4_ok nmX4 hW hS (List.mem_append_left _ (List.mem_append_left _ m2)) fk24 rfl 2 (by decide) tw_1_50 (fun _ h9 => h9) rfl rfl rfl (Nat.le_of_ble_eq_true rfl) rfl dX4_init_22 (fun st29 H locs fk30 hs31 hW hS => ?_)
  have fk32 : st29 (3, 0) = .inl (X.2.1 1, 60, .inl (fun _ => 0)) := (hs31 (3, 0) (by decide)).trans fk26
  have fk33 : st29 (4, 0) = .inl (X.2.1 2, 6, .inl (fun _ => 0)) := (hs31 (4, 0) (by decide)).trans fk27
  have sf34 : ∀ x : ro, x ≠ (3, 0) → x ≠ (2, 0) → x ≠ (4, 0) → st29 x = st x := fun x a0 a1 a2 => (hs31 x a1).trans (sf28 x a0 a1 a2)
  refine lv_aload_n hx hb dX4_init_25 rfl (lv_at hl 0 rfl) ?_
  refine va_ldcS hx hb C.1.2.2.2.1 (C.2.2.2.2.2.2.1 ("RateGate$Request", 23, "", 0) (by decide +kernel)) dX4_init_26 ?_
  refine g_putx (r := (2, 0)) (Cn := RX4) (T := TX4) (N := 5) (ci := 7) (ty0 := tyX4) (fs2 := [.ref (ad14 (3, 0)), .ref (ad14 (4, 0)), .int 0, .ref (X.2.2 0), .int 0]) C tinX4 tyX4_ok nmX4 hW hS (List.mem_append_left _ (List.mem_append_left _ m2)) fk30 rfl 3 (by decide) tw_1_51 (fun _ h9 => h9) rfl rfl rfl (Nat.le_of_ble_eq_true rfl) rfl dX4_init_28 (fun st35 H locs fk36 hs37 hW hS => ?_)
  have fk38 : st35 (3, 0) = .inl (X.2.1 1, 60, .inl (fun _ => 0)) := (hs37 (3, 0) (by decide)).trans fk32
  have fk39 : st35 (4, 0) = .inl (X.2.1 2, 6, .inl (fun _ => 0)) := (hs37 (4, 0) (by decide)).trans fk33
  have sf40 : ∀ x : ro, x ≠ (3, 0) → x ≠ (2, 0) → x ≠ (4, 0) → st35 x = st x := fun x a0 a1 a2 => (hs37 x a1).trans (sf34 x a0 a1 a2)
  refine lv_aload_n hx hb dX4_init_31 rfl (lv_at hl 0 rfl) ?_
  refine lv_bipush (v := 32) hx hb dX4_init_32 (by decide) ?_
  refine g_putx (r := (2, 0)) (Cn := RX4) (T := TX4) (N := 5) (ci := 7) (ty0 := tyX4) (fs2 := [.ref (ad14 (3, 0)), .ref (ad14 (4, 0)), .int 0, .ref (X.2.2 0), .int 32]) C tinX4 tyX4_ok nmX4 hW hS (List.mem_append_left _ (List.mem_append_left _ m2)) fk36 rfl 4 (by decide) tw_1_52 (fun _ h9 => h9) rfl (by decide) (by decide) (Nat.le_of_ble_eq_true rfl) rfl dX4_init_34 (fun st41 H locs fk42 hs43 hW hS => ?_)
  have fk44 : st41 (3, 0) = .inl (X.2.1 1, 60, .inl (fun _ => 0)) := (hs43 (3, 0) (by decide)).trans fk38
  have fk45 : st41 (4, 0) = .inl (X.2.1 2, 6, .inl (fun _ => 0)) := (hs43 (4, 0) (by decide)).trans fk39
  have sf46 : ∀ x : ro, x ≠ (3, 0) → x ≠ (2, 0) → x ≠ (4, 0) → st41 x = st x := fun x a0 a1 a2 => (hs43 x a1).trans (sf40 x a0 a1 a2)
  exact g_vret2 C hQ hW hS ⟨_, _, rfl, (fun x b0 b1 => af21 x b0 b1), (fun x b0 b1 b2 => sf46 x b1 b0 b2), fk42, fk44, fk45⟩ (Nat.le_of_ble_eq_true rfl) (Nat.le_of_ble_eq_true rfl) dX4_init_37

set_option maxHeartbeats 4000000 in
set_option maxRecDepth 100000 in
theorem c_X0_init (l : Launch) (X : GX) (L : List ro) (ad : ro → Nat) (st : ro → va_E)  (m5 : (5, 0) ∈ L) (n6 : (6, 0) ∉ L) (n7 : (7, 0) ∉ L) (n8 : (8, 0) ∉ L) (e5 : st (5, 0) = .inr (3, [.int 0, .null, .null, .null, .int 0, .int 0]))  : gMv l yX0_init cX0_init 1 none 1 12 3 1536 X [.ref (ad (5, 0))] L ad st (fun u => ∃ ad' st', u = (L ++ [(6, 0)] ++ [(7, 0)] ++ [(8, 0)], ad', st') ∧ (∀ x : ro, x ≠ (6, 0) → x ≠ (7, 0) → x ≠ (8, 0) → ad' x = ad x) ∧ (∀ x : ro, x ≠ (5, 0) → x ≠ (6, 0) → x ≠ (7, 0) → x ≠ (8, 0) → st' x = st x) ∧ st' (5, 0) = .inr (3, [.int 0, .ref (ad' (6, 0)), .ref (ad' (7, 0)), .ref (ad' (8, 0)), .int 0, .int 0]) ∧ st' (6, 0) = .inl (X.2.1 2, 512, .inl (fun _ => 0)) ∧ st' (7, 0) = .inl (X.2.1 2, 512, .inl (fun _ => 0)) ∧ st' (8, 0) = .inl (X.2.1 3, 512, .inl (fun _ => 0))) := by
  intro sz
  refine gM_of2 (Qc := fun A => va_Qv _ (gB X A) A) (by decide) (Nat.le_of_ble_eq_true rfl) ?_ sz
  intro p e s m args below meth c A R Q hR hQ C hW hS ls hl
  obtain ⟨hR1, hR2, hR3, hR4⟩ := hR
  have hx := C.1.1
  have hb := C.1.2.1
  have hml := C.1.2.2.1
  have hl : lv_has ls 1 [(0, .ref (ad (5, 0)))] := hl
  refine lv_aload_n hx hb dX0_init_0 rfl (lv_at hl 0 rfl) ?_
  refine W.objInit hx hb C.1.2.2.2.1 (C.1.2.2.2.2 _ tw_1_72) (C.1.2.2.2.2 _ oi_inst) (C.1.2.2.2.2 _ oi_code) rfl (by rw [hml]; exact hl.1) rfl dX0_init_1 (by rw [hR1]; exact Nat.le_of_ble_eq_true rfl) (by rw [hR2]; exact Nat.le_of_ble_eq_true rfl) ?_
  refine W.eq (g2 := F0 m 4 ls []) rfl ?_
  refine lv_aload_n hx hb dX0_init_4 rfl (lv_at hl 0 rfl) ?_
  refine lv_iconst (v := 0) hx hb dX0_init_5 (by decide) ?_
  refine g_putx (r := (5, 0)) (Cn := RX0) (T := TX0) (N := 6) (ci := 3) (ty0 := tyX0) (fs2 := [.int 0, .null, .null, .null, .int 0, .int 0]) C tinX0 tyX0_ok nmX0 hW hS m5 e5 rfl 0 (by decide) tw_1_73 (fun _ h9 => h9) rfl rfl rfl (Nat.le_of_ble_eq_true rfl) rfl dX0_init_6 (fun st1 H locs fk2 hs3 hW hS => ?_)
  have sf4 : ∀ x : ro, x ≠ (5, 0) → st1 x = st x := fun x a0 => hs3 x a0
  refine lv_aload_n hx hb dX0_init_9 rfl (lv_at hl 0 rfl) ?_
  refine lv_sipush (v := 512) hx hb dX0_init_10 (by decide) ?_
  refine g_newb (r := (6, 0)) (atype := .int) (ty := .int) (t0 := 2) (N' := 512) (a0 := (512, .inl (fun _ => 0))) C hW hS n6 tw_1_65 rfl rfl (fun _ => rfl) (by decide) (by decide) (by decide) (by rw [hR3]; exact Nat.le_of_ble_eq_true rfl) (by rw [hR4]; exact Nat.le_of_ble_eq_true rfl) dX0_init_13 (fun ad5 st6 H ha7 fk8 hs9 hW hS => ?_)
  have hl : lv_has ls 1 [(0, .ref (ad5 (5, 0)))] := by rw [ha7 (5, 0) (by decide)]; exact hl
  refine W.eq (g2 := F0 m 15 ls [.ref (ad5 (6, 0)), .ref (ad5 (5, 0))]) (by rw [ha7 (5, 0) (by decide)] <;> rfl) ?_
  have fk10 : st6 (5, 0) = .inr (3, [.int 0, .null, .null, .null, .int 0, .int 0]) := (hs9 (5, 0) (by decide)).trans fk2
  have af11 : ∀ x : ro, x ≠ (6, 0) → ad5 x = ad x := fun x a0 => ha7 x a0
  have sf12 : ∀ x : ro, x ≠ (5, 0) → x ≠ (6, 0) → st6 x = st x := fun x a0 a1 => (hs9 x a1).trans (sf4 x a0)
  refine g_putxF (r := (5, 0)) (Cn := RX0) (T := TX0) (N := 6) (ci := 3) (ty0 := tyX0) (fs2 := [.int 0, .ref (ad5 (6, 0)), .null, .null, .int 0, .int 0]) C tinX0 tyX0_ok nmX0 hW hS (List.mem_append_left _ m5) fk10 rfl 1 (by decide) tw_1_75 rfl rfl rfl rfl (Nat.le_of_ble_eq_true rfl) rfl dX0_init_15 (fun st13 H locs fk14 hs15 hW hS => ?_)
  have fk16 : st13 (6, 0) = .inl (X.2.1 2, 512, .inl (fun _ => 0)) := (hs15 (6, 0) (by decide)).trans fk8
  have sf17 : ∀ x : ro, x ≠ (5, 0) → x ≠ (6, 0) → st13 x = st x := fun x a0 a1 => (hs15 x a0).trans (sf12 x a0 a1)
  refine lv_aload_n hx hb dX0_init_18 rfl (lv_at hl 0 rfl) ?_
  refine lv_sipush (v := 512) hx hb dX0_init_19 (by decide) ?_
  refine g_newb (r := (7, 0)) (atype := .int) (ty := .int) (t0 := 2) (N' := 512) (a0 := (512, .inl (fun _ => 0))) C hW hS (nmem_app n7 (by decide)) tw_1_65 rfl rfl (fun _ => rfl) (by decide) (by decide) (by decide) (by rw [hR3]; exact Nat.le_of_ble_eq_true rfl) (by rw [hR4]; exact Nat.le_of_ble_eq_true rfl) dX0_init_22 (fun ad18 st19 H ha20 fk21 hs22 hW hS => ?_)
  have hl : lv_has ls 1 [(0, .ref (ad18 (5, 0)))] := by rw [ha20 (5, 0) (by decide)]; exact hl
  refine W.eq (g2 := F0 m 24 ls [.ref (ad18 (7, 0)), .ref (ad18 (5, 0))]) (by rw [ha20 (5, 0) (by decide)] <;> rfl) ?_
  have fk23 : st19 (6, 0) = .inl (X.2.1 2, 512, .inl (fun _ => 0)) := (hs22 (6, 0) (by decide)).trans fk16
  have fk24 : st19 (5, 0) = .inr (3, [.int 0, .ref (ad18 (6, 0)), .null, .null, .int 0, .int 0]) := ((hs22 (5, 0) (by decide)).trans fk14).trans (by rw [ha20 (6, 0) (by decide)])
  have af25 : ∀ x : ro, x ≠ (6, 0) → x ≠ (7, 0) → ad18 x = ad x := fun x a0 a1 => (ha20 x a1).trans (af11 x a0)
  have sf26 : ∀ x : ro, x ≠ (5, 0) → x ≠ (6, 0) → x ≠ (7, 0) → st19 x = st x := fun x a0 a1 a2 => (hs22 x a2).trans (sf17 x a0 a1)
  refine g_putxF (r := (5, 0)) (Cn := RX0) (T := TX0) (N := 6) (ci := 3) (ty0 := tyX0) (fs2 := [.int 0, .ref (ad18 (6, 0)), .ref (ad18 (7, 0)), .null, .int 0, .int 0]) C tinX0 tyX0_ok nmX0 hW hS (List.mem_append_left _ (List.mem_append_left _ m5)) fk24 rfl 2 (by decide) tw_1_76 rfl rfl rfl rfl (Nat.le_of_ble_eq_true rfl) rfl dX0_init_24 (fun st27 H locs fk28 hs29 hW hS => ?_)
  have fk30 : st27 (6, 0) = .inl (X.2.1 2, 512, .inl (fun _ => 0)) := (hs29 (6, 0) (by decide)).trans fk23
  have fk31 : st27 (7, 0) = .inl (X.2.1 2, 512, .inl (fun _ => 0)) := (hs29 (7, 0) (by decide)).trans fk21
  have sf32 : ∀ x : ro, x ≠ (5, 0) → x ≠ (6, 0) → x ≠ (7, 0) → st27 x = st x := fun x a0 a1 a2 => (hs29 x a0).trans (sf26 x a0 a1 a2)
  refine lv_aload_n hx hb dX0_init_27 rfl (lv_at hl 0 rfl) ?_
  refine lv_sipush (v := 512) hx hb dX0_init_28 (by decide) ?_
  refine g_newb (r := (8, 0)) (atype := .boolean) (ty := .boolean) (t0 := 3) (N' := 512) (a0 := (512, .inl (fun _ => 0))) C hW hS (nmem_app (nmem_app n8 (by decide)) (by decide)) tw_1_93 rfl rfl (fun _ => rfl) (by decide) (by decide) (by decide) (by rw [hR3]; exact Nat.le_of_ble_eq_true rfl) (by rw [hR4]; exact Nat.le_of_ble_eq_true rfl) dX0_init_31 (fun ad33 st34 H ha35 fk36 hs37 hW hS => ?_)
  have hl : lv_has ls 1 [(0, .ref (ad33 (5, 0)))] := by rw [ha35 (5, 0) (by decide)]; exact hl
  refine W.eq (g2 := F0 m 33 ls [.ref (ad33 (8, 0)), .ref (ad33 (5, 0))]) (by rw [ha35 (5, 0) (by decide)] <;> rfl) ?_
  have fk38 : st34 (6, 0) = .inl (X.2.1 2, 512, .inl (fun _ => 0)) := (hs37 (6, 0) (by decide)).trans fk30
  have fk39 : st34 (7, 0) = .inl (X.2.1 2, 512, .inl (fun _ => 0)) := (hs37 (7, 0) (by decide)).trans fk31
  have fk40 : st34 (5, 0) = .inr (3, [.int 0, .ref (ad33 (6, 0)), .ref (ad33 (7, 0)), .null, .int 0, .int 0]) := ((hs37 (5, 0) (by decide)).trans fk28).trans (by rw [ha35 (6, 0) (by decide), ha35 (7, 0) (by decide)])
  have af41 : ∀ x : ro, x ≠ (6, 0) → x ≠ (7, 0) → x ≠ (8, 0) → ad33 x = ad x := fun x a0 a1 a2 => (ha35 x a2).trans (af25 x a0 a1)
  have sf42 : ∀ x : ro, x ≠ (5, 0) → x ≠ (6, 0) → x ≠ (7, 0) → x ≠ (8, 0) → st34 x = st x := fun x a0 a1 a2 a3 => (hs37 x a3).trans (sf32 x a0 a1 a2)
  refine g_putxF (r := (5, 0)) (Cn := RX0) (T := TX0) (N := 6) (ci := 3) (ty0 := tyX0) (fs2 := [.int 0, .ref (ad33 (6, 0)), .ref (ad33 (7, 0)), .ref (ad33 (8, 0)), .int 0, .int 0]) C tinX0 tyX0_ok nmX0 hW hS (List.mem_append_left _ (List.mem_append_left _ (List.mem_append_left _ m5))) fk40 rfl 3 (by decide) tw_1_77 rfl rfl rfl rfl (Nat.le_of_ble_eq_true rfl) rfl dX0_init_33 (fun st43 H locs fk44 hs45 hW hS => ?_)
  have fk46 : st43 (6, 0) = .inl (X.2.1 2, 512, .inl (fun _ => 0)) := (hs45 (6, 0) (by decide)).trans fk38
  have fk47 : st43 (7, 0) = .inl (X.2.1 2, 512, .inl (fun _ => 0)) := (hs45 (7, 0) (by decide)).trans fk39
  have fk48 : st43 (8, 0) = .inl (X.2.1 3, 512, .inl (fun _ => 0)) := (hs45 (8, 0) (by decide)).trans fk36
  have sf49 : ∀ x : ro, x ≠ (5, 0) → x ≠ (6, 0) → x ≠ (7, 0) → x ≠ (8, 0) → st43 x = st x := fun x a0 a1 a2 a3 => (hs45 x a0).trans (sf42 x a0 a1 a2 a3)
  refine lv_aload_n hx hb dX0_init_36 rfl (lv_at hl 0 rfl) ?_
  refine lv_iconst (v := 0) hx hb dX0_init_37 (by decide) ?_
  refine g_putx (r := (5, 0)) (Cn := RX0) (T := TX0) (N := 6) (ci := 3) (ty0 := tyX0) (fs2 := [.int 0, .ref (ad33 (6, 0)), .ref (ad33 (7, 0)), .ref (ad33 (8, 0)), .int 0, .int 0]) C tinX0 tyX0_ok nmX0 hW hS (List.mem_append_left _ (List.mem_append_left _ (List.mem_append_left _ m5))) fk44 rfl 4 (by decide) tw_1_78 (fun _ h9 => h9) rfl rfl rfl (Nat.le_of_ble_eq_true rfl) rfl dX0_init_38 (fun st50 H locs fk51 hs52 hW hS => ?_)
  have fk53 : st50 (6, 0) = .inl (X.2.1 2, 512, .inl (fun _ => 0)) := (hs52 (6, 0) (by decide)).trans fk46
  have fk54 : st50 (7, 0) = .inl (X.2.1 2, 512, .inl (fun _ => 0)) := (hs52 (7, 0) (by decide)).trans fk47
  have fk55 : st50 (8, 0) = .inl (X.2.1 3, 512, .inl (fun _ => 0)) := (hs52 (8, 0) (by decide)).trans fk48
  have sf56 : ∀ x : ro, x ≠ (5, 0) → x ≠ (6, 0) → x ≠ (7, 0) → x ≠ (8, 0) → st50 x = st x := fun x a0 a1 a2 a3 => (hs52 x a0).trans (sf49 x a0 a1 a2 a3)
  refine lv_aload_n hx hb dX0_init_41 rfl (lv_at hl 0 rfl) ?_
  refine lv_iconst (v := 0) hx hb dX0_init_42 (by decide) ?_
  refine g_putx (r := (5, 0)) (Cn := RX0) (T := TX0) (N := 6) (ci := 3) (ty0 := tyX0) (fs2 := [.int 0, .ref (ad33 (6, 0)), .ref (ad33 (7, 0)), .ref (ad33 (8, 0)), .int 0, .int 0]) C tinX0 tyX0_ok nmX0 hW hS (List.mem_append_left _ (List.mem_append_left _ (List.mem_append_left _ m5))) fk51 rfl 5 (by decide) tw_1_79 (fun _ h9 => h9) rfl rfl rfl (Nat.le_of_ble_eq_true rfl) rfl dX0_init_43 (fun st57 H locs fk58 hs59 hW hS => ?_)
  have fk60 : st57 (6, 0) = .inl (X.2.1 2, 512, .inl (fun _ => 0)) := (hs59 (6, 0) (by decide)).trans fk53
  have fk61 : st57 (7, 0) = .inl (X.2.1 2, 512, .inl (fun _ => 0)) := (hs59 (7, 0) (by decide)).trans fk54
  have fk62 : st57 (8, 0) = .inl (X.2.1 3, 512, .inl (fun _ => 0)) := (hs59 (8, 0) (by decide)).trans fk55
  have sf63 : ∀ x : ro, x ≠ (5, 0) → x ≠ (6, 0) → x ≠ (7, 0) → x ≠ (8, 0) → st57 x = st x := fun x a0 a1 a2 a3 => (hs59 x a0).trans (sf56 x a0 a1 a2 a3)
  exact g_vret2 C hQ hW hS ⟨_, _, rfl, (fun x b0 b1 b2 => af41 x b0 b1 b2), (fun x b0 b1 b2 b3 => sf63 x b0 b1 b2 b3), fk58, fk60, fk61, fk62⟩ (Nat.le_of_ble_eq_true rfl) (Nat.le_of_ble_eq_true rfl) dX0_init_46

