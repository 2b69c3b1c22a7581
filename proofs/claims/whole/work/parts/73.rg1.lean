set_option maxHeartbeats 4000000 in
set_option maxRecDepth 100000 in
theorem c_X7_price (l : Launch) (X : GX) (L : List ro) (ad : ro → Nat) (st0 : ro → va_E) (ci : Nat → Nat → Int32) (ca : Nat → Nat → Nat → Int32) (cr : Nat → Nat → Nat) (n w tot nt : Nat) (kp nx : Nat → Nat) (hV : cV L ci ca cr n w tot nt kp nx) (hl0 : l.stackTraces = false) (a : Int32) : gXi l yX7_price cX7_price 3 (some .int) 7 103 10 300 X [.ref (ad (1, 0)), .int a] L ad (cSt X ad st0 ci ca cr) (fun v u => u = (L, ad, cSt X ad st0 ci ca cr) ∧ ∃ k, k < cr 13 0 ∧ a = nI k ∧ v = prcC (ci 36 (cr 40 k)) (ci 37 (cr 40 k)) (ci 38 (cr 40 k)) (ci 42 k - ci 43 k) (ci 44 k) (ci 45 k)) (fun E u => u = (L, ad, cSt X ad st0 ci ca cr) ∧ E = "java/lang/IndexOutOfBoundsException" ∧ ¬ vp_in a (cr 13 0)) := by
  intro sz
  refine gX_of2 (Qc := fun A => va_Qi _ (gB X A) A) (XC := fun A => gXC X A _) (by decide) (Nat.le_of_ble_eq_true rfl) ?_ sz
  intro p e s m args below meth c A R Q hR hQ hnx C hW hS ls hl
  obtain ⟨hR1, hR2, hR3, hR4⟩ := hR
  have hx := C.1.1
  have hb := C.1.2.1
  have hml := C.1.2.2.1
  have hl : lv_has ls 3 [(0, .ref (ad (1, 0))), (1, .int a)] := hl
  obtain ⟨vR, vA, vN, vq, vp, vt, vQ, vP, vC, vX, vT, vW, vG, vS⟩ := id hV
  obtain ⟨vT1, vT2, vT3⟩ := vT
  obtain ⟨vW1, vW2⟩ := vW
  obtain ⟨vG1, vG2, vG3⟩ := vG
  obtain ⟨vN1, vN2⟩ := vN
  refine lv_aload_n hx hb dX7_price_0 rfl (lv_at hl 0 rfl) ?_
  refine lv_iload_n hx hb dX7_price_1 rfl (lv_at hl 1 rfl) ?_
  refine g_callXq (r := (1, 0)) (T := TX7) (N := 7) (k2 := 1) (As := [.int a]) (rest := []) C hnx hQ (c_X7_quoteAt l X L ad st0 ci ca cr n w tot nt kp nx hV hl0 a) (fun E u h => h) tw_5_40 tw_5_42 tw_0_21 tw_1_1 tw_5_43 (by decide +kernel) ⟨by rw [hR1]; exact Nat.le_of_ble_eq_true rfl, by rw [hR2]; exact Nat.le_of_ble_eq_true rfl⟩ hW hS (hV.r (by decide)) rfl rfl rfl hl.1 rfl (Nat.le_of_ble_eq_true rfl) dX7_price_2 ⟨by rw [hR3]; exact Nat.le_of_ble_eq_true rfl, by rw [hR4]; exact Nat.le_of_ble_eq_true rfl⟩ ⟨Nat.le_of_ble_eq_true rfl, Nat.le_of_ble_eq_true rfl⟩ (fun v1 L9 ad9 st9 H locs hp hW hS => ?_)
  obtain ⟨z0, k2, hk2, hak2, hv9⟩ := hp
  cases z0
  subst hv9
  refine lv_topV (y := .ref (ad (40, k2))) rfl ?_
  subst hak2
  refine lv_astore_n (lv' := [(2, .ref (ad (40, k2))), (0, .ref (ad (1, 0))), (1, .int (nI k2))]) hx hb dX7_price_5 rfl hl (by decide) rfl (fun ls hl => ?_)
  refine lv_aload_n hx hb dX7_price_6 rfl (lv_at hl 0 rfl) ?_
  refine lv_aload_n hx hb dX7_price_7 rfl (lv_at hl 0 rfl) ?_
  refine g_get (r := (40, k2)) (Cn := RX3) (T := TX3) (N := 8) (ci := 6) (v := .ref (ad (31, cr 40 k2))) C tinX3 hW (hV.qt (by first | omega | exact (hV.pc (by omega)).2)).1 rfl rfl 6 (by decide) tw_4_183 (fun _ h9 => h9) rfl dX7_price_8 ?_
  refine lv_aload_n hx hb dX7_price_11 rfl (lv_at hl 0 rfl) ?_
  refine g_get (r := (40, k2)) (Cn := RX3) (T := TX3) (N := 8) (ci := 6) (v := .int (ci 44 k2)) C tinX3 hW (hV.qt (by first | omega | exact (hV.pc (by omega)).2)).1 rfl rfl 4 (by decide) tw_4_180 (fun _ h9 => h9) rfl dX7_price_12 ?_
  refine g_callVi (r := (40, k2)) (T := TX3) (N := 8) (k2 := 2) (As := [.ref (ad (31, cr 40 k2)), .int (ci 44 k2)]) (rest := []) C (c_X3_priceBy l X L ad st0 ci ca cr k2 (hV.qt (by first | omega | exact (hV.pc (by omega)).2)).1 (cr 40 k2) (hV.qt (by first | omega | exact (hV.pc (by omega)).2)).2 (ci 44 k2)) tw_5_45 tw_5_46 tw_5_47 tw_1_31 tw_5_48 (by decide +kernel) ⟨by rw [hR1]; exact Nat.le_of_ble_eq_true rfl, by rw [hR2]; exact Nat.le_of_ble_eq_true rfl⟩ hW hS (hV.qt (by first | omega | exact (hV.pc (by omega)).2)).1 rfl rfl rfl hl.1 rfl (Nat.le_of_ble_eq_true rfl) dX7_price_15 ⟨by rw [hR3]; exact Nat.le_of_ble_eq_true rfl, by rw [hR4]; exact Nat.le_of_ble_eq_true rfl⟩ (fun x3 L9 ad9 st9 H locs hp hW hS => ?_)
  obtain ⟨ci9, ca9, cr9, z0, hp⟩ := hp
  cases z0
  obtain ⟨z1, z2, z3, h4⟩ := hp
  rw [z1, z2, z3] at hW
  exact g_iretX C hQ hW hS ⟨rfl, k2, hk2, rfl, (by subst_vars; first | rfl | (simp only [lftC]; rfl))⟩ rfl (Nat.le_of_ble_eq_true rfl) (Nat.le_of_ble_eq_true rfl) dX7_price_18

set_option maxHeartbeats 4000000 in
set_option maxRecDepth 100000 in
theorem c_X7_fixed (l : Launch) (X : GX) (L : List ro) (ad : ro → Nat) (st0 : ro → va_E) (ci : Nat → Nat → Int32) (ca : Nat → Nat → Nat → Int32) (cr : Nat → Nat → Nat) (n w tot nt : Nat) (kp nx : Nat → Nat) (hV : cV L ci ca cr n w tot nt kp nx) (hl0 : l.stackTraces = false) (a : Int32) : gXi l yX7_fixed cX7_fixed 2 (some .int) 7 103 10 300 X [.ref (ad (1, 0)), .int a] L ad (cSt X ad st0 ci ca cr) (fun v u => u = (L, ad, cSt X ad st0 ci ca cr) ∧ ∃ k, k < cr 13 0 ∧ a = nI k ∧ v = (if 0 < ci 46 k - nI w then ci 46 k - nI w else 0)) (fun E u => u = (L, ad, cSt X ad st0 ci ca cr) ∧ E = "java/lang/IndexOutOfBoundsException" ∧ ¬ vp_in a (cr 13 0)) := by
  intro sz
  refine gX_of2 (Qc := fun A => va_Qi _ (gB X A) A) (XC := fun A => gXC X A _) (by decide) (Nat.le_of_ble_eq_true rfl) ?_ sz
  intro p e s m args below meth c A R Q hR hQ hnx C hW hS ls hl
  obtain ⟨hR1, hR2, hR3, hR4⟩ := hR
  have hx := C.1.1
  have hb := C.1.2.1
  have hml := C.1.2.2.1
  have hl : lv_has ls 2 [(0, .ref (ad (1, 0))), (1, .int a)] := hl
  obtain ⟨vR, vA, vN, vq, vp, vt, vQ, vP, vC, vX, vT, vW, vG, vS⟩ := id hV
  obtain ⟨vT1, vT2, vT3⟩ := vT
  obtain ⟨vW1, vW2⟩ := vW
  obtain ⟨vG1, vG2, vG3⟩ := vG
  obtain ⟨vN1, vN2⟩ := vN
  refine lv_iconst (v := 0) hx hb dX7_fixed_0 (by decide) ?_
  refine lv_aload_n hx hb dX7_fixed_1 rfl (lv_at hl 0 rfl) ?_
  refine lv_iload_n hx hb dX7_fixed_2 rfl (lv_at hl 1 rfl) ?_
  refine g_callXq (r := (1, 0)) (T := TX7) (N := 7) (k2 := 1) (As := [.int a]) (rest := [.int 0]) C hnx hQ (c_X7_quoteAt l X L ad st0 ci ca cr n w tot nt kp nx hV hl0 a) (fun E u h => h) tw_5_40 tw_5_42 tw_0_21 tw_1_1 tw_5_43 (by decide +kernel) ⟨by rw [hR1]; exact Nat.le_of_ble_eq_true rfl, by rw [hR2]; exact Nat.le_of_ble_eq_true rfl⟩ hW hS (hV.r (by decide)) rfl rfl rfl hl.1 rfl (Nat.le_of_ble_eq_true rfl) dX7_fixed_3 ⟨by rw [hR3]; exact Nat.le_of_ble_eq_true rfl, by rw [hR4]; exact Nat.le_of_ble_eq_true rfl⟩ ⟨Nat.le_of_ble_eq_true rfl, Nat.le_of_ble_eq_true rfl⟩ (fun v1 L9 ad9 st9 H locs hp hW hS => ?_)
  obtain ⟨z0, k2, hk2, hak2, hv9⟩ := hp
  cases z0
  subst hv9
  refine lv_topV (y := .ref (ad (40, k2))) rfl ?_
  subst hak2
  refine g_get (r := (40, k2)) (Cn := RX3) (T := TX3) (N := 8) (ci := 6) (v := .int (ci 46 k2)) C tinX3 hW (hV.qt (by first | omega | exact (hV.pc (by omega)).2)).1 rfl rfl 7 (by decide) tw_4_185 (fun _ h9 => h9) rfl dX7_fixed_6 ?_
  refine lv_aload_n hx hb dX7_fixed_9 rfl (lv_at hl 0 rfl) ?_
  refine g_get (r := (1, 0)) (Cn := RX7) (T := TX7) (N := 7) (ci := 10) (v := .int (ci 1 0)) C tinX7 hW (hV.r (by decide)) rfl rfl 6 (by decide) tw_1_212 (fun _ h9 => h9) rfl dX7_fixed_10 ?_
  refine lv_topE (y := nI w) (by show ci 1 0 = nI w; exact hV.2.2.2.2.2.2.2.2.2.2.2.1.1) ?_
  refine lv_isub hx hb dX7_fixed_13 ?_
  refine lv_topi (fun x3 ex3 => ?_)
  refine va_mmax hx hb (hml.trans hl.1.symm) C.1.2.2.2.1 (C.1.2.2.2.2 _ tw_5_59) (C.1.2.2.2.2 _ tw_2_61) (C.1.2.2.2.2 _ tw_1_19) (C.1.2.2.2.2 _ tw_2_62) (by rw [hR1]; exact Nat.le_of_ble_eq_true rfl) (by rw [hR2]; exact Nat.le_of_ble_eq_true rfl) (by rw [hR3]; exact Nat.le_of_ble_eq_true rfl) (by rw [hR4]; exact Nat.le_of_ble_eq_true rfl) dX7_fixed_14 ?_
  refine lv_topi (fun x4 ex4 => ?_)
  exact g_iretX C hQ hW hS ⟨rfl, k2, hk2, rfl, (by subst_vars; first | rfl | (simp only [lftC]; rfl))⟩ rfl (Nat.le_of_ble_eq_true rfl) (Nat.le_of_ble_eq_true rfl) dX7_fixed_17

set_option maxHeartbeats 4000000 in
set_option maxRecDepth 100000 in
theorem c_X7_left (l : Launch) (X : GX) (L : List ro) (ad : ro → Nat) (st0 : ro → va_E) (ci : Nat → Nat → Int32) (ca : Nat → Nat → Nat → Int32) (cr : Nat → Nat → Nat) (n w tot nt : Nat) (kp nx : Nat → Nat) (hV : cV L ci ca cr n w tot nt kp nx) (hl0 : l.stackTraces = false) (a : Int32) : gXi l yX7_left cX7_left 2 (some .int) 7 103 10 300 X [.ref (ad (1, 0)), .int a] L ad (cSt X ad st0 ci ca cr) (fun v u => u = (L, ad, cSt X ad st0 ci ca cr) ∧ ∃ k, k < 6 ∧ a = nI k ∧ v = lftC (ci 20 k) (cntL (ca 21 k) (nI w - ci 21 k) (kp k))) (fun E u => u = (L, ad, cSt X ad st0 ci ca cr) ∧ E = "java/lang/IndexOutOfBoundsException" ∧ ¬ vp_in a (6)) := by
  intro sz
  refine gX_of2 (Qc := fun A => va_Qi _ (gB X A) A) (XC := fun A => gXC X A _) (by decide) (Nat.le_of_ble_eq_true rfl) ?_ sz
  intro p e s m args below meth c A R Q hR hQ hnx C hW hS ls hl
  obtain ⟨hR1, hR2, hR3, hR4⟩ := hR
  have hx := C.1.1
  have hb := C.1.2.1
  have hml := C.1.2.2.1
  have hl : lv_has ls 2 [(0, .ref (ad (1, 0))), (1, .int a)] := hl
  obtain ⟨vR, vA, vN, vq, vp, vt, vQ, vP, vC, vX, vT, vW, vG, vS⟩ := id hV
  obtain ⟨vT1, vT2, vT3⟩ := vT
  obtain ⟨vW1, vW2⟩ := vW
  obtain ⟨vG1, vG2, vG3⟩ := vG
  obtain ⟨vN1, vN2⟩ := vN
  refine lv_aload_n hx hb dX7_left_0 rfl (lv_at hl 0 rfl) ?_
  refine lv_iload_n hx hb dX7_left_1 rfl (lv_at hl 1 rfl) ?_
  refine g_callXq (r := (1, 0)) (T := TX7) (N := 7) (k2 := 1) (As := [.int a]) (rest := []) C hnx hQ (c_X7_shipperAt l X L ad st0 ci ca cr n w tot nt kp nx hV hl0 a) (fun E u h => h) tw_4_71 tw_4_73 tw_0_12 tw_1_1 tw_4_74 (by decide +kernel) ⟨by rw [hR1]; exact Nat.le_of_ble_eq_true rfl, by rw [hR2]; exact Nat.le_of_ble_eq_true rfl⟩ hW hS (hV.r (by decide)) rfl rfl rfl hl.1 rfl (Nat.le_of_ble_eq_true rfl) dX7_left_2 ⟨by rw [hR3]; exact Nat.le_of_ble_eq_true rfl, by rw [hR4]; exact Nat.le_of_ble_eq_true rfl⟩ ⟨Nat.le_of_ble_eq_true rfl, Nat.le_of_ble_eq_true rfl⟩ (fun v1 L9 ad9 st9 H locs hp hW hS => ?_)
  obtain ⟨z0, k2, hk2, hak2, hv9⟩ := hp
  cases z0
  subst hv9
  refine lv_topV (y := .ref (ad (20, k2))) rfl ?_
  subst hak2
  refine lv_aload_n hx hb dX7_left_5 rfl (lv_at hl 0 rfl) ?_
  refine g_get (r := (1, 0)) (Cn := RX7) (T := TX7) (N := 7) (ci := 10) (v := .int (ci 1 0)) C tinX7 hW (hV.r (by decide)) rfl rfl 6 (by decide) tw_1_212 (fun _ h9 => h9) rfl dX7_left_6 ?_
  refine lv_topE (y := nI w) (by show ci 1 0 = nI w; exact hV.2.2.2.2.2.2.2.2.2.2.2.1.1) ?_
  refine g_callVi (r := (20, k2)) (T := TX5) (N := 7) (k2 := 1) (As := [.int (nI w)]) (rest := []) C (c_X5_callsLeft l X L ad st0 ci ca cr k2 (hV.ship (by first | omega | exact (hV.pc (by omega)).2)).1 (hV.ship (by first | omega | exact (hV.pc (by omega)).2)).2 (nI w) (kp k2) (vS k2 (by first | omega | exact (hV.pc (by omega)).2)).1 (vS k2 (by first | omega | exact (hV.pc (by omega)).2)).2.1) tw_4_124 tw_4_125 tw_4_126 tw_1_7 tw_4_127 (by decide +kernel) ⟨by rw [hR1]; exact Nat.le_of_ble_eq_true rfl, by rw [hR2]; exact Nat.le_of_ble_eq_true rfl⟩ hW hS (hV.ship (by first | omega | exact (hV.pc (by omega)).2)).1 rfl rfl rfl hl.1 rfl (Nat.le_of_ble_eq_true rfl) dX7_left_9 ⟨by rw [hR3]; exact Nat.le_of_ble_eq_true rfl, by rw [hR4]; exact Nat.le_of_ble_eq_true rfl⟩ (fun x3 L9 ad9 st9 H locs hp hW hS => ?_)
  obtain ⟨ci9, ca9, cr9, z0, hp⟩ := hp
  cases z0
  obtain ⟨z1, z2, z3, h4⟩ := hp
  rw [z1, z2, z3] at hW
  exact g_iretX C hQ hW hS ⟨rfl, k2, hk2, rfl, (by subst_vars; first | rfl | (simp only [lftC]; rfl))⟩ rfl (Nat.le_of_ble_eq_true rfl) (Nat.le_of_ble_eq_true rfl) dX7_left_12

set_option maxHeartbeats 4000000 in
set_option maxRecDepth 100000 in
theorem c_X7_leftByLog (l : Launch) (X : GX) (L : List ro) (ad : ro → Nat) (st0 : ro → va_E) (ci : Nat → Nat → Int32) (ca : Nat → Nat → Nat → Int32) (cr : Nat → Nat → Nat) (n w tot nt : Nat) (kp nx : Nat → Nat) (hV : cV L ci ca cr n w tot nt kp nx) (hl0 : l.stackTraces = false) (a : Int32) : gXi l yX7_leftByLog cX7_leftByLog 4 (some .int) 7 103 10 300 X [.ref (ad (1, 0)), .int a] L ad (cSt X ad st0 ci ca cr) (fun v u => u = (L, ad, cSt X ad st0 ci ca cr) ∧ ∃ k, k < 6 ∧ a = nI k ∧ v = lftC (ci 20 k) (cntB (ca 6 0) (ca 7 0) (ca 8 0) (nI k) (nI w - ci 21 k) tot)) (fun E u => u = (L, ad, cSt X ad st0 ci ca cr) ∧ E = "java/lang/IndexOutOfBoundsException" ∧ ¬ vp_in a (6)) := by
  intro sz
  refine gX_of2 (Qc := fun A => va_Qi _ (gB X A) A) (XC := fun A => gXC X A _) (by decide) (Nat.le_of_ble_eq_true rfl) ?_ sz
  intro p e s m args below meth c A R Q hR hQ hnx C hW hS ls hl
  obtain ⟨hR1, hR2, hR3, hR4⟩ := hR
  have hx := C.1.1
  have hb := C.1.2.1
  have hml := C.1.2.2.1
  have hl : lv_has ls 4 [(0, .ref (ad (1, 0))), (1, .int a)] := hl
  obtain ⟨vR, vA, vN, vq, vp, vt, vQ, vP, vC, vX, vT, vW, vG, vS⟩ := id hV
  obtain ⟨vT1, vT2, vT3⟩ := vT
  obtain ⟨vW1, vW2⟩ := vW
  obtain ⟨vG1, vG2, vG3⟩ := vG
  obtain ⟨vN1, vN2⟩ := vN
  refine lv_aload_n hx hb dX7_leftByLog_0 rfl (lv_at hl 0 rfl) ?_
  refine lv_iload_n hx hb dX7_leftByLog_1 rfl (lv_at hl 1 rfl) ?_
  refine g_callXq (r := (1, 0)) (T := TX7) (N := 7) (k2 := 1) (As := [.int a]) (rest := []) C hnx hQ (c_X7_shipperAt l X L ad st0 ci ca cr n w tot nt kp nx hV hl0 a) (fun E u h => h) tw_4_71 tw_4_73 tw_0_12 tw_1_1 tw_4_74 (by decide +kernel) ⟨by rw [hR1]; exact Nat.le_of_ble_eq_true rfl, by rw [hR2]; exact Nat.le_of_ble_eq_true rfl⟩ hW hS (hV.r (by decide)) rfl rfl rfl hl.1 rfl (Nat.le_of_ble_eq_true rfl) dX7_leftByLog_2 ⟨by rw [hR3]; exact Nat.le_of_ble_eq_true rfl, by rw [hR4]; exact Nat.le_of_ble_eq_true rfl⟩ ⟨Nat.le_of_ble_eq_true rfl, Nat.le_of_ble_eq_true rfl⟩ (fun v1 L9 ad9 st9 H locs hp hW hS => ?_)
  obtain ⟨z0, k2, hk2, hak2, hv9⟩ := hp
  cases z0
  subst hv9
  refine lv_topV (y := .ref (ad (20, k2))) rfl ?_
  subst hak2
  refine lv_astore_n (lv' := [(2, .ref (ad (20, k2))), (0, .ref (ad (1, 0))), (1, .int (nI k2))]) hx hb dX7_leftByLog_5 rfl hl (by decide) rfl (fun ls hl => ?_)
  refine lv_aload_n hx hb dX7_leftByLog_6 rfl (lv_at hl 1 rfl) ?_
  refine g_get (r := (1, 0)) (Cn := RX7) (T := TX7) (N := 7) (ci := 10) (v := .ref (ad (5, 0))) C tinX7 hW (hV.r (by decide)) rfl rfl 1 (by decide) tw_1_207 (fun _ h9 => h9) rfl dX7_leftByLog_7 ?_
  refine lv_iload_n hx hb dX7_leftByLog_10 rfl (lv_at hl 2 rfl) ?_
  refine lv_aload_n hx hb dX7_leftByLog_11 rfl (lv_at hl 1 rfl) ?_
  refine g_get (r := (1, 0)) (Cn := RX7) (T := TX7) (N := 7) (ci := 10) (v := .int (ci 1 0)) C tinX7 hW (hV.r (by decide)) rfl rfl 6 (by decide) tw_1_212 (fun _ h9 => h9) rfl dX7_leftByLog_12 ?_
  refine lv_topE (y := nI w) (by show ci 1 0 = nI w; exact hV.2.2.2.2.2.2.2.2.2.2.2.1.1) ?_
  refine lv_aload_n hx hb dX7_leftByLog_15 rfl (lv_at hl 0 rfl) ?_
  refine g_get (r := (20, k2)) (Cn := RX5) (T := TX5) (N := 7) (ci := 8) (v := .int (ci 21 k2)) C tinX5 hW (hV.ship (by first | omega | exact (hV.pc (by omega)).2)).1 rfl rfl 1 (by decide) tw_1_132 (fun _ h9 => h9) rfl dX7_leftByLog_16 ?_
  refine lv_isub hx hb dX7_leftByLog_19 ?_
  refine lv_topi (fun x3 ex3 => ?_)
  refine g_callVi (r := (5, 0)) (T := TX0) (N := 6) (k2 := 2) (As := [.int (nI k2), .int x3]) (rest := []) C (c_X0_countBehind l X L ad st0 ci ca cr (hV.r (by decide)) (hV.r (by decide)) (hV.r (by decide)) (hV.r (by decide)) (nI k2) x3 tot vG1 vG3) tw_5_74 tw_5_75 tw_5_76 tw_1_3 tw_5_77 (by decide +kernel) ⟨by rw [hR1]; exact Nat.le_of_ble_eq_true rfl, by rw [hR2]; exact Nat.le_of_ble_eq_true rfl⟩ hW hS (hV.r (by decide)) rfl rfl rfl hl.1 rfl (Nat.le_of_ble_eq_true rfl) dX7_leftByLog_20 ⟨by rw [hR3]; exact Nat.le_of_ble_eq_true rfl, by rw [hR4]; exact Nat.le_of_ble_eq_true rfl⟩ (fun x4 L9 ad9 st9 H locs hp hW hS => ?_)
  obtain ⟨ci9, ca9, cr9, z0, hp⟩ := hp
  cases z0
  obtain ⟨z1, z2, z3, h5⟩ := hp
  rw [z1, z2, z3] at hW
  refine lv_istore_n (lv' := [(3, .int x4), (2, .ref (ad (20, k2))), (0, .ref (ad (1, 0))), (1, .int (nI k2))]) hx hb dX7_leftByLog_23 rfl hl (by decide) rfl (fun ls hl => ?_)
  refine lv_iconst (v := 0) hx hb dX7_leftByLog_24 (by decide) ?_
  refine lv_aload_n hx hb dX7_leftByLog_25 rfl (lv_at hl 1 rfl) ?_
  refine g_get (r := (20, k2)) (Cn := RX5) (T := TX5) (N := 7) (ci := 8) (v := .int (ci 20 k2)) C tinX5 hW (hV.ship (by first | omega | exact (hV.pc (by omega)).2)).1 rfl rfl 0 (by decide) tw_1_130 (fun _ h9 => h9) rfl dX7_leftByLog_26 ?_
  refine lv_iload_n hx hb dX7_leftByLog_29 rfl (lv_at hl 0 rfl) ?_
  refine lv_isub hx hb dX7_leftByLog_30 ?_
  refine lv_topi (fun x6 ex6 => ?_)
  refine va_mmax hx hb (hml.trans hl.1.symm) C.1.2.2.2.1 (C.1.2.2.2.2 _ tw_5_59) (C.1.2.2.2.2 _ tw_2_61) (C.1.2.2.2.2 _ tw_1_19) (C.1.2.2.2.2 _ tw_2_62) (by rw [hR1]; exact Nat.le_of_ble_eq_true rfl) (by rw [hR2]; exact Nat.le_of_ble_eq_true rfl) (by rw [hR3]; exact Nat.le_of_ble_eq_true rfl) (by rw [hR4]; exact Nat.le_of_ble_eq_true rfl) dX7_leftByLog_31 ?_
  refine lv_topi (fun x7 ex7 => ?_)
  exact g_iretX C hQ hW hS ⟨rfl, k2, hk2, rfl, (by subst_vars; first | rfl | (simp only [lftC]; rfl))⟩ rfl (Nat.le_of_ble_eq_true rfl) (Nat.le_of_ble_eq_true rfl) dX7_leftByLog_34

set_option maxHeartbeats 4000000 in
set_option maxRecDepth 100000 in
theorem c_X7_circuit (l : Launch) (X : GX) (L : List ro) (ad : ro → Nat) (st0 : ro → va_E) (ci : Nat → Nat → Int32) (ca : Nat → Nat → Nat → Int32) (cr : Nat → Nat → Nat) (n w tot nt : Nat) (kp nx : Nat → Nat) (hV : cV L ci ca cr n w tot nt kp nx) (hl0 : l.stackTraces = false) (a : Int32) : gXi l yX7_circuit cX7_circuit 2 (some .int) 7 103 10 300 X [.ref (ad (1, 0)), .int a] L ad (cSt X ad st0 ci ca cr) (fun v u => u = (L, ad, cSt X ad st0 ci ca cr) ∧ ∃ k, k < 4 ∧ a = nI k ∧ v = crcC (ci 34 k) (nI w) (ci 35 k)) (fun E u => u = (L, ad, cSt X ad st0 ci ca cr) ∧ E = "java/lang/IndexOutOfBoundsException" ∧ ¬ vp_in a (4)) := by
  intro sz
  refine gX_of2 (Qc := fun A => va_Qi _ (gB X A) A) (XC := fun A => gXC X A _) (by decide) (Nat.le_of_ble_eq_true rfl) ?_ sz
  intro p e s m args below meth c A R Q hR hQ hnx C hW hS ls hl
  obtain ⟨hR1, hR2, hR3, hR4⟩ := hR
  have hx := C.1.1
  have hb := C.1.2.1
  have hml := C.1.2.2.1
  have hl : lv_has ls 2 [(0, .ref (ad (1, 0))), (1, .int a)] := hl
  obtain ⟨vR, vA, vN, vq, vp, vt, vQ, vP, vC, vX, vT, vW, vG, vS⟩ := id hV
  obtain ⟨vT1, vT2, vT3⟩ := vT
  obtain ⟨vW1, vW2⟩ := vW
  obtain ⟨vG1, vG2, vG3⟩ := vG
  obtain ⟨vN1, vN2⟩ := vN
  refine lv_aload_n hx hb dX7_circuit_0 rfl (lv_at hl 0 rfl) ?_
  refine lv_iload_n hx hb dX7_circuit_1 rfl (lv_at hl 1 rfl) ?_
  refine g_callXq (r := (1, 0)) (T := TX7) (N := 7) (k2 := 1) (As := [.int a]) (rest := []) C hnx hQ (c_X7_carrierAt l X L ad st0 ci ca cr n w tot nt kp nx hV hl0 a) (fun E u h => h) tw_4_84 tw_4_86 tw_0_13 tw_1_1 tw_4_87 (by decide +kernel) ⟨by rw [hR1]; exact Nat.le_of_ble_eq_true rfl, by rw [hR2]; exact Nat.le_of_ble_eq_true rfl⟩ hW hS (hV.r (by decide)) rfl rfl rfl hl.1 rfl (Nat.le_of_ble_eq_true rfl) dX7_circuit_2 ⟨by rw [hR3]; exact Nat.le_of_ble_eq_true rfl, by rw [hR4]; exact Nat.le_of_ble_eq_true rfl⟩ ⟨Nat.le_of_ble_eq_true rfl, Nat.le_of_ble_eq_true rfl⟩ (fun v1 L9 ad9 st9 H locs hp hW hS => ?_)
  obtain ⟨z0, k2, hk2, hak2, hv9⟩ := hp
  cases z0
  subst hv9
  refine lv_topV (y := .ref (ad (30, k2))) rfl ?_
  subst hak2
  refine lv_aload_n hx hb dX7_circuit_5 rfl (lv_at hl 0 rfl) ?_
  refine g_get (r := (1, 0)) (Cn := RX7) (T := TX7) (N := 7) (ci := 10) (v := .int (ci 1 0)) C tinX7 hW (hV.r (by decide)) rfl rfl 6 (by decide) tw_1_212 (fun _ h9 => h9) rfl dX7_circuit_6 ?_
  refine lv_topE (y := nI w) (by show ci 1 0 = nI w; exact hV.2.2.2.2.2.2.2.2.2.2.2.1.1) ?_
  refine g_callVi (r := (30, k2)) (T := TX1) (N := 7) (k2 := 1) (As := [.int (nI w)]) (rest := []) C (c_X1_circuitAt l X L ad st0 ci ca cr k2 (hV.carr (by first | omega | exact (hV.pc (by omega)).2)) (nI w)) tw_5_15 tw_5_16 tw_5_17 tw_1_8 tw_5_18 (by decide +kernel) ⟨by rw [hR1]; exact Nat.le_of_ble_eq_true rfl, by rw [hR2]; exact Nat.le_of_ble_eq_true rfl⟩ hW hS (hV.carr (by first | omega | exact (hV.pc (by omega)).2)) rfl rfl rfl hl.1 rfl (Nat.le_of_ble_eq_true rfl) dX7_circuit_9 ⟨by rw [hR3]; exact Nat.le_of_ble_eq_true rfl, by rw [hR4]; exact Nat.le_of_ble_eq_true rfl⟩ (fun x3 L9 ad9 st9 H locs hp hW hS => ?_)
  obtain ⟨ci9, ca9, cr9, z0, hp⟩ := hp
  cases z0
  obtain ⟨z1, z2, z3, h4⟩ := hp
  rw [z1, z2, z3] at hW
  exact g_iretX C hQ hW hS ⟨rfl, k2, hk2, rfl, (by subst_vars; first | rfl | (simp only [lftC]; rfl))⟩ rfl (Nat.le_of_ble_eq_true rfl) (Nat.le_of_ble_eq_true rfl) dX7_circuit_12

set_option maxHeartbeats 4000000 in
set_option maxRecDepth 100000 in
theorem c_X7_tries (l : Launch) (X : GX) (L : List ro) (ad : ro → Nat) (st0 : ro → va_E) (ci : Nat → Nat → Int32) (ca : Nat → Nat → Nat → Int32) (cr : Nat → Nat → Nat) (n w tot nt : Nat) (kp nx : Nat → Nat) (hV : cV L ci ca cr n w tot nt kp nx) (hl0 : l.stackTraces = false) (a : Int32) : gXi l yX7_tries cX7_tries 2 (some .int) 7 103 10 300 X [.ref (ad (1, 0)), .int a] L ad (cSt X ad st0 ci ca cr) (fun v u => u = (L, ad, cSt X ad st0 ci ca cr) ∧ ∃ k, k < 4 ∧ a = nI k ∧ v = ci 32 k) (fun E u => u = (L, ad, cSt X ad st0 ci ca cr) ∧ E = "java/lang/IndexOutOfBoundsException" ∧ ¬ vp_in a (4)) := by
  intro sz
  refine gX_of2 (Qc := fun A => va_Qi _ (gB X A) A) (XC := fun A => gXC X A _) (by decide) (Nat.le_of_ble_eq_true rfl) ?_ sz
  intro p e s m args below meth c A R Q hR hQ hnx C hW hS ls hl
  obtain ⟨hR1, hR2, hR3, hR4⟩ := hR
  have hx := C.1.1
  have hb := C.1.2.1
  have hml := C.1.2.2.1
  have hl : lv_has ls 2 [(0, .ref (ad (1, 0))), (1, .int a)] := hl
  obtain ⟨vR, vA, vN, vq, vp, vt, vQ, vP, vC, vX, vT, vW, vG, vS⟩ := id hV
  obtain ⟨vT1, vT2, vT3⟩ := vT
  obtain ⟨vW1, vW2⟩ := vW
  obtain ⟨vG1, vG2, vG3⟩ := vG
  obtain ⟨vN1, vN2⟩ := vN
  refine lv_aload_n hx hb dX7_tries_0 rfl (lv_at hl 0 rfl) ?_
  refine lv_iload_n hx hb dX7_tries_1 rfl (lv_at hl 1 rfl) ?_
  refine g_callXq (r := (1, 0)) (T := TX7) (N := 7) (k2 := 1) (As := [.int a]) (rest := []) C hnx hQ (c_X7_carrierAt l X L ad st0 ci ca cr n w tot nt kp nx hV hl0 a) (fun E u h => h) tw_4_84 tw_4_86 tw_0_13 tw_1_1 tw_4_87 (by decide +kernel) ⟨by rw [hR1]; exact Nat.le_of_ble_eq_true rfl, by rw [hR2]; exact Nat.le_of_ble_eq_true rfl⟩ hW hS (hV.r (by decide)) rfl rfl rfl hl.1 rfl (Nat.le_of_ble_eq_true rfl) dX7_tries_2 ⟨by rw [hR3]; exact Nat.le_of_ble_eq_true rfl, by rw [hR4]; exact Nat.le_of_ble_eq_true rfl⟩ ⟨Nat.le_of_ble_eq_true rfl, Nat.le_of_ble_eq_true rfl⟩ (fun v1 L9 ad9 st9 H locs hp hW hS => ?_)
  obtain ⟨z0, k2, hk2, hak2, hv9⟩ := hp
  cases z0
  subst hv9
  refine lv_topV (y := .ref (ad (30, k2))) rfl ?_
  subst hak2
  refine g_get (r := (30, k2)) (Cn := RX1) (T := TX1) (N := 7) (ci := 4) (v := .int (ci 32 k2)) C tinX1 hW (hV.carr (by first | omega | exact (hV.pc (by omega)).2)) rfl rfl 2 (by decide) tw_1_185 (fun _ h9 => h9) rfl dX7_tries_5 ?_
  exact g_iretX C hQ hW hS ⟨rfl, k2, hk2, rfl, (by subst_vars; first | rfl | (simp only [lftC]; rfl))⟩ rfl (Nat.le_of_ble_eq_true rfl) (Nat.le_of_ble_eq_true rfl) dX7_tries_8

set_option maxHeartbeats 4000000 in
set_option maxRecDepth 100000 in
theorem c_X7_state (l : Launch) (X : GX) (L : List ro) (ad : ro → Nat) (st0 : ro → va_E) (ci : Nat → Nat → Int32) (ca : Nat → Nat → Nat → Int32) (cr : Nat → Nat → Nat) (n w tot nt : Nat) (kp nx : Nat → Nat) (hV : cV L ci ca cr n w tot nt kp nx) (hl0 : l.stackTraces = false) (a : Int32) : gXi l yX7_state cX7_state 2 (some .int) 7 103 10 300 X [.ref (ad (1, 0)), .int a] L ad (cSt X ad st0 ci ca cr) (fun v u => u = (L, ad, cSt X ad st0 ci ca cr) ∧ ∃ k, k < cr 13 1 ∧ a = nI k ∧ v = ci 52 k) (fun E u => u = (L, ad, cSt X ad st0 ci ca cr) ∧ E = "java/lang/IndexOutOfBoundsException" ∧ ¬ vp_in a (cr 13 1)) := by
  intro sz
  refine gX_of2 (Qc := fun A => va_Qi _ (gB X A) A) (XC := fun A => gXC X A _) (by decide) (Nat.le_of_ble_eq_true rfl) ?_ sz
  intro p e s m args below meth c A R Q hR hQ hnx C hW hS ls hl
  obtain ⟨hR1, hR2, hR3, hR4⟩ := hR
  have hx := C.1.1
  have hb := C.1.2.1
  have hml := C.1.2.2.1
  have hl : lv_has ls 2 [(0, .ref (ad (1, 0))), (1, .int a)] := hl
  obtain ⟨vR, vA, vN, vq, vp, vt, vQ, vP, vC, vX, vT, vW, vG, vS⟩ := id hV
  obtain ⟨vT1, vT2, vT3⟩ := vT
  obtain ⟨vW1, vW2⟩ := vW
  obtain ⟨vG1, vG2, vG3⟩ := vG
  obtain ⟨vN1, vN2⟩ := vN
  refine lv_aload_n hx hb dX7_state_0 rfl (lv_at hl 0 rfl) ?_
  refine lv_iload_n hx hb dX7_state_1 rfl (lv_at hl 1 rfl) ?_
  refine g_callXq (r := (1, 0)) (T := TX7) (N := 7) (k2 := 1) (As := [.int a]) (rest := []) C hnx hQ (c_X7_parcelAt l X L ad st0 ci ca cr n w tot nt kp nx hV hl0 a) (fun E u h => h) tw_5_130 tw_5_132 tw_0_22 tw_1_1 tw_5_133 (by decide +kernel) ⟨by rw [hR1]; exact Nat.le_of_ble_eq_true rfl, by rw [hR2]; exact Nat.le_of_ble_eq_true rfl⟩ hW hS (hV.r (by decide)) rfl rfl rfl hl.1 rfl (Nat.le_of_ble_eq_true rfl) dX7_state_2 ⟨by rw [hR3]; exact Nat.le_of_ble_eq_true rfl, by rw [hR4]; exact Nat.le_of_ble_eq_true rfl⟩ ⟨Nat.le_of_ble_eq_true rfl, Nat.le_of_ble_eq_true rfl⟩ (fun v1 L9 ad9 st9 H locs hp hW hS => ?_)
  obtain ⟨z0, k2, hk2, hak2, hv9⟩ := hp
  cases z0
  subst hv9
  refine lv_topV (y := .ref (ad (50, k2))) rfl ?_
  subst hak2
  refine g_get (r := (50, k2)) (Cn := RX2) (T := TX2) (N := 4) (ci := 5) (v := .int (ci 52 k2)) C tinX2 hW (hV.pc (by first | omega | exact (hV.pc (by omega)).2)).1 rfl rfl 3 (by decide) tw_5_113 (fun _ h9 => h9) rfl dX7_state_5 ?_
  exact g_iretX C hQ hW hS ⟨rfl, k2, hk2, rfl, (by subst_vars; first | rfl | (simp only [lftC]; rfl))⟩ rfl (Nat.le_of_ble_eq_true rfl) (Nat.le_of_ble_eq_true rfl) dX7_state_8

set_option maxHeartbeats 4000000 in
set_option maxRecDepth 100000 in
theorem c_X7_cost (l : Launch) (X : GX) (L : List ro) (ad : ro → Nat) (st0 : ro → va_E) (ci : Nat → Nat → Int32) (ca : Nat → Nat → Nat → Int32) (cr : Nat → Nat → Nat) (n w tot nt : Nat) (kp nx : Nat → Nat) (hV : cV L ci ca cr n w tot nt kp nx) (hl0 : l.stackTraces = false) (a : Int32) : gXi l yX7_cost cX7_cost 2 (some .int) 7 103 10 300 X [.ref (ad (1, 0)), .int a] L ad (cSt X ad st0 ci ca cr) (fun v u => u = (L, ad, cSt X ad st0 ci ca cr) ∧ ∃ k, k < cr 13 1 ∧ a = nI k ∧ v = ci 51 k) (fun E u => u = (L, ad, cSt X ad st0 ci ca cr) ∧ E = "java/lang/IndexOutOfBoundsException" ∧ ¬ vp_in a (cr 13 1)) := by
  intro sz
  refine gX_of2 (Qc := fun A => va_Qi _ (gB X A) A) (XC := fun A => gXC X A _) (by decide) (Nat.le_of_ble_eq_true rfl) ?_ sz
  intro p e s m args below meth c A R Q hR hQ hnx C hW hS ls hl
  obtain ⟨hR1, hR2, hR3, hR4⟩ := hR
  have hx := C.1.1
  have hb := C.1.2.1
  have hml := C.1.2.2.1
  have hl : lv_has ls 2 [(0, .ref (ad (1, 0))), (1, .int a)] := hl
  obtain ⟨vR, vA, vN, vq, vp, vt, vQ, vP, vC, vX, vT, vW, vG, vS⟩ := id hV
  obtain ⟨vT1, vT2, vT3⟩ := vT
  obtain ⟨vW1, vW2⟩ := vW
  obtain ⟨vG1, vG2, vG3⟩ := vG
  obtain ⟨vN1, vN2⟩ := vN
  refine lv_aload_n hx hb dX7_cost_0 rfl (lv_at hl 0 rfl) ?_
  refine lv_iload_n hx hb dX7_cost_1 rfl (lv_at hl 1 rfl) ?_
  refine g_callXq (r := (1, 0)) (T := TX7) (N := 7) (k2 := 1) (As := [.int a]) (rest := []) C hnx hQ (c_X7_parcelAt l X L ad st0 ci ca cr n w tot nt kp nx hV hl0 a) (fun E u h => h) tw_5_130 tw_5_132 tw_0_22 tw_1_1 tw_5_133 (by decide +kernel) ⟨by rw [hR1]; exact Nat.le_of_ble_eq_true rfl, by rw [hR2]; exact Nat.le_of_ble_eq_true rfl⟩ hW hS (hV.r (by decide)) rfl rfl rfl hl.1 rfl (Nat.le_of_ble_eq_true rfl) dX7_cost_2 ⟨by rw [hR3]; exact Nat.le_of_ble_eq_true rfl, by rw [hR4]; exact Nat.le_of_ble_eq_true rfl⟩ ⟨Nat.le_of_ble_eq_true rfl, Nat.le_of_ble_eq_true rfl⟩ (fun v1 L9 ad9 st9 H locs hp hW hS => ?_)
  obtain ⟨z0, k2, hk2, hak2, hv9⟩ := hp
  cases z0
  subst hv9
  refine lv_topV (y := .ref (ad (50, k2))) rfl ?_
  subst hak2
  refine g_get (r := (50, k2)) (Cn := RX2) (T := TX2) (N := 4) (ci := 5) (v := .int (ci 51 k2)) C tinX2 hW (hV.pc (by first | omega | exact (hV.pc (by omega)).2)).1 rfl rfl 2 (by decide) tw_5_111 (fun _ h9 => h9) rfl dX7_cost_5 ?_
  exact g_iretX C hQ hW hS ⟨rfl, k2, hk2, rfl, (by subst_vars; first | rfl | (simp only [lftC]; rfl))⟩ rfl (Nat.le_of_ble_eq_true rfl) (Nat.le_of_ble_eq_true rfl) dX7_cost_8

set_option maxHeartbeats 4000000 in
set_option maxRecDepth 100000 in
theorem c_X7_billed (l : Launch) (X : GX) (L : List ro) (ad : ro → Nat) (st0 : ro → va_E) (ci : Nat → Nat → Int32) (ca : Nat → Nat → Nat → Int32) (cr : Nat → Nat → Nat) (n w tot nt : Nat) (kp nx : Nat → Nat) (hV : cV L ci ca cr n w tot nt kp nx) (hl0 : l.stackTraces = false) (a : Int32) : gXi l yX7_billed cX7_billed 2 (some .int) 7 103 10 300 X [.ref (ad (1, 0)), .int a] L ad (cSt X ad st0 ci ca cr) (fun v u => u = (L, ad, cSt X ad st0 ci ca cr) ∧ ∃ k, k < 6 ∧ a = nI k ∧ v = ci 23 k) (fun E u => u = (L, ad, cSt X ad st0 ci ca cr) ∧ E = "java/lang/IndexOutOfBoundsException" ∧ ¬ vp_in a (6)) := by
  intro sz
  refine gX_of2 (Qc := fun A => va_Qi _ (gB X A) A) (XC := fun A => gXC X A _) (by decide) (Nat.le_of_ble_eq_true rfl) ?_ sz
  intro p e s m args below meth c A R Q hR hQ hnx C hW hS ls hl
  obtain ⟨hR1, hR2, hR3, hR4⟩ := hR
  have hx := C.1.1
  have hb := C.1.2.1
  have hml := C.1.2.2.1
  have hl : lv_has ls 2 [(0, .ref (ad (1, 0))), (1, .int a)] := hl
  obtain ⟨vR, vA, vN, vq, vp, vt, vQ, vP, vC, vX, vT, vW, vG, vS⟩ := id hV
  obtain ⟨vT1, vT2, vT3⟩ := vT
  obtain ⟨vW1, vW2⟩ := vW
  obtain ⟨vG1, vG2, vG3⟩ := vG
  obtain ⟨vN1, vN2⟩ := vN
  refine lv_aload_n hx hb dX7_billed_0 rfl (lv_at hl 0 rfl) ?_
  refine lv_iload_n hx hb dX7_billed_1 rfl (lv_at hl 1 rfl) ?_
  refine g_callXq (r := (1, 0)) (T := TX7) (N := 7) (k2 := 1) (As := [.int a]) (rest := []) C hnx hQ (c_X7_shipperAt l X L ad st0 ci ca cr n w tot nt kp nx hV hl0 a) (fun E u h => h) tw_4_71 tw_4_73 tw_0_12 tw_1_1 tw_4_74 (by decide +kernel) ⟨by rw [hR1]; exact Nat.le_of_ble_eq_true rfl, by rw [hR2]; exact Nat.le_of_ble_eq_true rfl⟩ hW hS (hV.r (by decide)) rfl rfl rfl hl.1 rfl (Nat.le_of_ble_eq_true rfl) dX7_billed_2 ⟨by rw [hR3]; exact Nat.le_of_ble_eq_true rfl, by rw [hR4]; exact Nat.le_of_ble_eq_true rfl⟩ ⟨Nat.le_of_ble_eq_true rfl, Nat.le_of_ble_eq_true rfl⟩ (fun v1 L9 ad9 st9 H locs hp hW hS => ?_)
  obtain ⟨z0, k2, hk2, hak2, hv9⟩ := hp
  cases z0
  subst hv9
  refine lv_topV (y := .ref (ad (20, k2))) rfl ?_
  subst hak2
  refine g_get (r := (20, k2)) (Cn := RX5) (T := TX5) (N := 7) (ci := 8) (v := .int (ci 23 k2)) C tinX5 hW (hV.ship (by first | omega | exact (hV.pc (by omega)).2)).1 rfl rfl 3 (by decide) tw_1_136 (fun _ h9 => h9) rfl dX7_billed_5 ?_
  exact g_iretX C hQ hW hS ⟨rfl, k2, hk2, rfl, (by subst_vars; first | rfl | (simp only [lftC]; rfl))⟩ rfl (Nat.le_of_ble_eq_true rfl) (Nat.le_of_ble_eq_true rfl) dX7_billed_8

set_option maxHeartbeats 4000000 in
set_option maxRecDepth 100000 in
theorem c_X7_calls (l : Launch) (X : GX) (L : List ro) (ad : ro → Nat) (st0 : ro → va_E) (ci : Nat → Nat → Int32) (ca : Nat → Nat → Nat → Int32) (cr : Nat → Nat → Nat) (n w tot nt : Nat) (kp nx : Nat → Nat) (hV : cV L ci ca cr n w tot nt kp nx) : gMi l yX7_calls cX7_calls 1 (some .int) 0 0 10 300 X [.ref (ad (1, 0))] L ad (cSt X ad st0 ci ca cr) (fun v u => u = (L, ad, cSt X ad st0 ci ca cr) ∧ v = ci 5 0) := by
  intro sz
  refine gM_of2 (Qc := fun A => va_Qi _ (gB X A) A) (by decide) (Nat.le_of_ble_eq_true rfl) ?_ sz
  intro p e s m args below meth c A R Q hR hQ C hW hS ls hl
  obtain ⟨hR1, hR2, hR3, hR4⟩ := hR
  have hx := C.1.1
  have hb := C.1.2.1
  have hml := C.1.2.2.1
  have hl : lv_has ls 1 [(0, .ref (ad (1, 0)))] := hl
  obtain ⟨vR, vA, vN, vq, vp, vt, vQ, vP, vC, vX, vT, vW, vG, vS⟩ := id hV
  obtain ⟨vT1, vT2, vT3⟩ := vT
  obtain ⟨vW1, vW2⟩ := vW
  obtain ⟨vG1, vG2, vG3⟩ := vG
  obtain ⟨vN1, vN2⟩ := vN
  refine lv_aload_n hx hb dX7_calls_0 rfl (lv_at hl 0 rfl) ?_
  refine g_get (r := (1, 0)) (Cn := RX7) (T := TX7) (N := 7) (ci := 10) (v := .ref (ad (5, 0))) C tinX7 hW (hV.r (by decide)) rfl rfl 1 (by decide) tw_1_207 (fun _ h9 => h9) rfl dX7_calls_1 ?_
  refine g_get (r := (5, 0)) (Cn := RX0) (T := TX0) (N := 6) (ci := 3) (v := .int (ci 5 0)) C tinX0 hW (hV.r (by decide)) rfl rfl 0 (by decide) tw_1_74 (fun _ h9 => h9) rfl dX7_calls_4 ?_
  exact g_iret2 C hQ hW hS ⟨rfl, rfl⟩ rfl (Nat.le_of_ble_eq_true rfl) (Nat.le_of_ble_eq_true rfl) dX7_calls_7

set_option maxHeartbeats 4000000 in
set_option maxRecDepth 100000 in
theorem c_X7_wipe (l : Launch) (X : GX) (L : List ro) (ad : ro → Nat) (st0 : ro → va_E) (ci : Nat → Nat → Int32) (ca : Nat → Nat → Nat → Int32) (cr : Nat → Nat → Nat) (n w tot nt : Nat) (kp nx : Nat → Nat) (hV : cV L ci ca cr n w tot nt kp nx) : gMi l yX7_wipe cX7_wipe 1 (some .int) 1 21 10 300 X [.ref (ad (1, 0))] L ad (cSt X ad st0 ci ca cr) (fun v u => u = (L, ad, cSt X ad st0 (up2 ci 2 0 0) ca cr) ∧ v = nI n) := by
  intro sz
  refine gM_of2 (Qc := fun A => va_Qi _ (gB X A) A) (by decide) (Nat.le_of_ble_eq_true rfl) ?_ sz
  intro p e s m args below meth c A R Q hR hQ C hW hS ls hl
  obtain ⟨hR1, hR2, hR3, hR4⟩ := hR
  have hx := C.1.1
  have hb := C.1.2.1
  have hml := C.1.2.2.1
  have hl : lv_has ls 1 [(0, .ref (ad (1, 0)))] := hl
  obtain ⟨vR, vA, vN, vq, vp, vt, vQ, vP, vC, vX, vT, vW, vG, vS⟩ := id hV
  obtain ⟨vT1, vT2, vT3⟩ := vT
  obtain ⟨vW1, vW2⟩ := vW
  obtain ⟨vG1, vG2, vG3⟩ := vG
  obtain ⟨vN1, vN2⟩ := vN
  refine lv_aload_n hx hb dX7_wipe_0 rfl (lv_at hl 0 rfl) ?_
  refine g_get (r := (1, 0)) (Cn := RX7) (T := TX7) (N := 7) (ci := 10) (v := .ref (ad (2, 0))) C tinX7 hW (hV.r (by decide)) rfl rfl 0 (by decide) tw_1_206 (fun _ h9 => h9) rfl dX7_wipe_1 ?_
  refine g_callVi (r := (2, 0)) (T := TX4) (N := 5) (k2 := 0) (As := []) (rest := []) C (c_X4_empty l X L ad st0 ci ca cr (hV.r (by decide))) tw_1_232 tw_1_233 tw_1_234 tw_1_2 tw_1_235 (by decide +kernel) ⟨by rw [hR1]; exact Nat.le_of_ble_eq_true rfl, by rw [hR2]; exact Nat.le_of_ble_eq_true rfl⟩ hW hS (hV.r (by decide)) rfl rfl rfl hl.1 rfl (Nat.le_of_ble_eq_true rfl) dX7_wipe_4 ⟨by rw [hR3]; exact Nat.le_of_ble_eq_true rfl, by rw [hR4]; exact Nat.le_of_ble_eq_true rfl⟩ (fun x1 L9 ad9 st9 H locs hp hW hS => ?_)
  obtain ⟨ci9, ca9, cr9, z0, hp⟩ := hp
  cases z0
  obtain ⟨z1, z2, z3, h2⟩ := hp
  rw [z1, z2, z3] at hW
  exact g_iret2 C hQ hW hS ⟨rfl, by rw [h2]; exact vT1⟩ rfl (Nat.le_of_ble_eq_true rfl) (Nat.le_of_ble_eq_true rfl) dX7_wipe_7

