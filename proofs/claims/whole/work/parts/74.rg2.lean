set_option maxHeartbeats 4000000 in
set_option maxRecDepth 100000 in
theorem c_X7_pass (l : Launch) (X : GX) (L : List ro) (ad : ro → Nat) (st0 : ro → va_E) (ci : Nat → Nat → Int32) (ca : Nat → Nat → Nat → Int32) (cr : Nat → Nat → Nat) (n w tot nt : Nat) (kp nx : Nat → Nat) (hV : cV L ci ca cr n w tot nt kp nx) (hl0 : l.stackTraces = false) (a : Int32) : gXi l yX7_pass cX7_pass 2 (some .int) 6 82 10 300 X [.ref (ad (1, 0)), .int a] L ad (cSt X ad st0 ci ca cr) (fun v u => ∃ k, a = nI k ∧ 1 ≤ k ∧ k ≤ 500 ∧ w + k ≤ 20000 ∧ u = (L, ad, cSt X ad st0 (up2 ci 1 0 (nI (w + k))) ca cr) ∧ v = nI (w + k)) (fun E u => u = (L, ad, cSt X ad st0 ci ca cr) ∧ ((E = "java/lang/IllegalArgumentException" ∧ ¬ (1 ≤ a ∧ a ≤ 500)) ∨ (E = "java/lang/IllegalStateException" ∧ ∃ k, a = nI k ∧ 1 ≤ k ∧ k ≤ 500 ∧ 20000 < w + k))) := by
  intro sz
  refine gX_of2 (Qc := fun A => va_Qi _ (gB X A) A) (XC := fun A => gXC X A _) (by decide) (Nat.le_of_ble_eq_true rfl) ?_ sz
  intro p e s m args below meth c A R Q hR hQ hnx C hW hS ls hl
  obtain ⟨hR1, hR2, hR3, hR4⟩ := hR
  have hx := C.1.1
  have hb := C.1.2.1
  have hml := C.1.2.2.1
  have hl : lv_has ls 2 [(0, .ref (ad (1, 0))), (1, .int a)] := hl
  obtain ⟨vR, vA, vN, vq, vp, vt, vQ, vP, vC, vX, vT, vW, vG, vS⟩ := id hV
  obtain ⟨vT1, vT2, vT3⟩ := vT
  obtain ⟨vW1, vW2⟩ := vW
  obtain ⟨vG1, vG2, vG3⟩ := vG
  obtain ⟨vN1, vN2⟩ := vN
  refine lv_iload_n hx hb dX7_pass_0 rfl (lv_at hl 1 rfl) ?_
  refine lv_iconst (v := 1) hx hb dX7_pass_1 (by decide) ?_
  refine lv_sipush (v := 500) hx hb dX7_pass_2 (by decide) ?_
  refine g_callSp (k2 := 3) (As := [.int a, .int 1, .int 500]) (rest := []) C (c_X7_isWithin l X L ad _ a 1 500) tw_4_61 tw_2_160 tw_1_1 tw_2_161 (by decide +kernel) ⟨by rw [hR1]; exact Nat.le_of_ble_eq_true rfl, by rw [hR2]; exact Nat.le_of_ble_eq_true rfl⟩ hW hS rfl hl.1 rfl (Nat.le_of_ble_eq_true rfl) dX7_pass_5 ⟨by rw [hR3]; exact Nat.le_of_ble_eq_true rfl, by rw [hR4]; exact Nat.le_of_ble_eq_true rfl⟩ (fun v9 H locs hp hW hS => ?_)
  have h1 := hp
  rcases h1 with ⟨h1, e9⟩ | ⟨h1, e9⟩
  · subst e9
    refine lv_if_ne (tgt := 21) hx hb dX7_pass_8 (by decide) (fun _ => ?_) (fun c9 => absurd c9 (by decide))
    obtain ⟨k, hak, hk1, hk2⟩ := okv_rng (a := 1) (b := 500) rfl rfl (by decide) (by decide) h1.1 h1.2
    subst hak
    refine lv_aload_n hx hb dX7_pass_21 rfl (lv_at hl 0 rfl) ?_
    refine g_get (r := (1, 0)) (Cn := RX7) (T := TX7) (N := 7) (ci := 10) (v := .int (ci 1 0)) C tinX7 hW (hV.r (by decide)) rfl rfl 6 (by decide) tw_1_212 (fun _ h9 => h9) rfl dX7_pass_22 ?_
    refine lv_topE (y := nI w) (by show ci 1 0 = nI w; exact hV.2.2.2.2.2.2.2.2.2.2.2.1.1) ?_
    refine lv_iload_n hx hb dX7_pass_25 rfl (lv_at hl 1 rfl) ?_
    refine lv_iadd hx hb dX7_pass_26 ?_
    refine lv_topE (y := nI (w + k)) (nI_add _ _) ?_
    refine lv_sipush (v := 20000) hx hb dX7_pass_27 (by decide) ?_
    refine lv_icmp_le (tgt := 43) hx hb dX7_pass_30 (by decide) (fun c2 => ?_) (fun c2 => ?_)
    · have c2n := q_le (a := (w + k)) (b := 20000) (by omega) (by omega) c2
      refine lv_aload_n hx hb dX7_pass_43 rfl (lv_at hl 0 rfl) ?_
      refine lv_dup hx hb dX7_pass_44 rfl ?_
      refine g_get (r := (1, 0)) (Cn := RX7) (T := TX7) (N := 7) (ci := 10) (v := .int (ci 1 0)) C tinX7 hW (hV.r (by decide)) rfl rfl 6 (by decide) tw_1_212 (fun _ h9 => h9) rfl dX7_pass_45 ?_
      refine lv_topE (y := nI w) (by show ci 1 0 = nI w; exact hV.2.2.2.2.2.2.2.2.2.2.2.1.1) ?_
      refine lv_iload_n hx hb dX7_pass_48 rfl (lv_at hl 1 rfl) ?_
      refine lv_iadd hx hb dX7_pass_49 ?_
      refine lv_topE (y := nI (w + k)) (nI_add _ _) ?_
      refine g_put (r := (1, 0)) (Cn := RX7) (T := TX7) (N := 7) (ci := 10) (ty0 := tyX7) C tinX7 tyX7_ok nmX7 hW hS (hV.r (by decide)) rfl rfl 6 (by decide) tw_1_212 (fun _ h9 => h9) rfl rfl rfl (Nat.le_of_ble_eq_true rfl) (cU_1_6 0 _ _ rfl) dX7_pass_50 (fun H locs hW hS => ?_)
      refine lv_aload_n hx hb dX7_pass_53 rfl (lv_at hl 0 rfl) ?_
      refine g_get (r := (1, 0)) (Cn := RX7) (T := TX7) (N := 7) (ci := 10) (v := .int ((up2 ci 1 0 (nI (w + k))) 1 0)) C tinX7 hW (hV.r (by decide)) rfl rfl 6 (by decide) tw_1_212 (fun _ h9 => h9) rfl dX7_pass_54 ?_
      refine lv_topE (y := nI (w + k)) (by show (up2 ci 1 0 (nI (w + k))) 1 0 = nI (w + k); exact up2_at) ?_
      exact g_iretX C hQ hW hS ⟨k, rfl, hk1, hk2, by omega, rfl, rfl⟩ rfl (Nat.le_of_ble_eq_true rfl) (Nat.le_of_ble_eq_true rfl) dX7_pass_57
    · have c2n := q_nle (a := (w + k)) (b := 20000) (by omega) (by omega) c2
      exact g_throw (cls := "java/lang/IllegalStateException") (text := "behind the last minute") (sa := 105) C hl0 hnx hQ hW hS hl.1 gE_IS (by decide +kernel) dX7_pass_33 dX7_pass_36 dX7_pass_37 dX7_pass_39 dX7_pass_42 (by rw [hR1]; exact Nat.le_of_ble_eq_true rfl) (by rw [hR2]; exact Nat.le_of_ble_eq_true rfl) (by rw [hR3]; exact Nat.le_of_ble_eq_true rfl) (by rw [hR4]; exact Nat.le_of_ble_eq_true rfl) ⟨rfl, Or.inr ⟨rfl, k, rfl, hk1, hk2, by omega⟩⟩ (Nat.le_of_ble_eq_true rfl) (Nat.le_of_ble_eq_true rfl)
  · subst e9
    refine lv_if_ne (tgt := 21) hx hb dX7_pass_8 (by decide) (fun c9 => absurd c9 (by decide)) (fun _ => ?_)
    exact g_throw (cls := "java/lang/IllegalArgumentException") (text := "minutes out of range") (sa := 104) C hl0 hnx hQ hW hS hl.1 gE_IA (by decide +kernel) dX7_pass_11 dX7_pass_14 dX7_pass_15 dX7_pass_17 dX7_pass_20 (by rw [hR1]; exact Nat.le_of_ble_eq_true rfl) (by rw [hR2]; exact Nat.le_of_ble_eq_true rfl) (by rw [hR3]; exact Nat.le_of_ble_eq_true rfl) (by rw [hR4]; exact Nat.le_of_ble_eq_true rfl) ⟨rfl, Or.inl ⟨rfl, h1⟩⟩ (Nat.le_of_ble_eq_true rfl) (Nat.le_of_ble_eq_true rfl)

set_option maxHeartbeats 4000000 in
set_option maxRecDepth 100000 in
theorem c_X7_quota (l : Launch) (X : GX) (L : List ro) (ad : ro → Nat) (st0 : ro → va_E) (ci : Nat → Nat → Int32) (ca : Nat → Nat → Nat → Int32) (cr : Nat → Nat → Nat) (n w tot nt : Nat) (kp nx : Nat → Nat) (hV : cV L ci ca cr n w tot nt kp nx) (hl0 : l.stackTraces = false) (a b c8 : Int32) : gXi l yX7_quota cX7_quota 6 (some .int) 7 103 10 300 X [.ref (ad (1, 0)), .int a, .int b, .int c8] L ad (cSt X ad st0 ci ca cr) (fun v u => ∃ k, k < 6 ∧ a = nI k ∧ ((0 ≤ b ∧ b ≤ 50) ∧ (1 ≤ c8 ∧ c8 ≤ 1440)) ∧ u = (L, ad, cSt X ad st0 (up2 (up2 ci 20 k b) 21 k c8) ca cr) ∧ v = ci 20 k) (fun E u => u = (L, ad, cSt X ad st0 ci ca cr) ∧ ((E = "java/lang/IndexOutOfBoundsException" ∧ ¬ vp_in a (6)) ∨ (E = "java/lang/IllegalArgumentException" ∧ ∃ k, k < 6 ∧ a = nI k ∧ ¬ ((0 ≤ b ∧ b ≤ 50) ∧ (1 ≤ c8 ∧ c8 ≤ 1440))))) := by
  intro sz
  refine gX_of2 (Qc := fun A => va_Qi _ (gB X A) A) (XC := fun A => gXC X A _) (by decide) (Nat.le_of_ble_eq_true rfl) ?_ sz
  intro p e s m args below meth c A R Q hR hQ hnx C hW hS ls hl
  obtain ⟨hR1, hR2, hR3, hR4⟩ := hR
  have hx := C.1.1
  have hb := C.1.2.1
  have hml := C.1.2.2.1
  have hl : lv_has ls 6 [(0, .ref (ad (1, 0))), (1, .int a), (2, .int b), (3, .int c8)] := hl
  obtain ⟨vR, vA, vN, vq, vp, vt, vQ, vP, vC, vX, vT, vW, vG, vS⟩ := id hV
  obtain ⟨vT1, vT2, vT3⟩ := vT
  obtain ⟨vW1, vW2⟩ := vW
  obtain ⟨vG1, vG2, vG3⟩ := vG
  obtain ⟨vN1, vN2⟩ := vN
  refine lv_aload_n hx hb dX7_quota_0 rfl (lv_at hl 0 rfl) ?_
  refine lv_iload_n hx hb dX7_quota_1 rfl (lv_at hl 1 rfl) ?_
  refine g_callXq (r := (1, 0)) (T := TX7) (N := 7) (k2 := 1) (As := [.int a]) (rest := []) C hnx hQ (c_X7_shipperAt l X L ad st0 ci ca cr n w tot nt kp nx hV hl0 a) (fun E u h => ⟨h.1, Or.inl h.2⟩) tw_4_71 tw_4_73 tw_0_12 tw_1_1 tw_4_74 (by decide +kernel) ⟨by rw [hR1]; exact Nat.le_of_ble_eq_true rfl, by rw [hR2]; exact Nat.le_of_ble_eq_true rfl⟩ hW hS (hV.r (by decide)) rfl rfl rfl hl.1 rfl (Nat.le_of_ble_eq_true rfl) dX7_quota_2 ⟨by rw [hR3]; exact Nat.le_of_ble_eq_true rfl, by rw [hR4]; exact Nat.le_of_ble_eq_true rfl⟩ ⟨Nat.le_of_ble_eq_true rfl, Nat.le_of_ble_eq_true rfl⟩ (fun v1 L9 ad9 st9 H locs hp hW hS => ?_)
  obtain ⟨z0, k2, hk2, hak2, hv9⟩ := hp
  cases z0
  subst hv9
  refine lv_topV (y := .ref (ad (20, k2))) rfl ?_
  subst hak2
  refine lv_astore (lv' := [(4, .ref (ad (20, k2))), (0, .ref (ad (1, 0))), (1, .int (nI k2)), (2, .int b), (3, .int c8)]) hx hb dX7_quota_5 hl (by decide) rfl (fun ls hl => ?_)
  refine lv_iload_n hx hb dX7_quota_7 rfl (lv_at hl 3 rfl) ?_
  refine lv_iconst (v := 0) hx hb dX7_quota_8 (by decide) ?_
  refine lv_bipush (v := 50) hx hb dX7_quota_9 (by decide) ?_
  refine g_callSp (k2 := 3) (As := [.int b, .int 0, .int 50]) (rest := []) C (c_X7_isWithin l X L ad _ b 0 50) tw_4_61 tw_2_160 tw_1_1 tw_2_161 (by decide +kernel) ⟨by rw [hR1]; exact Nat.le_of_ble_eq_true rfl, by rw [hR2]; exact Nat.le_of_ble_eq_true rfl⟩ hW hS rfl hl.1 rfl (Nat.le_of_ble_eq_true rfl) dX7_quota_11 ⟨by rw [hR3]; exact Nat.le_of_ble_eq_true rfl, by rw [hR4]; exact Nat.le_of_ble_eq_true rfl⟩ (fun v9 H locs hp hW hS => ?_)
  have h3 := hp
  rcases h3 with ⟨h3, e9⟩ | ⟨h3, e9⟩
  · subst e9
    refine lv_if_eq (tgt := 28) hx hb dX7_quota_14 (by decide) (fun c9 => absurd c9 (by decide)) (fun _ => ?_)
    refine lv_iload_n hx hb dX7_quota_17 rfl (lv_at hl 4 rfl) ?_
    refine lv_iconst (v := 1) hx hb dX7_quota_18 (by decide) ?_
    refine lv_sipush (v := 1440) hx hb dX7_quota_19 (by decide) ?_
    refine g_callSp (k2 := 3) (As := [.int c8, .int 1, .int 1440]) (rest := []) C (c_X7_isWithin l X L ad _ c8 1 1440) tw_4_61 tw_2_160 tw_1_1 tw_2_161 (by decide +kernel) ⟨by rw [hR1]; exact Nat.le_of_ble_eq_true rfl, by rw [hR2]; exact Nat.le_of_ble_eq_true rfl⟩ hW hS rfl hl.1 rfl (Nat.le_of_ble_eq_true rfl) dX7_quota_22 ⟨by rw [hR3]; exact Nat.le_of_ble_eq_true rfl, by rw [hR4]; exact Nat.le_of_ble_eq_true rfl⟩ (fun v9 H locs hp hW hS => ?_)
    have h4 := hp
    rcases h4 with ⟨h4, e9⟩ | ⟨h4, e9⟩
    · subst e9
      refine lv_if_ne (tgt := 38) hx hb dX7_quota_25 (by decide) (fun _ => ?_) (fun c9 => absurd c9 (by decide))
      refine lv_aload hx hb dX7_quota_38 (lv_at hl 0 rfl) ?_
      refine g_get (r := (20, k2)) (Cn := RX5) (T := TX5) (N := 7) (ci := 8) (v := .int (ci 20 k2)) C tinX5 hW (hV.ship (by first | omega | exact (hV.pc (by omega)).2)).1 rfl rfl 0 (by decide) tw_1_130 (fun _ h9 => h9) rfl dX7_quota_40 ?_
      refine lv_istore (lv' := [(5, .int (ci 20 k2)), (4, .ref (ad (20, k2))), (0, .ref (ad (1, 0))), (1, .int (nI k2)), (2, .int b), (3, .int c8)]) hx hb dX7_quota_43 hl (by decide) rfl (fun ls hl => ?_)
      refine lv_aload hx hb dX7_quota_45 (lv_at hl 1 rfl) ?_
      refine lv_iload_n hx hb dX7_quota_47 rfl (lv_at hl 4 rfl) ?_
      refine g_put (r := (20, k2)) (Cn := RX5) (T := TX5) (N := 7) (ci := 8) (ty0 := tyX5) C tinX5 tyX5_ok nmX5 hW hS (hV.ship (by first | omega | exact (hV.pc (by omega)).2)).1 rfl rfl 0 (by decide) tw_1_130 (fun _ h9 => h9) rfl rfl rfl (Nat.le_of_ble_eq_true rfl) (cU_20_0 k2 _ _ rfl) dX7_quota_48 (fun H locs hW hS => ?_)
      refine lv_aload hx hb dX7_quota_51 (lv_at hl 1 rfl) ?_
      refine lv_iload_n hx hb dX7_quota_53 rfl (lv_at hl 5 rfl) ?_
      refine g_put (r := (20, k2)) (Cn := RX5) (T := TX5) (N := 7) (ci := 8) (ty0 := tyX5) C tinX5 tyX5_ok nmX5 hW hS (hV.ship (by first | omega | exact (hV.pc (by omega)).2)).1 rfl rfl 1 (by decide) tw_1_132 (fun _ h9 => h9) rfl rfl rfl (Nat.le_of_ble_eq_true rfl) (cU_20_1 k2 _ _ rfl) dX7_quota_54 (fun H locs hW hS => ?_)
      refine lv_iload hx hb dX7_quota_57 (lv_at hl 0 rfl) ?_
      exact g_iretX C hQ hW hS ⟨k2, hk2, rfl, ⟨h3, h4⟩, rfl, rfl⟩ rfl (Nat.le_of_ble_eq_true rfl) (Nat.le_of_ble_eq_true rfl) dX7_quota_59
    · subst e9
      refine lv_if_ne (tgt := 38) hx hb dX7_quota_25 (by decide) (fun c9 => absurd c9 (by decide)) (fun _ => ?_)
      exact g_throw (cls := "java/lang/IllegalArgumentException") (text := "calls or minutes out of range") (sa := 107) C hl0 hnx hQ hW hS hl.1 gE_IA (by decide +kernel) dX7_quota_28 dX7_quota_31 dX7_quota_32 dX7_quota_34 dX7_quota_37 (by rw [hR1]; exact Nat.le_of_ble_eq_true rfl) (by rw [hR2]; exact Nat.le_of_ble_eq_true rfl) (by rw [hR3]; exact Nat.le_of_ble_eq_true rfl) (by rw [hR4]; exact Nat.le_of_ble_eq_true rfl) ⟨rfl, Or.inr ⟨rfl, k2, hk2, rfl, fun q => h4 q.2⟩⟩ (Nat.le_of_ble_eq_true rfl) (Nat.le_of_ble_eq_true rfl)
  · subst e9
    refine lv_if_eq (tgt := 28) hx hb dX7_quota_14 (by decide) (fun _ => ?_) (fun c9 => absurd (by decide) c9)
    exact g_throw (cls := "java/lang/IllegalArgumentException") (text := "calls or minutes out of range") (sa := 107) C hl0 hnx hQ hW hS hl.1 gE_IA (by decide +kernel) dX7_quota_28 dX7_quota_31 dX7_quota_32 dX7_quota_34 dX7_quota_37 (by rw [hR1]; exact Nat.le_of_ble_eq_true rfl) (by rw [hR2]; exact Nat.le_of_ble_eq_true rfl) (by rw [hR3]; exact Nat.le_of_ble_eq_true rfl) (by rw [hR4]; exact Nat.le_of_ble_eq_true rfl) ⟨rfl, Or.inr ⟨rfl, k2, hk2, rfl, fun q => h3 q.1⟩⟩ (Nat.le_of_ble_eq_true rfl) (Nat.le_of_ble_eq_true rfl)

set_option maxHeartbeats 4000000 in
set_option maxRecDepth 100000 in
theorem c_X7_carrier (l : Launch) (X : GX) (L : List ro) (ad : ro → Nat) (st0 : ro → va_E) (ci : Nat → Nat → Int32) (ca : Nat → Nat → Nat → Int32) (cr : Nat → Nat → Nat) (n w tot nt : Nat) (kp nx : Nat → Nat) (hV : cV L ci ca cr n w tot nt kp nx) (hl0 : l.stackTraces = false) (a b c8 : Int32) (hb9 : narrow .boolean (.int b) = .int b) (hb8 : fits .boolean (.int b) = true) : gXi l yX7_carrier cX7_carrier 6 (some .int) 7 103 10 300 X [.ref (ad (1, 0)), .int a, .int b, .int c8] L ad (cSt X ad st0 ci ca cr) (fun v u => ∃ k, k < 4 ∧ a = nI k ∧ (0 ≤ c8 ∧ c8 ≤ 10) ∧ u = (L, ad, cSt X ad st0 (up2 (up2 ci 30 k b) 31 k c8) ca cr) ∧ v = ci 31 k) (fun E u => u = (L, ad, cSt X ad st0 ci ca cr) ∧ ((E = "java/lang/IndexOutOfBoundsException" ∧ ¬ vp_in a (4)) ∨ (E = "java/lang/IllegalArgumentException" ∧ ∃ k, k < 4 ∧ a = nI k ∧ ¬ (0 ≤ c8 ∧ c8 ≤ 10)))) := by
  intro sz
  refine gX_of2 (Qc := fun A => va_Qi _ (gB X A) A) (XC := fun A => gXC X A _) (by decide) (Nat.le_of_ble_eq_true rfl) ?_ sz
  intro p e s m args below meth c A R Q hR hQ hnx C hW hS ls hl
  obtain ⟨hR1, hR2, hR3, hR4⟩ := hR
  have hx := C.1.1
  have hb := C.1.2.1
  have hml := C.1.2.2.1
  have hl : lv_has ls 6 [(0, .ref (ad (1, 0))), (1, .int a), (2, .int b), (3, .int c8)] := hl
  obtain ⟨vR, vA, vN, vq, vp, vt, vQ, vP, vC, vX, vT, vW, vG, vS⟩ := id hV
  obtain ⟨vT1, vT2, vT3⟩ := vT
  obtain ⟨vW1, vW2⟩ := vW
  obtain ⟨vG1, vG2, vG3⟩ := vG
  obtain ⟨vN1, vN2⟩ := vN
  refine lv_aload_n hx hb dX7_carrier_0 rfl (lv_at hl 0 rfl) ?_
  refine lv_iload_n hx hb dX7_carrier_1 rfl (lv_at hl 1 rfl) ?_
  refine g_callXq (r := (1, 0)) (T := TX7) (N := 7) (k2 := 1) (As := [.int a]) (rest := []) C hnx hQ (c_X7_carrierAt l X L ad st0 ci ca cr n w tot nt kp nx hV hl0 a) (fun E u h => ⟨h.1, Or.inl h.2⟩) tw_4_84 tw_4_86 tw_0_13 tw_1_1 tw_4_87 (by decide +kernel) ⟨by rw [hR1]; exact Nat.le_of_ble_eq_true rfl, by rw [hR2]; exact Nat.le_of_ble_eq_true rfl⟩ hW hS (hV.r (by decide)) rfl rfl rfl hl.1 rfl (Nat.le_of_ble_eq_true rfl) dX7_carrier_2 ⟨by rw [hR3]; exact Nat.le_of_ble_eq_true rfl, by rw [hR4]; exact Nat.le_of_ble_eq_true rfl⟩ ⟨Nat.le_of_ble_eq_true rfl, Nat.le_of_ble_eq_true rfl⟩ (fun v1 L9 ad9 st9 H locs hp hW hS => ?_)
  obtain ⟨z0, k2, hk2, hak2, hv9⟩ := hp
  cases z0
  subst hv9
  refine lv_topV (y := .ref (ad (30, k2))) rfl ?_
  subst hak2
  refine lv_astore (lv' := [(4, .ref (ad (30, k2))), (0, .ref (ad (1, 0))), (1, .int (nI k2)), (2, .int b), (3, .int c8)]) hx hb dX7_carrier_5 hl (by decide) rfl (fun ls hl => ?_)
  refine lv_iload_n hx hb dX7_carrier_7 rfl (lv_at hl 4 rfl) ?_
  refine lv_iconst (v := 0) hx hb dX7_carrier_8 (by decide) ?_
  refine lv_bipush (v := 10) hx hb dX7_carrier_9 (by decide) ?_
  refine g_callSp (k2 := 3) (As := [.int c8, .int 0, .int 10]) (rest := []) C (c_X7_isWithin l X L ad _ c8 0 10) tw_4_61 tw_2_160 tw_1_1 tw_2_161 (by decide +kernel) ⟨by rw [hR1]; exact Nat.le_of_ble_eq_true rfl, by rw [hR2]; exact Nat.le_of_ble_eq_true rfl⟩ hW hS rfl hl.1 rfl (Nat.le_of_ble_eq_true rfl) dX7_carrier_11 ⟨by rw [hR3]; exact Nat.le_of_ble_eq_true rfl, by rw [hR4]; exact Nat.le_of_ble_eq_true rfl⟩ (fun v9 H locs hp hW hS => ?_)
  have h3 := hp
  rcases h3 with ⟨h3, e9⟩ | ⟨h3, e9⟩
  · subst e9
    refine lv_if_ne (tgt := 27) hx hb dX7_carrier_14 (by decide) (fun _ => ?_) (fun c9 => absurd c9 (by decide))
    refine lv_aload hx hb dX7_carrier_27 (lv_at hl 0 rfl) ?_
    refine g_get (r := (30, k2)) (Cn := RX1) (T := TX1) (N := 7) (ci := 4) (v := .int (ci 31 k2)) C tinX1 hW (hV.carr (by first | omega | exact (hV.pc (by omega)).2)) rfl rfl 1 (by decide) tw_1_183 (fun _ h9 => h9) rfl dX7_carrier_29 ?_
    refine lv_istore (lv' := [(5, .int (ci 31 k2)), (4, .ref (ad (30, k2))), (0, .ref (ad (1, 0))), (1, .int (nI k2)), (2, .int b), (3, .int c8)]) hx hb dX7_carrier_32 hl (by decide) rfl (fun ls hl => ?_)
    refine lv_aload hx hb dX7_carrier_34 (lv_at hl 1 rfl) ?_
    refine lv_iload_n hx hb dX7_carrier_36 rfl (lv_at hl 4 rfl) ?_
    refine g_put (r := (30, k2)) (Cn := RX1) (T := TX1) (N := 7) (ci := 4) (ty0 := tyX1) C tinX1 tyX1_ok nmX1 hW hS (hV.carr (by first | omega | exact (hV.pc (by omega)).2)) rfl rfl 0 (by decide) tw_1_181 (fun _ h9 => h9) rfl hb9 hb8 (Nat.le_of_ble_eq_true rfl) (cU_30_0 k2 _ _ rfl) dX7_carrier_37 (fun H locs hW hS => ?_)
    refine lv_aload hx hb dX7_carrier_40 (lv_at hl 1 rfl) ?_
    refine lv_iload_n hx hb dX7_carrier_42 rfl (lv_at hl 5 rfl) ?_
    refine g_put (r := (30, k2)) (Cn := RX1) (T := TX1) (N := 7) (ci := 4) (ty0 := tyX1) C tinX1 tyX1_ok nmX1 hW hS (hV.carr (by first | omega | exact (hV.pc (by omega)).2)) rfl rfl 1 (by decide) tw_1_183 (fun _ h9 => h9) rfl rfl rfl (Nat.le_of_ble_eq_true rfl) (cU_30_1 k2 _ _ rfl) dX7_carrier_43 (fun H locs hW hS => ?_)
    refine lv_iload hx hb dX7_carrier_46 (lv_at hl 0 rfl) ?_
    exact g_iretX C hQ hW hS ⟨k2, hk2, rfl, h3, rfl, rfl⟩ rfl (Nat.le_of_ble_eq_true rfl) (Nat.le_of_ble_eq_true rfl) dX7_carrier_48
  · subst e9
    refine lv_if_ne (tgt := 27) hx hb dX7_carrier_14 (by decide) (fun c9 => absurd c9 (by decide)) (fun _ => ?_)
    exact g_throw (cls := "java/lang/IllegalArgumentException") (text := "flaw out of range") (sa := 109) C hl0 hnx hQ hW hS hl.1 gE_IA (by decide +kernel) dX7_carrier_17 dX7_carrier_20 dX7_carrier_21 dX7_carrier_23 dX7_carrier_26 (by rw [hR1]; exact Nat.le_of_ble_eq_true rfl) (by rw [hR2]; exact Nat.le_of_ble_eq_true rfl) (by rw [hR3]; exact Nat.le_of_ble_eq_true rfl) (by rw [hR4]; exact Nat.le_of_ble_eq_true rfl) ⟨rfl, Or.inr ⟨rfl, k2, hk2, rfl, h3⟩⟩ (Nat.le_of_ble_eq_true rfl) (Nat.le_of_ble_eq_true rfl)

set_option maxHeartbeats 4000000 in
set_option maxRecDepth 100000 in
theorem c_X7_cancel (l : Launch) (X : GX) (L : List ro) (ad : ro → Nat) (st0 : ro → va_E) (ci : Nat → Nat → Int32) (ca : Nat → Nat → Nat → Int32) (cr : Nat → Nat → Nat) (n w tot nt : Nat) (kp nx : Nat → Nat) (hV : cV L ci ca cr n w tot nt kp nx) (hl0 : l.stackTraces = false) (a : Int32) : gXi l yX7_cancel cX7_cancel 3 (some .int) 7 103 10 300 X [.ref (ad (1, 0)), .int a] L ad (cSt X ad st0 ci ca cr) (fun v u => ∃ k, k < cr 13 1 ∧ a = nI k ∧ ¬ (¬ ci 52 k = 0 ∨ ci 50 k + 30 < nI w) ∧ u = (L, ad, cSt X ad st0 (up2 ci 52 k 1) ca cr) ∧ v = ci 51 k) (fun E u => u = (L, ad, cSt X ad st0 ci ca cr) ∧ ((E = "java/lang/IndexOutOfBoundsException" ∧ ¬ vp_in a (cr 13 1)) ∨ (E = "java/lang/IllegalStateException" ∧ ∃ k, k < cr 13 1 ∧ a = nI k ∧ (¬ ci 52 k = 0 ∨ ci 50 k + 30 < nI w)))) := by
  intro sz
  refine gX_of2 (Qc := fun A => va_Qi _ (gB X A) A) (XC := fun A => gXC X A _) (by decide) (Nat.le_of_ble_eq_true rfl) ?_ sz
  intro p e s m args below meth c A R Q hR hQ hnx C hW hS ls hl
  obtain ⟨hR1, hR2, hR3, hR4⟩ := hR
  have hx := C.1.1
  have hb := C.1.2.1
  have hml := C.1.2.2.1
  have hl : lv_has ls 3 [(0, .ref (ad (1, 0))), (1, .int a)] := hl
  obtain ⟨vR, vA, vN, vq, vp, vt, vQ, vP, vC, vX, vT, vW, vG, vS⟩ := id hV
  obtain ⟨vT1, vT2, vT3⟩ := vT
  obtain ⟨vW1, vW2⟩ := vW
  obtain ⟨vG1, vG2, vG3⟩ := vG
  obtain ⟨vN1, vN2⟩ := vN
  refine lv_aload_n hx hb dX7_cancel_0 rfl (lv_at hl 0 rfl) ?_
  refine lv_iload_n hx hb dX7_cancel_1 rfl (lv_at hl 1 rfl) ?_
  refine g_callXq (r := (1, 0)) (T := TX7) (N := 7) (k2 := 1) (As := [.int a]) (rest := []) C hnx hQ (c_X7_parcelAt l X L ad st0 ci ca cr n w tot nt kp nx hV hl0 a) (fun E u h => ⟨h.1, Or.inl h.2⟩) tw_5_130 tw_5_132 tw_0_22 tw_1_1 tw_5_133 (by decide +kernel) ⟨by rw [hR1]; exact Nat.le_of_ble_eq_true rfl, by rw [hR2]; exact Nat.le_of_ble_eq_true rfl⟩ hW hS (hV.r (by decide)) rfl rfl rfl hl.1 rfl (Nat.le_of_ble_eq_true rfl) dX7_cancel_2 ⟨by rw [hR3]; exact Nat.le_of_ble_eq_true rfl, by rw [hR4]; exact Nat.le_of_ble_eq_true rfl⟩ ⟨Nat.le_of_ble_eq_true rfl, Nat.le_of_ble_eq_true rfl⟩ (fun v1 L9 ad9 st9 H locs hp hW hS => ?_)
  obtain ⟨z0, k2, hk2, hak2, hv9⟩ := hp
  cases z0
  subst hv9
  refine lv_topV (y := .ref (ad (50, k2))) rfl ?_
  subst hak2
  refine lv_astore_n (lv' := [(2, .ref (ad (50, k2))), (0, .ref (ad (1, 0))), (1, .int (nI k2))]) hx hb dX7_cancel_5 rfl hl (by decide) rfl (fun ls hl => ?_)
  refine lv_aload_n hx hb dX7_cancel_6 rfl (lv_at hl 0 rfl) ?_
  refine g_get (r := (50, k2)) (Cn := RX2) (T := TX2) (N := 4) (ci := 5) (v := .int (ci 52 k2)) C tinX2 hW (hV.pc (by first | omega | exact (hV.pc (by omega)).2)).1 rfl rfl 3 (by decide) tw_5_113 (fun _ h9 => h9) rfl dX7_cancel_7 ?_
  refine lv_if_ne (tgt := 24) hx hb dX7_cancel_10 (by decide) (fun c3 => ?_) (fun c3 => ?_)
  · exact g_throw (cls := "java/lang/IllegalStateException") (text := "the parcel is not booked, or it is too late") (sa := 119) C hl0 hnx hQ hW hS hl.1 gE_IS (by decide +kernel) dX7_cancel_24 dX7_cancel_27 dX7_cancel_28 dX7_cancel_30 dX7_cancel_33 (by rw [hR1]; exact Nat.le_of_ble_eq_true rfl) (by rw [hR2]; exact Nat.le_of_ble_eq_true rfl) (by rw [hR3]; exact Nat.le_of_ble_eq_true rfl) (by rw [hR4]; exact Nat.le_of_ble_eq_true rfl) ⟨rfl, Or.inr ⟨rfl, k2, hk2, rfl, by grind⟩⟩ (Nat.le_of_ble_eq_true rfl) (Nat.le_of_ble_eq_true rfl)
  · refine lv_aload_n hx hb dX7_cancel_13 rfl (lv_at hl 0 rfl) ?_
    refine lv_aload_n hx hb dX7_cancel_14 rfl (lv_at hl 1 rfl) ?_
    refine g_get (r := (1, 0)) (Cn := RX7) (T := TX7) (N := 7) (ci := 10) (v := .int (ci 1 0)) C tinX7 hW (hV.r (by decide)) rfl rfl 6 (by decide) tw_1_212 (fun _ h9 => h9) rfl dX7_cancel_15 ?_
    refine lv_topE (y := nI w) (by show ci 1 0 = nI w; exact hV.2.2.2.2.2.2.2.2.2.2.2.1.1) ?_
    refine g_callVi (r := (50, k2)) (T := TX2) (N := 4) (k2 := 1) (As := [.int (nI w)]) (rest := []) C (c_X2_isSettledAt l X L ad st0 ci ca cr k2 (hV.pc (by first | omega | exact (hV.pc (by omega)).2)).1 (nI w)) tw_5_144 tw_5_145 tw_5_146 tw_1_32 tw_5_147 (by decide +kernel) ⟨by rw [hR1]; exact Nat.le_of_ble_eq_true rfl, by rw [hR2]; exact Nat.le_of_ble_eq_true rfl⟩ hW hS (hV.pc (by first | omega | exact (hV.pc (by omega)).2)).1 rfl rfl rfl hl.1 rfl (Nat.le_of_ble_eq_true rfl) dX7_cancel_18 ⟨by rw [hR3]; exact Nat.le_of_ble_eq_true rfl, by rw [hR4]; exact Nat.le_of_ble_eq_true rfl⟩ (fun v9 L9 ad9 st9 H locs hp hW hS => ?_)
    obtain ⟨ci9, ca9, cr9, z0, hp⟩ := hp
    cases z0
    obtain ⟨z1, z2, z3, h4⟩ := hp
    rw [z1, z2, z3] at hW
    rcases h4 with ⟨h4, e9⟩ | ⟨h4, e9⟩
    · subst e9
      refine lv_if_eq (tgt := 34) hx hb dX7_cancel_21 (by decide) (fun c9 => absurd c9 (by decide)) (fun _ => ?_)
      exact g_throw (cls := "java/lang/IllegalStateException") (text := "the parcel is not booked, or it is too late") (sa := 119) C hl0 hnx hQ hW hS hl.1 gE_IS (by decide +kernel) dX7_cancel_24 dX7_cancel_27 dX7_cancel_28 dX7_cancel_30 dX7_cancel_33 (by rw [hR1]; exact Nat.le_of_ble_eq_true rfl) (by rw [hR2]; exact Nat.le_of_ble_eq_true rfl) (by rw [hR3]; exact Nat.le_of_ble_eq_true rfl) (by rw [hR4]; exact Nat.le_of_ble_eq_true rfl) ⟨rfl, Or.inr ⟨rfl, k2, hk2, rfl, by grind⟩⟩ (Nat.le_of_ble_eq_true rfl) (Nat.le_of_ble_eq_true rfl)
    · subst e9
      refine lv_if_eq (tgt := 34) hx hb dX7_cancel_21 (by decide) (fun _ => ?_) (fun c9 => absurd (by decide) c9)
      refine lv_aload_n hx hb dX7_cancel_34 rfl (lv_at hl 0 rfl) ?_
      refine lv_iconst (v := 1) hx hb dX7_cancel_35 (by decide) ?_
      refine g_put (r := (50, k2)) (Cn := RX2) (T := TX2) (N := 4) (ci := 5) (ty0 := tyX2) C tinX2 tyX2_ok nmX2 hW hS (hV.pc (by first | omega | exact (hV.pc (by omega)).2)).1 rfl rfl 3 (by decide) tw_5_113 (fun _ h9 => h9) rfl rfl rfl (Nat.le_of_ble_eq_true rfl) (cU_50_3 k2 _ _ rfl) dX7_cancel_36 (fun H locs hW hS => ?_)
      refine lv_aload_n hx hb dX7_cancel_39 rfl (lv_at hl 0 rfl) ?_
      refine g_get (r := (50, k2)) (Cn := RX2) (T := TX2) (N := 4) (ci := 5) (v := .int (ci 51 k2)) C tinX2 hW (hV.pc (by first | omega | exact (hV.pc (by omega)).2)).1 rfl rfl 2 (by decide) tw_5_111 (fun _ h9 => h9) rfl dX7_cancel_40 ?_
      exact g_iretX C hQ hW hS ⟨k2, hk2, rfl, by grind, rfl, rfl⟩ rfl (Nat.le_of_ble_eq_true rfl) (Nat.le_of_ble_eq_true rfl) dX7_cancel_43

set_option maxHeartbeats 4000000 in
set_option maxRecDepth 100000 in
theorem c_X7_weigh (l : Launch) (X : GX) (L : List ro) (ad : ro → Nat) (st0 : ro → va_E) (ci : Nat → Nat → Int32) (ca : Nat → Nat → Nat → Int32) (cr : Nat → Nat → Nat) (n w tot nt : Nat) (kp nx : Nat → Nat) (hV : cV L ci ca cr n w tot nt kp nx) (hl0 : l.stackTraces = false) (a b : Int32) : gXi l yX7_weigh cX7_weigh 5 (some .int) 7 103 10 300 X [.ref (ad (1, 0)), .int a, .int b] L ad (cSt X ad st0 ci ca cr) (fun v u => ∃ k, k < cr 13 1 ∧ a = nI k ∧ (1 ≤ b ∧ b ≤ 30000) ∧ ci 52 k = 0 ∧ u = (L, ad, cSt X ad st0 (up2 ci 51 k (prcC (ci 36 (cr 40 (cr 50 k))) (ci 37 (cr 40 (cr 50 k))) (ci 38 (cr 40 (cr 50 k))) (ci 42 (cr 50 k) - ci 43 (cr 50 k)) b (ci 45 (cr 50 k)))) ca cr) ∧ v = prcC (ci 36 (cr 40 (cr 50 k))) (ci 37 (cr 40 (cr 50 k))) (ci 38 (cr 40 (cr 50 k))) (ci 42 (cr 50 k) - ci 43 (cr 50 k)) b (ci 45 (cr 50 k)) - ci 51 k) (fun E u => u = (L, ad, cSt X ad st0 ci ca cr) ∧ ((E = "java/lang/IndexOutOfBoundsException" ∧ ¬ vp_in a (cr 13 1)) ∨ (E = "java/lang/IllegalArgumentException" ∧ ∃ k, k < cr 13 1 ∧ a = nI k ∧ ¬ (1 ≤ b ∧ b ≤ 30000)) ∨ (E = "java/lang/IllegalStateException" ∧ ∃ k, k < cr 13 1 ∧ a = nI k ∧ (1 ≤ b ∧ b ≤ 30000) ∧ ¬ ci 52 k = 0))) := by
  intro sz
  refine gX_of2 (Qc := fun A => va_Qi _ (gB X A) A) (XC := fun A => gXC X A _) (by decide) (Nat.le_of_ble_eq_true rfl) ?_ sz
  intro p e s m args below meth c A R Q hR hQ hnx C hW hS ls hl
  obtain ⟨hR1, hR2, hR3, hR4⟩ := hR
  have hx := C.1.1
  have hb := C.1.2.1
  have hml := C.1.2.2.1
  have hl : lv_has ls 5 [(0, .ref (ad (1, 0))), (1, .int a), (2, .int b)] := hl
  obtain ⟨vR, vA, vN, vq, vp, vt, vQ, vP, vC, vX, vT, vW, vG, vS⟩ := id hV
  obtain ⟨vT1, vT2, vT3⟩ := vT
  obtain ⟨vW1, vW2⟩ := vW
  obtain ⟨vG1, vG2, vG3⟩ := vG
  obtain ⟨vN1, vN2⟩ := vN
  refine lv_aload_n hx hb dX7_weigh_0 rfl (lv_at hl 0 rfl) ?_
  refine lv_iload_n hx hb dX7_weigh_1 rfl (lv_at hl 1 rfl) ?_
  refine g_callXq (r := (1, 0)) (T := TX7) (N := 7) (k2 := 1) (As := [.int a]) (rest := []) C hnx hQ (c_X7_parcelAt l X L ad st0 ci ca cr n w tot nt kp nx hV hl0 a) (fun E u h => ⟨h.1, Or.inl h.2⟩) tw_5_130 tw_5_132 tw_0_22 tw_1_1 tw_5_133 (by decide +kernel) ⟨by rw [hR1]; exact Nat.le_of_ble_eq_true rfl, by rw [hR2]; exact Nat.le_of_ble_eq_true rfl⟩ hW hS (hV.r (by decide)) rfl rfl rfl hl.1 rfl (Nat.le_of_ble_eq_true rfl) dX7_weigh_2 ⟨by rw [hR3]; exact Nat.le_of_ble_eq_true rfl, by rw [hR4]; exact Nat.le_of_ble_eq_true rfl⟩ ⟨Nat.le_of_ble_eq_true rfl, Nat.le_of_ble_eq_true rfl⟩ (fun v1 L9 ad9 st9 H locs hp hW hS => ?_)
  obtain ⟨z0, k2, hk2, hak2, hv9⟩ := hp
  cases z0
  subst hv9
  refine lv_topV (y := .ref (ad (50, k2))) rfl ?_
  subst hak2
  refine lv_astore_n (lv' := [(3, .ref (ad (50, k2))), (0, .ref (ad (1, 0))), (1, .int (nI k2)), (2, .int b)]) hx hb dX7_weigh_5 rfl hl (by decide) rfl (fun ls hl => ?_)
  refine lv_iload_n hx hb dX7_weigh_6 rfl (lv_at hl 3 rfl) ?_
  refine lv_iconst (v := 1) hx hb dX7_weigh_7 (by decide) ?_
  refine lv_sipush (v := 30000) hx hb dX7_weigh_8 (by decide) ?_
  refine g_callSp (k2 := 3) (As := [.int b, .int 1, .int 30000]) (rest := []) C (c_X7_isWithin l X L ad _ b 1 30000) tw_4_61 tw_2_160 tw_1_1 tw_2_161 (by decide +kernel) ⟨by rw [hR1]; exact Nat.le_of_ble_eq_true rfl, by rw [hR2]; exact Nat.le_of_ble_eq_true rfl⟩ hW hS rfl hl.1 rfl (Nat.le_of_ble_eq_true rfl) dX7_weigh_11 ⟨by rw [hR3]; exact Nat.le_of_ble_eq_true rfl, by rw [hR4]; exact Nat.le_of_ble_eq_true rfl⟩ (fun v9 H locs hp hW hS => ?_)
  have h3 := hp
  rcases h3 with ⟨h3, e9⟩ | ⟨h3, e9⟩
  · subst e9
    refine lv_if_ne (tgt := 27) hx hb dX7_weigh_14 (by decide) (fun _ => ?_) (fun c9 => absurd c9 (by decide))
    refine lv_aload_n hx hb dX7_weigh_27 rfl (lv_at hl 0 rfl) ?_
    refine g_get (r := (50, k2)) (Cn := RX2) (T := TX2) (N := 4) (ci := 5) (v := .int (ci 52 k2)) C tinX2 hW (hV.pc (by first | omega | exact (hV.pc (by omega)).2)).1 rfl rfl 3 (by decide) tw_5_113 (fun _ h9 => h9) rfl dX7_weigh_28 ?_
    refine lv_if_eq (tgt := 44) hx hb dX7_weigh_31 (by decide) (fun c4 => ?_) (fun c4 => ?_)
    · refine lv_aload_n hx hb dX7_weigh_44 rfl (lv_at hl 0 rfl) ?_
      refine g_get (r := (50, k2)) (Cn := RX2) (T := TX2) (N := 4) (ci := 5) (v := .int (ci 51 k2)) C tinX2 hW (hV.pc (by first | omega | exact (hV.pc (by omega)).2)).1 rfl rfl 2 (by decide) tw_5_111 (fun _ h9 => h9) rfl dX7_weigh_45 ?_
      refine lv_istore (lv' := [(4, .int (ci 51 k2)), (3, .ref (ad (50, k2))), (0, .ref (ad (1, 0))), (1, .int (nI k2)), (2, .int b)]) hx hb dX7_weigh_48 hl (by decide) rfl (fun ls hl => ?_)
      refine lv_aload_n hx hb dX7_weigh_50 rfl (lv_at hl 1 rfl) ?_
      refine lv_aload_n hx hb dX7_weigh_51 rfl (lv_at hl 1 rfl) ?_
      refine g_get (r := (50, k2)) (Cn := RX2) (T := TX2) (N := 4) (ci := 5) (v := .ref (ad (40, cr 50 k2))) C tinX2 hW (hV.pc (by first | omega | exact (hV.pc (by omega)).2)).1 rfl rfl 0 (by decide) tw_5_108 (fun _ h9 => h9) rfl dX7_weigh_52 ?_
      refine lv_aload_n hx hb dX7_weigh_55 rfl (lv_at hl 1 rfl) ?_
      refine g_get (r := (50, k2)) (Cn := RX2) (T := TX2) (N := 4) (ci := 5) (v := .ref (ad (40, cr 50 k2))) C tinX2 hW (hV.pc (by first | omega | exact (hV.pc (by omega)).2)).1 rfl rfl 0 (by decide) tw_5_108 (fun _ h9 => h9) rfl dX7_weigh_56 ?_
      refine g_get (r := (40, cr 50 k2)) (Cn := RX3) (T := TX3) (N := 8) (ci := 6) (v := .ref (ad (31, cr 40 (cr 50 k2)))) C tinX3 hW (hV.qt (hV.pc (by first | omega | exact (hV.pc (by omega)).2)).2).1 rfl rfl 6 (by decide) tw_4_183 (fun _ h9 => h9) rfl dX7_weigh_59 ?_
      refine lv_iload_n hx hb dX7_weigh_62 rfl (lv_at hl 4 rfl) ?_
      refine g_callVi (r := (40, cr 50 k2)) (T := TX3) (N := 8) (k2 := 2) (As := [.ref (ad (31, cr 40 (cr 50 k2))), .int b]) (rest := [.ref (ad (50, k2))]) C (c_X3_priceBy l X L ad st0 ci ca cr (cr 50 k2) (hV.qt (hV.pc (by first | omega | exact (hV.pc (by omega)).2)).2).1 (cr 40 (cr 50 k2)) (hV.qt (by first | omega | exact (hV.pc (by omega)).2)).2 b) tw_5_45 tw_5_46 tw_5_47 tw_1_31 tw_5_48 (by decide +kernel) ⟨by rw [hR1]; exact Nat.le_of_ble_eq_true rfl, by rw [hR2]; exact Nat.le_of_ble_eq_true rfl⟩ hW hS (hV.qt (hV.pc (by first | omega | exact (hV.pc (by omega)).2)).2).1 rfl rfl rfl hl.1 rfl (Nat.le_of_ble_eq_true rfl) dX7_weigh_63 ⟨by rw [hR3]; exact Nat.le_of_ble_eq_true rfl, by rw [hR4]; exact Nat.le_of_ble_eq_true rfl⟩ (fun x5 L9 ad9 st9 H locs hp hW hS => ?_)
      obtain ⟨ci9, ca9, cr9, z0, hp⟩ := hp
      cases z0
      obtain ⟨z1, z2, z3, h6⟩ := hp
      rw [z1, z2, z3] at hW
      subst h6
      refine g_put (r := (50, k2)) (Cn := RX2) (T := TX2) (N := 4) (ci := 5) (ty0 := tyX2) C tinX2 tyX2_ok nmX2 hW hS (hV.pc (by first | omega | exact (hV.pc (by omega)).2)).1 rfl rfl 2 (by decide) tw_5_111 (fun _ h9 => h9) rfl rfl rfl (Nat.le_of_ble_eq_true rfl) (cU_50_2 k2 _ _ rfl) dX7_weigh_66 (fun H locs hW hS => ?_)
      refine lv_aload_n hx hb dX7_weigh_69 rfl (lv_at hl 1 rfl) ?_
      refine g_get (r := (50, k2)) (Cn := RX2) (T := TX2) (N := 4) (ci := 5) (v := .int ((up2 ci 51 k2 (prcC (ci 36 (cr 40 (cr 50 k2))) (ci 37 (cr 40 (cr 50 k2))) (ci 38 (cr 40 (cr 50 k2))) (ci 42 (cr 50 k2) - ci 43 (cr 50 k2)) b (ci 45 (cr 50 k2)))) 51 k2)) C tinX2 hW (hV.pc (by first | omega | exact (hV.pc (by omega)).2)).1 rfl rfl 2 (by decide) tw_5_111 (fun _ h9 => h9) rfl dX7_weigh_70 ?_
      refine lv_topE (y := prcC (ci 36 (cr 40 (cr 50 k2))) (ci 37 (cr 40 (cr 50 k2))) (ci 38 (cr 40 (cr 50 k2))) (ci 42 (cr 50 k2) - ci 43 (cr 50 k2)) b (ci 45 (cr 50 k2))) (by show (up2 ci 51 k2 (prcC (ci 36 (cr 40 (cr 50 k2))) (ci 37 (cr 40 (cr 50 k2))) (ci 38 (cr 40 (cr 50 k2))) (ci 42 (cr 50 k2) - ci 43 (cr 50 k2)) b (ci 45 (cr 50 k2)))) 51 k2 = prcC (ci 36 (cr 40 (cr 50 k2))) (ci 37 (cr 40 (cr 50 k2))) (ci 38 (cr 40 (cr 50 k2))) (ci 42 (cr 50 k2) - ci 43 (cr 50 k2)) b (ci 45 (cr 50 k2)); exact up2_at) ?_
      refine lv_iload hx hb dX7_weigh_73 (lv_at hl 0 rfl) ?_
      refine lv_isub hx hb dX7_weigh_75 ?_
      refine lv_topi (fun x7 ex7 => ?_)
      exact g_iretX C hQ hW hS ⟨k2, hk2, rfl, h3, by grind, rfl, by subst_vars; rfl⟩ rfl (Nat.le_of_ble_eq_true rfl) (Nat.le_of_ble_eq_true rfl) dX7_weigh_76
    · exact g_throw (cls := "java/lang/IllegalStateException") (text := "the parcel is not booked") (sa := 118) C hl0 hnx hQ hW hS hl.1 gE_IS (by decide +kernel) dX7_weigh_34 dX7_weigh_37 dX7_weigh_38 dX7_weigh_40 dX7_weigh_43 (by rw [hR1]; exact Nat.le_of_ble_eq_true rfl) (by rw [hR2]; exact Nat.le_of_ble_eq_true rfl) (by rw [hR3]; exact Nat.le_of_ble_eq_true rfl) (by rw [hR4]; exact Nat.le_of_ble_eq_true rfl) ⟨rfl, Or.inr (Or.inr ⟨rfl, k2, hk2, rfl, h3, by grind⟩)⟩ (Nat.le_of_ble_eq_true rfl) (Nat.le_of_ble_eq_true rfl)
  · subst e9
    refine lv_if_ne (tgt := 27) hx hb dX7_weigh_14 (by decide) (fun c9 => absurd c9 (by decide)) (fun _ => ?_)
    exact g_throw (cls := "java/lang/IllegalArgumentException") (text := "grams out of range") (sa := 117) C hl0 hnx hQ hW hS hl.1 gE_IA (by decide +kernel) dX7_weigh_17 dX7_weigh_20 dX7_weigh_21 dX7_weigh_23 dX7_weigh_26 (by rw [hR1]; exact Nat.le_of_ble_eq_true rfl) (by rw [hR2]; exact Nat.le_of_ble_eq_true rfl) (by rw [hR3]; exact Nat.le_of_ble_eq_true rfl) (by rw [hR4]; exact Nat.le_of_ble_eq_true rfl) ⟨rfl, Or.inr (Or.inl ⟨rfl, k2, hk2, rfl, h3⟩)⟩ (Nat.le_of_ble_eq_true rfl) (Nat.le_of_ble_eq_true rfl)

set_option maxHeartbeats 4000000 in
set_option maxRecDepth 100000 in
theorem c_X7_type (l : Launch) (X : GX) (L : List ro) (ad : ro → Nat) (st0 : ro → va_E) (ci : Nat → Nat → Int32) (ca : Nat → Nat → Nat → Int32) (cr : Nat → Nat → Nat) (n w tot nt : Nat) (kp nx : Nat → Nat) (hV : cV L ci ca cr n w tot nt kp nx) (hl0 : l.stackTraces = false) (a : Int32) : gXi l yX7_type cX7_type 2 (some .int) 6 82 10 300 X [.ref (ad (1, 0)), .int a] L ad (cSt X ad st0 ci ca cr) (fun v u => ((65 ≤ a ∧ a ≤ 90) ∨ (48 ≤ a ∧ a ≤ 57) ∨ a = 61 ∨ a = 59) ∧ n < 60 ∧ u = (L, ad, cSt X ad st0 (up2 ci 2 0 (nI (n + 1))) (ua2 ca 3 0 (upd (ca 3 0) n (vp_nar .char a))) cr) ∧ v = nI (n + 1)) (fun E u => u = (L, ad, cSt X ad st0 ci ca cr) ∧ ((E = "java/lang/IllegalArgumentException" ∧ ¬ ((65 ≤ a ∧ a ≤ 90) ∨ (48 ≤ a ∧ a ≤ 57) ∨ a = 61 ∨ a = 59)) ∨ (E = "java/lang/IllegalStateException" ∧ ((65 ≤ a ∧ a ≤ 90) ∨ (48 ≤ a ∧ a ≤ 57) ∨ a = 61 ∨ a = 59) ∧ n = 60))) := by
  intro sz
  refine gX_of2 (Qc := fun A => va_Qi _ (gB X A) A) (XC := fun A => gXC X A _) (by decide) (Nat.le_of_ble_eq_true rfl) ?_ sz
  intro p e s m args below meth c A R Q hR hQ hnx C hW hS ls hl
  obtain ⟨hR1, hR2, hR3, hR4⟩ := hR
  have hx := C.1.1
  have hb := C.1.2.1
  have hml := C.1.2.2.1
  have hl : lv_has ls 2 [(0, .ref (ad (1, 0))), (1, .int a)] := hl
  obtain ⟨vR, vA, vN, vq, vp, vt, vQ, vP, vC, vX, vT, vW, vG, vS⟩ := id hV
  obtain ⟨vT1, vT2, vT3⟩ := vT
  obtain ⟨vW1, vW2⟩ := vW
  obtain ⟨vG1, vG2, vG3⟩ := vG
  obtain ⟨vN1, vN2⟩ := vN
  refine lv_iload_n hx hb dX7_type_0 rfl (lv_at hl 1 rfl) ?_
  refine g_callSp (k2 := 1) (As := [.int a]) (rest := []) C (c_X4_isTypable l X L ad _ a) tw_3_239 tw_4_0 tw_1_2 tw_4_1 (by decide +kernel) ⟨by rw [hR1]; exact Nat.le_of_ble_eq_true rfl, by rw [hR2]; exact Nat.le_of_ble_eq_true rfl⟩ hW hS rfl hl.1 rfl (Nat.le_of_ble_eq_true rfl) dX7_type_1 ⟨by rw [hR3]; exact Nat.le_of_ble_eq_true rfl, by rw [hR4]; exact Nat.le_of_ble_eq_true rfl⟩ (fun v9 H locs hp hW hS => ?_)
  have h1 := hp
  rcases h1 with ⟨h1, e9⟩ | ⟨h1, e9⟩
  · subst e9
    refine lv_if_ne (tgt := 17) hx hb dX7_type_4 (by decide) (fun _ => ?_) (fun c9 => absurd c9 (by decide))
    refine lv_aload_n hx hb dX7_type_17 rfl (lv_at hl 0 rfl) ?_
    refine g_get (r := (1, 0)) (Cn := RX7) (T := TX7) (N := 7) (ci := 10) (v := .ref (ad (2, 0))) C tinX7 hW (hV.r (by decide)) rfl rfl 0 (by decide) tw_1_206 (fun _ h9 => h9) rfl dX7_type_18 ?_
    refine g_callVi (r := (2, 0)) (T := TX4) (N := 5) (k2 := 0) (As := []) (rest := []) C (c_X4_isFull l X L ad st0 ci ca cr (hV.r (by decide)) (hV.r (by decide))) tw_4_5 tw_4_6 tw_4_7 tw_1_2 tw_4_8 (by decide +kernel) ⟨by rw [hR1]; exact Nat.le_of_ble_eq_true rfl, by rw [hR2]; exact Nat.le_of_ble_eq_true rfl⟩ hW hS (hV.r (by decide)) rfl rfl rfl hl.1 rfl (Nat.le_of_ble_eq_true rfl) dX7_type_21 ⟨by rw [hR3]; exact Nat.le_of_ble_eq_true rfl, by rw [hR4]; exact Nat.le_of_ble_eq_true rfl⟩ (fun v9 L9 ad9 st9 H locs hp hW hS => ?_)
    obtain ⟨ci9, ca9, cr9, z0, hp⟩ := hp
    cases z0
    obtain ⟨z1, z2, z3, h2⟩ := hp
    rw [z1, z2, z3] at hW
    rcases h2 with ⟨h2, e9⟩ | ⟨h2, e9⟩
    · subst e9
      refine lv_if_eq (tgt := 37) hx hb dX7_type_24 (by decide) (fun c9 => absurd c9 (by decide)) (fun _ => ?_)
      exact g_throw (cls := "java/lang/IllegalStateException") (text := "the request is full") (sa := 102) C hl0 hnx hQ hW hS hl.1 gE_IS (by decide +kernel) dX7_type_27 dX7_type_30 dX7_type_31 dX7_type_33 dX7_type_36 (by rw [hR1]; exact Nat.le_of_ble_eq_true rfl) (by rw [hR2]; exact Nat.le_of_ble_eq_true rfl) (by rw [hR3]; exact Nat.le_of_ble_eq_true rfl) (by rw [hR4]; exact Nat.le_of_ble_eq_true rfl) ⟨rfl, Or.inr ⟨rfl, h1, by have h8 := q_le (a := 60) (b := n) (by decide) (by omega) (by rw [← vT1]; exact h2); omega⟩⟩ (Nat.le_of_ble_eq_true rfl) (Nat.le_of_ble_eq_true rfl)
    · subst e9
      refine lv_if_eq (tgt := 37) hx hb dX7_type_24 (by decide) (fun _ => ?_) (fun c9 => absurd (by decide) c9)
      rw [vT1] at h2
      have hn9 : n < 60 := Nat.lt_of_not_le (fun q => h2 ((nI_leI (a := 60) (by decide) (by omega)).mpr q))
      refine lv_aload_n hx hb dX7_type_37 rfl (lv_at hl 0 rfl) ?_
      refine g_get (r := (1, 0)) (Cn := RX7) (T := TX7) (N := 7) (ci := 10) (v := .ref (ad (2, 0))) C tinX7 hW (hV.r (by decide)) rfl rfl 0 (by decide) tw_1_206 (fun _ h9 => h9) rfl dX7_type_38 ?_
      refine lv_iload_n hx hb dX7_type_41 rfl (lv_at hl 1 rfl) ?_
      refine g_callVi (r := (2, 0)) (T := TX4) (N := 5) (k2 := 1) (As := [.int a]) (rest := []) C (c_X4_append l X L ad st0 ci ca cr (hV.r (by decide)) (hV.r (by decide)) a n vT1 hn9) tw_4_25 tw_4_26 tw_4_27 tw_1_2 tw_4_28 (by decide +kernel) ⟨by rw [hR1]; exact Nat.le_of_ble_eq_true rfl, by rw [hR2]; exact Nat.le_of_ble_eq_true rfl⟩ hW hS (hV.r (by decide)) rfl rfl rfl hl.1 rfl (Nat.le_of_ble_eq_true rfl) dX7_type_42 ⟨by rw [hR3]; exact Nat.le_of_ble_eq_true rfl, by rw [hR4]; exact Nat.le_of_ble_eq_true rfl⟩ (fun x3 L9 ad9 st9 H locs hp hW hS => ?_)
      obtain ⟨ci9, ca9, cr9, z0, hp⟩ := hp
      cases z0
      obtain ⟨z1, z2, z3, h4⟩ := hp
      rw [z1, z2, z3] at hW
      exact g_iretX C hQ hW hS ⟨h1, hn9, rfl, h4⟩ rfl (Nat.le_of_ble_eq_true rfl) (Nat.le_of_ble_eq_true rfl) dX7_type_45
  · subst e9
    refine lv_if_ne (tgt := 17) hx hb dX7_type_4 (by decide) (fun c9 => absurd c9 (by decide)) (fun _ => ?_)
    exact g_throw (cls := "java/lang/IllegalArgumentException") (text := "no character of a request") (sa := 101) C hl0 hnx hQ hW hS hl.1 gE_IA (by decide +kernel) dX7_type_7 dX7_type_10 dX7_type_11 dX7_type_13 dX7_type_16 (by rw [hR1]; exact Nat.le_of_ble_eq_true rfl) (by rw [hR2]; exact Nat.le_of_ble_eq_true rfl) (by rw [hR3]; exact Nat.le_of_ble_eq_true rfl) (by rw [hR4]; exact Nat.le_of_ble_eq_true rfl) ⟨rfl, Or.inl ⟨rfl, h1⟩⟩ (Nat.le_of_ble_eq_true rfl) (Nat.le_of_ble_eq_true rfl)

