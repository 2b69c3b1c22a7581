set_option maxHeartbeats 4000000 in
set_option maxRecDepth 100000 in
theorem c_X7_shipperAt (l : Launch) (X : GX) (L : List ro) (ad : ro → Nat) (st0 : ro → va_E) (ci : Nat → Nat → Int32) (ca : Nat → Nat → Nat → Int32) (cr : Nat → Nat → Nat) (n w tot nt : Nat) (kp nx : Nat → Nat) (hV : cV L ci ca cr n w tot nt kp nx) (hl0 : l.stackTraces = false) (a : Int32) : gXq l yX7_shipperAt cX7_shipperAt 2 (some (.object "RateGate$Shipper")) 6 82 1 6 X [.ref (ad (1, 0)), .int a] L ad (cSt X ad st0 ci ca cr) (fun v u => u = (L, ad, cSt X ad st0 ci ca cr) ∧ ∃ k, k < 6 ∧ a = nI k ∧ v = some (ad (20, k))) (fun E u => u = (L, ad, cSt X ad st0 ci ca cr) ∧ E = "java/lang/IndexOutOfBoundsException" ∧ ¬ vp_in a (6)) := by
  intro sz
  refine gX_of2 (Qc := fun A => va_Qq _ (gB X A) A) (XC := fun A => gXC X A _) (by decide) (Nat.le_of_ble_eq_true rfl) ?_ sz
  intro p e s m args below meth c A R Q hR hQ hnx C hW hS ls hl
  obtain ⟨hR1, hR2, hR3, hR4⟩ := hR
  have hx := C.1.1
  have hb := C.1.2.1
  have hml := C.1.2.2.1
  have hl : lv_has ls 2 [(0, .ref (ad (1, 0))), (1, .int a)] := hl
  obtain ⟨vR, vA, vN, vq, vp, vt, vQ, vP, vC, vX, vT, vW, vG, vS⟩ := id hV
  obtain ⟨vT1, vT2, vT3⟩ := vT
  obtain ⟨vW1, vW2⟩ := vW
  obtain ⟨vG1, vG2, vG3⟩ := vG
  obtain ⟨vN1, vN2⟩ := vN
  refine lv_iload_n hx hb dX7_shipperAt_0 rfl (lv_at hl 1 rfl) ?_
  refine lv_if_lt (tgt := 13) hx hb dX7_shipperAt_1 (by decide) (fun c1 => ?_) (fun c1 => ?_)
  · exact g_throwW (cls := "java/lang/IndexOutOfBoundsException") (text := "no such shipper") (sa := 106) C hl0 hnx hQ hW hS hl.1 gE_IO (by decide +kernel) dX7_shipperAt_13 dX7_shipperAt_16 dX7_shipperAt_17 dX7_shipperAt_20 dX7_shipperAt_23 (by rw [hR1]; exact Nat.le_of_ble_eq_true rfl) (by rw [hR2]; exact Nat.le_of_ble_eq_true rfl) (by rw [hR3]; exact Nat.le_of_ble_eq_true rfl) (by rw [hR4]; exact Nat.le_of_ble_eq_true rfl) ⟨rfl, rfl, (by first | exact vout_of (by first | decide | omega) (Or.inl (by assumption)) | exact vout_of (by first | decide | omega) (Or.inr (Int32.not_lt.mp (by assumption))))⟩ (Nat.le_of_ble_eq_true rfl) (Nat.le_of_ble_eq_true rfl)
  · refine lv_iload_n hx hb dX7_shipperAt_4 rfl (lv_at hl 1 rfl) ?_
    refine lv_aload_n hx hb dX7_shipperAt_5 rfl (lv_at hl 0 rfl) ?_
    refine g_get (r := (1, 0)) (Cn := RX7) (T := TX7) (N := 7) (ci := 10) (v := .ref (ad (9, 0))) C tinX7 hW (hV.r (by decide)) rfl rfl 2 (by decide) tw_1_208 (fun _ h9 => h9) rfl dX7_shipperAt_6 ?_
    refine g_alen (r := (9, 0)) (t0 := 6) (v := 6) C hW (hV.r (by decide)) rfl rfl rfl dX7_shipperAt_9 ?_
    refine lv_icmp_lt (tgt := 24) hx hb dX7_shipperAt_10 (by decide) (fun c2 => ?_) (fun c2 => ?_)
    · obtain ⟨k, hk, hak⟩ := vin_of (a := a) (N := 6) (by first | decide | omega) (by assumption) (fun q => by first | exact absurd q (Int32.not_le.mpr (by assumption)) | exact absurd q (by assumption))
      subst hak
      refine lv_aload_n hx hb dX7_shipperAt_24 rfl (lv_at hl 0 rfl) ?_
      refine g_get (r := (1, 0)) (Cn := RX7) (T := TX7) (N := 7) (ci := 10) (v := .ref (ad (9, 0))) C tinX7 hW (hV.r (by decide)) rfl rfl 2 (by decide) tw_1_208 (fun _ h9 => h9) rfl dX7_shipperAt_25 ?_
      refine lv_iload_n hx hb dX7_shipperAt_28 rfl (lv_at hl 1 rfl) ?_
      refine g_aldq (r := (9, 0)) (t0 := 6) (n := 6) (f := fun j => if j < 6 then some (ad (20, j)) else none) C hW (hV.r (by decide)) rfl rfl (vp_in_nI (N := 6) (by omega) (by decide)) dX7_shipperAt_29 ?_
      refine lv_topV (y := .ref (ad (20, k))) (by rw [nI_clamp (by omega)]; exact congrArg va_rf (if_pos (by omega))) ?_
      exact g_qretX (v := some (ad (20, k))) C (Or.inl ⟨_, rfl⟩) hQ hW hS ⟨rfl, k, hk, rfl, rfl⟩ (Nat.le_of_ble_eq_true rfl) (Nat.le_of_ble_eq_true rfl) dX7_shipperAt_30
    · exact g_throwW (cls := "java/lang/IndexOutOfBoundsException") (text := "no such shipper") (sa := 106) C hl0 hnx hQ hW hS hl.1 gE_IO (by decide +kernel) dX7_shipperAt_13 dX7_shipperAt_16 dX7_shipperAt_17 dX7_shipperAt_20 dX7_shipperAt_23 (by rw [hR1]; exact Nat.le_of_ble_eq_true rfl) (by rw [hR2]; exact Nat.le_of_ble_eq_true rfl) (by rw [hR3]; exact Nat.le_of_ble_eq_true rfl) (by rw [hR4]; exact Nat.le_of_ble_eq_true rfl) ⟨rfl, rfl, (by first | exact vout_of (by first | decide | omega) (Or.inl (by assumption)) | exact vout_of (by first | decide | omega) (Or.inr (Int32.not_lt.mp (by assumption))))⟩ (Nat.le_of_ble_eq_true rfl) (Nat.le_of_ble_eq_true rfl)

set_option maxHeartbeats 4000000 in
set_option maxRecDepth 100000 in
theorem c_X7_carrierAt (l : Launch) (X : GX) (L : List ro) (ad : ro → Nat) (st0 : ro → va_E) (ci : Nat → Nat → Int32) (ca : Nat → Nat → Nat → Int32) (cr : Nat → Nat → Nat) (n w tot nt : Nat) (kp nx : Nat → Nat) (hV : cV L ci ca cr n w tot nt kp nx) (hl0 : l.stackTraces = false) (a : Int32) : gXq l yX7_carrierAt cX7_carrierAt 2 (some (.object "RateGate$Carrier")) 6 82 1 6 X [.ref (ad (1, 0)), .int a] L ad (cSt X ad st0 ci ca cr) (fun v u => u = (L, ad, cSt X ad st0 ci ca cr) ∧ ∃ k, k < 4 ∧ a = nI k ∧ v = some (ad (30, k))) (fun E u => u = (L, ad, cSt X ad st0 ci ca cr) ∧ E = "java/lang/IndexOutOfBoundsException" ∧ ¬ vp_in a (4)) := by
  intro sz
  refine gX_of2 (Qc := fun A => va_Qq _ (gB X A) A) (XC := fun A => gXC X A _) (by decide) (Nat.le_of_ble_eq_true rfl) ?_ sz
  intro p e s m args below meth c A R Q hR hQ hnx C hW hS ls hl
  obtain ⟨hR1, hR2, hR3, hR4⟩ := hR
  have hx := C.1.1
  have hb := C.1.2.1
  have hml := C.1.2.2.1
  have hl : lv_has ls 2 [(0, .ref (ad (1, 0))), (1, .int a)] := hl
  obtain ⟨vR, vA, vN, vq, vp, vt, vQ, vP, vC, vX, vT, vW, vG, vS⟩ := id hV
  obtain ⟨vT1, vT2, vT3⟩ := vT
  obtain ⟨vW1, vW2⟩ := vW
  obtain ⟨vG1, vG2, vG3⟩ := vG
  obtain ⟨vN1, vN2⟩ := vN
  refine lv_iload_n hx hb dX7_carrierAt_0 rfl (lv_at hl 1 rfl) ?_
  refine lv_if_lt (tgt := 13) hx hb dX7_carrierAt_1 (by decide) (fun c1 => ?_) (fun c1 => ?_)
  · exact g_throwW (cls := "java/lang/IndexOutOfBoundsException") (text := "no such carrier") (sa := 108) C hl0 hnx hQ hW hS hl.1 gE_IO (by decide +kernel) dX7_carrierAt_13 dX7_carrierAt_16 dX7_carrierAt_17 dX7_carrierAt_20 dX7_carrierAt_23 (by rw [hR1]; exact Nat.le_of_ble_eq_true rfl) (by rw [hR2]; exact Nat.le_of_ble_eq_true rfl) (by rw [hR3]; exact Nat.le_of_ble_eq_true rfl) (by rw [hR4]; exact Nat.le_of_ble_eq_true rfl) ⟨rfl, rfl, (by first | exact vout_of (by first | decide | omega) (Or.inl (by assumption)) | exact vout_of (by first | decide | omega) (Or.inr (Int32.not_lt.mp (by assumption))))⟩ (Nat.le_of_ble_eq_true rfl) (Nat.le_of_ble_eq_true rfl)
  · refine lv_iload_n hx hb dX7_carrierAt_4 rfl (lv_at hl 1 rfl) ?_
    refine lv_aload_n hx hb dX7_carrierAt_5 rfl (lv_at hl 0 rfl) ?_
    refine g_get (r := (1, 0)) (Cn := RX7) (T := TX7) (N := 7) (ci := 10) (v := .ref (ad (10, 0))) C tinX7 hW (hV.r (by decide)) rfl rfl 3 (by decide) tw_1_209 (fun _ h9 => h9) rfl dX7_carrierAt_6 ?_
    refine g_alen (r := (10, 0)) (t0 := 7) (v := 4) C hW (hV.r (by decide)) rfl rfl rfl dX7_carrierAt_9 ?_
    refine lv_icmp_lt (tgt := 24) hx hb dX7_carrierAt_10 (by decide) (fun c2 => ?_) (fun c2 => ?_)
    · obtain ⟨k, hk, hak⟩ := vin_of (a := a) (N := 4) (by first | decide | omega) (by assumption) (fun q => by first | exact absurd q (Int32.not_le.mpr (by assumption)) | exact absurd q (by assumption))
      subst hak
      refine lv_aload_n hx hb dX7_carrierAt_24 rfl (lv_at hl 0 rfl) ?_
      refine g_get (r := (1, 0)) (Cn := RX7) (T := TX7) (N := 7) (ci := 10) (v := .ref (ad (10, 0))) C tinX7 hW (hV.r (by decide)) rfl rfl 3 (by decide) tw_1_209 (fun _ h9 => h9) rfl dX7_carrierAt_25 ?_
      refine lv_iload_n hx hb dX7_carrierAt_28 rfl (lv_at hl 1 rfl) ?_
      refine g_aldq (r := (10, 0)) (t0 := 7) (n := 4) (f := fun j => if j < 4 then some (ad (30, j)) else none) C hW (hV.r (by decide)) rfl rfl (vp_in_nI (N := 4) (by omega) (by decide)) dX7_carrierAt_29 ?_
      refine lv_topV (y := .ref (ad (30, k))) (by rw [nI_clamp (by omega)]; exact congrArg va_rf (if_pos (by omega))) ?_
      exact g_qretX (v := some (ad (30, k))) C (Or.inl ⟨_, rfl⟩) hQ hW hS ⟨rfl, k, hk, rfl, rfl⟩ (Nat.le_of_ble_eq_true rfl) (Nat.le_of_ble_eq_true rfl) dX7_carrierAt_30
    · exact g_throwW (cls := "java/lang/IndexOutOfBoundsException") (text := "no such carrier") (sa := 108) C hl0 hnx hQ hW hS hl.1 gE_IO (by decide +kernel) dX7_carrierAt_13 dX7_carrierAt_16 dX7_carrierAt_17 dX7_carrierAt_20 dX7_carrierAt_23 (by rw [hR1]; exact Nat.le_of_ble_eq_true rfl) (by rw [hR2]; exact Nat.le_of_ble_eq_true rfl) (by rw [hR3]; exact Nat.le_of_ble_eq_true rfl) (by rw [hR4]; exact Nat.le_of_ble_eq_true rfl) ⟨rfl, rfl, (by first | exact vout_of (by first | decide | omega) (Or.inl (by assumption)) | exact vout_of (by first | decide | omega) (Or.inr (Int32.not_lt.mp (by assumption))))⟩ (Nat.le_of_ble_eq_true rfl) (Nat.le_of_ble_eq_true rfl)

set_option maxHeartbeats 4000000 in
set_option maxRecDepth 100000 in
theorem c_X7_quoteAt (l : Launch) (X : GX) (L : List ro) (ad : ro → Nat) (st0 : ro → va_E) (ci : Nat → Nat → Int32) (ca : Nat → Nat → Nat → Int32) (cr : Nat → Nat → Nat) (n w tot nt : Nat) (kp nx : Nat → Nat) (hV : cV L ci ca cr n w tot nt kp nx) (hl0 : l.stackTraces = false) (a : Int32) : gXq l yX7_quoteAt cX7_quoteAt 2 (some (.object "RateGate$Quote")) 6 82 1 6 X [.ref (ad (1, 0)), .int a] L ad (cSt X ad st0 ci ca cr) (fun v u => u = (L, ad, cSt X ad st0 ci ca cr) ∧ ∃ k, k < cr 13 0 ∧ a = nI k ∧ v = some (ad (40, k))) (fun E u => u = (L, ad, cSt X ad st0 ci ca cr) ∧ E = "java/lang/IndexOutOfBoundsException" ∧ ¬ vp_in a (cr 13 0)) := by
  intro sz
  refine gX_of2 (Qc := fun A => va_Qq _ (gB X A) A) (XC := fun A => gXC X A _) (by decide) (Nat.le_of_ble_eq_true rfl) ?_ sz
  intro p e s m args below meth c A R Q hR hQ hnx C hW hS ls hl
  obtain ⟨hR1, hR2, hR3, hR4⟩ := hR
  have hx := C.1.1
  have hb := C.1.2.1
  have hml := C.1.2.2.1
  have hl : lv_has ls 2 [(0, .ref (ad (1, 0))), (1, .int a)] := hl
  obtain ⟨vR, vA, vN, vq, vp, vt, vQ, vP, vC, vX, vT, vW, vG, vS⟩ := id hV
  obtain ⟨vT1, vT2, vT3⟩ := vT
  obtain ⟨vW1, vW2⟩ := vW
  obtain ⟨vG1, vG2, vG3⟩ := vG
  obtain ⟨vN1, vN2⟩ := vN
  refine lv_iload_n hx hb dX7_quoteAt_0 rfl (lv_at hl 1 rfl) ?_
  refine lv_if_lt (tgt := 17) hx hb dX7_quoteAt_1 (by decide) (fun c1 => ?_) (fun c1 => ?_)
  · exact g_throwW (cls := "java/lang/IndexOutOfBoundsException") (text := "no such quote") (sa := 113) C hl0 hnx hQ hW hS hl.1 gE_IO (by decide +kernel) dX7_quoteAt_17 dX7_quoteAt_20 dX7_quoteAt_21 dX7_quoteAt_24 dX7_quoteAt_27 (by rw [hR1]; exact Nat.le_of_ble_eq_true rfl) (by rw [hR2]; exact Nat.le_of_ble_eq_true rfl) (by rw [hR3]; exact Nat.le_of_ble_eq_true rfl) (by rw [hR4]; exact Nat.le_of_ble_eq_true rfl) ⟨rfl, rfl, (by first | exact vout_of (by first | decide | omega) (Or.inl (by assumption)) | exact vout_of (by first | decide | omega) (Or.inr (Int32.not_lt.mp (by assumption))))⟩ (Nat.le_of_ble_eq_true rfl) (Nat.le_of_ble_eq_true rfl)
  · refine lv_iload_n hx hb dX7_quoteAt_4 rfl (lv_at hl 1 rfl) ?_
    refine lv_aload_n hx hb dX7_quoteAt_5 rfl (lv_at hl 0 rfl) ?_
    refine g_get (r := (1, 0)) (Cn := RX7) (T := TX7) (N := 7) (ci := 10) (v := .ref (ad (11, 0))) C tinX7 hW (hV.r (by decide)) rfl rfl 4 (by decide) tw_1_210 (fun _ h9 => h9) rfl dX7_quoteAt_6 ?_
    refine g_callFi (r := (11, 0)) (T := TJx4a65c) (N := 3) (x := ⟨"java/util/List", "size", "()I"⟩) (k2 := 0) (As := []) (rest := [.int a]) C (c_lsize l X L ad st0 ci ca cr 0 (cr 13 0) (hV.r (by decide)) (hV.2.1 0 (by decide)).1) tw_4_109 tw_4_113 tw_4_115 tw_1_6 (by decide +kernel) tw_4_117 (by decide +kernel) ⟨by rw [hR1]; exact Nat.le_of_ble_eq_true rfl, by rw [hR2]; exact Nat.le_of_ble_eq_true rfl⟩ hW hS (hV.r (by decide)) rfl rfl rfl hl.1 rfl (Nat.le_of_ble_eq_true rfl) dX7_quoteAt_9 ⟨by rw [hR3]; exact Nat.le_of_ble_eq_true rfl, by rw [hR4]; exact Nat.le_of_ble_eq_true rfl⟩ (fun x2 L9 ad9 st9 H locs hp hW hS => ?_)
    obtain ⟨z0, z1⟩ := hp
    cases z0
    subst z1
    refine lv_icmp_lt (tgt := 28) hx hb dX7_quoteAt_14 (by decide) (fun c3 => ?_) (fun c3 => ?_)
    · obtain ⟨k, hk, hak⟩ := vin_of (a := a) (N := cr 13 0) (by first | decide | omega) (by assumption) (fun q => by first | exact absurd q (Int32.not_le.mpr (by assumption)) | exact absurd q (by assumption))
      subst hak
      refine lv_aload_n hx hb dX7_quoteAt_28 rfl (lv_at hl 0 rfl) ?_
      refine g_get (r := (1, 0)) (Cn := RX7) (T := TX7) (N := 7) (ci := 10) (v := .ref (ad (11, 0))) C tinX7 hW (hV.r (by decide)) rfl rfl 4 (by decide) tw_1_210 (fun _ h9 => h9) rfl dX7_quoteAt_29 ?_
      refine lv_iload_n hx hb dX7_quoteAt_32 rfl (lv_at hl 1 rfl) ?_
      refine g_callFq (r := (11, 0)) (T := TJx4a65c) (N := 3) (x := ⟨"java/util/List", "get", "(I)Ljava/lang/Object;"⟩) (k2 := 1) (As := [.int (nI k)]) (rest := []) C (c_lget l X L ad st0 ci ca cr 0 k (hV.r (by decide)) (hV.lst (i := 0) (j := k) (by decide) (by omega)).1 (hV.2.1 0 (by decide)).1 (hV.lst (i := 0) (j := k) (by decide) (by omega)).2.1 (by omega) (hV.lst (i := 0) (j := k) (by decide) (by omega)).2.2.1 (by have h8 := (hV.lst (i := 0) (j := k) (by decide) (by omega)).2.2.2; omega)) tw_4_138 tw_4_141 tw_4_143 tw_1_6 (by decide +kernel) tw_4_145 (by decide +kernel) ⟨by rw [hR1]; exact Nat.le_of_ble_eq_true rfl, by rw [hR2]; exact Nat.le_of_ble_eq_true rfl⟩ hW hS (hV.r (by decide)) rfl rfl rfl hl.1 rfl (Nat.le_of_ble_eq_true rfl) dX7_quoteAt_33 ⟨by rw [hR3]; exact Nat.le_of_ble_eq_true rfl, by rw [hR4]; exact Nat.le_of_ble_eq_true rfl⟩ (fun v4 L9 ad9 st9 H locs hp hW hS => ?_)
      obtain ⟨z0, z1⟩ := hp
      cases z0
      subst z1
      refine lv_topV (y := .ref (ad (40, k))) (congrArg va_rf (if_pos (by omega))) ?_
      refine g_cst (r := (40, k)) (Cn := RX3) (T := TX3) (N := 8) (ci := 6) C hW (hV.qt (by omega)).1 rfl rfl tw_4_154 dX7_quoteAt_38 ?_
      exact g_qretX (v := some (ad (40, k))) C (Or.inl ⟨_, rfl⟩) hQ hW hS ⟨rfl, k, hk, rfl, rfl⟩ (Nat.le_of_ble_eq_true rfl) (Nat.le_of_ble_eq_true rfl) dX7_quoteAt_41
    · exact g_throwW (cls := "java/lang/IndexOutOfBoundsException") (text := "no such quote") (sa := 113) C hl0 hnx hQ hW hS hl.1 gE_IO (by decide +kernel) dX7_quoteAt_17 dX7_quoteAt_20 dX7_quoteAt_21 dX7_quoteAt_24 dX7_quoteAt_27 (by rw [hR1]; exact Nat.le_of_ble_eq_true rfl) (by rw [hR2]; exact Nat.le_of_ble_eq_true rfl) (by rw [hR3]; exact Nat.le_of_ble_eq_true rfl) (by rw [hR4]; exact Nat.le_of_ble_eq_true rfl) ⟨rfl, rfl, (by first | exact vout_of (by first | decide | omega) (Or.inl (by assumption)) | exact vout_of (by first | decide | omega) (Or.inr (Int32.not_lt.mp (by assumption))))⟩ (Nat.le_of_ble_eq_true rfl) (Nat.le_of_ble_eq_true rfl)

set_option maxHeartbeats 4000000 in
set_option maxRecDepth 100000 in
theorem c_X7_parcelAt (l : Launch) (X : GX) (L : List ro) (ad : ro → Nat) (st0 : ro → va_E) (ci : Nat → Nat → Int32) (ca : Nat → Nat → Nat → Int32) (cr : Nat → Nat → Nat) (n w tot nt : Nat) (kp nx : Nat → Nat) (hV : cV L ci ca cr n w tot nt kp nx) (hl0 : l.stackTraces = false) (a : Int32) : gXq l yX7_parcelAt cX7_parcelAt 2 (some (.object "RateGate$Parcel")) 6 82 1 6 X [.ref (ad (1, 0)), .int a] L ad (cSt X ad st0 ci ca cr) (fun v u => u = (L, ad, cSt X ad st0 ci ca cr) ∧ ∃ k, k < cr 13 1 ∧ a = nI k ∧ v = some (ad (50, k))) (fun E u => u = (L, ad, cSt X ad st0 ci ca cr) ∧ E = "java/lang/IndexOutOfBoundsException" ∧ ¬ vp_in a (cr 13 1)) := by
  intro sz
  refine gX_of2 (Qc := fun A => va_Qq _ (gB X A) A) (XC := fun A => gXC X A _) (by decide) (Nat.le_of_ble_eq_true rfl) ?_ sz
  intro p e s m args below meth c A R Q hR hQ hnx C hW hS ls hl
  obtain ⟨hR1, hR2, hR3, hR4⟩ := hR
  have hx := C.1.1
  have hb := C.1.2.1
  have hml := C.1.2.2.1
  have hl : lv_has ls 2 [(0, .ref (ad (1, 0))), (1, .int a)] := hl
  obtain ⟨vR, vA, vN, vq, vp, vt, vQ, vP, vC, vX, vT, vW, vG, vS⟩ := id hV
  obtain ⟨vT1, vT2, vT3⟩ := vT
  obtain ⟨vW1, vW2⟩ := vW
  obtain ⟨vG1, vG2, vG3⟩ := vG
  obtain ⟨vN1, vN2⟩ := vN
  refine lv_iload_n hx hb dX7_parcelAt_0 rfl (lv_at hl 1 rfl) ?_
  refine lv_if_lt (tgt := 17) hx hb dX7_parcelAt_1 (by decide) (fun c1 => ?_) (fun c1 => ?_)
  · exact g_throwW (cls := "java/lang/IndexOutOfBoundsException") (text := "no such parcel") (sa := 116) C hl0 hnx hQ hW hS hl.1 gE_IO (by decide +kernel) dX7_parcelAt_17 dX7_parcelAt_20 dX7_parcelAt_21 dX7_parcelAt_24 dX7_parcelAt_27 (by rw [hR1]; exact Nat.le_of_ble_eq_true rfl) (by rw [hR2]; exact Nat.le_of_ble_eq_true rfl) (by rw [hR3]; exact Nat.le_of_ble_eq_true rfl) (by rw [hR4]; exact Nat.le_of_ble_eq_true rfl) ⟨rfl, rfl, (by first | exact vout_of (by first | decide | omega) (Or.inl (by assumption)) | exact vout_of (by first | decide | omega) (Or.inr (Int32.not_lt.mp (by assumption))))⟩ (Nat.le_of_ble_eq_true rfl) (Nat.le_of_ble_eq_true rfl)
  · refine lv_iload_n hx hb dX7_parcelAt_4 rfl (lv_at hl 1 rfl) ?_
    refine lv_aload_n hx hb dX7_parcelAt_5 rfl (lv_at hl 0 rfl) ?_
    refine g_get (r := (1, 0)) (Cn := RX7) (T := TX7) (N := 7) (ci := 10) (v := .ref (ad (11, 1))) C tinX7 hW (hV.r (by decide)) rfl rfl 5 (by decide) tw_1_211 (fun _ h9 => h9) rfl dX7_parcelAt_6 ?_
    refine g_callFi (r := (11, 1)) (T := TJx4a65c) (N := 3) (x := ⟨"java/util/List", "size", "()I"⟩) (k2 := 0) (As := []) (rest := [.int a]) C (c_lsize l X L ad st0 ci ca cr 1 (cr 13 1) (hV.r (by decide)) (hV.2.1 1 (by decide)).1) tw_4_109 tw_4_113 tw_4_115 tw_1_6 (by decide +kernel) tw_4_117 (by decide +kernel) ⟨by rw [hR1]; exact Nat.le_of_ble_eq_true rfl, by rw [hR2]; exact Nat.le_of_ble_eq_true rfl⟩ hW hS (hV.r (by decide)) rfl rfl rfl hl.1 rfl (Nat.le_of_ble_eq_true rfl) dX7_parcelAt_9 ⟨by rw [hR3]; exact Nat.le_of_ble_eq_true rfl, by rw [hR4]; exact Nat.le_of_ble_eq_true rfl⟩ (fun x2 L9 ad9 st9 H locs hp hW hS => ?_)
    obtain ⟨z0, z1⟩ := hp
    cases z0
    subst z1
    refine lv_icmp_lt (tgt := 28) hx hb dX7_parcelAt_14 (by decide) (fun c3 => ?_) (fun c3 => ?_)
    · obtain ⟨k, hk, hak⟩ := vin_of (a := a) (N := cr 13 1) (by first | decide | omega) (by assumption) (fun q => by first | exact absurd q (Int32.not_le.mpr (by assumption)) | exact absurd q (by assumption))
      subst hak
      refine lv_aload_n hx hb dX7_parcelAt_28 rfl (lv_at hl 0 rfl) ?_
      refine g_get (r := (1, 0)) (Cn := RX7) (T := TX7) (N := 7) (ci := 10) (v := .ref (ad (11, 1))) C tinX7 hW (hV.r (by decide)) rfl rfl 5 (by decide) tw_1_211 (fun _ h9 => h9) rfl dX7_parcelAt_29 ?_
      refine lv_iload_n hx hb dX7_parcelAt_32 rfl (lv_at hl 1 rfl) ?_
      refine g_callFq (r := (11, 1)) (T := TJx4a65c) (N := 3) (x := ⟨"java/util/List", "get", "(I)Ljava/lang/Object;"⟩) (k2 := 1) (As := [.int (nI k)]) (rest := []) C (c_lget l X L ad st0 ci ca cr 1 k (hV.r (by decide)) (hV.lst (i := 1) (j := k) (by decide) (by omega)).1 (hV.2.1 1 (by decide)).1 (hV.lst (i := 1) (j := k) (by decide) (by omega)).2.1 (by omega) (hV.lst (i := 1) (j := k) (by decide) (by omega)).2.2.1 (by have h8 := (hV.lst (i := 1) (j := k) (by decide) (by omega)).2.2.2; omega)) tw_4_138 tw_4_141 tw_4_143 tw_1_6 (by decide +kernel) tw_4_145 (by decide +kernel) ⟨by rw [hR1]; exact Nat.le_of_ble_eq_true rfl, by rw [hR2]; exact Nat.le_of_ble_eq_true rfl⟩ hW hS (hV.r (by decide)) rfl rfl rfl hl.1 rfl (Nat.le_of_ble_eq_true rfl) dX7_parcelAt_33 ⟨by rw [hR3]; exact Nat.le_of_ble_eq_true rfl, by rw [hR4]; exact Nat.le_of_ble_eq_true rfl⟩ (fun v4 L9 ad9 st9 H locs hp hW hS => ?_)
      obtain ⟨z0, z1⟩ := hp
      cases z0
      subst z1
      refine lv_topV (y := .ref (ad (50, k))) (congrArg va_rf (if_pos (by omega))) ?_
      refine g_cst (r := (50, k)) (Cn := RX2) (T := TX2) (N := 4) (ci := 5) C hW (hV.pc (by omega)).1 rfl rfl tw_5_101 dX7_parcelAt_38 ?_
      exact g_qretX (v := some (ad (50, k))) C (Or.inl ⟨_, rfl⟩) hQ hW hS ⟨rfl, k, hk, rfl, rfl⟩ (Nat.le_of_ble_eq_true rfl) (Nat.le_of_ble_eq_true rfl) dX7_parcelAt_41
    · exact g_throwW (cls := "java/lang/IndexOutOfBoundsException") (text := "no such parcel") (sa := 116) C hl0 hnx hQ hW hS hl.1 gE_IO (by decide +kernel) dX7_parcelAt_17 dX7_parcelAt_20 dX7_parcelAt_21 dX7_parcelAt_24 dX7_parcelAt_27 (by rw [hR1]; exact Nat.le_of_ble_eq_true rfl) (by rw [hR2]; exact Nat.le_of_ble_eq_true rfl) (by rw [hR3]; exact Nat.le_of_ble_eq_true rfl) (by rw [hR4]; exact Nat.le_of_ble_eq_true rfl) ⟨rfl, rfl, (by first | exact vout_of (by first | decide | omega) (Or.inl (by assumption)) | exact vout_of (by first | decide | omega) (Or.inr (Int32.not_lt.mp (by assumption))))⟩ (Nat.le_of_ble_eq_true rfl) (Nat.le_of_ble_eq_true rfl)

