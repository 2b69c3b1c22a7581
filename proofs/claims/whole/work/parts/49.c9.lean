theorem i2b_eq {ch : Int32} (h1 : 0 ≤ ch) (h2 : ch ≤ 255) : ∀ b ∈ ([83, 67, 70, 84, 87, 88] : List Int32), vp_nar .byte ch = b ↔ ch = b := by
  rw [Int32.le_iff_toInt_le] at h1 h2
  have e0 : (0 : Int32).toInt = 0 := rfl
  have e1 : (255 : Int32).toInt = 255 := rfl
  have hq : ch.toInt.toNat < 256 := by omega
  have he : ch = Int32.ofNat ch.toInt.toNat := by
    apply Int32.toInt_inj.mp
    rw [Int32.toInt_ofNat_of_lt (by omega)]
    omega
  have key : ∀ q : Fin 256, ∀ b ∈ ([83, 67, 70, 84, 87, 88] : List Int32), vp_nar .byte (Int32.ofNat q.1) = b ↔ Int32.ofNat q.1 = b := by decide +kernel
  have k2 := key ⟨ch.toInt.toNat, hq⟩
  rw [he]
  exact k2
set_option maxHeartbeats 4000000 in
set_option maxRecDepth 100000 in
theorem c_J1_canEncode_9a6ad (l : Launch) (X : GX) (L : List ro) (ad : ro → Nat) (st : ro → va_E) (a : Int32) : gS l yJ1_canEncode_9a6ad cJ1_canEncode_9a6ad 1 (some .boolean) 0 0 X [.int a] L ad st (fun v => ((0 ≤ a ∧ a ≤ 255) ∧ v = 1) ∨ (¬ (0 ≤ a ∧ a ≤ 255) ∧ v = 0)) := by
  intro sz
  refine gM_of2 (Qc := fun A => va_Qi _ (gB X A) A) (by decide) (Nat.le_of_ble_eq_true rfl) ?_ sz
  intro p e s m args below meth c A R Q hR hQ C hW hS ls hl
  obtain ⟨hR1, hR2, hR3, hR4⟩ := hR
  have hx := C.1.1
  have hb := C.1.2.1
  have hml := C.1.2.2.1
  have hl : lv_has ls 1 [(0, .int a)] := hl
  refine lv_iload_n hx hb dJ1_canEncode_9a6ad_0 rfl (lv_at hl 0 rfl) ?_
  refine lv_if_lt (tgt := 15) hx hb dJ1_canEncode_9a6ad_1 (by decide) (fun c1 => ?_) (fun c1 => ?_)
  · refine lv_iconst (v := 0) hx hb dJ1_canEncode_9a6ad_15 (by decide) ?_
    exact g_iret2 C hQ hW hS ⟨rfl, by grind⟩ (by decide) (Nat.zero_le _) (Nat.zero_le _) dJ1_canEncode_9a6ad_16
  · refine lv_iload_n hx hb dJ1_canEncode_9a6ad_4 rfl (lv_at hl 0 rfl) ?_
    refine lv_sipush (v := 255) hx hb dJ1_canEncode_9a6ad_5 (by decide) ?_
    refine lv_icmp_gt (tgt := 15) hx hb dJ1_canEncode_9a6ad_8 (by decide) (fun c2 => ?_) (fun c2 => ?_)
    · refine lv_iconst (v := 0) hx hb dJ1_canEncode_9a6ad_15 (by decide) ?_
      exact g_iret2 C hQ hW hS ⟨rfl, by grind⟩ (by decide) (Nat.zero_le _) (Nat.zero_le _) dJ1_canEncode_9a6ad_16
    · refine lv_iconst (v := 1) hx hb dJ1_canEncode_9a6ad_11 (by decide) ?_
      refine lv_goto (tgt := 16) hx hb dJ1_canEncode_9a6ad_12 (by decide) ?_
      exact g_iret2 C hQ hW hS ⟨rfl, by grind⟩ (by decide) (Nat.zero_le _) (Nat.zero_le _) dJ1_canEncode_9a6ad_16

set_option maxHeartbeats 4000000 in
theorem c_J1_indexOfChar_4cfef (l : Launch) (X : GX) (L : List ro) (ad : ro → Nat) (st : ro → va_E) (ch : Int32) (hch : 0 ≤ ch ∧ ch ≤ 255) : gS l yJ1_indexOfChar_4cfef cJ1_indexOfChar_4cfef 6 (some .int) 0 0 X [.ref (X.2.2 (10 + 5)), .int ch, .int 0, .int 6] L ad st (fun v => v = rd_sgn ch) := by
  intro sz
  refine gM_of2 (Qc := fun A => va_Qi _ (gB X A) A) (by decide) (Nat.le_of_ble_eq_true rfl) ?_ sz
  intro p e s m args below meth c A R Q hR hQ C hW hS ls hl
  obtain ⟨hR1, hR2, hR3, hR4⟩ := hR
  have hx := C.1.1
  have hb := C.1.2.1
  have hml := C.1.2.2.1
  have hl : lv_has ls 6 [(0, .ref (X.2.2 (10 + 5))), (1, .int ch), (2, .int 0), (3, .int 6)] := hl
  refine lv_iload_n hx hb dJ1_indexOfChar_4cfef_0 rfl (lv_at hl 1 rfl) ?_
  refine lv_i2b hx hb dJ1_indexOfChar_4cfef_1 rfl ?_
  refine lv_topi (fun bx ebx => ?_)
  have hb83 : bx = 83 ↔ ch = 83 := by rw [ebx]; exact i2b_eq hch.1 hch.2 83 (by decide)
  have hb67 : bx = 67 ↔ ch = 67 := by rw [ebx]; exact i2b_eq hch.1 hch.2 67 (by decide)
  have hb70 : bx = 70 ↔ ch = 70 := by rw [ebx]; exact i2b_eq hch.1 hch.2 70 (by decide)
  have hb84 : bx = 84 ↔ ch = 84 := by rw [ebx]; exact i2b_eq hch.1 hch.2 84 (by decide)
  have hb87 : bx = 87 ↔ ch = 87 := by rw [ebx]; exact i2b_eq hch.1 hch.2 87 (by decide)
  have hb88 : bx = 88 ↔ ch = 88 := by rw [ebx]; exact i2b_eq hch.1 hch.2 88 (by decide)
  refine lv_istore (lv' := [(4, .int bx), (0, .ref (X.2.2 (10 + 5))), (1, .int ch), (2, .int 0), (3, .int 6)]) hx hb dJ1_indexOfChar_4cfef_2 hl (by decide) rfl (fun ls hl => ?_)
  refine lv_iload_n hx hb dJ1_indexOfChar_4cfef_4 rfl (lv_at hl 3 rfl) ?_
  refine lv_istore (lv' := [(5, .int 0), (4, .int bx), (0, .ref (X.2.2 (10 + 5))), (1, .int ch), (2, .int 0), (3, .int 6)]) hx hb dJ1_indexOfChar_4cfef_5 hl (by decide) rfl (fun ls hl => ?_)
  refine lv_iload hx hb dJ1_indexOfChar_4cfef_7 (lv_at hl 0 rfl) ?_
  refine lv_iload_n hx hb dJ1_indexOfChar_4cfef_9 rfl (lv_at hl 5 rfl) ?_
  refine lv_icmp_ge (tgt := 31) hx hb dJ1_indexOfChar_4cfef_10 (by decide) (fun c9 => absurd c9 (by decide)) (fun _ => ?_)
  refine lv_aload_n hx hb dJ1_indexOfChar_4cfef_13 rfl (lv_at hl 2 rfl) ?_
  refine lv_iload hx hb dJ1_indexOfChar_4cfef_14 (lv_at hl 0 rfl) ?_
  refine va_tb (v := .int 83) hx hb (g_tx C (k := 5) (by decide)).2.2.2 hS (vp_in_nI (n := 0) (N := 6) (by decide) (by decide)) rfl dJ1_indexOfChar_4cfef_16 ?_
  refine lv_iload hx hb dJ1_indexOfChar_4cfef_17 (lv_at hl 1 rfl) ?_
  refine lv_icmp_ne (tgt := 25) hx hb dJ1_indexOfChar_4cfef_19 (by decide) (fun c1 => ?_) (fun c1 => ?_)
  · refine lv_iinc (v := 1) (lv' := [(5, .int 1), (4, .int bx), (0, .ref (X.2.2 (10 + 5))), (1, .int ch), (2, .int 0), (3, .int 6)]) hx hb dJ1_indexOfChar_4cfef_25 hl (k := 0) rfl (by decide) (by decide) rfl (fun ls hl => ?_)
    refine lv_goto (tgt := 7) hx hb dJ1_indexOfChar_4cfef_28 (by decide) ?_
    refine lv_iload hx hb dJ1_indexOfChar_4cfef_7 (lv_at hl 0 rfl) ?_
    refine lv_iload_n hx hb dJ1_indexOfChar_4cfef_9 rfl (lv_at hl 5 rfl) ?_
    refine lv_icmp_ge (tgt := 31) hx hb dJ1_indexOfChar_4cfef_10 (by decide) (fun c9 => absurd c9 (by decide)) (fun _ => ?_)
    refine lv_aload_n hx hb dJ1_indexOfChar_4cfef_13 rfl (lv_at hl 2 rfl) ?_
    refine lv_iload hx hb dJ1_indexOfChar_4cfef_14 (lv_at hl 0 rfl) ?_
    refine va_tb (v := .int 67) hx hb (g_tx C (k := 5) (by decide)).2.2.2 hS (vp_in_nI (n := 1) (N := 6) (by decide) (by decide)) rfl dJ1_indexOfChar_4cfef_16 ?_
    refine lv_iload hx hb dJ1_indexOfChar_4cfef_17 (lv_at hl 1 rfl) ?_
    refine lv_icmp_ne (tgt := 25) hx hb dJ1_indexOfChar_4cfef_19 (by decide) (fun c3 => ?_) (fun c3 => ?_)
    · refine lv_iinc (v := 2) (lv' := [(5, .int 2), (4, .int bx), (0, .ref (X.2.2 (10 + 5))), (1, .int ch), (2, .int 0), (3, .int 6)]) hx hb dJ1_indexOfChar_4cfef_25 hl (k := 0) rfl (by decide) (by decide) rfl (fun ls hl => ?_)
      refine lv_goto (tgt := 7) hx hb dJ1_indexOfChar_4cfef_28 (by decide) ?_
      refine lv_iload hx hb dJ1_indexOfChar_4cfef_7 (lv_at hl 0 rfl) ?_
      refine lv_iload_n hx hb dJ1_indexOfChar_4cfef_9 rfl (lv_at hl 5 rfl) ?_
      refine lv_icmp_ge (tgt := 31) hx hb dJ1_indexOfChar_4cfef_10 (by decide) (fun c9 => absurd c9 (by decide)) (fun _ => ?_)
      refine lv_aload_n hx hb dJ1_indexOfChar_4cfef_13 rfl (lv_at hl 2 rfl) ?_
      refine lv_iload hx hb dJ1_indexOfChar_4cfef_14 (lv_at hl 0 rfl) ?_
      refine va_tb (v := .int 70) hx hb (g_tx C (k := 5) (by decide)).2.2.2 hS (vp_in_nI (n := 2) (N := 6) (by decide) (by decide)) rfl dJ1_indexOfChar_4cfef_16 ?_
      refine lv_iload hx hb dJ1_indexOfChar_4cfef_17 (lv_at hl 1 rfl) ?_
      refine lv_icmp_ne (tgt := 25) hx hb dJ1_indexOfChar_4cfef_19 (by decide) (fun c5 => ?_) (fun c5 => ?_)
      · refine lv_iinc (v := 3) (lv' := [(5, .int 3), (4, .int bx), (0, .ref (X.2.2 (10 + 5))), (1, .int ch), (2, .int 0), (3, .int 6)]) hx hb dJ1_indexOfChar_4cfef_25 hl (k := 0) rfl (by decide) (by decide) rfl (fun ls hl => ?_)
        refine lv_goto (tgt := 7) hx hb dJ1_indexOfChar_4cfef_28 (by decide) ?_
        refine lv_iload hx hb dJ1_indexOfChar_4cfef_7 (lv_at hl 0 rfl) ?_
        refine lv_iload_n hx hb dJ1_indexOfChar_4cfef_9 rfl (lv_at hl 5 rfl) ?_
        refine lv_icmp_ge (tgt := 31) hx hb dJ1_indexOfChar_4cfef_10 (by decide) (fun c9 => absurd c9 (by decide)) (fun _ => ?_)
        refine lv_aload_n hx hb dJ1_indexOfChar_4cfef_13 rfl (lv_at hl 2 rfl) ?_
        refine lv_iload hx hb dJ1_indexOfChar_4cfef_14 (lv_at hl 0 rfl) ?_
        refine va_tb (v := .int 84) hx hb (g_tx C (k := 5) (by decide)).2.2.2 hS (vp_in_nI (n := 3) (N := 6) (by decide) (by decide)) rfl dJ1_indexOfChar_4cfef_16 ?_
        refine lv_iload hx hb dJ1_indexOfChar_4cfef_17 (lv_at hl 1 rfl) ?_
        refine lv_icmp_ne (tgt := 25) hx hb dJ1_indexOfChar_4cfef_19 (by decide) (fun c7 => ?_) (fun c7 => ?_)
        · refine lv_iinc (v := 4) (lv' := [(5, .int 4), (4, .int bx), (0, .ref (X.2.2 (10 + 5))), (1, .int ch), (2, .int 0), (3, .int 6)]) hx hb dJ1_indexOfChar_4cfef_25 hl (k := 0) rfl (by decide) (by decide) rfl (fun ls hl => ?_)
          refine lv_goto (tgt := 7) hx hb dJ1_indexOfChar_4cfef_28 (by decide) ?_
          refine lv_iload hx hb dJ1_indexOfChar_4cfef_7 (lv_at hl 0 rfl) ?_
          refine lv_iload_n hx hb dJ1_indexOfChar_4cfef_9 rfl (lv_at hl 5 rfl) ?_
          refine lv_icmp_ge (tgt := 31) hx hb dJ1_indexOfChar_4cfef_10 (by decide) (fun c9 => absurd c9 (by decide)) (fun _ => ?_)
          refine lv_aload_n hx hb dJ1_indexOfChar_4cfef_13 rfl (lv_at hl 2 rfl) ?_
          refine lv_iload hx hb dJ1_indexOfChar_4cfef_14 (lv_at hl 0 rfl) ?_
          refine va_tb (v := .int 87) hx hb (g_tx C (k := 5) (by decide)).2.2.2 hS (vp_in_nI (n := 4) (N := 6) (by decide) (by decide)) rfl dJ1_indexOfChar_4cfef_16 ?_
          refine lv_iload hx hb dJ1_indexOfChar_4cfef_17 (lv_at hl 1 rfl) ?_
          refine lv_icmp_ne (tgt := 25) hx hb dJ1_indexOfChar_4cfef_19 (by decide) (fun c9 => ?_) (fun c9 => ?_)
          · refine lv_iinc (v := 5) (lv' := [(5, .int 5), (4, .int bx), (0, .ref (X.2.2 (10 + 5))), (1, .int ch), (2, .int 0), (3, .int 6)]) hx hb dJ1_indexOfChar_4cfef_25 hl (k := 0) rfl (by decide) (by decide) rfl (fun ls hl => ?_)
            refine lv_goto (tgt := 7) hx hb dJ1_indexOfChar_4cfef_28 (by decide) ?_
            refine lv_iload hx hb dJ1_indexOfChar_4cfef_7 (lv_at hl 0 rfl) ?_
            refine lv_iload_n hx hb dJ1_indexOfChar_4cfef_9 rfl (lv_at hl 5 rfl) ?_
            refine lv_icmp_ge (tgt := 31) hx hb dJ1_indexOfChar_4cfef_10 (by decide) (fun c9 => absurd c9 (by decide)) (fun _ => ?_)
            refine lv_aload_n hx hb dJ1_indexOfChar_4cfef_13 rfl (lv_at hl 2 rfl) ?_
            refine lv_iload hx hb dJ1_indexOfChar_4cfef_14 (lv_at hl 0 rfl) ?_
            refine va_tb (v := .int 88) hx hb (g_tx C (k := 5) (by decide)).2.2.2 hS (vp_in_nI (n := 5) (N := 6) (by decide) (by decide)) rfl dJ1_indexOfChar_4cfef_16 ?_
            refine lv_iload hx hb dJ1_indexOfChar_4cfef_17 (lv_at hl 1 rfl) ?_
            refine lv_icmp_ne (tgt := 25) hx hb dJ1_indexOfChar_4cfef_19 (by decide) (fun c11 => ?_) (fun c11 => ?_)
            · refine lv_iinc (v := 6) (lv' := [(5, .int 6), (4, .int bx), (0, .ref (X.2.2 (10 + 5))), (1, .int ch), (2, .int 0), (3, .int 6)]) hx hb dJ1_indexOfChar_4cfef_25 hl (k := 0) rfl (by decide) (by decide) rfl (fun ls hl => ?_)
              refine lv_goto (tgt := 7) hx hb dJ1_indexOfChar_4cfef_28 (by decide) ?_
              refine lv_iload hx hb dJ1_indexOfChar_4cfef_7 (lv_at hl 0 rfl) ?_
              refine lv_iload_n hx hb dJ1_indexOfChar_4cfef_9 rfl (lv_at hl 5 rfl) ?_
              refine lv_icmp_ge (tgt := 31) hx hb dJ1_indexOfChar_4cfef_10 (by decide) (fun _ => ?_) (fun c9 => absurd (by decide) c9)
              refine lv_iconst (v := (-1)) hx hb dJ1_indexOfChar_4cfef_31 (by decide) ?_
              exact g_iret2 C hQ hW hS ⟨rfl, by unfold rd_sgn; grind⟩ rfl (Nat.zero_le _) (Nat.zero_le _) dJ1_indexOfChar_4cfef_32
            · refine lv_iload hx hb dJ1_indexOfChar_4cfef_22 (lv_at hl 0 rfl) ?_
              exact g_iret2 C hQ hW hS ⟨rfl, by unfold rd_sgn; grind⟩ rfl (Nat.zero_le _) (Nat.zero_le _) dJ1_indexOfChar_4cfef_24
          · refine lv_iload hx hb dJ1_indexOfChar_4cfef_22 (lv_at hl 0 rfl) ?_
            exact g_iret2 C hQ hW hS ⟨rfl, by unfold rd_sgn; grind⟩ rfl (Nat.zero_le _) (Nat.zero_le _) dJ1_indexOfChar_4cfef_24
        · refine lv_iload hx hb dJ1_indexOfChar_4cfef_22 (lv_at hl 0 rfl) ?_
          exact g_iret2 C hQ hW hS ⟨rfl, by unfold rd_sgn; grind⟩ rfl (Nat.zero_le _) (Nat.zero_le _) dJ1_indexOfChar_4cfef_24
      · refine lv_iload hx hb dJ1_indexOfChar_4cfef_22 (lv_at hl 0 rfl) ?_
        exact g_iret2 C hQ hW hS ⟨rfl, by unfold rd_sgn; grind⟩ rfl (Nat.zero_le _) (Nat.zero_le _) dJ1_indexOfChar_4cfef_24
    · refine lv_iload hx hb dJ1_indexOfChar_4cfef_22 (lv_at hl 0 rfl) ?_
      exact g_iret2 C hQ hW hS ⟨rfl, by unfold rd_sgn; grind⟩ rfl (Nat.zero_le _) (Nat.zero_le _) dJ1_indexOfChar_4cfef_24
  · refine lv_iload hx hb dJ1_indexOfChar_4cfef_22 (lv_at hl 0 rfl) ?_
    exact g_iret2 C hQ hW hS ⟨rfl, by unfold rd_sgn; grind⟩ rfl (Nat.zero_le _) (Nat.zero_le _) dJ1_indexOfChar_4cfef_24

set_option maxHeartbeats 4000000 in
theorem c_J1_indexOf_4cfef (l : Launch) (X : GX) (L : List ro) (ad : ro → Nat) (st : ro → va_E) (ch : Int32) : gS l yJ1_indexOf_4cfef cJ1_indexOf_4cfef 4 (some .int) 1 25 X [.ref (X.2.2 (10 + 5)), .int ch, .int 0, .int 6] L ad st (fun v => v = rd_sgn ch) := by
  intro sz
  refine gM_of2 (Qc := fun A => va_Qi _ (gB X A) A) (by decide) (Nat.le_of_ble_eq_true rfl) ?_ sz
  intro p e s m args below meth c A R Q hR hQ C hW hS ls hl
  obtain ⟨hR1, hR2, hR3, hR4⟩ := hR
  have hx := C.1.1
  have hb := C.1.2.1
  have hml := C.1.2.2.1
  have hl : lv_has ls 4 [(0, .ref (X.2.2 (10 + 5))), (1, .int ch), (2, .int 0), (3, .int 6)] := hl
  refine lv_iload_n hx hb dJ1_indexOf_4cfef_0 rfl (lv_at hl 1 rfl) ?_
  refine g_callSp (k2 := 1) (As := [.int ch]) (rest := []) C (c_J1_canEncode_9a6ad l X L ad _ ch) tw_2_57 tw_2_58 tw_1_18 tw_2_59 (by decide +kernel) ⟨by rw [hR1]; exact Nat.le_of_ble_eq_true rfl, by rw [hR2]; exact Nat.le_of_ble_eq_true rfl⟩ hW hS rfl hl.1 rfl (Nat.le_of_ble_eq_true rfl) dJ1_indexOf_4cfef_1 ⟨Nat.zero_le _, Nat.zero_le _⟩ (fun v9 H locs hp hW hS => ?_)
  have h1 := hp
  rcases h1 with ⟨h1, e9⟩ | ⟨h1, e9⟩
  · subst e9
    refine lv_if_ne (tgt := 9) hx hb dJ1_indexOf_4cfef_4 (by decide) (fun _ => ?_) (fun c9 => absurd c9 (by decide))
    refine lv_iload_n hx hb dJ1_indexOf_4cfef_9 rfl (lv_at hl 2 rfl) ?_
    refine lv_iconst (v := 0) hx hb dJ1_indexOf_4cfef_10 (by decide) ?_
    refine va_mmax hx hb (hml.trans hl.1.symm) C.1.2.2.2.1 (C.1.2.2.2.2 _ tw_2_60) (C.1.2.2.2.2 _ tw_2_61) (C.1.2.2.2.2 _ tw_1_19) (C.1.2.2.2.2 _ tw_2_62) (by rw [hR1]; exact Nat.le_of_ble_eq_true rfl) (by rw [hR2]; exact Nat.le_of_ble_eq_true rfl) (by rw [hR3]; exact Nat.zero_le _) (by rw [hR4]; exact Nat.zero_le _) dJ1_indexOf_4cfef_11 ?_
    refine lv_topE (y := 0) (by decide) ?_
    refine lv_istore_n (lv' := [(2, .int 0), (0, .ref (X.2.2 (10 + 5))), (1, .int ch), (3, .int 6)]) hx hb dJ1_indexOf_4cfef_14 rfl hl (by decide) rfl (fun ls hl => ?_)
    refine lv_iload_n hx hb dJ1_indexOf_4cfef_15 rfl (lv_at hl 3 rfl) ?_
    refine lv_aload_n hx hb dJ1_indexOf_4cfef_16 rfl (lv_at hl 1 rfl) ?_
    refine va_tlen (v := nI (gsLen.getD 5 0)) hx hb (g_tx C (by decide)).2.2.2 hS rfl dJ1_indexOf_4cfef_17 ?_
    refine va_mmin hx hb (hml.trans hl.1.symm) C.1.2.2.2.1 (C.1.2.2.2.2 _ tw_2_63) (C.1.2.2.2.2 _ tw_2_64) (C.1.2.2.2.2 _ tw_1_19) (C.1.2.2.2.2 _ tw_2_65) (by rw [hR1]; exact Nat.le_of_ble_eq_true rfl) (by rw [hR2]; exact Nat.le_of_ble_eq_true rfl) (by rw [hR3]; exact Nat.zero_le _) (by rw [hR4]; exact Nat.zero_le _) dJ1_indexOf_4cfef_18 ?_
    refine lv_topE (y := 6) (by decide) ?_
    refine lv_istore_n (lv' := [(3, .int 6), (2, .int 0), (0, .ref (X.2.2 (10 + 5))), (1, .int ch)]) hx hb dJ1_indexOf_4cfef_21 rfl hl (by decide) rfl (fun ls hl => ?_)
    refine lv_iload_n hx hb dJ1_indexOf_4cfef_22 rfl (lv_at hl 1 rfl) ?_
    refine lv_iload_n hx hb dJ1_indexOf_4cfef_23 rfl (lv_at hl 0 rfl) ?_
    refine lv_icmp_lt (tgt := 29) hx hb dJ1_indexOf_4cfef_24 (by decide) (fun _ => ?_) (fun c9 => absurd (by decide) c9)
    refine lv_aload_n hx hb dJ1_indexOf_4cfef_29 rfl (lv_at hl 2 rfl) ?_
    refine lv_iload_n hx hb dJ1_indexOf_4cfef_30 rfl (lv_at hl 3 rfl) ?_
    refine lv_iload_n hx hb dJ1_indexOf_4cfef_31 rfl (lv_at hl 1 rfl) ?_
    refine lv_iload_n hx hb dJ1_indexOf_4cfef_32 rfl (lv_at hl 0 rfl) ?_
    refine g_callSp (k2 := 4) (As := [.ref (X.2.2 (10 + 5)), .int ch, .int 0, .int 6]) (rest := []) C (c_J1_indexOfChar_4cfef l X L ad st ch (by assumption)) tw_2_66 tw_2_67 tw_1_18 tw_2_68 (by decide +kernel) ⟨by rw [hR1]; exact Nat.le_of_ble_eq_true rfl, by rw [hR2]; exact Nat.le_of_ble_eq_true rfl⟩ hW hS rfl hl.1 rfl (Nat.le_of_ble_eq_true rfl) dJ1_indexOf_4cfef_33 ⟨Nat.zero_le _, Nat.zero_le _⟩ (fun x2 H locs hp hW hS => ?_)
    subst hp
    exact g_iret2 C hQ hW hS ⟨rfl, rfl⟩ rfl (Nat.zero_le _) (Nat.zero_le _) dJ1_indexOf_4cfef_36
  · subst e9
    refine lv_if_ne (tgt := 9) hx hb dJ1_indexOf_4cfef_4 (by decide) (fun c9 => absurd c9 (by decide)) (fun _ => ?_)
    refine lv_iconst (v := (-1)) hx hb dJ1_indexOf_4cfef_7 (by decide) ?_
    exact g_iret2 C hQ hW hS ⟨rfl, by unfold rd_sgn; grind⟩ rfl (Nat.zero_le _) (Nat.zero_le _) dJ1_indexOf_4cfef_8

set_option maxHeartbeats 4000000 in
theorem c_J0_indexOf_7cf53 (l : Launch) (X : GX) (L : List ro) (ad : ro → Nat) (st : ro → va_E) (ch : Int32) : gS l yJ0_indexOf_7cf53 cJ0_indexOf_7cf53 3 (some .int) 2 48 X [.ref (X.2.2 5), .int ch, .int 0] L ad st (fun v => v = rd_sgn ch) := by
  intro sz
  refine gM_of2 (Qc := fun A => va_Qi _ (gB X A) A) (by decide) (Nat.le_of_ble_eq_true rfl) ?_ sz
  intro p e s m args below meth c A R Q hR hQ C hW hS ls hl
  obtain ⟨hR1, hR2, hR3, hR4⟩ := hR
  have hx := C.1.1
  have hb := C.1.2.1
  have hml := C.1.2.2.1
  have hl : lv_has ls 3 [(0, .ref (X.2.2 5)), (1, .int ch), (2, .int 0)] := hl
  refine lv_aload_n hx hb dJ0_indexOf_7cf53_0 rfl (lv_at hl 0 rfl) ?_
  refine g_callTi (k := 5) (k2 := 0) (As := []) (rest := []) (by decide) C (c_J0_isLatin1_aae02 l X L ad st 5 (by decide)) tw_2_40 tw_2_41 tw_2_42 tw_1_17 tw_2_43 (by decide +kernel) ⟨by rw [hR1]; exact Nat.le_of_ble_eq_true rfl, by rw [hR2]; exact Nat.le_of_ble_eq_true rfl⟩ hW hS rfl hl.1 rfl (Nat.le_of_ble_eq_true rfl) dJ0_indexOf_7cf53_1 ⟨Nat.zero_le _, Nat.zero_le _⟩ (fun x1 H locs hp hW hS => ?_)
  subst hp
  refine lv_if_eq (tgt := 23) hx hb dJ0_indexOf_7cf53_4 (by decide) (fun c9 => absurd c9 (by decide)) (fun _ => ?_)
  refine lv_aload_n hx hb dJ0_indexOf_7cf53_7 rfl (lv_at hl 0 rfl) ?_
  refine vk_getf hx hb (g_tx C (by decide)).2.2.1 hS C.1.2.2.2.1 (C.1.2.2.2.2 _ tw_3_209) (fun _ h9 => h9) dJ0_indexOf_7cf53_8 ?_
  refine lv_iload_n hx hb dJ0_indexOf_7cf53_11 rfl (lv_at hl 1 rfl) ?_
  refine lv_iload_n hx hb dJ0_indexOf_7cf53_12 rfl (lv_at hl 2 rfl) ?_
  refine lv_aload_n hx hb dJ0_indexOf_7cf53_13 rfl (lv_at hl 0 rfl) ?_
  refine g_callTi (k := 5) (k2 := 0) (As := []) (rest := [.int 0, .int ch, .ref (X.2.2 (10 + 5))]) (by decide) C (c_J0_length_8abf5 l X L ad st 5 (by decide)) tw_2_46 tw_2_47 tw_2_48 tw_1_17 tw_2_49 (by decide +kernel) ⟨by rw [hR1]; exact Nat.le_of_ble_eq_true rfl, by rw [hR2]; exact Nat.le_of_ble_eq_true rfl⟩ hW hS rfl hl.1 rfl (Nat.le_of_ble_eq_true rfl) dJ0_indexOf_7cf53_14 ⟨Nat.zero_le _, Nat.zero_le _⟩ (fun x2 H locs hp hW hS => ?_)
  subst hp
  refine lv_topE (y := 6) (by decide) ?_
  refine g_callSp (k2 := 4) (As := [.ref (X.2.2 (10 + 5)), .int ch, .int 0, .int 6]) (rest := []) C (c_J1_indexOf_4cfef l X L ad st ch) tw_2_54 tw_2_55 tw_1_18 tw_2_56 (by decide +kernel) ⟨by rw [hR1]; exact Nat.le_of_ble_eq_true rfl, by rw [hR2]; exact Nat.le_of_ble_eq_true rfl⟩ hW hS rfl hl.1 rfl (Nat.le_of_ble_eq_true rfl) dJ0_indexOf_7cf53_17 ⟨Nat.zero_le _, Nat.zero_le _⟩ (fun x3 H locs hp hW hS => ?_)
  subst hp
  refine lv_goto (tgt := 36) hx hb dJ0_indexOf_7cf53_20 (by decide) ?_
  exact g_iret2 C hQ hW hS ⟨rfl, rfl⟩ rfl (Nat.zero_le _) (Nat.zero_le _) dJ0_indexOf_7cf53_36

set_option maxHeartbeats 4000000 in
theorem c_J0_indexOf_0f7a4 (l : Launch) (X : GX) (L : List ro) (ad : ro → Nat) (st : ro → va_E) (ch : Int32) : gS l yJ0_indexOf_0f7a4 cJ0_indexOf_0f7a4 2 (some .int) 3 70 X [.ref (X.2.2 5), .int ch] L ad st (fun v => v = rd_sgn ch) := by
  intro sz
  refine gM_of2 (Qc := fun A => va_Qi _ (gB X A) A) (by decide) (Nat.le_of_ble_eq_true rfl) ?_ sz
  intro p e s m args below meth c A R Q hR hQ C hW hS ls hl
  obtain ⟨hR1, hR2, hR3, hR4⟩ := hR
  have hx := C.1.1
  have hb := C.1.2.1
  have hml := C.1.2.2.1
  have hl : lv_has ls 2 [(0, .ref (X.2.2 5)), (1, .int ch)] := hl
  refine lv_aload_n hx hb dJ0_indexOf_0f7a4_0 rfl (lv_at hl 0 rfl) ?_
  refine lv_iload_n hx hb dJ0_indexOf_0f7a4_1 rfl (lv_at hl 1 rfl) ?_
  refine lv_iconst (v := 0) hx hb dJ0_indexOf_0f7a4_2 (by decide) ?_
  refine g_callTi (k := 5) (k2 := 2) (As := [.int ch, .int 0]) (rest := []) (by decide) C (c_J0_indexOf_7cf53 l X L ad st ch) tw_2_36 tw_2_37 tw_2_38 tw_1_17 tw_2_39 (by decide +kernel) ⟨by rw [hR1]; exact Nat.le_of_ble_eq_true rfl, by rw [hR2]; exact Nat.le_of_ble_eq_true rfl⟩ hW hS rfl hl.1 rfl (Nat.le_of_ble_eq_true rfl) dJ0_indexOf_0f7a4_3 ⟨Nat.zero_le _, Nat.zero_le _⟩ (fun x1 H locs hp hW hS => ?_)
  subst hp
  exact g_iret2 C hQ hW hS ⟨rfl, rfl⟩ rfl (Nat.zero_le _) (Nat.zero_le _) dJ0_indexOf_0f7a4_6

