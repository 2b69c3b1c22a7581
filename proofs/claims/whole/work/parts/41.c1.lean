def crcC (op mn en : Int32) : Int32 := if op = 0 then 0 else if mn < en then 1 else 2
set_option maxHeartbeats 4000000 in
set_option maxRecDepth 100000 in
theorem c_X4_isDigit (l : Launch) (X : GX) (L : List ro) (ad : ro → Nat) (st : ro → va_E) (a : Int32) : gS l yX4_isDigit cX4_isDigit 1 (some .boolean) 0 0 X [.int a] L ad st (fun v => ((48 ≤ a ∧ a ≤ 57) ∧ v = 1) ∨ (¬ (48 ≤ a ∧ a ≤ 57) ∧ v = 0)) := by
  intro sz
  refine gM_of2 (Qc := fun A => va_Qi _ (gB X A) A) (by decide) (Nat.le_of_ble_eq_true rfl) ?_ sz
  intro p e s m args below meth c A R Q hR hQ C hW hS ls hl
  obtain ⟨hR1, hR2, hR3, hR4⟩ := hR
  have hx := C.1.1
  have hb := C.1.2.1
  have hml := C.1.2.2.1
  have hl : lv_has ls 1 [(0, .int a)] := hl
  refine lv_iload_n hx hb dX4_isDigit_0 rfl (lv_at hl 0 rfl) ?_
  refine lv_bipush (v := 48) hx hb dX4_isDigit_1 (by decide) ?_
  refine lv_icmp_lt (tgt := 16) hx hb dX4_isDigit_3 (by decide) (fun c1 => ?_) (fun c1 => ?_)
  · refine lv_iconst (v := 0) hx hb dX4_isDigit_16 (by decide) ?_
    exact g_iret2 C hQ hW hS ⟨rfl, by grind⟩ (by decide) (Nat.zero_le _) (Nat.zero_le _) dX4_isDigit_17
  · refine lv_iload_n hx hb dX4_isDigit_6 rfl (lv_at hl 0 rfl) ?_
    refine lv_bipush (v := 57) hx hb dX4_isDigit_7 (by decide) ?_
    refine lv_icmp_gt (tgt := 16) hx hb dX4_isDigit_9 (by decide) (fun c2 => ?_) (fun c2 => ?_)
    · refine lv_iconst (v := 0) hx hb dX4_isDigit_16 (by decide) ?_
      exact g_iret2 C hQ hW hS ⟨rfl, by grind⟩ (by decide) (Nat.zero_le _) (Nat.zero_le _) dX4_isDigit_17
    · refine lv_iconst (v := 1) hx hb dX4_isDigit_12 (by decide) ?_
      refine lv_goto (tgt := 17) hx hb dX4_isDigit_13 (by decide) ?_
      exact g_iret2 C hQ hW hS ⟨rfl, by grind⟩ (by decide) (Nat.zero_le _) (Nat.zero_le _) dX4_isDigit_17

set_option maxHeartbeats 4000000 in
set_option maxRecDepth 100000 in
theorem c_X7_isWithin (l : Launch) (X : GX) (L : List ro) (ad : ro → Nat) (st : ro → va_E) (a : Int32) (b : Int32) (c9 : Int32) : gS l yX7_isWithin cX7_isWithin 3 (some .boolean) 0 0 X [.int a, .int b, .int c9] L ad st (fun v => ((b ≤ a ∧ a ≤ c9) ∧ v = 1) ∨ (¬ (b ≤ a ∧ a ≤ c9) ∧ v = 0)) := by
  intro sz
  refine gM_of2 (Qc := fun A => va_Qi _ (gB X A) A) (by decide) (Nat.le_of_ble_eq_true rfl) ?_ sz
  intro p e s m args below meth c A R Q hR hQ C hW hS ls hl
  obtain ⟨hR1, hR2, hR3, hR4⟩ := hR
  have hx := C.1.1
  have hb := C.1.2.1
  have hml := C.1.2.2.1
  have hl : lv_has ls 3 [(0, .int a), (1, .int b), (2, .int c9)] := hl
  refine lv_iload_n hx hb dX7_isWithin_0 rfl (lv_at hl 0 rfl) ?_
  refine lv_iload_n hx hb dX7_isWithin_1 rfl (lv_at hl 1 rfl) ?_
  refine lv_icmp_lt (tgt := 14) hx hb dX7_isWithin_2 (by decide) (fun c1 => ?_) (fun c1 => ?_)
  · refine lv_iconst (v := 0) hx hb dX7_isWithin_14 (by decide) ?_
    exact g_iret2 C hQ hW hS ⟨rfl, by grind⟩ (by decide) (Nat.zero_le _) (Nat.zero_le _) dX7_isWithin_15
  · refine lv_iload_n hx hb dX7_isWithin_5 rfl (lv_at hl 0 rfl) ?_
    refine lv_iload_n hx hb dX7_isWithin_6 rfl (lv_at hl 2 rfl) ?_
    refine lv_icmp_gt (tgt := 14) hx hb dX7_isWithin_7 (by decide) (fun c2 => ?_) (fun c2 => ?_)
    · refine lv_iconst (v := 0) hx hb dX7_isWithin_14 (by decide) ?_
      exact g_iret2 C hQ hW hS ⟨rfl, by grind⟩ (by decide) (Nat.zero_le _) (Nat.zero_le _) dX7_isWithin_15
    · refine lv_iconst (v := 1) hx hb dX7_isWithin_10 (by decide) ?_
      refine lv_goto (tgt := 15) hx hb dX7_isWithin_11 (by decide) ?_
      exact g_iret2 C hQ hW hS ⟨rfl, by grind⟩ (by decide) (Nat.zero_le _) (Nat.zero_le _) dX7_isWithin_15

set_option maxHeartbeats 4000000 in
set_option maxRecDepth 100000 in
theorem c_X4_isTypable (l : Launch) (X : GX) (L : List ro) (ad : ro → Nat) (st : ro → va_E) (a : Int32) : gS l yX4_isTypable cX4_isTypable 1 (some .boolean) 1 20 X [.int a] L ad st (fun v => (((65 ≤ a ∧ a ≤ 90) ∨ (48 ≤ a ∧ a ≤ 57) ∨ a = 61 ∨ a = 59) ∧ v = 1) ∨ (¬ ((65 ≤ a ∧ a ≤ 90) ∨ (48 ≤ a ∧ a ≤ 57) ∨ a = 61 ∨ a = 59) ∧ v = 0)) := by
  intro sz
  refine gM_of2 (Qc := fun A => va_Qi _ (gB X A) A) (by decide) (Nat.le_of_ble_eq_true rfl) ?_ sz
  intro p e s m args below meth c A R Q hR hQ C hW hS ls hl
  obtain ⟨hR1, hR2, hR3, hR4⟩ := hR
  have hx := C.1.1
  have hb := C.1.2.1
  have hml := C.1.2.2.1
  have hl : lv_has ls 1 [(0, .int a)] := hl
  refine lv_iload_n hx hb dX4_isTypable_0 rfl (lv_at hl 0 rfl) ?_
  refine lv_bipush (v := 65) hx hb dX4_isTypable_1 (by decide) ?_
  refine lv_icmp_lt (tgt := 12) hx hb dX4_isTypable_3 (by decide) (fun c1 => ?_) (fun c1 => ?_)
  · refine lv_iload_n hx hb dX4_isTypable_12 rfl (lv_at hl 0 rfl) ?_
    refine g_callSp (k2 := 1) (As := [.int a]) (rest := []) C (c_X4_isDigit l X L ad _ a) tw_2_152 tw_2_153 tw_1_2 tw_2_154 (by decide +kernel) ⟨by rw [hR1]; exact Nat.le_of_ble_eq_true rfl, by rw [hR2]; exact Nat.le_of_ble_eq_true rfl⟩ hW hS rfl hl.1 rfl (Nat.le_of_ble_eq_true rfl) dX4_isTypable_13 ⟨Nat.zero_le _, Nat.zero_le _⟩ (fun v9 H locs hp hW hS => ?_)
    have h2 := hp
    rcases h2 with ⟨h2, e9⟩ | ⟨h2, e9⟩
    · subst e9
      refine lv_if_ne (tgt := 31) hx hb dX4_isTypable_16 (by decide) (fun _ => ?_) (fun c9 => absurd c9 (by decide))
      refine lv_iconst (v := 1) hx hb dX4_isTypable_31 (by decide) ?_
      refine lv_goto (tgt := 36) hx hb dX4_isTypable_32 (by decide) ?_
      exact g_iret2 C hQ hW hS ⟨rfl, by grind⟩ (by decide) (Nat.zero_le _) (Nat.zero_le _) dX4_isTypable_36
    · subst e9
      refine lv_if_ne (tgt := 31) hx hb dX4_isTypable_16 (by decide) (fun c9 => absurd c9 (by decide)) (fun _ => ?_)
      refine lv_iload_n hx hb dX4_isTypable_19 rfl (lv_at hl 0 rfl) ?_
      refine lv_bipush (v := 61) hx hb dX4_isTypable_20 (by decide) ?_
      refine lv_icmp_eq (tgt := 31) hx hb dX4_isTypable_22 (by decide) (fun c3 => ?_) (fun c3 => ?_)
      · refine lv_iconst (v := 1) hx hb dX4_isTypable_31 (by decide) ?_
        refine lv_goto (tgt := 36) hx hb dX4_isTypable_32 (by decide) ?_
        exact g_iret2 C hQ hW hS ⟨rfl, by grind⟩ (by decide) (Nat.zero_le _) (Nat.zero_le _) dX4_isTypable_36
      · refine lv_iload_n hx hb dX4_isTypable_25 rfl (lv_at hl 0 rfl) ?_
        refine lv_bipush (v := 59) hx hb dX4_isTypable_26 (by decide) ?_
        refine lv_icmp_ne (tgt := 35) hx hb dX4_isTypable_28 (by decide) (fun c4 => ?_) (fun c4 => ?_)
        · refine lv_iconst (v := 0) hx hb dX4_isTypable_35 (by decide) ?_
          exact g_iret2 C hQ hW hS ⟨rfl, by grind⟩ (by decide) (Nat.zero_le _) (Nat.zero_le _) dX4_isTypable_36
        · refine lv_iconst (v := 1) hx hb dX4_isTypable_31 (by decide) ?_
          refine lv_goto (tgt := 36) hx hb dX4_isTypable_32 (by decide) ?_
          exact g_iret2 C hQ hW hS ⟨rfl, by grind⟩ (by decide) (Nat.zero_le _) (Nat.zero_le _) dX4_isTypable_36
  · refine lv_iload_n hx hb dX4_isTypable_6 rfl (lv_at hl 0 rfl) ?_
    refine lv_bipush (v := 90) hx hb dX4_isTypable_7 (by decide) ?_
    refine lv_icmp_le (tgt := 31) hx hb dX4_isTypable_9 (by decide) (fun c5 => ?_) (fun c5 => ?_)
    · refine lv_iconst (v := 1) hx hb dX4_isTypable_31 (by decide) ?_
      refine lv_goto (tgt := 36) hx hb dX4_isTypable_32 (by decide) ?_
      exact g_iret2 C hQ hW hS ⟨rfl, by grind⟩ (by decide) (Nat.zero_le _) (Nat.zero_le _) dX4_isTypable_36
    · refine lv_iload_n hx hb dX4_isTypable_12 rfl (lv_at hl 0 rfl) ?_
      refine g_callSp (k2 := 1) (As := [.int a]) (rest := []) C (c_X4_isDigit l X L ad _ a) tw_2_152 tw_2_153 tw_1_2 tw_2_154 (by decide +kernel) ⟨by rw [hR1]; exact Nat.le_of_ble_eq_true rfl, by rw [hR2]; exact Nat.le_of_ble_eq_true rfl⟩ hW hS rfl hl.1 rfl (Nat.le_of_ble_eq_true rfl) dX4_isTypable_13 ⟨Nat.zero_le _, Nat.zero_le _⟩ (fun v9 H locs hp hW hS => ?_)
      have h6 := hp
      rcases h6 with ⟨h6, e9⟩ | ⟨h6, e9⟩
      · subst e9
        refine lv_if_ne (tgt := 31) hx hb dX4_isTypable_16 (by decide) (fun _ => ?_) (fun c9 => absurd c9 (by decide))
        refine lv_iconst (v := 1) hx hb dX4_isTypable_31 (by decide) ?_
        refine lv_goto (tgt := 36) hx hb dX4_isTypable_32 (by decide) ?_
        exact g_iret2 C hQ hW hS ⟨rfl, by grind⟩ (by decide) (Nat.zero_le _) (Nat.zero_le _) dX4_isTypable_36
      · subst e9
        refine lv_if_ne (tgt := 31) hx hb dX4_isTypable_16 (by decide) (fun c9 => absurd c9 (by decide)) (fun _ => ?_)
        refine lv_iload_n hx hb dX4_isTypable_19 rfl (lv_at hl 0 rfl) ?_
        refine lv_bipush (v := 61) hx hb dX4_isTypable_20 (by decide) ?_
        refine lv_icmp_eq (tgt := 31) hx hb dX4_isTypable_22 (by decide) (fun c7 => ?_) (fun c7 => ?_)
        · refine lv_iconst (v := 1) hx hb dX4_isTypable_31 (by decide) ?_
          refine lv_goto (tgt := 36) hx hb dX4_isTypable_32 (by decide) ?_
          exact g_iret2 C hQ hW hS ⟨rfl, by grind⟩ (by decide) (Nat.zero_le _) (Nat.zero_le _) dX4_isTypable_36
        · refine lv_iload_n hx hb dX4_isTypable_25 rfl (lv_at hl 0 rfl) ?_
          refine lv_bipush (v := 59) hx hb dX4_isTypable_26 (by decide) ?_
          refine lv_icmp_ne (tgt := 35) hx hb dX4_isTypable_28 (by decide) (fun c8 => ?_) (fun c8 => ?_)
          · refine lv_iconst (v := 0) hx hb dX4_isTypable_35 (by decide) ?_
            exact g_iret2 C hQ hW hS ⟨rfl, by grind⟩ (by decide) (Nat.zero_le _) (Nat.zero_le _) dX4_isTypable_36
          · refine lv_iconst (v := 1) hx hb dX4_isTypable_31 (by decide) ?_
            refine lv_goto (tgt := 36) hx hb dX4_isTypable_32 (by decide) ?_
            exact g_iret2 C hQ hW hS ⟨rfl, by grind⟩ (by decide) (Nat.zero_le _) (Nat.zero_le _) dX4_isTypable_36

set_option maxHeartbeats 4000000 in
set_option maxRecDepth 100000 in
theorem c_X1_circuitAt (l : Launch) (X : GX) (L : List ro) (ad : ro → Nat) (st0 : ro → va_E) (ci : Nat → Nat → Int32) (ca : Nat → Nat → Nat → Int32) (cr : Nat → Nat → Nat) (i : Nat) (hr : (30, i) ∈ L) (mn : Int32) : cM l yX1_circuitAt cX1_circuitAt 2 (some .int) 0 0 X [.ref (ad (30, i)), .int mn] L ad st0 ci ca cr (fun v ci' ca' cr' => ci' = ci ∧ ca' = ca ∧ cr' = cr ∧ v = crcC (ci 34 i) mn (ci 35 i)) := by
  intro sz
  refine gM_of2 (Qc := fun A => va_Qi _ (gB X A) A) (by decide) (Nat.le_of_ble_eq_true rfl) ?_ sz
  intro p e s m args below meth c A R Q hR hQ C hW hS ls hl
  obtain ⟨hR1, hR2, hR3, hR4⟩ := hR
  have hx := C.1.1
  have hb := C.1.2.1
  have hml := C.1.2.2.1
  have hl : lv_has ls 2 [(0, .ref (ad (30, i))), (1, .int mn)] := hl
  refine lv_aload_n hx hb dX1_circuitAt_0 rfl (lv_at hl 0 rfl) ?_
  refine g_get (r := (30, i)) (Cn := RX1) (T := TX1) (N := 7) (ci := 4) (v := .int (ci 34 i)) C tinX1 hW hr rfl rfl 5 (by decide) tw_1_189 (fun _ h9 => h9) rfl dX1_circuitAt_1 ?_
  refine lv_if_ne (tgt := 9) hx hb dX1_circuitAt_4 (by decide) (fun c1 => ?_) (fun c1 => ?_)
  · refine lv_iload_n hx hb dX1_circuitAt_9 rfl (lv_at hl 1 rfl) ?_
    refine lv_aload_n hx hb dX1_circuitAt_10 rfl (lv_at hl 0 rfl) ?_
    refine g_get (r := (30, i)) (Cn := RX1) (T := TX1) (N := 7) (ci := 4) (v := .int (ci 35 i)) C tinX1 hW hr rfl rfl 6 (by decide) tw_1_190 (fun _ h9 => h9) rfl dX1_circuitAt_11 ?_
    refine lv_icmp_ge (tgt := 21) hx hb dX1_circuitAt_14 (by decide) (fun c2 => ?_) (fun c2 => ?_)
    · refine lv_iconst (v := 2) hx hb dX1_circuitAt_21 (by decide) ?_
      exact g_iret2 C hQ hW hS ⟨_, _, _, rfl, rfl, rfl, rfl, by unfold crcC; grind⟩ rfl (Nat.zero_le _) (Nat.zero_le _) dX1_circuitAt_22
    · refine lv_iconst (v := 1) hx hb dX1_circuitAt_17 (by decide) ?_
      refine lv_goto (tgt := 22) hx hb dX1_circuitAt_18 (by decide) ?_
      exact g_iret2 C hQ hW hS ⟨_, _, _, rfl, rfl, rfl, rfl, by unfold crcC; grind⟩ rfl (Nat.zero_le _) (Nat.zero_le _) dX1_circuitAt_22
  · refine lv_iconst (v := 0) hx hb dX1_circuitAt_7 (by decide) ?_
    exact g_iret2 C hQ hW hS ⟨_, _, _, rfl, rfl, rfl, rfl, by unfold crcC; grind⟩ rfl (Nat.zero_le _) (Nat.zero_le _) dX1_circuitAt_8

set_option maxHeartbeats 4000000 in
set_option maxRecDepth 100000 in
theorem c_X2_isSettledAt (l : Launch) (X : GX) (L : List ro) (ad : ro → Nat) (st0 : ro → va_E) (ci : Nat → Nat → Int32) (ca : Nat → Nat → Nat → Int32) (cr : Nat → Nat → Nat) (i : Nat) (hr : (50, i) ∈ L) (mn : Int32) : cM l yX2_isSettledAt cX2_isSettledAt 2 (some .boolean) 0 0 X [.ref (ad (50, i)), .int mn] L ad st0 ci ca cr (fun v ci' ca' cr' => ci' = ci ∧ ca' = ca ∧ cr' = cr ∧ ((ci 50 i + 30 < mn ∧ v = 1) ∨ (¬ ci 50 i + 30 < mn ∧ v = 0))) := by
  intro sz
  refine gM_of2 (Qc := fun A => va_Qi _ (gB X A) A) (by decide) (Nat.le_of_ble_eq_true rfl) ?_ sz
  intro p e s m args below meth c A R Q hR hQ C hW hS ls hl
  obtain ⟨hR1, hR2, hR3, hR4⟩ := hR
  have hx := C.1.1
  have hb := C.1.2.1
  have hml := C.1.2.2.1
  have hl : lv_has ls 2 [(0, .ref (ad (50, i))), (1, .int mn)] := hl
  refine lv_iload_n hx hb dX2_isSettledAt_0 rfl (lv_at hl 1 rfl) ?_
  refine lv_aload_n hx hb dX2_isSettledAt_1 rfl (lv_at hl 0 rfl) ?_
  refine g_get (r := (50, i)) (Cn := RX2) (T := TX2) (N := 4) (ci := 5) (v := .int (ci 50 i)) C tinX2 hW hr rfl rfl 1 (by decide) tw_5_109 (fun _ h9 => h9) rfl dX2_isSettledAt_2 ?_
  refine lv_bipush (v := 30) hx hb dX2_isSettledAt_5 (by decide) ?_
  refine lv_iadd hx hb dX2_isSettledAt_7 ?_
  refine lv_topi (fun x1 ex1 => ?_)
  refine lv_icmp_le (tgt := 15) hx hb dX2_isSettledAt_8 (by decide) (fun c2 => ?_) (fun c2 => ?_)
  · refine lv_iconst (v := 0) hx hb dX2_isSettledAt_15 (by decide) ?_
    exact g_iret2 C hQ hW hS ⟨_, _, _, rfl, rfl, rfl, rfl, by grind⟩ (by decide) (Nat.zero_le _) (Nat.zero_le _) dX2_isSettledAt_16
  · refine lv_iconst (v := 1) hx hb dX2_isSettledAt_11 (by decide) ?_
    refine lv_goto (tgt := 16) hx hb dX2_isSettledAt_12 (by decide) ?_
    exact g_iret2 C hQ hW hS ⟨_, _, _, rfl, rfl, rfl, rfl, by grind⟩ (by decide) (Nat.zero_le _) (Nat.zero_le _) dX2_isSettledAt_16

set_option maxHeartbeats 4000000 in
set_option maxRecDepth 100000 in
theorem c_X3_isFixedAt (l : Launch) (X : GX) (L : List ro) (ad : ro → Nat) (st0 : ro → va_E) (ci : Nat → Nat → Int32) (ca : Nat → Nat → Nat → Int32) (cr : Nat → Nat → Nat) (i : Nat) (hr : (40, i) ∈ L) (mn : Int32) : cM l yX3_isFixedAt cX3_isFixedAt 2 (some .boolean) 0 0 X [.ref (ad (40, i)), .int mn] L ad st0 ci ca cr (fun v ci' ca' cr' => ci' = ci ∧ ca' = ca ∧ cr' = cr ∧ ((mn < ci 46 i ∧ v = 1) ∨ (¬ mn < ci 46 i ∧ v = 0))) := by
  intro sz
  refine gM_of2 (Qc := fun A => va_Qi _ (gB X A) A) (by decide) (Nat.le_of_ble_eq_true rfl) ?_ sz
  intro p e s m args below meth c A R Q hR hQ C hW hS ls hl
  obtain ⟨hR1, hR2, hR3, hR4⟩ := hR
  have hx := C.1.1
  have hb := C.1.2.1
  have hml := C.1.2.2.1
  have hl : lv_has ls 2 [(0, .ref (ad (40, i))), (1, .int mn)] := hl
  refine lv_iload_n hx hb dX3_isFixedAt_0 rfl (lv_at hl 1 rfl) ?_
  refine lv_aload_n hx hb dX3_isFixedAt_1 rfl (lv_at hl 0 rfl) ?_
  refine g_get (r := (40, i)) (Cn := RX3) (T := TX3) (N := 8) (ci := 6) (v := .int (ci 46 i)) C tinX3 hW hr rfl rfl 7 (by decide) tw_4_184 (fun _ h9 => h9) rfl dX3_isFixedAt_2 ?_
  refine lv_icmp_ge (tgt := 12) hx hb dX3_isFixedAt_5 (by decide) (fun c1 => ?_) (fun c1 => ?_)
  · refine lv_iconst (v := 0) hx hb dX3_isFixedAt_12 (by decide) ?_
    exact g_iret2 C hQ hW hS ⟨_, _, _, rfl, rfl, rfl, rfl, by grind⟩ (by decide) (Nat.zero_le _) (Nat.zero_le _) dX3_isFixedAt_13
  · refine lv_iconst (v := 1) hx hb dX3_isFixedAt_8 (by decide) ?_
    refine lv_goto (tgt := 13) hx hb dX3_isFixedAt_9 (by decide) ?_
    exact g_iret2 C hQ hW hS ⟨_, _, _, rfl, rfl, rfl, rfl, by grind⟩ (by decide) (Nat.zero_le _) (Nat.zero_le _) dX3_isFixedAt_13

set_option maxHeartbeats 4000000 in
set_option maxRecDepth 100000 in
theorem c_X2_isDueFrom (l : Launch) (X : GX) (L : List ro) (ad : ro → Nat) (st0 : ro → va_E) (ci : Nat → Nat → Int32) (ca : Nat → Nat → Nat → Int32) (cr : Nat → Nat → Nat) (i : Nat) (hr : (50, i) ∈ L) (hq : (40, cr 50 i) ∈ L) (sh mn : Int32) : cM l yX2_isDueFrom cX2_isDueFrom 3 (some .boolean) 1 21 X [.ref (ad (50, i)), .int sh, .int mn] L ad st0 ci ca cr (fun v ci' ca' cr' => ci' = ci ∧ ca' = ca ∧ cr' = cr ∧ ((ci 52 i = 0 ∧ ci 40 (cr 50 i) = sh ∧ ci 50 i + 30 < mn) ∧ v = 1 ∨ ¬ (ci 52 i = 0 ∧ ci 40 (cr 50 i) = sh ∧ ci 50 i + 30 < mn) ∧ v = 0)) := by
  intro sz
  refine gM_of2 (Qc := fun A => va_Qi _ (gB X A) A) (by decide) (Nat.le_of_ble_eq_true rfl) ?_ sz
  intro p e s m args below meth c A R Q hR hQ C hW hS ls hl
  obtain ⟨hR1, hR2, hR3, hR4⟩ := hR
  have hx := C.1.1
  have hb := C.1.2.1
  have hml := C.1.2.2.1
  have hl : lv_has ls 3 [(0, .ref (ad (50, i))), (1, .int sh), (2, .int mn)] := hl
  refine lv_aload_n hx hb dX2_isDueFrom_0 rfl (lv_at hl 0 rfl) ?_
  refine g_get (r := (50, i)) (Cn := RX2) (T := TX2) (N := 4) (ci := 5) (v := .int (ci 52 i)) C tinX2 hW hr rfl rfl 3 (by decide) tw_5_112 (fun _ h9 => h9) rfl dX2_isDueFrom_1 ?_
  refine lv_if_ne (tgt := 30) hx hb dX2_isDueFrom_4 (by decide) (fun c1 => ?_) (fun c1 => ?_)
  · refine lv_iconst (v := 0) hx hb dX2_isDueFrom_30 (by decide) ?_
    exact g_iret2 C hQ hW hS ⟨_, _, _, rfl, rfl, rfl, rfl, by grind⟩ (by decide) (Nat.zero_le _) (Nat.zero_le _) dX2_isDueFrom_31
  · refine lv_aload_n hx hb dX2_isDueFrom_7 rfl (lv_at hl 0 rfl) ?_
    refine g_get (r := (50, i)) (Cn := RX2) (T := TX2) (N := 4) (ci := 5) (v := .ref (ad (40, cr 50 i))) C tinX2 hW hr rfl rfl 0 (by decide) tw_5_107 (fun _ h9 => h9) rfl dX2_isDueFrom_8 ?_
    refine g_get (r := (40, cr 50 i)) (Cn := RX3) (T := TX3) (N := 8) (ci := 6) (v := .int (ci 40 (cr 50 i))) C tinX3 hW hq rfl rfl 0 (by decide) tw_4_174 (fun _ h9 => h9) rfl dX2_isDueFrom_11 ?_
    refine lv_iload_n hx hb dX2_isDueFrom_14 rfl (lv_at hl 1 rfl) ?_
    refine lv_icmp_ne (tgt := 30) hx hb dX2_isDueFrom_15 (by decide) (fun c2 => ?_) (fun c2 => ?_)
    · refine lv_iconst (v := 0) hx hb dX2_isDueFrom_30 (by decide) ?_
      exact g_iret2 C hQ hW hS ⟨_, _, _, rfl, rfl, rfl, rfl, by grind⟩ (by decide) (Nat.zero_le _) (Nat.zero_le _) dX2_isDueFrom_31
    · refine lv_aload_n hx hb dX2_isDueFrom_18 rfl (lv_at hl 0 rfl) ?_
      refine lv_iload_n hx hb dX2_isDueFrom_19 rfl (lv_at hl 2 rfl) ?_
      refine g_callVi (r := (50, i)) (T := TX2) (N := 4) (k2 := 1) (As := [.int mn]) (rest := []) C (c_X2_isSettledAt l X L ad st0 ci ca cr i hr mn) tw_5_178 tw_5_145 tw_5_146 tw_1_32 tw_5_147 (by decide +kernel) ⟨by rw [hR1]; exact Nat.le_of_ble_eq_true rfl, by rw [hR2]; exact Nat.le_of_ble_eq_true rfl⟩ hW hS hr rfl rfl rfl hl.1 rfl (Nat.le_of_ble_eq_true rfl) dX2_isDueFrom_20 ⟨Nat.zero_le _, Nat.zero_le _⟩ (fun v9 L9 ad9 st9 H locs hp hW hS => ?_)
      obtain ⟨ci9, ca9, cr9, z0, hp⟩ := hp
      cases z0
      obtain ⟨z1, z2, z3, h3⟩ := hp
      rw [z1, z2, z3] at hW
      rcases h3 with ⟨h3, e9⟩ | ⟨h3, e9⟩
      · subst e9
        refine lv_if_eq (tgt := 30) hx hb dX2_isDueFrom_23 (by decide) (fun c9 => absurd c9 (by decide)) (fun _ => ?_)
        refine lv_iconst (v := 1) hx hb dX2_isDueFrom_26 (by decide) ?_
        refine lv_goto (tgt := 31) hx hb dX2_isDueFrom_27 (by decide) ?_
        exact g_iret2 C hQ hW hS ⟨_, _, _, rfl, rfl, rfl, rfl, by grind⟩ (by decide) (Nat.zero_le _) (Nat.zero_le _) dX2_isDueFrom_31
      · subst e9
        refine lv_if_eq (tgt := 30) hx hb dX2_isDueFrom_23 (by decide) (fun _ => ?_) (fun c9 => absurd (by decide) c9)
        refine lv_iconst (v := 0) hx hb dX2_isDueFrom_30 (by decide) ?_
        exact g_iret2 C hQ hW hS ⟨_, _, _, rfl, rfl, rfl, rfl, by grind⟩ (by decide) (Nat.zero_le _) (Nat.zero_le _) dX2_isDueFrom_31

set_option maxHeartbeats 4000000 in
set_option maxRecDepth 100000 in
theorem c_X4_valueOf (l : Launch) (X : GX) (L : List ro) (ad : ro → Nat) (st0 : ro → va_E) (ci : Nat → Nat → Int32) (ca : Nat → Nat → Nat → Int32) (cr : Nat → Nat → Nat) (mA2 : (2, 0) ∈ L) (mA4 : (4, 0) ∈ L) (k : Nat) (hk : k < 6) : cM l yX4_valueOf cX4_valueOf 2 (some .int) 0 0 X [.ref (ad (2, 0)), .int (nI k)] L ad st0 ci ca cr (fun v ci' ca' cr' => ci' = ci ∧ ca' = ca ∧ cr' = cr ∧ v = ca 4 0 k) := by
  intro sz
  refine gM_of2 (Qc := fun A => va_Qi _ (gB X A) A) (by decide) (Nat.le_of_ble_eq_true rfl) ?_ sz
  intro p e s m args below meth c A R Q hR hQ C hW hS ls hl
  obtain ⟨hR1, hR2, hR3, hR4⟩ := hR
  have hx := C.1.1
  have hb := C.1.2.1
  have hml := C.1.2.2.1
  have hl : lv_has ls 2 [(0, .ref (ad (2, 0))), (1, .int (nI k))] := hl
  refine lv_iload_n hx hb dX4_valueOf_0 rfl (lv_at hl 1 rfl) ?_
  refine lv_if_lt (tgt := 22) hx hb dX4_valueOf_1 (by decide) (fun c1 => ?_) (fun c1 => ?_)
  · have c1n := q_lt (a := k) (b := 0) (by omega) (by omega) c1
    refine lv_iconst (v := (-1)) hx hb dX4_valueOf_22 (by decide) ?_
    exact g_iret2 C hQ hW hS ⟨_, _, _, rfl, rfl, rfl, rfl, by first | assumption | rfl | grind⟩ rfl (Nat.zero_le _) (Nat.zero_le _) dX4_valueOf_23
  · have c1n := q_nlt (a := k) (b := 0) (by omega) (by omega) c1
    refine lv_iload_n hx hb dX4_valueOf_4 rfl (lv_at hl 1 rfl) ?_
    refine lv_aload_n hx hb dX4_valueOf_5 rfl (lv_at hl 0 rfl) ?_
    refine g_get (r := (2, 0)) (Cn := RX4) (T := TX4) (N := 5) (ci := 7) (v := .ref (ad (4, 0))) C tinX4 hW mA2 rfl rfl 1 (by decide) tw_1_49 (fun _ h9 => h9) rfl dX4_valueOf_6 ?_
    refine g_alen (r := (4, 0)) (t0 := 2) (v := 6) C hW mA4 rfl rfl rfl dX4_valueOf_9 ?_
    refine lv_icmp_ge (tgt := 22) hx hb dX4_valueOf_10 (by decide) (fun c2 => ?_) (fun c2 => ?_)
    · have c2n := q_le (a := 6) (b := k) (by omega) (by omega) c2
      refine lv_iconst (v := (-1)) hx hb dX4_valueOf_22 (by decide) ?_
      exact g_iret2 C hQ hW hS ⟨_, _, _, rfl, rfl, rfl, rfl, by first | assumption | rfl | grind⟩ rfl (Nat.zero_le _) (Nat.zero_le _) dX4_valueOf_23
    · have c2n := q_nle (a := 6) (b := k) (by omega) (by omega) c2
      refine lv_aload_n hx hb dX4_valueOf_13 rfl (lv_at hl 0 rfl) ?_
      refine g_get (r := (2, 0)) (Cn := RX4) (T := TX4) (N := 5) (ci := 7) (v := .ref (ad (4, 0))) C tinX4 hW mA2 rfl rfl 1 (by decide) tw_1_49 (fun _ h9 => h9) rfl dX4_valueOf_14 ?_
      refine lv_iload_n hx hb dX4_valueOf_17 rfl (lv_at hl 1 rfl) ?_
      refine g_iald (r := (4, 0)) (n := 6) (f := ca 4 0) C hW mA4 rfl (vp_in_nI (N := 6) (by omega) (by decide)) dX4_valueOf_18 ?_
      refine lv_topE (y := (ca 4 0) k) (by rw [nI_clamp (by omega)]) ?_
      refine lv_topi (fun x3 ex3 => ?_)
      refine lv_goto (tgt := 23) hx hb dX4_valueOf_19 (by decide) ?_
      exact g_iret2 C hQ hW hS ⟨_, _, _, rfl, rfl, rfl, rfl, by first | assumption | rfl | grind⟩ rfl (Nat.zero_le _) (Nat.zero_le _) dX4_valueOf_23

set_option maxHeartbeats 4000000 in
set_option maxRecDepth 100000 in
theorem c_X4_isFull (l : Launch) (X : GX) (L : List ro) (ad : ro → Nat) (st0 : ro → va_E) (ci : Nat → Nat → Int32) (ca : Nat → Nat → Nat → Int32) (cr : Nat → Nat → Nat) (mA2 : (2, 0) ∈ L) (mA3 : (3, 0) ∈ L) : cM l yX4_isFull cX4_isFull 1 (some .boolean) 0 0 X [.ref (ad (2, 0))] L ad st0 ci ca cr (fun v ci' ca' cr' => ci' = ci ∧ ca' = ca ∧ cr' = cr ∧ ((60 ≤ ci 2 0 ∧ v = 1) ∨ (¬ 60 ≤ ci 2 0 ∧ v = 0))) := by
  intro sz
  refine gM_of2 (Qc := fun A => va_Qi _ (gB X A) A) (by decide) (Nat.le_of_ble_eq_true rfl) ?_ sz
  intro p e s m args below meth c A R Q hR hQ C hW hS ls hl
  obtain ⟨hR1, hR2, hR3, hR4⟩ := hR
  have hx := C.1.1
  have hb := C.1.2.1
  have hml := C.1.2.2.1
  have hl : lv_has ls 1 [(0, .ref (ad (2, 0)))] := hl
  refine lv_aload_n hx hb dX4_isFull_0 rfl (lv_at hl 0 rfl) ?_
  refine g_get (r := (2, 0)) (Cn := RX4) (T := TX4) (N := 5) (ci := 7) (v := .int (ci 2 0)) C tinX4 hW mA2 rfl rfl 2 (by decide) tw_1_50 (fun _ h9 => h9) rfl dX4_isFull_1 ?_
  refine lv_aload_n hx hb dX4_isFull_4 rfl (lv_at hl 0 rfl) ?_
  refine g_get (r := (2, 0)) (Cn := RX4) (T := TX4) (N := 5) (ci := 7) (v := .ref (ad (3, 0))) C tinX4 hW mA2 rfl rfl 0 (by decide) tw_1_48 (fun _ h9 => h9) rfl dX4_isFull_5 ?_
  refine g_alen (r := (3, 0)) (t0 := 1) (v := 60) C hW mA3 rfl rfl rfl dX4_isFull_8 ?_
  refine lv_icmp_lt (tgt := 16) hx hb dX4_isFull_9 (by decide) (fun c1 => ?_) (fun c1 => ?_)
  · refine lv_iconst (v := 0) hx hb dX4_isFull_16 (by decide) ?_
    exact g_iret2 C hQ hW hS ⟨_, _, _, rfl, rfl, rfl, rfl, by grind⟩ (by decide) (Nat.zero_le _) (Nat.zero_le _) dX4_isFull_17
  · refine lv_iconst (v := 1) hx hb dX4_isFull_12 (by decide) ?_
    refine lv_goto (tgt := 17) hx hb dX4_isFull_13 (by decide) ?_
    exact g_iret2 C hQ hW hS ⟨_, _, _, rfl, rfl, rfl, rfl, by grind⟩ (by decide) (Nat.zero_le _) (Nat.zero_le _) dX4_isFull_17

set_option maxHeartbeats 4000000 in
set_option maxRecDepth 100000 in
theorem c_X4_empty (l : Launch) (X : GX) (L : List ro) (ad : ro → Nat) (st0 : ro → va_E) (ci : Nat → Nat → Int32) (ca : Nat → Nat → Nat → Int32) (cr : Nat → Nat → Nat) (mA2 : (2, 0) ∈ L) : cM l yX4_empty cX4_empty 2 (some .int) 0 0 X [.ref (ad (2, 0))] L ad st0 ci ca cr (fun v ci' ca' cr' => ci' = up2 ci 2 0 0 ∧ ca' = ca ∧ cr' = cr ∧ v = ci 2 0) := by
  intro sz
  refine gM_of2 (Qc := fun A => va_Qi _ (gB X A) A) (by decide) (Nat.le_of_ble_eq_true rfl) ?_ sz
  intro p e s m args below meth c A R Q hR hQ C hW hS ls hl
  obtain ⟨hR1, hR2, hR3, hR4⟩ := hR
  have hx := C.1.1
  have hb := C.1.2.1
  have hml := C.1.2.2.1
  have hl : lv_has ls 2 [(0, .ref (ad (2, 0)))] := hl
  refine lv_aload_n hx hb dX4_empty_0 rfl (lv_at hl 0 rfl) ?_
  refine g_get (r := (2, 0)) (Cn := RX4) (T := TX4) (N := 5) (ci := 7) (v := .int (ci 2 0)) C tinX4 hW mA2 rfl rfl 2 (by decide) tw_1_50 (fun _ h9 => h9) rfl dX4_empty_1 ?_
  refine lv_istore_n (lv' := [(1, .int (ci 2 0)), (0, .ref (ad (2, 0)))]) hx hb dX4_empty_4 rfl hl (by decide) rfl (fun ls hl => ?_)
  refine lv_aload_n hx hb dX4_empty_5 rfl (lv_at hl 1 rfl) ?_
  refine lv_iconst (v := 0) hx hb dX4_empty_6 (by decide) ?_
  refine g_put (r := (2, 0)) (Cn := RX4) (T := TX4) (N := 5) (ci := 7) (ty0 := tyX4) C tinX4 tyX4_ok nmX4 hW hS mA2 rfl rfl 2 (by decide) tw_1_50 (fun _ h9 => h9) rfl rfl rfl (Nat.le_of_ble_eq_true rfl) (cU_2_2 0 _ _ rfl) dX4_empty_7 (fun H locs hW hS => ?_)
  refine lv_iload_n hx hb dX4_empty_10 rfl (lv_at hl 0 rfl) ?_
  exact g_iret2 C hQ hW hS ⟨_, _, _, rfl, rfl, rfl, rfl, rfl⟩ rfl (Nat.zero_le _) (Nat.zero_le _) dX4_empty_11

set_option maxHeartbeats 4000000 in
set_option maxRecDepth 100000 in
theorem c_X4_signAt (l : Launch) (X : GX) (L : List ro) (ad : ro → Nat) (st0 : ro → va_E) (ci : Nat → Nat → Int32) (ca : Nat → Nat → Nat → Int32) (cr : Nat → Nat → Nat) (mA2 : (2, 0) ∈ L) (mA3 : (3, 0) ∈ L) (k : Nat) (hk : k ≤ 100) (n : Nat) (hn : ci 2 0 = nI n) (hn60 : n ≤ 60) (hch : ∀ j, ∃ q : Nat, q < 65536 ∧ ca 3 0 j = nI q) : cM l yX4_signAt cX4_signAt 2 (some .char) 0 0 X [.ref (ad (2, 0)), .int (nI k)] L ad st0 ci ca cr (fun v ci' ca' cr' => ci' = ci ∧ ca' = ca ∧ cr' = cr ∧ v = (if k < n then ca 3 0 k else 32)) := by
  intro sz
  refine gM_of2 (Qc := fun A => va_Qi _ (gB X A) A) (by decide) (Nat.le_of_ble_eq_true rfl) ?_ sz
  intro p e s m args below meth c A R Q hR hQ C hW hS ls hl
  obtain ⟨hR1, hR2, hR3, hR4⟩ := hR
  have hx := C.1.1
  have hb := C.1.2.1
  have hml := C.1.2.2.1
  have hl : lv_has ls 2 [(0, .ref (ad (2, 0))), (1, .int (nI k))] := hl
  refine lv_iload_n hx hb dX4_signAt_0 rfl (lv_at hl 1 rfl) ?_
  refine lv_if_lt (tgt := 30) hx hb dX4_signAt_1 (by decide) (fun c1 => ?_) (fun c1 => ?_)
  · have c1n := q_lt (a := k) (b := 0) (by omega) (by omega) c1
    refine lv_bipush (v := 32) hx hb dX4_signAt_30 (by decide) ?_
    exact g_iret2 C hQ hW hS ⟨_, _, _, rfl, rfl, rfl, rfl, by rw [if_neg (by omega)]⟩ (by decide) (Nat.zero_le _) (Nat.zero_le _) dX4_signAt_32
  · have c1n := q_nlt (a := k) (b := 0) (by omega) (by omega) c1
    refine lv_iload_n hx hb dX4_signAt_4 rfl (lv_at hl 1 rfl) ?_
    refine lv_aload_n hx hb dX4_signAt_5 rfl (lv_at hl 0 rfl) ?_
    refine g_get (r := (2, 0)) (Cn := RX4) (T := TX4) (N := 5) (ci := 7) (v := .int (ci 2 0)) C tinX4 hW mA2 rfl rfl 2 (by decide) tw_1_50 (fun _ h9 => h9) rfl dX4_signAt_6 ?_
    refine lv_topE (y := nI n) (by show ci 2 0 = nI n; exact hn) ?_
    refine lv_icmp_ge (tgt := 30) hx hb dX4_signAt_9 (by decide) (fun c2 => ?_) (fun c2 => ?_)
    · have c2n := q_le (a := n) (b := k) (by omega) (by omega) c2
      refine lv_bipush (v := 32) hx hb dX4_signAt_30 (by decide) ?_
      exact g_iret2 C hQ hW hS ⟨_, _, _, rfl, rfl, rfl, rfl, by rw [if_neg (by omega)]⟩ (by decide) (Nat.zero_le _) (Nat.zero_le _) dX4_signAt_32
    · have c2n := q_nle (a := n) (b := k) (by omega) (by omega) c2
      refine lv_iload_n hx hb dX4_signAt_12 rfl (lv_at hl 1 rfl) ?_
      refine lv_aload_n hx hb dX4_signAt_13 rfl (lv_at hl 0 rfl) ?_
      refine g_get (r := (2, 0)) (Cn := RX4) (T := TX4) (N := 5) (ci := 7) (v := .ref (ad (3, 0))) C tinX4 hW mA2 rfl rfl 0 (by decide) tw_1_48 (fun _ h9 => h9) rfl dX4_signAt_14 ?_
      refine g_alen (r := (3, 0)) (t0 := 1) (v := 60) C hW mA3 rfl rfl rfl dX4_signAt_17 ?_
      refine lv_icmp_ge (tgt := 30) hx hb dX4_signAt_18 (by decide) (fun c3 => ?_) (fun c3 => ?_)
      · have c3n := q_le (a := 60) (b := k) (by omega) (by omega) c3
        refine lv_bipush (v := 32) hx hb dX4_signAt_30 (by decide) ?_
        exact g_iret2 C hQ hW hS ⟨_, _, _, rfl, rfl, rfl, rfl, by rw [if_neg (by omega)]⟩ (by decide) (Nat.zero_le _) (Nat.zero_le _) dX4_signAt_32
      · have c3n := q_nle (a := 60) (b := k) (by omega) (by omega) c3
        refine lv_aload_n hx hb dX4_signAt_21 rfl (lv_at hl 0 rfl) ?_
        refine g_get (r := (2, 0)) (Cn := RX4) (T := TX4) (N := 5) (ci := 7) (v := .ref (ad (3, 0))) C tinX4 hW mA2 rfl rfl 0 (by decide) tw_1_48 (fun _ h9 => h9) rfl dX4_signAt_22 ?_
        refine lv_iload_n hx hb dX4_signAt_25 rfl (lv_at hl 1 rfl) ?_
        refine g_cald (r := (3, 0)) (n := 60) (f := ca 3 0) C hW mA3 rfl (vp_in_nI (N := 60) (by omega) (by decide)) dX4_signAt_26 ?_
        refine lv_topE (y := (ca 3 0) k) (by rw [nI_clamp (by omega)]) ?_
        refine lv_topi (fun x4 ex4 => ?_)
        refine lv_goto (tgt := 32) hx hb dX4_signAt_27 (by decide) ?_
        exact g_iret2 C hQ hW hS ⟨_, _, _, rfl, rfl, rfl, rfl, by rw [if_pos (by omega)]; exact ex4⟩ (nar_nI (by rw [show x4 = _ from ex4]; exact hch _)) (Nat.zero_le _) (Nat.zero_le _) dX4_signAt_32

