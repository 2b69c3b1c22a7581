theorem vp_le {x hi : Int32} {n : Nat} (h1 : 0 ≤ x) (h2 : x ≤ hi) (h4 : hi.toInt < n) : vp_in x n := by
  rw [Int32.le_iff_toInt_le] at h1 h2
  rw [vp_in_iff]
  have h0 : (0 : Int32).toInt = 0 := rfl
  omega
theorem vp_nle {x hi : Int32} {n : Nat} (h1 : ¬ (0 ≤ x ∧ x ≤ hi)) (h4 : hi.toInt + 1 = n) : ¬ vp_in x n := by
  rw [Int32.le_iff_toInt_le, Int32.le_iff_toInt_le] at h1
  rw [vp_in_iff]
  have h0 : (0 : Int32).toInt = 0 := rfl
  omega
set_option maxHeartbeats 4000000 in
set_option maxRecDepth 100000 in
/-- isIn -/
theorem c_X8_isIn (l : Launch) (X : GX) (L : List ro) (ad : ro → Nat) (st : ro → va_E) (a : Int32) (b : Int32) (c9 : Int32) : gS l yX8_isIn cX8_isIn 3 (some .boolean) 0 0 X [.int a, .int b, .int c9] L ad st (fun v => ((b ≤ a ∧ a ≤ c9) ∧ v = 1) ∨ (¬ (b ≤ a ∧ a ≤ c9) ∧ v = 0)) := by
  intro sz
  refine gM_of2 (Qc := fun A => va_Qi _ (gB X A) A) (by decide) (Nat.le_of_ble_eq_true rfl) ?_ sz
  intro p e s m args below meth c A R Q hR hQ C hW hS ls hl
  obtain ⟨hR1, hR2, hR3, hR4⟩ := hR
  have hx := C.1.1
  have hb := C.1.2.1
  have hml := C.1.2.2.1
  have hl : lv_has ls 3 [(0, .int a), (1, .int b), (2, .int c9)] := hl
  refine lv_iload_n hx hb dX8_isIn_0 rfl (lv_at hl 0 rfl) ?_
  refine lv_iload_n hx hb dX8_isIn_1 rfl (lv_at hl 1 rfl) ?_
  refine lv_icmp_lt (tgt := 14) hx hb dX8_isIn_2 (by decide) (fun c1 => ?_) (fun c1 => ?_)
  · refine lv_iconst (v := 0) hx hb dX8_isIn_14 (by decide) ?_
    exact g_iret2 C hQ hW hS ⟨rfl, by grind⟩ (by decide) (Nat.zero_le _) (Nat.zero_le _) dX8_isIn_15
  · refine lv_iload_n hx hb dX8_isIn_5 rfl (lv_at hl 0 rfl) ?_
    refine lv_iload_n hx hb dX8_isIn_6 rfl (lv_at hl 2 rfl) ?_
    refine lv_icmp_gt (tgt := 14) hx hb dX8_isIn_7 (by decide) (fun c2 => ?_) (fun c2 => ?_)
    · refine lv_iconst (v := 0) hx hb dX8_isIn_14 (by decide) ?_
      exact g_iret2 C hQ hW hS ⟨rfl, by grind⟩ (by decide) (Nat.zero_le _) (Nat.zero_le _) dX8_isIn_15
    · refine lv_iconst (v := 1) hx hb dX8_isIn_10 (by decide) ?_
      refine lv_goto (tgt := 15) hx hb dX8_isIn_11 (by decide) ?_
      exact g_iret2 C hQ hW hS ⟨rfl, by grind⟩ (by decide) (Nat.zero_le _) (Nat.zero_le _) dX8_isIn_15

set_option maxHeartbeats 4000000 in
set_option maxRecDepth 100000 in
/-- isShipper -/
theorem c_X8_isShipper (l : Launch) (X : GX) (L : List ro) (ad : ro → Nat) (st : ro → va_E) (a : Int32) : gS l yX8_isShipper cX8_isShipper 1 (some .boolean) 1 22 X [.int a] L ad st (fun v => (vp_in a 6 ∧ v = 1) ∨ (¬ vp_in a 6 ∧ v = 0)) := by
  intro sz
  refine gM_of2 (Qc := fun A => va_Qi _ (gB X A) A) (by decide) (Nat.le_of_ble_eq_true rfl) ?_ sz
  intro p e s m args below meth c A R Q hR hQ C hW hS ls hl
  obtain ⟨hR1, hR2, hR3, hR4⟩ := hR
  have hx := C.1.1
  have hb := C.1.2.1
  have hml := C.1.2.2.1
  have hl : lv_has ls 1 [(0, .int a)] := hl
  refine lv_iload_n hx hb dX8_isShipper_0 rfl (lv_at hl 0 rfl) ?_
  refine lv_iconst (v := 0) hx hb dX8_isShipper_1 (by decide) ?_
  refine lv_iconst (v := 5) hx hb dX8_isShipper_2 (by decide) ?_
  refine g_callSp (k2 := 3) (As := [.int a, .int 0, .int 5]) (rest := []) C (c_X8_isIn l X L ad _ a 0 5) tw_6_113 tw_6_114 tw_1_10 tw_6_115 (by decide +kernel) ⟨by rw [hR1]; exact Nat.le_of_ble_eq_true rfl, by rw [hR2]; exact Nat.le_of_ble_eq_true rfl⟩ hW hS rfl hl.1 rfl (Nat.le_of_ble_eq_true rfl) dX8_isShipper_3 ⟨Nat.zero_le _, Nat.zero_le _⟩ (fun v9 H locs hp hW hS => ?_)
  have h1 := hp
  rcases h1 with ⟨h1, e9⟩ | ⟨h1, e9⟩
  · subst e9
    exact g_iret2 C hQ hW hS ⟨rfl, Or.inl ⟨vp_le h1.1 h1.2 (by decide), rfl⟩⟩ (by decide) (Nat.zero_le _) (Nat.zero_le _) dX8_isShipper_6
  · subst e9
    exact g_iret2 C hQ hW hS ⟨rfl, Or.inr ⟨vp_nle h1 (by decide), rfl⟩⟩ (by decide) (Nat.zero_le _) (Nat.zero_le _) dX8_isShipper_6

set_option maxHeartbeats 4000000 in
set_option maxRecDepth 100000 in
/-- isCarrier -/
theorem c_X8_isCarrier (l : Launch) (X : GX) (L : List ro) (ad : ro → Nat) (st : ro → va_E) (a : Int32) : gS l yX8_isCarrier cX8_isCarrier 1 (some .boolean) 1 22 X [.int a] L ad st (fun v => (vp_in a 4 ∧ v = 1) ∨ (¬ vp_in a 4 ∧ v = 0)) := by
  intro sz
  refine gM_of2 (Qc := fun A => va_Qi _ (gB X A) A) (by decide) (Nat.le_of_ble_eq_true rfl) ?_ sz
  intro p e s m args below meth c A R Q hR hQ C hW hS ls hl
  obtain ⟨hR1, hR2, hR3, hR4⟩ := hR
  have hx := C.1.1
  have hb := C.1.2.1
  have hml := C.1.2.2.1
  have hl : lv_has ls 1 [(0, .int a)] := hl
  refine lv_iload_n hx hb dX8_isCarrier_0 rfl (lv_at hl 0 rfl) ?_
  refine lv_iconst (v := 0) hx hb dX8_isCarrier_1 (by decide) ?_
  refine lv_iconst (v := 3) hx hb dX8_isCarrier_2 (by decide) ?_
  refine g_callSp (k2 := 3) (As := [.int a, .int 0, .int 3]) (rest := []) C (c_X8_isIn l X L ad _ a 0 3) tw_6_113 tw_6_114 tw_1_10 tw_6_115 (by decide +kernel) ⟨by rw [hR1]; exact Nat.le_of_ble_eq_true rfl, by rw [hR2]; exact Nat.le_of_ble_eq_true rfl⟩ hW hS rfl hl.1 rfl (Nat.le_of_ble_eq_true rfl) dX8_isCarrier_3 ⟨Nat.zero_le _, Nat.zero_le _⟩ (fun v9 H locs hp hW hS => ?_)
  have h1 := hp
  rcases h1 with ⟨h1, e9⟩ | ⟨h1, e9⟩
  · subst e9
    exact g_iret2 C hQ hW hS ⟨rfl, Or.inl ⟨vp_le h1.1 h1.2 (by decide), rfl⟩⟩ (by decide) (Nat.zero_le _) (Nat.zero_le _) dX8_isCarrier_6
  · subst e9
    exact g_iret2 C hQ hW hS ⟨rfl, Or.inr ⟨vp_nle h1 (by decide), rfl⟩⟩ (by decide) (Nat.zero_le _) (Nat.zero_le _) dX8_isCarrier_6

set_option maxHeartbeats 4000000 in
set_option maxRecDepth 100000 in
theorem c_X8_thrown (l : Launch) (X : GX) (L : List ro) (ad : ro → Nat) (st0 : ro → va_E) (fi : Nat → Int32) (fa : Nat → Nat → Int32) (hm : mL L) : mM l yX8_thrown cX8_thrown 1 (some .int) 0 0 X [] L ad st0 fi fa (fun v fi' fa' => fi' = fi ∧ fa' = fa ∧ v = fi 0) := by
  intro sz
  refine gM_of2 (Qc := fun A => va_Qi _ (gB X A) A) (by decide) (Nat.le_of_ble_eq_true rfl) ?_ sz
  intro p e s m args below meth c A R Q hR hQ C hW hS ls hl
  obtain ⟨hR1, hR2, hR3, hR4⟩ := hR
  have hx := C.1.1
  have hb := C.1.2.1
  have hml := C.1.2.2.1
  have hl : lv_has ls 1 [(0, .ref (ad (100, 0)))] := hl
  refine lv_aload_n hx hb dX8_thrown_0 rfl (lv_at hl 0 rfl) ?_
  refine m_getI (v := fi 0) C hm hW 0 (by decide) rfl tw_5_203 rfl dX8_thrown_1 ?_
  exact g_iret2 C hQ hW hS ⟨_, _, rfl, rfl, rfl, rfl⟩ rfl (Nat.zero_le _) (Nat.zero_le _) dX8_thrown_4

set_option maxHeartbeats 4000000 in
set_option maxRecDepth 100000 in
theorem c_X8_wipe (l : Launch) (X : GX) (L : List ro) (ad : ro → Nat) (st0 : ro → va_E) (fi : Nat → Int32) (fa : Nat → Nat → Int32) (hm : mL L) : mM l yX8_wipe cX8_wipe 2 (some .int) 0 0 X [] L ad st0 fi fa (fun v fi' fa' => fi' = upd (upd fi 0 0) 3 0 ∧ fa' = fa ∧ v = fi 3) := by
  intro sz
  refine gM_of2 (Qc := fun A => va_Qi _ (gB X A) A) (by decide) (Nat.le_of_ble_eq_true rfl) ?_ sz
  intro p e s m args below meth c A R Q hR hQ C hW hS ls hl
  obtain ⟨hR1, hR2, hR3, hR4⟩ := hR
  have hx := C.1.1
  have hb := C.1.2.1
  have hml := C.1.2.2.1
  have hl : lv_has ls 2 [(0, .ref (ad (100, 0)))] := hl
  refine lv_aload_n hx hb dX8_wipe_0 rfl (lv_at hl 0 rfl) ?_
  refine lv_iconst (v := 0) hx hb dX8_wipe_1 (by decide) ?_
  refine m_putI C hm hW hS 0 (by decide) rfl tw_5_203 dX8_wipe_2 (fun H locs hW hS => ?_)
  refine lv_aload_n hx hb dX8_wipe_5 rfl (lv_at hl 0 rfl) ?_
  refine m_getI (v := fi 3) C hm hW 3 (by decide) rfl tw_5_206 rfl dX8_wipe_6 ?_
  refine lv_istore_n (lv' := [(1, .int (fi 3)), (0, .ref (ad (100, 0)))]) hx hb dX8_wipe_9 rfl hl (by decide) rfl (fun ls hl => ?_)
  refine lv_aload_n hx hb dX8_wipe_10 rfl (lv_at hl 1 rfl) ?_
  refine lv_iconst (v := 0) hx hb dX8_wipe_11 (by decide) ?_
  refine m_putI C hm hW hS 3 (by decide) rfl tw_5_206 dX8_wipe_12 (fun H locs hW hS => ?_)
  refine lv_iload_n hx hb dX8_wipe_15 rfl (lv_at hl 0 rfl) ?_
  exact g_iret2 C hQ hW hS ⟨_, _, rfl, rfl, rfl, rfl⟩ rfl (Nat.zero_le _) (Nat.zero_le _) dX8_wipe_16

set_option maxHeartbeats 4000000 in
set_option maxRecDepth 100000 in
theorem c_X8_calls (l : Launch) (X : GX) (L : List ro) (ad : ro → Nat) (st0 : ro → va_E) (fi : Nat → Int32) (fa : Nat → Nat → Int32) (hm : mL L) : mM l yX8_calls cX8_calls 1 (some .int) 0 0 X [] L ad st0 fi fa (fun v fi' fa' => fi' = upd fi 0 0 ∧ fa' = fa ∧ v = fi 22) := by
  intro sz
  refine gM_of2 (Qc := fun A => va_Qi _ (gB X A) A) (by decide) (Nat.le_of_ble_eq_true rfl) ?_ sz
  intro p e s m args below meth c A R Q hR hQ C hW hS ls hl
  obtain ⟨hR1, hR2, hR3, hR4⟩ := hR
  have hx := C.1.1
  have hb := C.1.2.1
  have hml := C.1.2.2.1
  have hl : lv_has ls 1 [(0, .ref (ad (100, 0)))] := hl
  refine lv_aload_n hx hb dX8_calls_0 rfl (lv_at hl 0 rfl) ?_
  refine lv_iconst (v := 0) hx hb dX8_calls_1 (by decide) ?_
  refine m_putI C hm hW hS 0 (by decide) rfl tw_5_203 dX8_calls_2 (fun H locs hW hS => ?_)
  refine lv_aload_n hx hb dX8_calls_5 rfl (lv_at hl 0 rfl) ?_
  refine m_getI (v := fi 22) C hm hW 22 (by decide) rfl tw_5_225 rfl dX8_calls_6 ?_
  exact g_iret2 C hQ hW hS ⟨_, _, rfl, rfl, rfl, rfl⟩ rfl (Nat.zero_le _) (Nat.zero_le _) dX8_calls_9

set_option maxHeartbeats 4000000 in
set_option maxRecDepth 100000 in
theorem c_X8_type (l : Launch) (X : GX) (L : List ro) (ad : ro → Nat) (st0 : ro → va_E) (fi : Nat → Int32) (fa : Nat → Nat → Int32) (hm : mL L) (a : Int32) (n : Nat) (hn : fi 3 = nI n) (hn60 : n ≤ 60) : mM l yX8_type cX8_type 3 (some .int) 1 22 X [.int a] L ad st0 fi fa (fun v fi' fa' => (¬ ((65 ≤ a ∧ a ≤ 90) ∨ (48 ≤ a ∧ a ≤ 57) ∨ a = 61 ∨ a = 59) ∧ fi' = upd fi 0 1 ∧ fa' = fa) ∨ (((65 ≤ a ∧ a ≤ 90) ∨ (48 ≤ a ∧ a ≤ 57) ∨ a = 61 ∨ a = 59) ∧ n = 60 ∧ fi' = upd fi 0 2 ∧ fa' = fa) ∨ (((65 ≤ a ∧ a ≤ 90) ∨ (48 ≤ a ∧ a ≤ 57) ∨ a = 61 ∨ a = 59) ∧ n < 60 ∧ fi' = upd (upd fi 0 0) 3 (nI (n + 1)) ∧ fa' = rowu fa 2 (upd (fa 2) n (vp_nar .char a)) ∧ v = nI (n + 1))) := by
  intro sz
  refine gM_of2 (Qc := fun A => va_Qi _ (gB X A) A) (by decide) (Nat.le_of_ble_eq_true rfl) ?_ sz
  intro p e s m args below meth c A R Q hR hQ C hW hS ls hl
  obtain ⟨hR1, hR2, hR3, hR4⟩ := hR
  have hx := C.1.1
  have hb := C.1.2.1
  have hml := C.1.2.2.1
  have hl : lv_has ls 3 [(0, .ref (ad (100, 0))), (1, .int a)] := hl
  refine lv_iload_n hx hb dX8_type_0 rfl (lv_at hl 1 rfl) ?_
  refine lv_bipush (v := 65) hx hb dX8_type_1 (by decide) ?_
  refine lv_bipush (v := 90) hx hb dX8_type_3 (by decide) ?_
  refine g_callSp (k2 := 3) (As := [.int a, .int 65, .int 90]) (rest := []) C (c_X8_isIn l X L ad _ a 65 90) tw_6_113 tw_6_114 tw_1_10 tw_6_115 (by decide +kernel) ⟨by rw [hR1]; exact Nat.le_of_ble_eq_true rfl, by rw [hR2]; exact Nat.le_of_ble_eq_true rfl⟩ hW hS rfl hl.1 rfl (Nat.le_of_ble_eq_true rfl) dX8_type_5 ⟨Nat.zero_le _, Nat.zero_le _⟩ (fun v9 H locs hp hW hS => ?_)
  have h1 := hp
  rcases h1 with ⟨h1, e9⟩ | ⟨h1, e9⟩
  · subst e9
    refine lv_if_ne (tgt := 34) hx hb dX8_type_8 (by decide) (fun _ => ?_) (fun c9 => absurd c9 (by decide))
    refine lv_iconst (v := 1) hx hb dX8_type_34 (by decide) ?_
    refine lv_goto (tgt := 39) hx hb dX8_type_35 (by decide) ?_
    refine lv_istore_n (lv' := [(2, .int 1), (0, .ref (ad (100, 0))), (1, .int a)]) hx hb dX8_type_39 rfl hl (by decide) rfl (fun ls hl => ?_)
    refine lv_aload_n hx hb dX8_type_40 rfl (lv_at hl 1 rfl) ?_
    refine lv_iload_n hx hb dX8_type_41 rfl (lv_at hl 0 rfl) ?_
    refine lv_if_ne (tgt := 49) hx hb dX8_type_42 (by decide) (fun _ => ?_) (fun c9 => absurd c9 (by decide))
    refine lv_aload_n hx hb dX8_type_49 rfl (lv_at hl 1 rfl) ?_
    refine m_getI (v := nI n) C hm hW 3 (by decide) rfl tw_5_206 hn dX8_type_50 ?_
    refine lv_bipush (v := 60) hx hb dX8_type_53 (by decide) ?_
    refine lv_icmp_ne (tgt := 62) hx hb dX8_type_55 (by decide) (fun c2 => ?_) (fun c2 => ?_)
    · have c2n := q_ne (a := n) (b := 60) (by omega) (by omega) c2
      refine lv_iconst (v := 0) hx hb dX8_type_62 (by decide) ?_
      refine m_putI C hm hW hS 0 (by decide) rfl tw_5_203 dX8_type_63 (fun H locs hW hS => ?_)
      refine lv_aload_n hx hb dX8_type_66 rfl (lv_at hl 1 rfl) ?_
      refine m_getI (v := 0) C hm hW 0 (by decide) rfl tw_5_203 rfl dX8_type_67 ?_
      refine lv_if_le (tgt := 75) hx hb dX8_type_70 (by decide) (fun _ => ?_) (fun c9 => absurd (by decide) c9)
      refine lv_aload_n hx hb dX8_type_75 rfl (lv_at hl 1 rfl) ?_
      refine m_getA C hm hW 2 (by decide) rfl tw_5_205 dX8_type_76 ?_
      refine lv_aload_n hx hb dX8_type_79 rfl (lv_at hl 1 rfl) ?_
      refine m_getI (v := nI n) C hm hW 3 (by decide) rfl tw_5_206 hn dX8_type_80 ?_
      refine lv_iload_n hx hb dX8_type_83 rfl (lv_at hl 2 rfl) ?_
      refine m_cast (j := n) C hm hW hS 2 (by decide) rfl rfl (vp_in_nI (N := 60) (by omega) (by decide)) (nI_clamp (by omega)) dX8_type_84 (fun H locs hW hS => ?_)
      refine lv_aload_n hx hb dX8_type_85 rfl (lv_at hl 1 rfl) ?_
      refine lv_dup hx hb dX8_type_86 rfl ?_
      refine m_getI (v := nI n) C hm hW 3 (by decide) rfl tw_5_206 hn dX8_type_87 ?_
      refine lv_iconst (v := 1) hx hb dX8_type_90 (by decide) ?_
      refine lv_iadd hx hb dX8_type_91 ?_
      refine lv_topE (y := nI (n + 1)) (nI_1 n) ?_
      refine m_putI C hm hW hS 3 (by decide) rfl tw_5_206 dX8_type_92 (fun H locs hW hS => ?_)
      refine lv_aload_n hx hb dX8_type_95 rfl (lv_at hl 1 rfl) ?_
      refine m_getI (v := nI (n + 1)) C hm hW 3 (by decide) rfl tw_5_206 rfl dX8_type_96 ?_
      exact g_iret2 C hQ hW hS ⟨_, _, rfl, by grind⟩ rfl (Nat.zero_le _) (Nat.zero_le _) dX8_type_99
    · have c2n := q_eq (a := n) (b := 60) (by omega) (by omega) c2
      refine lv_iconst (v := 2) hx hb dX8_type_58 (by decide) ?_
      refine lv_goto (tgt := 63) hx hb dX8_type_59 (by decide) ?_
      refine m_putI C hm hW hS 0 (by decide) rfl tw_5_203 dX8_type_63 (fun H locs hW hS => ?_)
      refine lv_aload_n hx hb dX8_type_66 rfl (lv_at hl 1 rfl) ?_
      refine m_getI (v := 2) C hm hW 0 (by decide) rfl tw_5_203 rfl dX8_type_67 ?_
      refine lv_if_le (tgt := 75) hx hb dX8_type_70 (by decide) (fun c9 => absurd c9 (by decide)) (fun _ => ?_)
      refine lv_iconst (v := 0) hx hb dX8_type_73 (by decide) ?_
      exact g_iret2 C hQ hW hS ⟨_, _, rfl, by grind⟩ rfl (Nat.zero_le _) (Nat.zero_le _) dX8_type_74
  · subst e9
    refine lv_if_ne (tgt := 34) hx hb dX8_type_8 (by decide) (fun c9 => absurd c9 (by decide)) (fun _ => ?_)
    refine lv_iload_n hx hb dX8_type_11 rfl (lv_at hl 1 rfl) ?_
    refine lv_bipush (v := 48) hx hb dX8_type_12 (by decide) ?_
    refine lv_bipush (v := 57) hx hb dX8_type_14 (by decide) ?_
    refine g_callSp (k2 := 3) (As := [.int a, .int 48, .int 57]) (rest := []) C (c_X8_isIn l X L ad _ a 48 57) tw_6_113 tw_6_114 tw_1_10 tw_6_115 (by decide +kernel) ⟨by rw [hR1]; exact Nat.le_of_ble_eq_true rfl, by rw [hR2]; exact Nat.le_of_ble_eq_true rfl⟩ hW hS rfl hl.1 rfl (Nat.le_of_ble_eq_true rfl) dX8_type_16 ⟨Nat.zero_le _, Nat.zero_le _⟩ (fun v9 H locs hp hW hS => ?_)
    have h3 := hp
    rcases h3 with ⟨h3, e9⟩ | ⟨h3, e9⟩
    · subst e9
      refine lv_if_ne (tgt := 34) hx hb dX8_type_19 (by decide) (fun _ => ?_) (fun c9 => absurd c9 (by decide))
      refine lv_iconst (v := 1) hx hb dX8_type_34 (by decide) ?_
      refine lv_goto (tgt := 39) hx hb dX8_type_35 (by decide) ?_
      refine lv_istore_n (lv' := [(2, .int 1), (0, .ref (ad (100, 0))), (1, .int a)]) hx hb dX8_type_39 rfl hl (by decide) rfl (fun ls hl => ?_)
      refine lv_aload_n hx hb dX8_type_40 rfl (lv_at hl 1 rfl) ?_
      refine lv_iload_n hx hb dX8_type_41 rfl (lv_at hl 0 rfl) ?_
      refine lv_if_ne (tgt := 49) hx hb dX8_type_42 (by decide) (fun _ => ?_) (fun c9 => absurd c9 (by decide))
      refine lv_aload_n hx hb dX8_type_49 rfl (lv_at hl 1 rfl) ?_
      refine m_getI (v := nI n) C hm hW 3 (by decide) rfl tw_5_206 hn dX8_type_50 ?_
      refine lv_bipush (v := 60) hx hb dX8_type_53 (by decide) ?_
      refine lv_icmp_ne (tgt := 62) hx hb dX8_type_55 (by decide) (fun c4 => ?_) (fun c4 => ?_)
      · have c4n := q_ne (a := n) (b := 60) (by omega) (by omega) c4
        refine lv_iconst (v := 0) hx hb dX8_type_62 (by decide) ?_
        refine m_putI C hm hW hS 0 (by decide) rfl tw_5_203 dX8_type_63 (fun H locs hW hS => ?_)
        refine lv_aload_n hx hb dX8_type_66 rfl (lv_at hl 1 rfl) ?_
        refine m_getI (v := 0) C hm hW 0 (by decide) rfl tw_5_203 rfl dX8_type_67 ?_
        refine lv_if_le (tgt := 75) hx hb dX8_type_70 (by decide) (fun _ => ?_) (fun c9 => absurd (by decide) c9)
        refine lv_aload_n hx hb dX8_type_75 rfl (lv_at hl 1 rfl) ?_
        refine m_getA C hm hW 2 (by decide) rfl tw_5_205 dX8_type_76 ?_
        refine lv_aload_n hx hb dX8_type_79 rfl (lv_at hl 1 rfl) ?_
        refine m_getI (v := nI n) C hm hW 3 (by decide) rfl tw_5_206 hn dX8_type_80 ?_
        refine lv_iload_n hx hb dX8_type_83 rfl (lv_at hl 2 rfl) ?_
        refine m_cast (j := n) C hm hW hS 2 (by decide) rfl rfl (vp_in_nI (N := 60) (by omega) (by decide)) (nI_clamp (by omega)) dX8_type_84 (fun H locs hW hS => ?_)
        refine lv_aload_n hx hb dX8_type_85 rfl (lv_at hl 1 rfl) ?_
        refine lv_dup hx hb dX8_type_86 rfl ?_
        refine m_getI (v := nI n) C hm hW 3 (by decide) rfl tw_5_206 hn dX8_type_87 ?_
        refine lv_iconst (v := 1) hx hb dX8_type_90 (by decide) ?_
        refine lv_iadd hx hb dX8_type_91 ?_
        refine lv_topE (y := nI (n + 1)) (nI_1 n) ?_
        refine m_putI C hm hW hS 3 (by decide) rfl tw_5_206 dX8_type_92 (fun H locs hW hS => ?_)
        refine lv_aload_n hx hb dX8_type_95 rfl (lv_at hl 1 rfl) ?_
        refine m_getI (v := nI (n + 1)) C hm hW 3 (by decide) rfl tw_5_206 rfl dX8_type_96 ?_
        exact g_iret2 C hQ hW hS ⟨_, _, rfl, by grind⟩ rfl (Nat.zero_le _) (Nat.zero_le _) dX8_type_99
      · have c4n := q_eq (a := n) (b := 60) (by omega) (by omega) c4
        refine lv_iconst (v := 2) hx hb dX8_type_58 (by decide) ?_
        refine lv_goto (tgt := 63) hx hb dX8_type_59 (by decide) ?_
        refine m_putI C hm hW hS 0 (by decide) rfl tw_5_203 dX8_type_63 (fun H locs hW hS => ?_)
        refine lv_aload_n hx hb dX8_type_66 rfl (lv_at hl 1 rfl) ?_
        refine m_getI (v := 2) C hm hW 0 (by decide) rfl tw_5_203 rfl dX8_type_67 ?_
        refine lv_if_le (tgt := 75) hx hb dX8_type_70 (by decide) (fun c9 => absurd c9 (by decide)) (fun _ => ?_)
        refine lv_iconst (v := 0) hx hb dX8_type_73 (by decide) ?_
        exact g_iret2 C hQ hW hS ⟨_, _, rfl, by grind⟩ rfl (Nat.zero_le _) (Nat.zero_le _) dX8_type_74
    · subst e9
      refine lv_if_ne (tgt := 34) hx hb dX8_type_19 (by decide) (fun c9 => absurd c9 (by decide)) (fun _ => ?_)
      refine lv_iload_n hx hb dX8_type_22 rfl (lv_at hl 1 rfl) ?_
      refine lv_bipush (v := 61) hx hb dX8_type_23 (by decide) ?_
      refine lv_icmp_eq (tgt := 34) hx hb dX8_type_25 (by decide) (fun c5 => ?_) (fun c5 => ?_)
      · refine lv_iconst (v := 1) hx hb dX8_type_34 (by decide) ?_
        refine lv_goto (tgt := 39) hx hb dX8_type_35 (by decide) ?_
        refine lv_istore_n (lv' := [(2, .int 1), (0, .ref (ad (100, 0))), (1, .int a)]) hx hb dX8_type_39 rfl hl (by decide) rfl (fun ls hl => ?_)
        refine lv_aload_n hx hb dX8_type_40 rfl (lv_at hl 1 rfl) ?_
        refine lv_iload_n hx hb dX8_type_41 rfl (lv_at hl 0 rfl) ?_
        refine lv_if_ne (tgt := 49) hx hb dX8_type_42 (by decide) (fun _ => ?_) (fun c9 => absurd c9 (by decide))
        refine lv_aload_n hx hb dX8_type_49 rfl (lv_at hl 1 rfl) ?_
        refine m_getI (v := nI n) C hm hW 3 (by decide) rfl tw_5_206 hn dX8_type_50 ?_
        refine lv_bipush (v := 60) hx hb dX8_type_53 (by decide) ?_
        refine lv_icmp_ne (tgt := 62) hx hb dX8_type_55 (by decide) (fun c6 => ?_) (fun c6 => ?_)
        · have c6n := q_ne (a := n) (b := 60) (by omega) (by omega) c6
          refine lv_iconst (v := 0) hx hb dX8_type_62 (by decide) ?_
          refine m_putI C hm hW hS 0 (by decide) rfl tw_5_203 dX8_type_63 (fun H locs hW hS => ?_)
          refine lv_aload_n hx hb dX8_type_66 rfl (lv_at hl 1 rfl) ?_
          refine m_getI (v := 0) C hm hW 0 (by decide) rfl tw_5_203 rfl dX8_type_67 ?_
          refine lv_if_le (tgt := 75) hx hb dX8_type_70 (by decide) (fun _ => ?_) (fun c9 => absurd (by decide) c9)
          refine lv_aload_n hx hb dX8_type_75 rfl (lv_at hl 1 rfl) ?_
          refine m_getA C hm hW 2 (by decide) rfl tw_5_205 dX8_type_76 ?_
          refine lv_aload_n hx hb dX8_type_79 rfl (lv_at hl 1 rfl) ?_
          refine m_getI (v := nI n) C hm hW 3 (by decide) rfl tw_5_206 hn dX8_type_80 ?_
          refine lv_iload_n hx hb dX8_type_83 rfl (lv_at hl 2 rfl) ?_
          refine m_cast (j := n) C hm hW hS 2 (by decide) rfl rfl (vp_in_nI (N := 60) (by omega) (by decide)) (nI_clamp (by omega)) dX8_type_84 (fun H locs hW hS => ?_)
          refine lv_aload_n hx hb dX8_type_85 rfl (lv_at hl 1 rfl) ?_
          refine lv_dup hx hb dX8_type_86 rfl ?_
          refine m_getI (v := nI n) C hm hW 3 (by decide) rfl tw_5_206 hn dX8_type_87 ?_
          refine lv_iconst (v := 1) hx hb dX8_type_90 (by decide) ?_
          refine lv_iadd hx hb dX8_type_91 ?_
          refine lv_topE (y := nI (n + 1)) (nI_1 n) ?_
          refine m_putI C hm hW hS 3 (by decide) rfl tw_5_206 dX8_type_92 (fun H locs hW hS => ?_)
          refine lv_aload_n hx hb dX8_type_95 rfl (lv_at hl 1 rfl) ?_
          refine m_getI (v := nI (n + 1)) C hm hW 3 (by decide) rfl tw_5_206 rfl dX8_type_96 ?_
          exact g_iret2 C hQ hW hS ⟨_, _, rfl, by grind⟩ rfl (Nat.zero_le _) (Nat.zero_le _) dX8_type_99
        · have c6n := q_eq (a := n) (b := 60) (by omega) (by omega) c6
          refine lv_iconst (v := 2) hx hb dX8_type_58 (by decide) ?_
          refine lv_goto (tgt := 63) hx hb dX8_type_59 (by decide) ?_
          refine m_putI C hm hW hS 0 (by decide) rfl tw_5_203 dX8_type_63 (fun H locs hW hS => ?_)
          refine lv_aload_n hx hb dX8_type_66 rfl (lv_at hl 1 rfl) ?_
          refine m_getI (v := 2) C hm hW 0 (by decide) rfl tw_5_203 rfl dX8_type_67 ?_
          refine lv_if_le (tgt := 75) hx hb dX8_type_70 (by decide) (fun c9 => absurd c9 (by decide)) (fun _ => ?_)
          refine lv_iconst (v := 0) hx hb dX8_type_73 (by decide) ?_
          exact g_iret2 C hQ hW hS ⟨_, _, rfl, by grind⟩ rfl (Nat.zero_le _) (Nat.zero_le _) dX8_type_74
      · refine lv_iload_n hx hb dX8_type_28 rfl (lv_at hl 1 rfl) ?_
        refine lv_bipush (v := 59) hx hb dX8_type_29 (by decide) ?_
        refine lv_icmp_ne (tgt := 38) hx hb dX8_type_31 (by decide) (fun c7 => ?_) (fun c7 => ?_)
        · refine lv_iconst (v := 0) hx hb dX8_type_38 (by decide) ?_
          refine lv_istore_n (lv' := [(2, .int 0), (0, .ref (ad (100, 0))), (1, .int a)]) hx hb dX8_type_39 rfl hl (by decide) rfl (fun ls hl => ?_)
          refine lv_aload_n hx hb dX8_type_40 rfl (lv_at hl 1 rfl) ?_
          refine lv_iload_n hx hb dX8_type_41 rfl (lv_at hl 0 rfl) ?_
          refine lv_if_ne (tgt := 49) hx hb dX8_type_42 (by decide) (fun c9 => absurd c9 (by decide)) (fun _ => ?_)
          refine lv_iconst (v := 1) hx hb dX8_type_45 (by decide) ?_
          refine lv_goto (tgt := 63) hx hb dX8_type_46 (by decide) ?_
          refine m_putI C hm hW hS 0 (by decide) rfl tw_5_203 dX8_type_63 (fun H locs hW hS => ?_)
          refine lv_aload_n hx hb dX8_type_66 rfl (lv_at hl 1 rfl) ?_
          refine m_getI (v := 1) C hm hW 0 (by decide) rfl tw_5_203 rfl dX8_type_67 ?_
          refine lv_if_le (tgt := 75) hx hb dX8_type_70 (by decide) (fun c9 => absurd c9 (by decide)) (fun _ => ?_)
          refine lv_iconst (v := 0) hx hb dX8_type_73 (by decide) ?_
          exact g_iret2 C hQ hW hS ⟨_, _, rfl, by grind⟩ rfl (Nat.zero_le _) (Nat.zero_le _) dX8_type_74
        · refine lv_iconst (v := 1) hx hb dX8_type_34 (by decide) ?_
          refine lv_goto (tgt := 39) hx hb dX8_type_35 (by decide) ?_
          refine lv_istore_n (lv' := [(2, .int 1), (0, .ref (ad (100, 0))), (1, .int a)]) hx hb dX8_type_39 rfl hl (by decide) rfl (fun ls hl => ?_)
          refine lv_aload_n hx hb dX8_type_40 rfl (lv_at hl 1 rfl) ?_
          refine lv_iload_n hx hb dX8_type_41 rfl (lv_at hl 0 rfl) ?_
          refine lv_if_ne (tgt := 49) hx hb dX8_type_42 (by decide) (fun _ => ?_) (fun c9 => absurd c9 (by decide))
          refine lv_aload_n hx hb dX8_type_49 rfl (lv_at hl 1 rfl) ?_
          refine m_getI (v := nI n) C hm hW 3 (by decide) rfl tw_5_206 hn dX8_type_50 ?_
          refine lv_bipush (v := 60) hx hb dX8_type_53 (by decide) ?_
          refine lv_icmp_ne (tgt := 62) hx hb dX8_type_55 (by decide) (fun c8 => ?_) (fun c8 => ?_)
          · have c8n := q_ne (a := n) (b := 60) (by omega) (by omega) c8
            refine lv_iconst (v := 0) hx hb dX8_type_62 (by decide) ?_
            refine m_putI C hm hW hS 0 (by decide) rfl tw_5_203 dX8_type_63 (fun H locs hW hS => ?_)
            refine lv_aload_n hx hb dX8_type_66 rfl (lv_at hl 1 rfl) ?_
            refine m_getI (v := 0) C hm hW 0 (by decide) rfl tw_5_203 rfl dX8_type_67 ?_
            refine lv_if_le (tgt := 75) hx hb dX8_type_70 (by decide) (fun _ => ?_) (fun c9 => absurd (by decide) c9)
            refine lv_aload_n hx hb dX8_type_75 rfl (lv_at hl 1 rfl) ?_
            refine m_getA C hm hW 2 (by decide) rfl tw_5_205 dX8_type_76 ?_
            refine lv_aload_n hx hb dX8_type_79 rfl (lv_at hl 1 rfl) ?_
            refine m_getI (v := nI n) C hm hW 3 (by decide) rfl tw_5_206 hn dX8_type_80 ?_
            refine lv_iload_n hx hb dX8_type_83 rfl (lv_at hl 2 rfl) ?_
            refine m_cast (j := n) C hm hW hS 2 (by decide) rfl rfl (vp_in_nI (N := 60) (by omega) (by decide)) (nI_clamp (by omega)) dX8_type_84 (fun H locs hW hS => ?_)
            refine lv_aload_n hx hb dX8_type_85 rfl (lv_at hl 1 rfl) ?_
            refine lv_dup hx hb dX8_type_86 rfl ?_
            refine m_getI (v := nI n) C hm hW 3 (by decide) rfl tw_5_206 hn dX8_type_87 ?_
            refine lv_iconst (v := 1) hx hb dX8_type_90 (by decide) ?_
            refine lv_iadd hx hb dX8_type_91 ?_
            refine lv_topE (y := nI (n + 1)) (nI_1 n) ?_
            refine m_putI C hm hW hS 3 (by decide) rfl tw_5_206 dX8_type_92 (fun H locs hW hS => ?_)
            refine lv_aload_n hx hb dX8_type_95 rfl (lv_at hl 1 rfl) ?_
            refine m_getI (v := nI (n + 1)) C hm hW 3 (by decide) rfl tw_5_206 rfl dX8_type_96 ?_
            exact g_iret2 C hQ hW hS ⟨_, _, rfl, by grind⟩ rfl (Nat.zero_le _) (Nat.zero_le _) dX8_type_99
          · have c8n := q_eq (a := n) (b := 60) (by omega) (by omega) c8
            refine lv_iconst (v := 2) hx hb dX8_type_58 (by decide) ?_
            refine lv_goto (tgt := 63) hx hb dX8_type_59 (by decide) ?_
            refine m_putI C hm hW hS 0 (by decide) rfl tw_5_203 dX8_type_63 (fun H locs hW hS => ?_)
            refine lv_aload_n hx hb dX8_type_66 rfl (lv_at hl 1 rfl) ?_
            refine m_getI (v := 2) C hm hW 0 (by decide) rfl tw_5_203 rfl dX8_type_67 ?_
            refine lv_if_le (tgt := 75) hx hb dX8_type_70 (by decide) (fun c9 => absurd c9 (by decide)) (fun _ => ?_)
            refine lv_iconst (v := 0) hx hb dX8_type_73 (by decide) ?_
            exact g_iret2 C hQ hW hS ⟨_, _, rfl, by grind⟩ rfl (Nat.zero_le _) (Nat.zero_le _) dX8_type_74

