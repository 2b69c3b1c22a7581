set_option maxHeartbeats 4000000 in
set_option maxRecDepth 100000 in
theorem c_X8_pass (l : Launch) (X : GX) (L : List ro) (ad : ro → Nat) (st0 : ro → va_E) (fi : Nat → Int32) (fa : Nat → Nat → Int32) (hm : mL L) (a : Int32) (w : Nat) (hw : fi 1 = nI w) (hw2 : w ≤ 20000) : mM l yX8_pass cX8_pass 2 (some .int) 1 22 X [.int a] L ad st0 fi fa (fun v fi' fa' => (¬ (1 ≤ a ∧ a ≤ 500) ∧ fi' 0 = 1 ∧ (∀ j, j ≠ 0 → fi' j = fi j) ∧ fa' = fa) ∨ (∃ k, a = nI k ∧ 1 ≤ k ∧ k ≤ 500 ∧ 20000 < w + k ∧ fi' 0 = 2 ∧ (∀ j, j ≠ 0 → fi' j = fi j) ∧ fa' = fa) ∨ (∃ k, a = nI k ∧ 1 ≤ k ∧ k ≤ 500 ∧ w + k ≤ 20000 ∧ fi' 0 = 0 ∧ fi' 1 = nI (w + k) ∧ (∀ j, j ≠ 0 → j ≠ 1 → fi' j = fi j) ∧ fa' = fa ∧ v = nI (w + k))) := by
  intro sz
  refine gM_of2 (Qc := fun A => va_Qi _ (gB X A) A) (by decide) (Nat.le_of_ble_eq_true rfl) ?_ sz
  intro p e s m args below meth c A R Q hR hQ C hW hS ls hl
  obtain ⟨hR1, hR2, hR3, hR4⟩ := hR
  have hx := C.1.1
  have hb := C.1.2.1
  have hml := C.1.2.2.1
  have hl : lv_has ls 2 [(0, .ref (ad (100, 0))), (1, .int a)] := hl
  refine lv_aload_n hx hb dX8_pass_0 rfl (lv_at hl 0 rfl) ?_
  refine lv_iload_n hx hb dX8_pass_1 rfl (lv_at hl 1 rfl) ?_
  refine lv_iconst (v := 1) hx hb dX8_pass_2 (by decide) ?_
  refine lv_sipush (v := 500) hx hb dX8_pass_3 (by decide) ?_
  refine g_callSp (k2 := 3) (As := [.int a, .int 1, .int 500]) (rest := [.ref (ad (100, 0))]) C (c_X8_isIn l X L ad _ a 1 500) tw_6_113 tw_6_114 tw_1_10 tw_6_115 (by decide +kernel) ⟨by rw [hR1]; exact Nat.le_of_ble_eq_true rfl, by rw [hR2]; exact Nat.le_of_ble_eq_true rfl⟩ hW hS rfl hl.1 rfl (Nat.le_of_ble_eq_true rfl) dX8_pass_6 ⟨Nat.zero_le _, Nat.zero_le _⟩ (fun v9 H locs hp hW hS => ?_)
  have h1 := hp
  rcases h1 with ⟨h1, e9⟩ | ⟨h1, e9⟩
  · subst e9
    refine lv_if_ne (tgt := 16) hx hb dX8_pass_9 (by decide) (fun _ => ?_) (fun c9 => absurd c9 (by decide))
    obtain ⟨k, hk, k1, k2⟩ := okv_rng (a := 1) (b := 500) rfl rfl (by decide) (by decide) h1.1 h1.2
    subst hk
    refine lv_aload_n hx hb dX8_pass_16 rfl (lv_at hl 0 rfl) ?_
    refine m_getI (v := nI w) C hm hW 1 (by decide) rfl tw_5_204 hw dX8_pass_17 ?_
    refine lv_iload_n hx hb dX8_pass_20 rfl (lv_at hl 1 rfl) ?_
    refine lv_iadd hx hb dX8_pass_21 ?_
    refine lv_topE (y := nI (w + k)) (nI_add w k) ?_
    refine lv_sipush (v := 20000) hx hb dX8_pass_22 (by decide) ?_
    refine lv_icmp_le (tgt := 32) hx hb dX8_pass_25 (by decide) (fun c2 => ?_) (fun c2 => ?_)
    · have c2n := q_le (a := (w + k)) (b := 20000) (by omega) (by omega) c2
      refine lv_iconst (v := 0) hx hb dX8_pass_32 (by decide) ?_
      refine m_putI C hm hW hS 0 (by decide) rfl tw_5_203 dX8_pass_33 (fun H locs hW hS => ?_)
      refine lv_aload_n hx hb dX8_pass_36 rfl (lv_at hl 0 rfl) ?_
      refine lv_dup hx hb dX8_pass_37 rfl ?_
      refine m_getI (v := nI w) C hm hW 1 (by decide) rfl tw_5_204 hw dX8_pass_38 ?_
      refine lv_aload_n hx hb dX8_pass_41 rfl (lv_at hl 0 rfl) ?_
      refine m_getI (v := 0) C hm hW 0 (by decide) rfl tw_5_203 rfl dX8_pass_42 ?_
      refine lv_if_le (tgt := 52) hx hb dX8_pass_45 (by decide) (fun _ => ?_) (fun c9 => absurd (by decide) c9)
      refine lv_iload_n hx hb dX8_pass_52 rfl (lv_at hl 1 rfl) ?_
      refine lv_iadd hx hb dX8_pass_53 ?_
      refine lv_topE (y := nI (w + k)) (nI_add w k) ?_
      refine m_putI C hm hW hS 1 (by decide) rfl tw_5_204 dX8_pass_54 (fun H locs hW hS => ?_)
      refine lv_aload_n hx hb dX8_pass_57 rfl (lv_at hl 0 rfl) ?_
      refine m_getI (v := nI (w + k)) C hm hW 1 (by decide) rfl tw_5_204 rfl dX8_pass_58 ?_
      exact g_iret2 C hQ hW hS ⟨_, _, rfl, Or.inr (Or.inr ⟨k, rfl, k1, k2, by omega, rfl, rfl, (fun j q q1 => by simp [upd, q, q1]), rfl, rfl⟩)⟩ rfl (Nat.zero_le _) (Nat.zero_le _) dX8_pass_61
    · have c2n := q_nle (a := (w + k)) (b := 20000) (by omega) (by omega) c2
      refine lv_iconst (v := 2) hx hb dX8_pass_28 (by decide) ?_
      refine lv_goto (tgt := 33) hx hb dX8_pass_29 (by decide) ?_
      refine m_putI C hm hW hS 0 (by decide) rfl tw_5_203 dX8_pass_33 (fun H locs hW hS => ?_)
      refine lv_aload_n hx hb dX8_pass_36 rfl (lv_at hl 0 rfl) ?_
      refine lv_dup hx hb dX8_pass_37 rfl ?_
      refine m_getI (v := nI w) C hm hW 1 (by decide) rfl tw_5_204 hw dX8_pass_38 ?_
      refine lv_aload_n hx hb dX8_pass_41 rfl (lv_at hl 0 rfl) ?_
      refine m_getI (v := 2) C hm hW 0 (by decide) rfl tw_5_203 rfl dX8_pass_42 ?_
      refine lv_if_le (tgt := 52) hx hb dX8_pass_45 (by decide) (fun c9 => absurd c9 (by decide)) (fun _ => ?_)
      refine lv_iconst (v := 0) hx hb dX8_pass_48 (by decide) ?_
      refine lv_goto (tgt := 53) hx hb dX8_pass_49 (by decide) ?_
      refine lv_iadd hx hb dX8_pass_53 ?_
      refine lv_topE (y := nI w) (by rw [show (0 : Int32) = nI 0 from rfl, nI_add]; rfl) ?_
      refine m_putI C hm hW hS 1 (by decide) rfl tw_5_204 dX8_pass_54 (fun H locs hW hS => ?_)
      refine lv_aload_n hx hb dX8_pass_57 rfl (lv_at hl 0 rfl) ?_
      refine m_getI (v := nI w) C hm hW 1 (by decide) rfl tw_5_204 rfl dX8_pass_58 ?_
      exact g_iret2 C hQ hW hS ⟨_, _, rfl, Or.inr (Or.inl ⟨k, rfl, k1, k2, by omega, rfl, (fun j q => by by_cases q1 : j = 1 <;> simp_all [upd]), rfl⟩)⟩ rfl (Nat.zero_le _) (Nat.zero_le _) dX8_pass_61
  · subst e9
    refine lv_if_ne (tgt := 16) hx hb dX8_pass_9 (by decide) (fun c9 => absurd c9 (by decide)) (fun _ => ?_)
    refine lv_iconst (v := 1) hx hb dX8_pass_12 (by decide) ?_
    refine lv_goto (tgt := 33) hx hb dX8_pass_13 (by decide) ?_
    refine m_putI C hm hW hS 0 (by decide) rfl tw_5_203 dX8_pass_33 (fun H locs hW hS => ?_)
    refine lv_aload_n hx hb dX8_pass_36 rfl (lv_at hl 0 rfl) ?_
    refine lv_dup hx hb dX8_pass_37 rfl ?_
    refine m_getI (v := nI w) C hm hW 1 (by decide) rfl tw_5_204 hw dX8_pass_38 ?_
    refine lv_aload_n hx hb dX8_pass_41 rfl (lv_at hl 0 rfl) ?_
    refine m_getI (v := 1) C hm hW 0 (by decide) rfl tw_5_203 rfl dX8_pass_42 ?_
    refine lv_if_le (tgt := 52) hx hb dX8_pass_45 (by decide) (fun c9 => absurd c9 (by decide)) (fun _ => ?_)
    refine lv_iconst (v := 0) hx hb dX8_pass_48 (by decide) ?_
    refine lv_goto (tgt := 53) hx hb dX8_pass_49 (by decide) ?_
    refine lv_iadd hx hb dX8_pass_53 ?_
    refine lv_topE (y := nI w) (by rw [show (0 : Int32) = nI 0 from rfl, nI_add]; rfl) ?_
    refine m_putI C hm hW hS 1 (by decide) rfl tw_5_204 dX8_pass_54 (fun H locs hW hS => ?_)
    refine lv_aload_n hx hb dX8_pass_57 rfl (lv_at hl 0 rfl) ?_
    refine m_getI (v := nI w) C hm hW 1 (by decide) rfl tw_5_204 rfl dX8_pass_58 ?_
    exact g_iret2 C hQ hW hS ⟨_, _, rfl, Or.inl ⟨h1, rfl, (fun j q => by by_cases q1 : j = 1 <;> simp_all [upd]), rfl⟩⟩ rfl (Nat.zero_le _) (Nat.zero_le _) dX8_pass_61

set_option maxHeartbeats 4000000 in
set_option maxRecDepth 100000 in
theorem c_X8_quota (l : Launch) (X : GX) (L : List ro) (ad : ro → Nat) (st0 : ro → va_E) (fi : Nat → Int32) (fa : Nat → Nat → Int32) (hm : mL L) (a : Int32) (b : Int32) (c9 : Int32) : mM l yX8_quota cX8_quota 5 (some .int) 2 42 X [.int a, .int b, .int c9] L ad st0 fi fa (fun v fi' fa' => (¬ vp_in a 6 ∧ fi' = upd fi 0 1 ∧ fa' = fa) ∨ (∃ i, i < 6 ∧ a = nI i ∧ ¬ ((0 ≤ b ∧ b ≤ 50) ∧ (1 ≤ c9 ∧ c9 ≤ 1440)) ∧ fi' = upd fi 0 2 ∧ fa' = fa) ∨ (∃ i, i < 6 ∧ a = nI i ∧ ((0 ≤ b ∧ b ≤ 50) ∧ (1 ≤ c9 ∧ c9 ≤ 1440)) ∧ fi' = upd fi 0 0 ∧ fa' = rowu (rowu fa 11 (upd (fa 11) i b)) 12 (upd (fa 12) i c9) ∧ v = fa 11 i)) := by
  intro sz
  refine gM_of2 (Qc := fun A => va_Qi _ (gB X A) A) (by decide) (Nat.le_of_ble_eq_true rfl) ?_ sz
  intro p e s m args below meth c A R Q hR hQ C hW hS ls hl
  obtain ⟨hR1, hR2, hR3, hR4⟩ := hR
  have hx := C.1.1
  have hb := C.1.2.1
  have hml := C.1.2.2.1
  have hl : lv_has ls 5 [(0, .ref (ad (100, 0))), (1, .int a), (2, .int b), (3, .int c9)] := hl
  refine lv_aload_n hx hb dX8_quota_0 rfl (lv_at hl 0 rfl) ?_
  refine lv_iload_n hx hb dX8_quota_1 rfl (lv_at hl 1 rfl) ?_
  refine g_callSp (k2 := 1) (As := [.int a]) (rest := [.ref (ad (100, 0))]) C (c_X8_isShipper l X L ad _ a) tw_6_168 tw_6_169 tw_1_10 tw_6_170 (by decide +kernel) ⟨by rw [hR1]; exact Nat.le_of_ble_eq_true rfl, by rw [hR2]; exact Nat.le_of_ble_eq_true rfl⟩ hW hS rfl hl.1 rfl (Nat.le_of_ble_eq_true rfl) dX8_quota_2 ⟨Nat.zero_le _, Nat.zero_le _⟩ (fun v9 H locs hp hW hS => ?_)
  rcases hp with ⟨hq9, e9⟩ | ⟨hq9, e9⟩
  · subst e9
    obtain ⟨i, hi, e8⟩ := vp_in_of hq9 (by decide)
    subst e8
    refine lv_if_ne (tgt := 12) hx hb dX8_quota_5 (by decide) (fun _ => ?_) (fun c9 => absurd c9 (by decide))
    refine lv_iload_n hx hb dX8_quota_12 rfl (lv_at hl 2 rfl) ?_
    refine lv_iconst (v := 0) hx hb dX8_quota_13 (by decide) ?_
    refine lv_bipush (v := 50) hx hb dX8_quota_14 (by decide) ?_
    refine g_callSp (k2 := 3) (As := [.int b, .int 0, .int 50]) (rest := [.ref (ad (100, 0))]) C (c_X8_isIn l X L ad _ b 0 50) tw_6_113 tw_6_114 tw_1_10 tw_6_115 (by decide +kernel) ⟨by rw [hR1]; exact Nat.le_of_ble_eq_true rfl, by rw [hR2]; exact Nat.le_of_ble_eq_true rfl⟩ hW hS rfl hl.1 rfl (Nat.le_of_ble_eq_true rfl) dX8_quota_16 ⟨Nat.zero_le _, Nat.zero_le _⟩ (fun v9 H locs hp hW hS => ?_)
    have h1 := hp
    rcases h1 with ⟨h1, e9⟩ | ⟨h1, e9⟩
    · subst e9
      refine lv_if_eq (tgt := 37) hx hb dX8_quota_19 (by decide) (fun c9 => absurd c9 (by decide)) (fun _ => ?_)
      refine lv_iload_n hx hb dX8_quota_22 rfl (lv_at hl 3 rfl) ?_
      refine lv_iconst (v := 1) hx hb dX8_quota_23 (by decide) ?_
      refine lv_sipush (v := 1440) hx hb dX8_quota_24 (by decide) ?_
      refine g_callSp (k2 := 3) (As := [.int c9, .int 1, .int 1440]) (rest := [.ref (ad (100, 0))]) C (c_X8_isIn l X L ad _ c9 1 1440) tw_6_113 tw_6_114 tw_1_10 tw_6_115 (by decide +kernel) ⟨by rw [hR1]; exact Nat.le_of_ble_eq_true rfl, by rw [hR2]; exact Nat.le_of_ble_eq_true rfl⟩ hW hS rfl hl.1 rfl (Nat.le_of_ble_eq_true rfl) dX8_quota_27 ⟨Nat.zero_le _, Nat.zero_le _⟩ (fun v9 H locs hp hW hS => ?_)
      have h2 := hp
      rcases h2 with ⟨h2, e9⟩ | ⟨h2, e9⟩
      · subst e9
        refine lv_if_eq (tgt := 37) hx hb dX8_quota_30 (by decide) (fun c9 => absurd c9 (by decide)) (fun _ => ?_)
        refine lv_iconst (v := 0) hx hb dX8_quota_33 (by decide) ?_
        refine lv_goto (tgt := 38) hx hb dX8_quota_34 (by decide) ?_
        refine m_putI C hm hW hS 0 (by decide) rfl tw_5_203 dX8_quota_38 (fun H locs hW hS => ?_)
        refine lv_aload_n hx hb dX8_quota_41 rfl (lv_at hl 0 rfl) ?_
        refine m_getI (v := 0) C hm hW 0 (by decide) rfl tw_5_203 rfl dX8_quota_42 ?_
        refine lv_if_le (tgt := 50) hx hb dX8_quota_45 (by decide) (fun _ => ?_) (fun c9 => absurd (by decide) c9)
        refine lv_aload_n hx hb dX8_quota_50 rfl (lv_at hl 0 rfl) ?_
        refine m_getA C hm hW 11 (by decide) rfl tw_5_214 dX8_quota_51 ?_
        refine lv_iload_n hx hb dX8_quota_54 rfl (lv_at hl 1 rfl) ?_
        refine m_iald (v := (fa 11) i) (j := i) C hm hW 11 (by decide) rfl rfl (vp_in_nI (N := 6) (by omega) (by decide)) (nI_clamp (by omega)) rfl dX8_quota_55 ?_
        refine lv_topi (fun x3 ex3 => ?_)
        refine lv_istore (lv' := [(4, .int x3), (0, .ref (ad (100, 0))), (1, .int (nI i)), (2, .int b), (3, .int c9)]) hx hb dX8_quota_56 hl (by decide) rfl (fun ls hl => ?_)
        refine lv_aload_n hx hb dX8_quota_58 rfl (lv_at hl 1 rfl) ?_
        refine m_getA C hm hW 11 (by decide) rfl tw_5_214 dX8_quota_59 ?_
        refine lv_iload_n hx hb dX8_quota_62 rfl (lv_at hl 2 rfl) ?_
        refine lv_iload_n hx hb dX8_quota_63 rfl (lv_at hl 3 rfl) ?_
        refine m_iast (j := i) C hm hW hS 11 (by decide) rfl rfl (vp_in_nI (N := 6) (by omega) (by decide)) (nI_clamp (by omega)) dX8_quota_64 (fun H locs hW hS => ?_)
        refine lv_aload_n hx hb dX8_quota_65 rfl (lv_at hl 1 rfl) ?_
        refine m_getA C hm hW 12 (by decide) rfl tw_5_215 dX8_quota_66 ?_
        refine lv_iload_n hx hb dX8_quota_69 rfl (lv_at hl 2 rfl) ?_
        refine lv_iload_n hx hb dX8_quota_70 rfl (lv_at hl 4 rfl) ?_
        refine m_iast (j := i) C hm hW hS 12 (by decide) rfl rfl (vp_in_nI (N := 6) (by omega) (by decide)) (nI_clamp (by omega)) dX8_quota_71 (fun H locs hW hS => ?_)
        refine lv_iload hx hb dX8_quota_72 (lv_at hl 0 rfl) ?_
        exact g_iret2 C hQ hW hS ⟨_, _, rfl, Or.inr (Or.inr ⟨i, hi, rfl, by grind, rfl, rfl, ex3⟩)⟩ rfl (Nat.zero_le _) (Nat.zero_le _) dX8_quota_74
      · subst e9
        refine lv_if_eq (tgt := 37) hx hb dX8_quota_30 (by decide) (fun _ => ?_) (fun c9 => absurd (by decide) c9)
        refine lv_iconst (v := 2) hx hb dX8_quota_37 (by decide) ?_
        refine m_putI C hm hW hS 0 (by decide) rfl tw_5_203 dX8_quota_38 (fun H locs hW hS => ?_)
        refine lv_aload_n hx hb dX8_quota_41 rfl (lv_at hl 0 rfl) ?_
        refine m_getI (v := 2) C hm hW 0 (by decide) rfl tw_5_203 rfl dX8_quota_42 ?_
        refine lv_if_le (tgt := 50) hx hb dX8_quota_45 (by decide) (fun c9 => absurd c9 (by decide)) (fun _ => ?_)
        refine lv_iconst (v := 0) hx hb dX8_quota_48 (by decide) ?_
        exact g_iret2 C hQ hW hS ⟨_, _, rfl, Or.inr (Or.inl ⟨i, hi, rfl, by grind, rfl, rfl⟩)⟩ rfl (Nat.zero_le _) (Nat.zero_le _) dX8_quota_49
    · subst e9
      refine lv_if_eq (tgt := 37) hx hb dX8_quota_19 (by decide) (fun _ => ?_) (fun c9 => absurd (by decide) c9)
      refine lv_iconst (v := 2) hx hb dX8_quota_37 (by decide) ?_
      refine m_putI C hm hW hS 0 (by decide) rfl tw_5_203 dX8_quota_38 (fun H locs hW hS => ?_)
      refine lv_aload_n hx hb dX8_quota_41 rfl (lv_at hl 0 rfl) ?_
      refine m_getI (v := 2) C hm hW 0 (by decide) rfl tw_5_203 rfl dX8_quota_42 ?_
      refine lv_if_le (tgt := 50) hx hb dX8_quota_45 (by decide) (fun c9 => absurd c9 (by decide)) (fun _ => ?_)
      refine lv_iconst (v := 0) hx hb dX8_quota_48 (by decide) ?_
      exact g_iret2 C hQ hW hS ⟨_, _, rfl, Or.inr (Or.inl ⟨i, hi, rfl, by grind, rfl, rfl⟩)⟩ rfl (Nat.zero_le _) (Nat.zero_le _) dX8_quota_49
  · subst e9
    refine lv_if_ne (tgt := 12) hx hb dX8_quota_5 (by decide) (fun c9 => absurd c9 (by decide)) (fun _ => ?_)
    refine lv_iconst (v := 1) hx hb dX8_quota_8 (by decide) ?_
    refine lv_goto (tgt := 38) hx hb dX8_quota_9 (by decide) ?_
    refine m_putI C hm hW hS 0 (by decide) rfl tw_5_203 dX8_quota_38 (fun H locs hW hS => ?_)
    refine lv_aload_n hx hb dX8_quota_41 rfl (lv_at hl 0 rfl) ?_
    refine m_getI (v := 1) C hm hW 0 (by decide) rfl tw_5_203 rfl dX8_quota_42 ?_
    refine lv_if_le (tgt := 50) hx hb dX8_quota_45 (by decide) (fun c9 => absurd c9 (by decide)) (fun _ => ?_)
    refine lv_iconst (v := 0) hx hb dX8_quota_48 (by decide) ?_
    exact g_iret2 C hQ hW hS ⟨_, _, rfl, Or.inl ⟨hq9, rfl, rfl⟩⟩ rfl (Nat.zero_le _) (Nat.zero_le _) dX8_quota_49

set_option maxHeartbeats 4000000 in
set_option maxRecDepth 100000 in
theorem c_X8_carrier (l : Launch) (X : GX) (L : List ro) (ad : ro → Nat) (st0 : ro → va_E) (fi : Nat → Int32) (fa : Nat → Nat → Int32) (hm : mL L) (a : Int32) (b : Int32) (c9 : Int32) : mM l yX8_carrier cX8_carrier 5 (some .int) 2 42 X [.int a, .int b, .int c9] L ad st0 fi fa (fun v fi' fa' => (¬ vp_in a 4 ∧ fi' = upd fi 0 1 ∧ fa' = fa) ∨ (∃ i, i < 4 ∧ a = nI i ∧ ¬ (0 ≤ c9 ∧ c9 ≤ 10) ∧ fi' = upd fi 0 2 ∧ fa' = fa) ∨ (∃ i, i < 4 ∧ a = nI i ∧ (0 ≤ c9 ∧ c9 ≤ 10) ∧ fi' = upd fi 0 0 ∧ fa' = rowu (rowu fa 13 (upd (fa 13) i (if b = 0 then 1 else 0))) 14 (upd (fa 14) i c9) ∧ v = fa 14 i)) := by
  intro sz
  refine gM_of2 (Qc := fun A => va_Qi _ (gB X A) A) (by decide) (Nat.le_of_ble_eq_true rfl) ?_ sz
  intro p e s m args below meth c A R Q hR hQ C hW hS ls hl
  obtain ⟨hR1, hR2, hR3, hR4⟩ := hR
  have hx := C.1.1
  have hb := C.1.2.1
  have hml := C.1.2.2.1
  have hl : lv_has ls 5 [(0, .ref (ad (100, 0))), (1, .int a), (2, .int b), (3, .int c9)] := hl
  refine lv_aload_n hx hb dX8_carrier_0 rfl (lv_at hl 0 rfl) ?_
  refine lv_iload_n hx hb dX8_carrier_1 rfl (lv_at hl 1 rfl) ?_
  refine g_callSp (k2 := 1) (As := [.int a]) (rest := [.ref (ad (100, 0))]) C (c_X8_isCarrier l X L ad _ a) tw_6_175 tw_6_176 tw_1_10 tw_6_177 (by decide +kernel) ⟨by rw [hR1]; exact Nat.le_of_ble_eq_true rfl, by rw [hR2]; exact Nat.le_of_ble_eq_true rfl⟩ hW hS rfl hl.1 rfl (Nat.le_of_ble_eq_true rfl) dX8_carrier_2 ⟨Nat.zero_le _, Nat.zero_le _⟩ (fun v9 H locs hp hW hS => ?_)
  rcases hp with ⟨hq9, e9⟩ | ⟨hq9, e9⟩
  · subst e9
    obtain ⟨i, hi, e8⟩ := vp_in_of hq9 (by decide)
    subst e8
    refine lv_if_ne (tgt := 12) hx hb dX8_carrier_5 (by decide) (fun _ => ?_) (fun c9 => absurd c9 (by decide))
    refine lv_iload_n hx hb dX8_carrier_12 rfl (lv_at hl 3 rfl) ?_
    refine lv_iconst (v := 0) hx hb dX8_carrier_13 (by decide) ?_
    refine lv_bipush (v := 10) hx hb dX8_carrier_14 (by decide) ?_
    refine g_callSp (k2 := 3) (As := [.int c9, .int 0, .int 10]) (rest := [.ref (ad (100, 0))]) C (c_X8_isIn l X L ad _ c9 0 10) tw_6_113 tw_6_114 tw_1_10 tw_6_115 (by decide +kernel) ⟨by rw [hR1]; exact Nat.le_of_ble_eq_true rfl, by rw [hR2]; exact Nat.le_of_ble_eq_true rfl⟩ hW hS rfl hl.1 rfl (Nat.le_of_ble_eq_true rfl) dX8_carrier_16 ⟨Nat.zero_le _, Nat.zero_le _⟩ (fun v9 H locs hp hW hS => ?_)
    have h1 := hp
    rcases h1 with ⟨h1, e9⟩ | ⟨h1, e9⟩
    · subst e9
      refine lv_if_eq (tgt := 26) hx hb dX8_carrier_19 (by decide) (fun c9 => absurd c9 (by decide)) (fun _ => ?_)
      refine lv_iconst (v := 0) hx hb dX8_carrier_22 (by decide) ?_
      refine lv_goto (tgt := 27) hx hb dX8_carrier_23 (by decide) ?_
      refine m_putI C hm hW hS 0 (by decide) rfl tw_5_203 dX8_carrier_27 (fun H locs hW hS => ?_)
      refine lv_aload_n hx hb dX8_carrier_30 rfl (lv_at hl 0 rfl) ?_
      refine m_getI (v := 0) C hm hW 0 (by decide) rfl tw_5_203 rfl dX8_carrier_31 ?_
      refine lv_if_le (tgt := 39) hx hb dX8_carrier_34 (by decide) (fun _ => ?_) (fun c9 => absurd (by decide) c9)
      refine lv_aload_n hx hb dX8_carrier_39 rfl (lv_at hl 0 rfl) ?_
      refine m_getA C hm hW 14 (by decide) rfl tw_5_217 dX8_carrier_40 ?_
      refine lv_iload_n hx hb dX8_carrier_43 rfl (lv_at hl 1 rfl) ?_
      refine m_iald (v := (fa 14) i) (j := i) C hm hW 14 (by decide) rfl rfl (vp_in_nI (N := 4) (by omega) (by decide)) (nI_clamp (by omega)) rfl dX8_carrier_44 ?_
      refine lv_topi (fun x2 ex2 => ?_)
      refine lv_istore (lv' := [(4, .int x2), (0, .ref (ad (100, 0))), (1, .int (nI i)), (2, .int b), (3, .int c9)]) hx hb dX8_carrier_45 hl (by decide) rfl (fun ls hl => ?_)
      refine lv_aload_n hx hb dX8_carrier_47 rfl (lv_at hl 1 rfl) ?_
      refine m_getA C hm hW 13 (by decide) rfl tw_5_216 dX8_carrier_48 ?_
      refine lv_iload_n hx hb dX8_carrier_51 rfl (lv_at hl 2 rfl) ?_
      refine lv_iload_n hx hb dX8_carrier_52 rfl (lv_at hl 3 rfl) ?_
      refine lv_if_ne (tgt := 60) hx hb dX8_carrier_53 (by decide) (fun c3 => ?_) (fun c3 => ?_)
      · refine lv_iconst (v := 0) hx hb dX8_carrier_60 (by decide) ?_
        refine m_zast (j := i) C hm hW hS 13 (by decide) rfl rfl (vp_in_nI (N := 4) (by omega) (by decide)) (nI_clamp (by omega)) dX8_carrier_61 (fun H locs hW hS => ?_)
        rw [show vp_nar .boolean 0 = 0 from rfl] at hW
        refine lv_aload_n hx hb dX8_carrier_62 rfl (lv_at hl 1 rfl) ?_
        refine m_getA C hm hW 14 (by decide) rfl tw_5_217 dX8_carrier_63 ?_
        refine lv_iload_n hx hb dX8_carrier_66 rfl (lv_at hl 2 rfl) ?_
        refine lv_iload_n hx hb dX8_carrier_67 rfl (lv_at hl 4 rfl) ?_
        refine m_iast (j := i) C hm hW hS 14 (by decide) rfl rfl (vp_in_nI (N := 4) (by omega) (by decide)) (nI_clamp (by omega)) dX8_carrier_68 (fun H locs hW hS => ?_)
        refine lv_iload hx hb dX8_carrier_69 (lv_at hl 0 rfl) ?_
        exact g_iret2 C hQ hW hS ⟨_, _, rfl, Or.inr (Or.inr ⟨i, hi, rfl, by grind, rfl, by first | (rw [if_pos c3]; rfl) | (rw [if_neg c3]; rfl), ex2⟩)⟩ rfl (Nat.zero_le _) (Nat.zero_le _) dX8_carrier_71
      · refine lv_iconst (v := 1) hx hb dX8_carrier_56 (by decide) ?_
        refine lv_goto (tgt := 61) hx hb dX8_carrier_57 (by decide) ?_
        refine m_zast (j := i) C hm hW hS 13 (by decide) rfl rfl (vp_in_nI (N := 4) (by omega) (by decide)) (nI_clamp (by omega)) dX8_carrier_61 (fun H locs hW hS => ?_)
        rw [show vp_nar .boolean 1 = 1 from rfl] at hW
        refine lv_aload_n hx hb dX8_carrier_62 rfl (lv_at hl 1 rfl) ?_
        refine m_getA C hm hW 14 (by decide) rfl tw_5_217 dX8_carrier_63 ?_
        refine lv_iload_n hx hb dX8_carrier_66 rfl (lv_at hl 2 rfl) ?_
        refine lv_iload_n hx hb dX8_carrier_67 rfl (lv_at hl 4 rfl) ?_
        refine m_iast (j := i) C hm hW hS 14 (by decide) rfl rfl (vp_in_nI (N := 4) (by omega) (by decide)) (nI_clamp (by omega)) dX8_carrier_68 (fun H locs hW hS => ?_)
        refine lv_iload hx hb dX8_carrier_69 (lv_at hl 0 rfl) ?_
        exact g_iret2 C hQ hW hS ⟨_, _, rfl, Or.inr (Or.inr ⟨i, hi, rfl, by grind, rfl, by first | (rw [if_pos c3]; rfl) | (rw [if_neg c3]; rfl), ex2⟩)⟩ rfl (Nat.zero_le _) (Nat.zero_le _) dX8_carrier_71
    · subst e9
      refine lv_if_eq (tgt := 26) hx hb dX8_carrier_19 (by decide) (fun _ => ?_) (fun c9 => absurd (by decide) c9)
      refine lv_iconst (v := 2) hx hb dX8_carrier_26 (by decide) ?_
      refine m_putI C hm hW hS 0 (by decide) rfl tw_5_203 dX8_carrier_27 (fun H locs hW hS => ?_)
      refine lv_aload_n hx hb dX8_carrier_30 rfl (lv_at hl 0 rfl) ?_
      refine m_getI (v := 2) C hm hW 0 (by decide) rfl tw_5_203 rfl dX8_carrier_31 ?_
      refine lv_if_le (tgt := 39) hx hb dX8_carrier_34 (by decide) (fun c9 => absurd c9 (by decide)) (fun _ => ?_)
      refine lv_iconst (v := 0) hx hb dX8_carrier_37 (by decide) ?_
      exact g_iret2 C hQ hW hS ⟨_, _, rfl, Or.inr (Or.inl ⟨i, hi, rfl, by grind, rfl, rfl⟩)⟩ rfl (Nat.zero_le _) (Nat.zero_le _) dX8_carrier_38
  · subst e9
    refine lv_if_ne (tgt := 12) hx hb dX8_carrier_5 (by decide) (fun c9 => absurd c9 (by decide)) (fun _ => ?_)
    refine lv_iconst (v := 1) hx hb dX8_carrier_8 (by decide) ?_
    refine lv_goto (tgt := 27) hx hb dX8_carrier_9 (by decide) ?_
    refine m_putI C hm hW hS 0 (by decide) rfl tw_5_203 dX8_carrier_27 (fun H locs hW hS => ?_)
    refine lv_aload_n hx hb dX8_carrier_30 rfl (lv_at hl 0 rfl) ?_
    refine m_getI (v := 1) C hm hW 0 (by decide) rfl tw_5_203 rfl dX8_carrier_31 ?_
    refine lv_if_le (tgt := 39) hx hb dX8_carrier_34 (by decide) (fun c9 => absurd c9 (by decide)) (fun _ => ?_)
    refine lv_iconst (v := 0) hx hb dX8_carrier_37 (by decide) ?_
    exact g_iret2 C hQ hW hS ⟨_, _, rfl, Or.inl ⟨hq9, rfl, rfl⟩⟩ rfl (Nat.zero_le _) (Nat.zero_le _) dX8_carrier_38

set_option maxHeartbeats 4000000 in
set_option maxRecDepth 100000 in
theorem c_X8_tariff (l : Launch) (X : GX) (L : List ro) (ad : ro → Nat) (st0 : ro → va_E) (fi : Nat → Int32) (fa : Nat → Nat → Int32) (hm : mL L) (a : Int32) (b : Int32) (c9 : Int32) (d9 : Int32) : mM l yX8_tariff cX8_tariff 7 (some .int) 2 42 X [.int a, .int b, .int c9, .int d9] L ad st0 fi fa (fun v fi' fa' => (¬ vp_in a 4 ∧ fi' = upd fi 0 1 ∧ fa' = fa) ∨ (∃ i, i < 4 ∧ a = nI i ∧ ¬ ((0 ≤ b ∧ b ≤ 10000) ∧ (0 ≤ c9 ∧ c9 ≤ 1000) ∧ (0 ≤ d9 ∧ d9 ≤ 1000)) ∧ fi' = upd fi 0 2 ∧ fa' = fa) ∨ (∃ i, i < 4 ∧ a = nI i ∧ ((0 ≤ b ∧ b ≤ 10000) ∧ (0 ≤ c9 ∧ c9 ≤ 1000) ∧ (0 ≤ d9 ∧ d9 ≤ 1000)) ∧ fi' = upd fi 0 0 ∧ fa' = rowu (rowu (rowu fa 19 (upd (fa 19) i b)) 20 (upd (fa 20) i c9)) 21 (upd (fa 21) i d9) ∧ v = fa 19 i)) := by
  intro sz
  refine gM_of2 (Qc := fun A => va_Qi _ (gB X A) A) (by decide) (Nat.le_of_ble_eq_true rfl) ?_ sz
  intro p e s m args below meth c A R Q hR hQ C hW hS ls hl
  obtain ⟨hR1, hR2, hR3, hR4⟩ := hR
  have hx := C.1.1
  have hb := C.1.2.1
  have hml := C.1.2.2.1
  have hl : lv_has ls 7 [(0, .ref (ad (100, 0))), (1, .int a), (2, .int b), (3, .int c9), (4, .int d9)] := hl
  refine lv_iload_n hx hb dX8_tariff_0 rfl (lv_at hl 2 rfl) ?_
  refine lv_iconst (v := 0) hx hb dX8_tariff_1 (by decide) ?_
  refine lv_sipush (v := 10000) hx hb dX8_tariff_2 (by decide) ?_
  refine g_callSp (k2 := 3) (As := [.int b, .int 0, .int 10000]) (rest := []) C (c_X8_isIn l X L ad _ b 0 10000) tw_6_113 tw_6_114 tw_1_10 tw_6_115 (by decide +kernel) ⟨by rw [hR1]; exact Nat.le_of_ble_eq_true rfl, by rw [hR2]; exact Nat.le_of_ble_eq_true rfl⟩ hW hS rfl hl.1 rfl (Nat.le_of_ble_eq_true rfl) dX8_tariff_5 ⟨Nat.zero_le _, Nat.zero_le _⟩ (fun v9 H locs hp hW hS => ?_)
  have h1 := hp
  rcases h1 with ⟨h1, e9⟩ | ⟨h1, e9⟩
  · subst e9
    refine lv_if_eq (tgt := 38) hx hb dX8_tariff_8 (by decide) (fun c9 => absurd c9 (by decide)) (fun _ => ?_)
    refine lv_iload_n hx hb dX8_tariff_11 rfl (lv_at hl 3 rfl) ?_
    refine lv_iconst (v := 0) hx hb dX8_tariff_12 (by decide) ?_
    refine lv_sipush (v := 1000) hx hb dX8_tariff_13 (by decide) ?_
    refine g_callSp (k2 := 3) (As := [.int c9, .int 0, .int 1000]) (rest := []) C (c_X8_isIn l X L ad _ c9 0 1000) tw_6_113 tw_6_114 tw_1_10 tw_6_115 (by decide +kernel) ⟨by rw [hR1]; exact Nat.le_of_ble_eq_true rfl, by rw [hR2]; exact Nat.le_of_ble_eq_true rfl⟩ hW hS rfl hl.1 rfl (Nat.le_of_ble_eq_true rfl) dX8_tariff_16 ⟨Nat.zero_le _, Nat.zero_le _⟩ (fun v9 H locs hp hW hS => ?_)
    have h2 := hp
    rcases h2 with ⟨h2, e9⟩ | ⟨h2, e9⟩
    · subst e9
      refine lv_if_eq (tgt := 38) hx hb dX8_tariff_19 (by decide) (fun c9 => absurd c9 (by decide)) (fun _ => ?_)
      refine lv_iload hx hb dX8_tariff_22 (lv_at hl 4 rfl) ?_
      refine lv_iconst (v := 0) hx hb dX8_tariff_24 (by decide) ?_
      refine lv_sipush (v := 1000) hx hb dX8_tariff_25 (by decide) ?_
      refine g_callSp (k2 := 3) (As := [.int d9, .int 0, .int 1000]) (rest := []) C (c_X8_isIn l X L ad _ d9 0 1000) tw_6_113 tw_6_114 tw_1_10 tw_6_115 (by decide +kernel) ⟨by rw [hR1]; exact Nat.le_of_ble_eq_true rfl, by rw [hR2]; exact Nat.le_of_ble_eq_true rfl⟩ hW hS rfl hl.1 rfl (Nat.le_of_ble_eq_true rfl) dX8_tariff_28 ⟨Nat.zero_le _, Nat.zero_le _⟩ (fun v9 H locs hp hW hS => ?_)
      have h3 := hp
      rcases h3 with ⟨h3, e9⟩ | ⟨h3, e9⟩
      · subst e9
        refine lv_if_eq (tgt := 38) hx hb dX8_tariff_31 (by decide) (fun c9 => absurd c9 (by decide)) (fun _ => ?_)
        refine lv_iconst (v := 1) hx hb dX8_tariff_34 (by decide) ?_
        refine lv_goto (tgt := 39) hx hb dX8_tariff_35 (by decide) ?_
        refine lv_istore (lv' := [(5, .int 1), (0, .ref (ad (100, 0))), (1, .int a), (2, .int b), (3, .int c9), (4, .int d9)]) hx hb dX8_tariff_39 hl (by decide) rfl (fun ls hl => ?_)
        refine lv_aload_n hx hb dX8_tariff_41 rfl (lv_at hl 1 rfl) ?_
        refine lv_iload_n hx hb dX8_tariff_42 rfl (lv_at hl 2 rfl) ?_
        refine g_callSp (k2 := 1) (As := [.int a]) (rest := [.ref (ad (100, 0))]) C (c_X8_isCarrier l X L ad _ a) tw_6_175 tw_6_176 tw_1_10 tw_6_177 (by decide +kernel) ⟨by rw [hR1]; exact Nat.le_of_ble_eq_true rfl, by rw [hR2]; exact Nat.le_of_ble_eq_true rfl⟩ hW hS rfl hl.1 rfl (Nat.le_of_ble_eq_true rfl) dX8_tariff_43 ⟨Nat.zero_le _, Nat.zero_le _⟩ (fun v9 H locs hp hW hS => ?_)
        rcases hp with ⟨hq9, e9⟩ | ⟨hq9, e9⟩
        · subst e9
          obtain ⟨i, hi, e8⟩ := vp_in_of hq9 (by decide)
          subst e8
          refine lv_if_ne (tgt := 53) hx hb dX8_tariff_46 (by decide) (fun _ => ?_) (fun c9 => absurd c9 (by decide))
          refine lv_iload hx hb dX8_tariff_53 (lv_at hl 0 rfl) ?_
          refine lv_if_eq (tgt := 62) hx hb dX8_tariff_55 (by decide) (fun c9 => absurd c9 (by decide)) (fun _ => ?_)
          refine lv_iconst (v := 0) hx hb dX8_tariff_58 (by decide) ?_
          refine lv_goto (tgt := 63) hx hb dX8_tariff_59 (by decide) ?_
          refine m_putI C hm hW hS 0 (by decide) rfl tw_5_203 dX8_tariff_63 (fun H locs hW hS => ?_)
          refine lv_aload_n hx hb dX8_tariff_66 rfl (lv_at hl 1 rfl) ?_
          refine m_getI (v := 0) C hm hW 0 (by decide) rfl tw_5_203 rfl dX8_tariff_67 ?_
          refine lv_if_le (tgt := 75) hx hb dX8_tariff_70 (by decide) (fun _ => ?_) (fun c9 => absurd (by decide) c9)
          refine lv_aload_n hx hb dX8_tariff_75 rfl (lv_at hl 1 rfl) ?_
          refine m_getA C hm hW 19 (by decide) rfl tw_5_222 dX8_tariff_76 ?_
          refine lv_iload_n hx hb dX8_tariff_79 rfl (lv_at hl 2 rfl) ?_
          refine m_iald (v := (fa 19) i) (j := i) C hm hW 19 (by decide) rfl rfl (vp_in_nI (N := 4) (by omega) (by decide)) (nI_clamp (by omega)) rfl dX8_tariff_80 ?_
          refine lv_topi (fun x4 ex4 => ?_)
          refine lv_istore (lv' := [(6, .int x4), (5, .int 1), (0, .ref (ad (100, 0))), (1, .int (nI i)), (2, .int b), (3, .int c9), (4, .int d9)]) hx hb dX8_tariff_81 hl (by decide) rfl (fun ls hl => ?_)
          refine lv_aload_n hx hb dX8_tariff_83 rfl (lv_at hl 2 rfl) ?_
          refine m_getA C hm hW 19 (by decide) rfl tw_5_222 dX8_tariff_84 ?_
          refine lv_iload_n hx hb dX8_tariff_87 rfl (lv_at hl 3 rfl) ?_
          refine lv_iload_n hx hb dX8_tariff_88 rfl (lv_at hl 4 rfl) ?_
          refine m_iast (j := i) C hm hW hS 19 (by decide) rfl rfl (vp_in_nI (N := 4) (by omega) (by decide)) (nI_clamp (by omega)) dX8_tariff_89 (fun H locs hW hS => ?_)
          refine lv_aload_n hx hb dX8_tariff_90 rfl (lv_at hl 2 rfl) ?_
          refine m_getA C hm hW 20 (by decide) rfl tw_5_223 dX8_tariff_91 ?_
          refine lv_iload_n hx hb dX8_tariff_94 rfl (lv_at hl 3 rfl) ?_
          refine lv_iload_n hx hb dX8_tariff_95 rfl (lv_at hl 5 rfl) ?_
          refine m_iast (j := i) C hm hW hS 20 (by decide) rfl rfl (vp_in_nI (N := 4) (by omega) (by decide)) (nI_clamp (by omega)) dX8_tariff_96 (fun H locs hW hS => ?_)
          refine lv_aload_n hx hb dX8_tariff_97 rfl (lv_at hl 2 rfl) ?_
          refine m_getA C hm hW 21 (by decide) rfl tw_5_224 dX8_tariff_98 ?_
          refine lv_iload_n hx hb dX8_tariff_101 rfl (lv_at hl 3 rfl) ?_
          refine lv_iload hx hb dX8_tariff_102 (lv_at hl 6 rfl) ?_
          refine m_iast (j := i) C hm hW hS 21 (by decide) rfl rfl (vp_in_nI (N := 4) (by omega) (by decide)) (nI_clamp (by omega)) dX8_tariff_104 (fun H locs hW hS => ?_)
          refine lv_iload hx hb dX8_tariff_105 (lv_at hl 0 rfl) ?_
          exact g_iret2 C hQ hW hS ⟨_, _, rfl, Or.inr (Or.inr ⟨i, hi, rfl, by grind, rfl, rfl, ex4⟩)⟩ rfl (Nat.zero_le _) (Nat.zero_le _) dX8_tariff_107
        · subst e9
          refine lv_if_ne (tgt := 53) hx hb dX8_tariff_46 (by decide) (fun c9 => absurd c9 (by decide)) (fun _ => ?_)
          refine lv_iconst (v := 1) hx hb dX8_tariff_49 (by decide) ?_
          refine lv_goto (tgt := 63) hx hb dX8_tariff_50 (by decide) ?_
          refine m_putI C hm hW hS 0 (by decide) rfl tw_5_203 dX8_tariff_63 (fun H locs hW hS => ?_)
          refine lv_aload_n hx hb dX8_tariff_66 rfl (lv_at hl 1 rfl) ?_
          refine m_getI (v := 1) C hm hW 0 (by decide) rfl tw_5_203 rfl dX8_tariff_67 ?_
          refine lv_if_le (tgt := 75) hx hb dX8_tariff_70 (by decide) (fun c9 => absurd c9 (by decide)) (fun _ => ?_)
          refine lv_iconst (v := 0) hx hb dX8_tariff_73 (by decide) ?_
          exact g_iret2 C hQ hW hS ⟨_, _, rfl, Or.inl ⟨hq9, rfl, rfl⟩⟩ rfl (Nat.zero_le _) (Nat.zero_le _) dX8_tariff_74
      · subst e9
        refine lv_if_eq (tgt := 38) hx hb dX8_tariff_31 (by decide) (fun _ => ?_) (fun c9 => absurd (by decide) c9)
        refine lv_iconst (v := 0) hx hb dX8_tariff_38 (by decide) ?_
        refine lv_istore (lv' := [(5, .int 0), (0, .ref (ad (100, 0))), (1, .int a), (2, .int b), (3, .int c9), (4, .int d9)]) hx hb dX8_tariff_39 hl (by decide) rfl (fun ls hl => ?_)
        refine lv_aload_n hx hb dX8_tariff_41 rfl (lv_at hl 1 rfl) ?_
        refine lv_iload_n hx hb dX8_tariff_42 rfl (lv_at hl 2 rfl) ?_
        refine g_callSp (k2 := 1) (As := [.int a]) (rest := [.ref (ad (100, 0))]) C (c_X8_isCarrier l X L ad _ a) tw_6_175 tw_6_176 tw_1_10 tw_6_177 (by decide +kernel) ⟨by rw [hR1]; exact Nat.le_of_ble_eq_true rfl, by rw [hR2]; exact Nat.le_of_ble_eq_true rfl⟩ hW hS rfl hl.1 rfl (Nat.le_of_ble_eq_true rfl) dX8_tariff_43 ⟨Nat.zero_le _, Nat.zero_le _⟩ (fun v9 H locs hp hW hS => ?_)
        rcases hp with ⟨hq9, e9⟩ | ⟨hq9, e9⟩
        · subst e9
          obtain ⟨i, hi, e8⟩ := vp_in_of hq9 (by decide)
          subst e8
          refine lv_if_ne (tgt := 53) hx hb dX8_tariff_46 (by decide) (fun _ => ?_) (fun c9 => absurd c9 (by decide))
          refine lv_iload hx hb dX8_tariff_53 (lv_at hl 0 rfl) ?_
          refine lv_if_eq (tgt := 62) hx hb dX8_tariff_55 (by decide) (fun _ => ?_) (fun c9 => absurd (by decide) c9)
          refine lv_iconst (v := 2) hx hb dX8_tariff_62 (by decide) ?_
          refine m_putI C hm hW hS 0 (by decide) rfl tw_5_203 dX8_tariff_63 (fun H locs hW hS => ?_)
          refine lv_aload_n hx hb dX8_tariff_66 rfl (lv_at hl 1 rfl) ?_
          refine m_getI (v := 2) C hm hW 0 (by decide) rfl tw_5_203 rfl dX8_tariff_67 ?_
          refine lv_if_le (tgt := 75) hx hb dX8_tariff_70 (by decide) (fun c9 => absurd c9 (by decide)) (fun _ => ?_)
          refine lv_iconst (v := 0) hx hb dX8_tariff_73 (by decide) ?_
          exact g_iret2 C hQ hW hS ⟨_, _, rfl, Or.inr (Or.inl ⟨i, hi, rfl, by grind, rfl, rfl⟩)⟩ rfl (Nat.zero_le _) (Nat.zero_le _) dX8_tariff_74
        · subst e9
          refine lv_if_ne (tgt := 53) hx hb dX8_tariff_46 (by decide) (fun c9 => absurd c9 (by decide)) (fun _ => ?_)
          refine lv_iconst (v := 1) hx hb dX8_tariff_49 (by decide) ?_
          refine lv_goto (tgt := 63) hx hb dX8_tariff_50 (by decide) ?_
          refine m_putI C hm hW hS 0 (by decide) rfl tw_5_203 dX8_tariff_63 (fun H locs hW hS => ?_)
          refine lv_aload_n hx hb dX8_tariff_66 rfl (lv_at hl 1 rfl) ?_
          refine m_getI (v := 1) C hm hW 0 (by decide) rfl tw_5_203 rfl dX8_tariff_67 ?_
          refine lv_if_le (tgt := 75) hx hb dX8_tariff_70 (by decide) (fun c9 => absurd c9 (by decide)) (fun _ => ?_)
          refine lv_iconst (v := 0) hx hb dX8_tariff_73 (by decide) ?_
          exact g_iret2 C hQ hW hS ⟨_, _, rfl, Or.inl ⟨hq9, rfl, rfl⟩⟩ rfl (Nat.zero_le _) (Nat.zero_le _) dX8_tariff_74
    · subst e9
      refine lv_if_eq (tgt := 38) hx hb dX8_tariff_19 (by decide) (fun _ => ?_) (fun c9 => absurd (by decide) c9)
      refine lv_iconst (v := 0) hx hb dX8_tariff_38 (by decide) ?_
      refine lv_istore (lv' := [(5, .int 0), (0, .ref (ad (100, 0))), (1, .int a), (2, .int b), (3, .int c9), (4, .int d9)]) hx hb dX8_tariff_39 hl (by decide) rfl (fun ls hl => ?_)
      refine lv_aload_n hx hb dX8_tariff_41 rfl (lv_at hl 1 rfl) ?_
      refine lv_iload_n hx hb dX8_tariff_42 rfl (lv_at hl 2 rfl) ?_
      refine g_callSp (k2 := 1) (As := [.int a]) (rest := [.ref (ad (100, 0))]) C (c_X8_isCarrier l X L ad _ a) tw_6_175 tw_6_176 tw_1_10 tw_6_177 (by decide +kernel) ⟨by rw [hR1]; exact Nat.le_of_ble_eq_true rfl, by rw [hR2]; exact Nat.le_of_ble_eq_true rfl⟩ hW hS rfl hl.1 rfl (Nat.le_of_ble_eq_true rfl) dX8_tariff_43 ⟨Nat.zero_le _, Nat.zero_le _⟩ (fun v9 H locs hp hW hS => ?_)
      rcases hp with ⟨hq9, e9⟩ | ⟨hq9, e9⟩
      · subst e9
        obtain ⟨i, hi, e8⟩ := vp_in_of hq9 (by decide)
        subst e8
        refine lv_if_ne (tgt := 53) hx hb dX8_tariff_46 (by decide) (fun _ => ?_) (fun c9 => absurd c9 (by decide))
        refine lv_iload hx hb dX8_tariff_53 (lv_at hl 0 rfl) ?_
        refine lv_if_eq (tgt := 62) hx hb dX8_tariff_55 (by decide) (fun _ => ?_) (fun c9 => absurd (by decide) c9)
        refine lv_iconst (v := 2) hx hb dX8_tariff_62 (by decide) ?_
        refine m_putI C hm hW hS 0 (by decide) rfl tw_5_203 dX8_tariff_63 (fun H locs hW hS => ?_)
        refine lv_aload_n hx hb dX8_tariff_66 rfl (lv_at hl 1 rfl) ?_
        refine m_getI (v := 2) C hm hW 0 (by decide) rfl tw_5_203 rfl dX8_tariff_67 ?_
        refine lv_if_le (tgt := 75) hx hb dX8_tariff_70 (by decide) (fun c9 => absurd c9 (by decide)) (fun _ => ?_)
        refine lv_iconst (v := 0) hx hb dX8_tariff_73 (by decide) ?_
        exact g_iret2 C hQ hW hS ⟨_, _, rfl, Or.inr (Or.inl ⟨i, hi, rfl, by grind, rfl, rfl⟩)⟩ rfl (Nat.zero_le _) (Nat.zero_le _) dX8_tariff_74
      · subst e9
        refine lv_if_ne (tgt := 53) hx hb dX8_tariff_46 (by decide) (fun c9 => absurd c9 (by decide)) (fun _ => ?_)
        refine lv_iconst (v := 1) hx hb dX8_tariff_49 (by decide) ?_
        refine lv_goto (tgt := 63) hx hb dX8_tariff_50 (by decide) ?_
        refine m_putI C hm hW hS 0 (by decide) rfl tw_5_203 dX8_tariff_63 (fun H locs hW hS => ?_)
        refine lv_aload_n hx hb dX8_tariff_66 rfl (lv_at hl 1 rfl) ?_
        refine m_getI (v := 1) C hm hW 0 (by decide) rfl tw_5_203 rfl dX8_tariff_67 ?_
        refine lv_if_le (tgt := 75) hx hb dX8_tariff_70 (by decide) (fun c9 => absurd c9 (by decide)) (fun _ => ?_)
        refine lv_iconst (v := 0) hx hb dX8_tariff_73 (by decide) ?_
        exact g_iret2 C hQ hW hS ⟨_, _, rfl, Or.inl ⟨hq9, rfl, rfl⟩⟩ rfl (Nat.zero_le _) (Nat.zero_le _) dX8_tariff_74
  · subst e9
    refine lv_if_eq (tgt := 38) hx hb dX8_tariff_8 (by decide) (fun _ => ?_) (fun c9 => absurd (by decide) c9)
    refine lv_iconst (v := 0) hx hb dX8_tariff_38 (by decide) ?_
    refine lv_istore (lv' := [(5, .int 0), (0, .ref (ad (100, 0))), (1, .int a), (2, .int b), (3, .int c9), (4, .int d9)]) hx hb dX8_tariff_39 hl (by decide) rfl (fun ls hl => ?_)
    refine lv_aload_n hx hb dX8_tariff_41 rfl (lv_at hl 1 rfl) ?_
    refine lv_iload_n hx hb dX8_tariff_42 rfl (lv_at hl 2 rfl) ?_
    refine g_callSp (k2 := 1) (As := [.int a]) (rest := [.ref (ad (100, 0))]) C (c_X8_isCarrier l X L ad _ a) tw_6_175 tw_6_176 tw_1_10 tw_6_177 (by decide +kernel) ⟨by rw [hR1]; exact Nat.le_of_ble_eq_true rfl, by rw [hR2]; exact Nat.le_of_ble_eq_true rfl⟩ hW hS rfl hl.1 rfl (Nat.le_of_ble_eq_true rfl) dX8_tariff_43 ⟨Nat.zero_le _, Nat.zero_le _⟩ (fun v9 H locs hp hW hS => ?_)
    rcases hp with ⟨hq9, e9⟩ | ⟨hq9, e9⟩
    · subst e9
      obtain ⟨i, hi, e8⟩ := vp_in_of hq9 (by decide)
      subst e8
      refine lv_if_ne (tgt := 53) hx hb dX8_tariff_46 (by decide) (fun _ => ?_) (fun c9 => absurd c9 (by decide))
      refine lv_iload hx hb dX8_tariff_53 (lv_at hl 0 rfl) ?_
      refine lv_if_eq (tgt := 62) hx hb dX8_tariff_55 (by decide) (fun _ => ?_) (fun c9 => absurd (by decide) c9)
      refine lv_iconst (v := 2) hx hb dX8_tariff_62 (by decide) ?_
      refine m_putI C hm hW hS 0 (by decide) rfl tw_5_203 dX8_tariff_63 (fun H locs hW hS => ?_)
      refine lv_aload_n hx hb dX8_tariff_66 rfl (lv_at hl 1 rfl) ?_
      refine m_getI (v := 2) C hm hW 0 (by decide) rfl tw_5_203 rfl dX8_tariff_67 ?_
      refine lv_if_le (tgt := 75) hx hb dX8_tariff_70 (by decide) (fun c9 => absurd c9 (by decide)) (fun _ => ?_)
      refine lv_iconst (v := 0) hx hb dX8_tariff_73 (by decide) ?_
      exact g_iret2 C hQ hW hS ⟨_, _, rfl, Or.inr (Or.inl ⟨i, hi, rfl, by grind, rfl, rfl⟩)⟩ rfl (Nat.zero_le _) (Nat.zero_le _) dX8_tariff_74
    · subst e9
      refine lv_if_ne (tgt := 53) hx hb dX8_tariff_46 (by decide) (fun c9 => absurd c9 (by decide)) (fun _ => ?_)
      refine lv_iconst (v := 1) hx hb dX8_tariff_49 (by decide) ?_
      refine lv_goto (tgt := 63) hx hb dX8_tariff_50 (by decide) ?_
      refine m_putI C hm hW hS 0 (by decide) rfl tw_5_203 dX8_tariff_63 (fun H locs hW hS => ?_)
      refine lv_aload_n hx hb dX8_tariff_66 rfl (lv_at hl 1 rfl) ?_
      refine m_getI (v := 1) C hm hW 0 (by decide) rfl tw_5_203 rfl dX8_tariff_67 ?_
      refine lv_if_le (tgt := 75) hx hb dX8_tariff_70 (by decide) (fun c9 => absurd c9 (by decide)) (fun _ => ?_)
      refine lv_iconst (v := 0) hx hb dX8_tariff_73 (by decide) ?_
      exact g_iret2 C hQ hW hS ⟨_, _, rfl, Or.inl ⟨hq9, rfl, rfl⟩⟩ rfl (Nat.zero_le _) (Nat.zero_le _) dX8_tariff_74

set_option maxHeartbeats 4000000 in
set_option maxRecDepth 100000 in
theorem c_X8_circuitOf (l : Launch) (X : GX) (L : List ro) (ad : ro → Nat) (st0 : ro → va_E) (fi : Nat → Int32) (fa : Nat → Nat → Int32) (hm : mL L) (i : Nat) (hi : i < 4) : mM l yX8_circuitOf cX8_circuitOf 2 (some .int) 0 0 X [.int (nI i)] L ad st0 fi fa (fun v fi' fa' => fi' = fi ∧ fa' = fa ∧ v = crc (fa 17 i) (fi 1) (fa 18 i)) := by
  intro sz
  refine gM_of2 (Qc := fun A => va_Qi _ (gB X A) A) (by decide) (Nat.le_of_ble_eq_true rfl) ?_ sz
  intro p e s m args below meth c A R Q hR hQ C hW hS ls hl
  obtain ⟨hR1, hR2, hR3, hR4⟩ := hR
  have hx := C.1.1
  have hb := C.1.2.1
  have hml := C.1.2.2.1
  have hl : lv_has ls 2 [(0, .ref (ad (100, 0))), (1, .int (nI i))] := hl
  refine lv_aload_n hx hb dX8_circuitOf_0 rfl (lv_at hl 0 rfl) ?_
  refine m_getA C hm hW 17 (by decide) rfl tw_5_220 dX8_circuitOf_1 ?_
  refine lv_iload_n hx hb dX8_circuitOf_4 rfl (lv_at hl 1 rfl) ?_
  refine m_zald (v := (fa 17) i) (j := i) C hm hW 17 (by decide) rfl rfl (vp_in_nI (N := 4) (by omega) (by decide)) (nI_clamp (by omega)) rfl dX8_circuitOf_5 ?_
  refine lv_topi (fun x1 ex1 => ?_)
  refine lv_if_ne (tgt := 11) hx hb dX8_circuitOf_6 (by decide) (fun c2 => ?_) (fun c2 => ?_)
  · refine lv_aload_n hx hb dX8_circuitOf_11 rfl (lv_at hl 0 rfl) ?_
    refine m_getI (v := fi 1) C hm hW 1 (by decide) rfl tw_5_204 rfl dX8_circuitOf_12 ?_
    refine lv_aload_n hx hb dX8_circuitOf_15 rfl (lv_at hl 0 rfl) ?_
    refine m_getA C hm hW 18 (by decide) rfl tw_5_221 dX8_circuitOf_16 ?_
    refine lv_iload_n hx hb dX8_circuitOf_19 rfl (lv_at hl 1 rfl) ?_
    refine m_iald (v := (fa 18) i) (j := i) C hm hW 18 (by decide) rfl rfl (vp_in_nI (N := 4) (by omega) (by decide)) (nI_clamp (by omega)) rfl dX8_circuitOf_20 ?_
    refine lv_topi (fun x3 ex3 => ?_)
    refine lv_icmp_gt (tgt := 28) hx hb dX8_circuitOf_21 (by decide) (fun c4 => ?_) (fun c4 => ?_)
    · refine lv_iconst (v := 2) hx hb dX8_circuitOf_28 (by decide) ?_
      exact g_iret2 C hQ hW hS ⟨_, _, rfl, rfl, rfl, by unfold crc; grind⟩ rfl (Nat.zero_le _) (Nat.zero_le _) dX8_circuitOf_29
    · refine lv_iconst (v := 1) hx hb dX8_circuitOf_24 (by decide) ?_
      refine lv_goto (tgt := 29) hx hb dX8_circuitOf_25 (by decide) ?_
      exact g_iret2 C hQ hW hS ⟨_, _, rfl, rfl, rfl, by unfold crc; grind⟩ rfl (Nat.zero_le _) (Nat.zero_le _) dX8_circuitOf_29
  · refine lv_iconst (v := 0) hx hb dX8_circuitOf_9 (by decide) ?_
    exact g_iret2 C hQ hW hS ⟨_, _, rfl, rfl, rfl, by unfold crc; grind⟩ rfl (Nat.zero_le _) (Nat.zero_le _) dX8_circuitOf_10

set_option maxHeartbeats 4000000 in
set_option maxRecDepth 100000 in
theorem c_X8_circuit (l : Launch) (X : GX) (L : List ro) (ad : ro → Nat) (st0 : ro → va_E) (fi : Nat → Int32) (fa : Nat → Nat → Int32) (hm : mL L) (a : Int32) : mM l yX8_circuit cX8_circuit 2 (some .int) 2 42 X [.int a] L ad st0 fi fa (fun v fi' fa' => (¬ vp_in a 4 ∧ fi' = upd fi 0 1 ∧ fa' = fa) ∨ (∃ i, i < 4 ∧ a = nI i ∧ fi' = upd fi 0 0 ∧ fa' = fa ∧ v = crc (fa 17 i) (fi 1) (fa 18 i))) := by
  intro sz
  refine gM_of2 (Qc := fun A => va_Qi _ (gB X A) A) (by decide) (Nat.le_of_ble_eq_true rfl) ?_ sz
  intro p e s m args below meth c A R Q hR hQ C hW hS ls hl
  obtain ⟨hR1, hR2, hR3, hR4⟩ := hR
  have hx := C.1.1
  have hb := C.1.2.1
  have hml := C.1.2.2.1
  have hl : lv_has ls 2 [(0, .ref (ad (100, 0))), (1, .int a)] := hl
  refine lv_aload_n hx hb dX8_circuit_0 rfl (lv_at hl 0 rfl) ?_
  refine lv_iload_n hx hb dX8_circuit_1 rfl (lv_at hl 1 rfl) ?_
  refine g_callSp (k2 := 1) (As := [.int a]) (rest := [.ref (ad (100, 0))]) C (c_X8_isCarrier l X L ad _ a) tw_6_175 tw_6_176 tw_1_10 tw_6_177 (by decide +kernel) ⟨by rw [hR1]; exact Nat.le_of_ble_eq_true rfl, by rw [hR2]; exact Nat.le_of_ble_eq_true rfl⟩ hW hS rfl hl.1 rfl (Nat.le_of_ble_eq_true rfl) dX8_circuit_2 ⟨Nat.zero_le _, Nat.zero_le _⟩ (fun v9 H locs hp hW hS => ?_)
  rcases hp with ⟨hq9, e9⟩ | ⟨hq9, e9⟩
  · subst e9
    obtain ⟨i, hi, e8⟩ := vp_in_of hq9 (by decide)
    subst e8
    refine lv_if_eq (tgt := 12) hx hb dX8_circuit_5 (by decide) (fun c9 => absurd c9 (by decide)) (fun _ => ?_)
    refine lv_iconst (v := 0) hx hb dX8_circuit_8 (by decide) ?_
    refine lv_goto (tgt := 13) hx hb dX8_circuit_9 (by decide) ?_
    refine m_putI C hm hW hS 0 (by decide) rfl tw_5_203 dX8_circuit_13 (fun H locs hW hS => ?_)
    refine lv_aload_n hx hb dX8_circuit_16 rfl (lv_at hl 0 rfl) ?_
    refine m_getI (v := 0) C hm hW 0 (by decide) rfl tw_5_203 rfl dX8_circuit_17 ?_
    refine lv_if_le (tgt := 27) hx hb dX8_circuit_20 (by decide) (fun _ => ?_) (fun c9 => absurd (by decide) c9)
    refine lv_aload_n hx hb dX8_circuit_27 rfl (lv_at hl 0 rfl) ?_
    refine lv_iload_n hx hb dX8_circuit_28 rfl (lv_at hl 1 rfl) ?_
    refine m_callVi (k2 := 1) (As := [.int (nI i)]) (rest := []) C (c_X8_circuitOf l X L ad st0 (upd fi 0 0) fa hm i (by omega)) tw_6_198 tw_6_200 tw_0_35 tw_1_10 tw_6_201 (by decide +kernel) ⟨by rw [hR1]; exact Nat.le_of_ble_eq_true rfl, by rw [hR2]; exact Nat.le_of_ble_eq_true rfl⟩ hm hW hS rfl hl.1 rfl (Nat.le_of_ble_eq_true rfl) dX8_circuit_29 ⟨Nat.zero_le _, Nat.zero_le _⟩ (fun x1 fi9 fa9 H locs hp hW hS => ?_)
    obtain ⟨z1, z2, h2⟩ := hp
    rw [z1, z2] at hW
    exact g_iret2 C hQ hW hS ⟨_, _, rfl, Or.inr ⟨i, hi, rfl, rfl, rfl, by first | grind | assumption⟩⟩ rfl (Nat.zero_le _) (Nat.zero_le _) dX8_circuit_32
  · subst e9
    refine lv_if_eq (tgt := 12) hx hb dX8_circuit_5 (by decide) (fun _ => ?_) (fun c9 => absurd (by decide) c9)
    refine lv_iconst (v := 1) hx hb dX8_circuit_12 (by decide) ?_
    refine m_putI C hm hW hS 0 (by decide) rfl tw_5_203 dX8_circuit_13 (fun H locs hW hS => ?_)
    refine lv_aload_n hx hb dX8_circuit_16 rfl (lv_at hl 0 rfl) ?_
    refine m_getI (v := 1) C hm hW 0 (by decide) rfl tw_5_203 rfl dX8_circuit_17 ?_
    refine lv_if_le (tgt := 27) hx hb dX8_circuit_20 (by decide) (fun c9 => absurd c9 (by decide)) (fun _ => ?_)
    refine lv_iconst (v := 0) hx hb dX8_circuit_23 (by decide) ?_
    refine lv_goto (tgt := 32) hx hb dX8_circuit_24 (by decide) ?_
    exact g_iret2 C hQ hW hS ⟨_, _, rfl, Or.inl ⟨hq9, rfl, rfl⟩⟩ rfl (Nat.zero_le _) (Nat.zero_le _) dX8_circuit_32

set_option maxHeartbeats 4000000 in
set_option maxRecDepth 100000 in
theorem c_X8_tries (l : Launch) (X : GX) (L : List ro) (ad : ro → Nat) (st0 : ro → va_E) (fi : Nat → Int32) (fa : Nat → Nat → Int32) (hm : mL L) (a : Int32) : mM l yX8_tries cX8_tries 2 (some .int) 2 42 X [.int a] L ad st0 fi fa (fun v fi' fa' => (¬ vp_in a 4 ∧ fi' = upd fi 0 1 ∧ fa' = fa) ∨ (∃ i, i < 4 ∧ a = nI i ∧ fi' = upd fi 0 0 ∧ fa' = fa ∧ v = fa 15 i)) := by
  intro sz
  refine gM_of2 (Qc := fun A => va_Qi _ (gB X A) A) (by decide) (Nat.le_of_ble_eq_true rfl) ?_ sz
  intro p e s m args below meth c A R Q hR hQ C hW hS ls hl
  obtain ⟨hR1, hR2, hR3, hR4⟩ := hR
  have hx := C.1.1
  have hb := C.1.2.1
  have hml := C.1.2.2.1
  have hl : lv_has ls 2 [(0, .ref (ad (100, 0))), (1, .int a)] := hl
  refine lv_aload_n hx hb dX8_tries_0 rfl (lv_at hl 0 rfl) ?_
  refine lv_iload_n hx hb dX8_tries_1 rfl (lv_at hl 1 rfl) ?_
  refine g_callSp (k2 := 1) (As := [.int a]) (rest := [.ref (ad (100, 0))]) C (c_X8_isCarrier l X L ad _ a) tw_6_175 tw_6_176 tw_1_10 tw_6_177 (by decide +kernel) ⟨by rw [hR1]; exact Nat.le_of_ble_eq_true rfl, by rw [hR2]; exact Nat.le_of_ble_eq_true rfl⟩ hW hS rfl hl.1 rfl (Nat.le_of_ble_eq_true rfl) dX8_tries_2 ⟨Nat.zero_le _, Nat.zero_le _⟩ (fun v9 H locs hp hW hS => ?_)
  rcases hp with ⟨hq9, e9⟩ | ⟨hq9, e9⟩
  · subst e9
    obtain ⟨i, hi, e8⟩ := vp_in_of hq9 (by decide)
    subst e8
    refine lv_if_eq (tgt := 12) hx hb dX8_tries_5 (by decide) (fun c9 => absurd c9 (by decide)) (fun _ => ?_)
    refine lv_iconst (v := 0) hx hb dX8_tries_8 (by decide) ?_
    refine lv_goto (tgt := 13) hx hb dX8_tries_9 (by decide) ?_
    refine m_putI C hm hW hS 0 (by decide) rfl tw_5_203 dX8_tries_13 (fun H locs hW hS => ?_)
    refine lv_aload_n hx hb dX8_tries_16 rfl (lv_at hl 0 rfl) ?_
    refine m_getI (v := 0) C hm hW 0 (by decide) rfl tw_5_203 rfl dX8_tries_17 ?_
    refine lv_if_le (tgt := 27) hx hb dX8_tries_20 (by decide) (fun _ => ?_) (fun c9 => absurd (by decide) c9)
    refine lv_aload_n hx hb dX8_tries_27 rfl (lv_at hl 0 rfl) ?_
    refine m_getA C hm hW 15 (by decide) rfl tw_5_218 dX8_tries_28 ?_
    refine lv_iload_n hx hb dX8_tries_31 rfl (lv_at hl 1 rfl) ?_
    refine m_iald (v := (fa 15) i) (j := i) C hm hW 15 (by decide) rfl rfl (vp_in_nI (N := 4) (by omega) (by decide)) (nI_clamp (by omega)) rfl dX8_tries_32 ?_
    refine lv_topi (fun x1 ex1 => ?_)
    exact g_iret2 C hQ hW hS ⟨_, _, rfl, Or.inr ⟨i, hi, rfl, rfl, rfl, by first | grind | assumption⟩⟩ rfl (Nat.zero_le _) (Nat.zero_le _) dX8_tries_33
  · subst e9
    refine lv_if_eq (tgt := 12) hx hb dX8_tries_5 (by decide) (fun _ => ?_) (fun c9 => absurd (by decide) c9)
    refine lv_iconst (v := 1) hx hb dX8_tries_12 (by decide) ?_
    refine m_putI C hm hW hS 0 (by decide) rfl tw_5_203 dX8_tries_13 (fun H locs hW hS => ?_)
    refine lv_aload_n hx hb dX8_tries_16 rfl (lv_at hl 0 rfl) ?_
    refine m_getI (v := 1) C hm hW 0 (by decide) rfl tw_5_203 rfl dX8_tries_17 ?_
    refine lv_if_le (tgt := 27) hx hb dX8_tries_20 (by decide) (fun c9 => absurd c9 (by decide)) (fun _ => ?_)
    refine lv_iconst (v := 0) hx hb dX8_tries_23 (by decide) ?_
    refine lv_goto (tgt := 33) hx hb dX8_tries_24 (by decide) ?_
    exact g_iret2 C hQ hW hS ⟨_, _, rfl, Or.inl ⟨hq9, rfl, rfl⟩⟩ rfl (Nat.zero_le _) (Nat.zero_le _) dX8_tries_33

set_option maxHeartbeats 4000000 in
set_option maxRecDepth 100000 in
theorem c_X8_billed (l : Launch) (X : GX) (L : List ro) (ad : ro → Nat) (st0 : ro → va_E) (fi : Nat → Int32) (fa : Nat → Nat → Int32) (hm : mL L) (a : Int32) : mM l yX8_billed cX8_billed 2 (some .int) 2 42 X [.int a] L ad st0 fi fa (fun v fi' fa' => (¬ vp_in a 6 ∧ fi' = upd fi 0 1 ∧ fa' = fa) ∨ (∃ i, i < 6 ∧ a = nI i ∧ fi' = upd fi 0 0 ∧ fa' = fa ∧ v = fa 27 i)) := by
  intro sz
  refine gM_of2 (Qc := fun A => va_Qi _ (gB X A) A) (by decide) (Nat.le_of_ble_eq_true rfl) ?_ sz
  intro p e s m args below meth c A R Q hR hQ C hW hS ls hl
  obtain ⟨hR1, hR2, hR3, hR4⟩ := hR
  have hx := C.1.1
  have hb := C.1.2.1
  have hml := C.1.2.2.1
  have hl : lv_has ls 2 [(0, .ref (ad (100, 0))), (1, .int a)] := hl
  refine lv_aload_n hx hb dX8_billed_0 rfl (lv_at hl 0 rfl) ?_
  refine lv_iload_n hx hb dX8_billed_1 rfl (lv_at hl 1 rfl) ?_
  refine g_callSp (k2 := 1) (As := [.int a]) (rest := [.ref (ad (100, 0))]) C (c_X8_isShipper l X L ad _ a) tw_6_168 tw_6_169 tw_1_10 tw_6_170 (by decide +kernel) ⟨by rw [hR1]; exact Nat.le_of_ble_eq_true rfl, by rw [hR2]; exact Nat.le_of_ble_eq_true rfl⟩ hW hS rfl hl.1 rfl (Nat.le_of_ble_eq_true rfl) dX8_billed_2 ⟨Nat.zero_le _, Nat.zero_le _⟩ (fun v9 H locs hp hW hS => ?_)
  rcases hp with ⟨hq9, e9⟩ | ⟨hq9, e9⟩
  · subst e9
    obtain ⟨i, hi, e8⟩ := vp_in_of hq9 (by decide)
    subst e8
    refine lv_if_eq (tgt := 12) hx hb dX8_billed_5 (by decide) (fun c9 => absurd c9 (by decide)) (fun _ => ?_)
    refine lv_iconst (v := 0) hx hb dX8_billed_8 (by decide) ?_
    refine lv_goto (tgt := 13) hx hb dX8_billed_9 (by decide) ?_
    refine m_putI C hm hW hS 0 (by decide) rfl tw_5_203 dX8_billed_13 (fun H locs hW hS => ?_)
    refine lv_aload_n hx hb dX8_billed_16 rfl (lv_at hl 0 rfl) ?_
    refine m_getI (v := 0) C hm hW 0 (by decide) rfl tw_5_203 rfl dX8_billed_17 ?_
    refine lv_if_le (tgt := 27) hx hb dX8_billed_20 (by decide) (fun _ => ?_) (fun c9 => absurd (by decide) c9)
    refine lv_aload_n hx hb dX8_billed_27 rfl (lv_at hl 0 rfl) ?_
    refine m_getA C hm hW 27 (by decide) rfl tw_5_230 dX8_billed_28 ?_
    refine lv_iload_n hx hb dX8_billed_31 rfl (lv_at hl 1 rfl) ?_
    refine m_iald (v := (fa 27) i) (j := i) C hm hW 27 (by decide) rfl rfl (vp_in_nI (N := 6) (by omega) (by decide)) (nI_clamp (by omega)) rfl dX8_billed_32 ?_
    refine lv_topi (fun x1 ex1 => ?_)
    exact g_iret2 C hQ hW hS ⟨_, _, rfl, Or.inr ⟨i, hi, rfl, rfl, rfl, by first | grind | assumption⟩⟩ rfl (Nat.zero_le _) (Nat.zero_le _) dX8_billed_33
  · subst e9
    refine lv_if_eq (tgt := 12) hx hb dX8_billed_5 (by decide) (fun _ => ?_) (fun c9 => absurd (by decide) c9)
    refine lv_iconst (v := 1) hx hb dX8_billed_12 (by decide) ?_
    refine m_putI C hm hW hS 0 (by decide) rfl tw_5_203 dX8_billed_13 (fun H locs hW hS => ?_)
    refine lv_aload_n hx hb dX8_billed_16 rfl (lv_at hl 0 rfl) ?_
    refine m_getI (v := 1) C hm hW 0 (by decide) rfl tw_5_203 rfl dX8_billed_17 ?_
    refine lv_if_le (tgt := 27) hx hb dX8_billed_20 (by decide) (fun c9 => absurd c9 (by decide)) (fun _ => ?_)
    refine lv_iconst (v := 0) hx hb dX8_billed_23 (by decide) ?_
    refine lv_goto (tgt := 33) hx hb dX8_billed_24 (by decide) ?_
    exact g_iret2 C hQ hW hS ⟨_, _, rfl, Or.inl ⟨hq9, rfl, rfl⟩⟩ rfl (Nat.zero_le _) (Nat.zero_le _) dX8_billed_33

set_option maxHeartbeats 4000000 in
set_option maxRecDepth 100000 in
theorem c_X8_isParcel (l : Launch) (X : GX) (L : List ro) (ad : ro → Nat) (st0 : ro → va_E) (fi : Nat → Int32) (fa : Nat → Nat → Int32) (hm : mL L) (a : Int32) (np : Nat) (hnp : fi 42 = nI np) (hnp2 : np ≤ 100) : mM l yX8_isParcel cX8_isParcel 2 (some .boolean) 1 22 X [.int a] L ad st0 fi fa (fun v fi' fa' => (∃ i, i < np ∧ a = nI i ∧ fi' = fi ∧ fa' = fa ∧ v = 1) ∨ (¬ vp_in a np ∧ fi' = fi ∧ fa' = fa ∧ v = 0)) := by
  intro sz
  refine gM_of2 (Qc := fun A => va_Qi _ (gB X A) A) (by decide) (Nat.le_of_ble_eq_true rfl) ?_ sz
  intro p e s m args below meth c A R Q hR hQ C hW hS ls hl
  obtain ⟨hR1, hR2, hR3, hR4⟩ := hR
  have hx := C.1.1
  have hb := C.1.2.1
  have hml := C.1.2.2.1
  have hl : lv_has ls 2 [(0, .ref (ad (100, 0))), (1, .int a)] := hl
  refine lv_iload_n hx hb dX8_isParcel_0 rfl (lv_at hl 1 rfl) ?_
  refine lv_iconst (v := 0) hx hb dX8_isParcel_1 (by decide) ?_
  refine lv_aload_n hx hb dX8_isParcel_2 rfl (lv_at hl 0 rfl) ?_
  refine m_getI (v := nI np) C hm hW 42 (by decide) rfl tw_6_5 hnp dX8_isParcel_3 ?_
  refine lv_iconst (v := 1) hx hb dX8_isParcel_6 (by decide) ?_
  refine lv_isub hx hb dX8_isParcel_7 ?_
  refine lv_topE (y := nI np - 1) rfl ?_
  refine g_callSp (k2 := 3) (As := [.int a, .int 0, .int (nI np - 1)]) (rest := []) C (c_X8_isIn l X L ad _ a 0 (nI np - 1)) tw_6_113 tw_6_114 tw_1_10 tw_6_115 (by decide +kernel) ⟨by rw [hR1]; exact Nat.le_of_ble_eq_true rfl, by rw [hR2]; exact Nat.le_of_ble_eq_true rfl⟩ hW hS rfl hl.1 rfl (Nat.le_of_ble_eq_true rfl) dX8_isParcel_8 ⟨Nat.zero_le _, Nat.zero_le _⟩ (fun v9 H locs hp hW hS => ?_)
  rcases hp with ⟨hq9, e9⟩ | ⟨hq9, e9⟩
  · subst e9
    obtain ⟨i, hi, e8⟩ := vp_in_of ((vp_m1 (by omega)).mp hq9) (by omega)
    subst e8
    exact g_iret2 C hQ hW hS ⟨_, _, rfl, Or.inl ⟨i, hi, rfl, rfl, rfl, rfl⟩⟩ (by decide) (Nat.zero_le _) (Nat.zero_le _) dX8_isParcel_11
  · subst e9
    have hq8 : ¬ vp_in a np := fun q => hq9 ((vp_m1 (by omega)).mpr q)
    exact g_iret2 C hQ hW hS ⟨_, _, rfl, Or.inr ⟨hq8, rfl, rfl, rfl⟩⟩ (by decide) (Nat.zero_le _) (Nat.zero_le _) dX8_isParcel_11

set_option maxHeartbeats 4000000 in
set_option maxRecDepth 100000 in
theorem c_X8_asksQuote (l : Launch) (X : GX) (L : List ro) (ad : ro → Nat) (st0 : ro → va_E) (fi : Nat → Int32) (fa : Nat → Nat → Int32) (hm : mL L) (a : Int32) (nq : Nat) (hnq : fi 32 = nI nq) (hnq2 : nq ≤ 100) : mM l yX8_asksQuote cX8_asksQuote 2 (some .boolean) 1 22 X [.int a] L ad st0 fi fa (fun v fi' fa' => (∃ i, i < nq ∧ a = nI i ∧ fi' = upd fi 0 0 ∧ fa' = fa ∧ v = 1) ∨ (¬ vp_in a nq ∧ fi' = upd fi 0 1 ∧ fa' = fa ∧ v = 0)) := by
  intro sz
  refine gM_of2 (Qc := fun A => va_Qi _ (gB X A) A) (by decide) (Nat.le_of_ble_eq_true rfl) ?_ sz
  intro p e s m args below meth c A R Q hR hQ C hW hS ls hl
  obtain ⟨hR1, hR2, hR3, hR4⟩ := hR
  have hx := C.1.1
  have hb := C.1.2.1
  have hml := C.1.2.2.1
  have hl : lv_has ls 2 [(0, .ref (ad (100, 0))), (1, .int a)] := hl
  refine lv_aload_n hx hb dX8_asksQuote_0 rfl (lv_at hl 0 rfl) ?_
  refine lv_iload_n hx hb dX8_asksQuote_1 rfl (lv_at hl 1 rfl) ?_
  refine lv_iconst (v := 0) hx hb dX8_asksQuote_2 (by decide) ?_
  refine lv_aload_n hx hb dX8_asksQuote_3 rfl (lv_at hl 0 rfl) ?_
  refine m_getI (v := nI nq) C hm hW 32 (by decide) rfl tw_5_235 hnq dX8_asksQuote_4 ?_
  refine lv_iconst (v := 1) hx hb dX8_asksQuote_7 (by decide) ?_
  refine lv_isub hx hb dX8_asksQuote_8 ?_
  refine lv_topE (y := nI nq - 1) rfl ?_
  refine g_callSp (k2 := 3) (As := [.int a, .int 0, .int (nI nq - 1)]) (rest := [.ref (ad (100, 0))]) C (c_X8_isIn l X L ad _ a 0 (nI nq - 1)) tw_6_113 tw_6_114 tw_1_10 tw_6_115 (by decide +kernel) ⟨by rw [hR1]; exact Nat.le_of_ble_eq_true rfl, by rw [hR2]; exact Nat.le_of_ble_eq_true rfl⟩ hW hS rfl hl.1 rfl (Nat.le_of_ble_eq_true rfl) dX8_asksQuote_9 ⟨Nat.zero_le _, Nat.zero_le _⟩ (fun v9 H locs hp hW hS => ?_)
  rcases hp with ⟨hq9, e9⟩ | ⟨hq9, e9⟩
  · subst e9
    obtain ⟨i, hi, e8⟩ := vp_in_of ((vp_m1 (by omega)).mp hq9) (by omega)
    subst e8
    refine lv_if_eq (tgt := 19) hx hb dX8_asksQuote_12 (by decide) (fun c9 => absurd c9 (by decide)) (fun _ => ?_)
    refine lv_iconst (v := 0) hx hb dX8_asksQuote_15 (by decide) ?_
    refine lv_goto (tgt := 20) hx hb dX8_asksQuote_16 (by decide) ?_
    refine m_putI C hm hW hS 0 (by decide) rfl tw_5_203 dX8_asksQuote_20 (fun H locs hW hS => ?_)
    refine lv_aload_n hx hb dX8_asksQuote_23 rfl (lv_at hl 0 rfl) ?_
    refine m_getI (v := 0) C hm hW 0 (by decide) rfl tw_5_203 rfl dX8_asksQuote_24 ?_
    refine lv_if_ne (tgt := 34) hx hb dX8_asksQuote_27 (by decide) (fun c9 => absurd c9 (by decide)) (fun _ => ?_)
    refine lv_iconst (v := 1) hx hb dX8_asksQuote_30 (by decide) ?_
    refine lv_goto (tgt := 35) hx hb dX8_asksQuote_31 (by decide) ?_
    exact g_iret2 C hQ hW hS ⟨_, _, rfl, Or.inl ⟨i, hi, rfl, rfl, rfl, rfl⟩⟩ (by decide) (Nat.zero_le _) (Nat.zero_le _) dX8_asksQuote_35
  · subst e9
    have hq8 : ¬ vp_in a nq := fun q => hq9 ((vp_m1 (by omega)).mpr q)
    refine lv_if_eq (tgt := 19) hx hb dX8_asksQuote_12 (by decide) (fun _ => ?_) (fun c9 => absurd (by decide) c9)
    refine lv_iconst (v := 1) hx hb dX8_asksQuote_19 (by decide) ?_
    refine m_putI C hm hW hS 0 (by decide) rfl tw_5_203 dX8_asksQuote_20 (fun H locs hW hS => ?_)
    refine lv_aload_n hx hb dX8_asksQuote_23 rfl (lv_at hl 0 rfl) ?_
    refine m_getI (v := 1) C hm hW 0 (by decide) rfl tw_5_203 rfl dX8_asksQuote_24 ?_
    refine lv_if_ne (tgt := 34) hx hb dX8_asksQuote_27 (by decide) (fun _ => ?_) (fun c9 => absurd c9 (by decide))
    refine lv_iconst (v := 0) hx hb dX8_asksQuote_34 (by decide) ?_
    exact g_iret2 C hQ hW hS ⟨_, _, rfl, Or.inr ⟨hq8, rfl, rfl, rfl⟩⟩ (by decide) (Nat.zero_le _) (Nat.zero_le _) dX8_asksQuote_35

set_option maxHeartbeats 4000000 in
set_option maxRecDepth 100000 in
theorem c_X8_state (l : Launch) (X : GX) (L : List ro) (ad : ro → Nat) (st0 : ro → va_E) (fi : Nat → Int32) (fa : Nat → Nat → Int32) (hm : mL L) (a : Int32) (np : Nat) (hnp : fi 42 = nI np) (hnp2 : np ≤ 50) : mM l yX8_state cX8_state 2 (some .int) 2 43 X [.int a] L ad st0 fi fa (fun v fi' fa' => (¬ vp_in a np ∧ fi' = upd fi 0 1 ∧ fa' = fa) ∨ (∃ i, i < np ∧ a = nI i ∧ fi' = upd fi 0 0 ∧ fa' = fa ∧ v = fa 46 i)) := by
  intro sz
  refine gM_of2 (Qc := fun A => va_Qi _ (gB X A) A) (by decide) (Nat.le_of_ble_eq_true rfl) ?_ sz
  intro p e s m args below meth c A R Q hR hQ C hW hS ls hl
  obtain ⟨hR1, hR2, hR3, hR4⟩ := hR
  have hx := C.1.1
  have hb := C.1.2.1
  have hml := C.1.2.2.1
  have hl : lv_has ls 2 [(0, .ref (ad (100, 0))), (1, .int a)] := hl
  refine lv_aload_n hx hb dX8_state_0 rfl (lv_at hl 0 rfl) ?_
  refine lv_aload_n hx hb dX8_state_1 rfl (lv_at hl 0 rfl) ?_
  refine lv_iload_n hx hb dX8_state_2 rfl (lv_at hl 1 rfl) ?_
  refine m_callVi (k2 := 1) (As := [.int a]) (rest := [.ref (ad (100, 0))]) C (c_X8_isParcel l X L ad st0 fi fa hm a np hnp (by omega)) tw_7_17 tw_7_19 tw_0_40 tw_1_10 tw_7_20 (by decide +kernel) ⟨by rw [hR1]; exact Nat.le_of_ble_eq_true rfl, by rw [hR2]; exact Nat.le_of_ble_eq_true rfl⟩ hm hW hS rfl hl.1 rfl (Nat.le_of_ble_eq_true rfl) dX8_state_3 ⟨Nat.zero_le _, Nat.zero_le _⟩ (fun x1 fi9 fa9 H locs hp hW hS => ?_)
  rcases hp with ⟨i, hi, e8, z1, z2, e9⟩ | ⟨hq8, z1, z2, e9⟩
  · subst e9
    rw [z1, z2] at hW
    subst e8
    refine lv_if_eq (tgt := 13) hx hb dX8_state_6 (by decide) (fun c9 => absurd c9 (by decide)) (fun _ => ?_)
    refine lv_iconst (v := 0) hx hb dX8_state_9 (by decide) ?_
    refine lv_goto (tgt := 14) hx hb dX8_state_10 (by decide) ?_
    refine m_putI C hm hW hS 0 (by decide) rfl tw_5_203 dX8_state_14 (fun H locs hW hS => ?_)
    refine lv_aload_n hx hb dX8_state_17 rfl (lv_at hl 0 rfl) ?_
    refine m_getI (v := 0) C hm hW 0 (by decide) rfl tw_5_203 rfl dX8_state_18 ?_
    refine lv_if_le (tgt := 28) hx hb dX8_state_21 (by decide) (fun _ => ?_) (fun c9 => absurd (by decide) c9)
    refine lv_aload_n hx hb dX8_state_28 rfl (lv_at hl 0 rfl) ?_
    refine m_getA C hm hW 46 (by decide) rfl tw_6_9 dX8_state_29 ?_
    refine lv_iload_n hx hb dX8_state_32 rfl (lv_at hl 1 rfl) ?_
    refine m_iald (v := (fa 46) i) (j := i) C hm hW 46 (by decide) rfl rfl (vp_in_nI (N := 50) (by omega) (by decide)) (nI_clamp (by omega)) rfl dX8_state_33 ?_
    refine lv_topi (fun x2 ex2 => ?_)
    exact g_iret2 C hQ hW hS ⟨_, _, rfl, Or.inr ⟨i, hi, rfl, rfl, rfl, by first | grind | assumption⟩⟩ rfl (Nat.zero_le _) (Nat.zero_le _) dX8_state_34
  · subst e9
    rw [z1, z2] at hW
    refine lv_if_eq (tgt := 13) hx hb dX8_state_6 (by decide) (fun _ => ?_) (fun c9 => absurd (by decide) c9)
    refine lv_iconst (v := 1) hx hb dX8_state_13 (by decide) ?_
    refine m_putI C hm hW hS 0 (by decide) rfl tw_5_203 dX8_state_14 (fun H locs hW hS => ?_)
    refine lv_aload_n hx hb dX8_state_17 rfl (lv_at hl 0 rfl) ?_
    refine m_getI (v := 1) C hm hW 0 (by decide) rfl tw_5_203 rfl dX8_state_18 ?_
    refine lv_if_le (tgt := 28) hx hb dX8_state_21 (by decide) (fun c9 => absurd c9 (by decide)) (fun _ => ?_)
    refine lv_iconst (v := 0) hx hb dX8_state_24 (by decide) ?_
    refine lv_goto (tgt := 34) hx hb dX8_state_25 (by decide) ?_
    exact g_iret2 C hQ hW hS ⟨_, _, rfl, Or.inl ⟨hq8, rfl, rfl⟩⟩ rfl (Nat.zero_le _) (Nat.zero_le _) dX8_state_34

set_option maxHeartbeats 4000000 in
set_option maxRecDepth 100000 in
theorem c_X8_cost (l : Launch) (X : GX) (L : List ro) (ad : ro → Nat) (st0 : ro → va_E) (fi : Nat → Int32) (fa : Nat → Nat → Int32) (hm : mL L) (a : Int32) (np : Nat) (hnp : fi 42 = nI np) (hnp2 : np ≤ 50) : mM l yX8_cost cX8_cost 2 (some .int) 2 43 X [.int a] L ad st0 fi fa (fun v fi' fa' => (¬ vp_in a np ∧ fi' = upd fi 0 1 ∧ fa' = fa) ∨ (∃ i, i < np ∧ a = nI i ∧ fi' = upd fi 0 0 ∧ fa' = fa ∧ v = fa 45 i)) := by
  intro sz
  refine gM_of2 (Qc := fun A => va_Qi _ (gB X A) A) (by decide) (Nat.le_of_ble_eq_true rfl) ?_ sz
  intro p e s m args below meth c A R Q hR hQ C hW hS ls hl
  obtain ⟨hR1, hR2, hR3, hR4⟩ := hR
  have hx := C.1.1
  have hb := C.1.2.1
  have hml := C.1.2.2.1
  have hl : lv_has ls 2 [(0, .ref (ad (100, 0))), (1, .int a)] := hl
  refine lv_aload_n hx hb dX8_cost_0 rfl (lv_at hl 0 rfl) ?_
  refine lv_aload_n hx hb dX8_cost_1 rfl (lv_at hl 0 rfl) ?_
  refine lv_iload_n hx hb dX8_cost_2 rfl (lv_at hl 1 rfl) ?_
  refine m_callVi (k2 := 1) (As := [.int a]) (rest := [.ref (ad (100, 0))]) C (c_X8_isParcel l X L ad st0 fi fa hm a np hnp (by omega)) tw_7_17 tw_7_19 tw_0_40 tw_1_10 tw_7_20 (by decide +kernel) ⟨by rw [hR1]; exact Nat.le_of_ble_eq_true rfl, by rw [hR2]; exact Nat.le_of_ble_eq_true rfl⟩ hm hW hS rfl hl.1 rfl (Nat.le_of_ble_eq_true rfl) dX8_cost_3 ⟨Nat.zero_le _, Nat.zero_le _⟩ (fun x1 fi9 fa9 H locs hp hW hS => ?_)
  rcases hp with ⟨i, hi, e8, z1, z2, e9⟩ | ⟨hq8, z1, z2, e9⟩
  · subst e9
    rw [z1, z2] at hW
    subst e8
    refine lv_if_eq (tgt := 13) hx hb dX8_cost_6 (by decide) (fun c9 => absurd c9 (by decide)) (fun _ => ?_)
    refine lv_iconst (v := 0) hx hb dX8_cost_9 (by decide) ?_
    refine lv_goto (tgt := 14) hx hb dX8_cost_10 (by decide) ?_
    refine m_putI C hm hW hS 0 (by decide) rfl tw_5_203 dX8_cost_14 (fun H locs hW hS => ?_)
    refine lv_aload_n hx hb dX8_cost_17 rfl (lv_at hl 0 rfl) ?_
    refine m_getI (v := 0) C hm hW 0 (by decide) rfl tw_5_203 rfl dX8_cost_18 ?_
    refine lv_if_le (tgt := 28) hx hb dX8_cost_21 (by decide) (fun _ => ?_) (fun c9 => absurd (by decide) c9)
    refine lv_aload_n hx hb dX8_cost_28 rfl (lv_at hl 0 rfl) ?_
    refine m_getA C hm hW 45 (by decide) rfl tw_6_8 dX8_cost_29 ?_
    refine lv_iload_n hx hb dX8_cost_32 rfl (lv_at hl 1 rfl) ?_
    refine m_iald (v := (fa 45) i) (j := i) C hm hW 45 (by decide) rfl rfl (vp_in_nI (N := 50) (by omega) (by decide)) (nI_clamp (by omega)) rfl dX8_cost_33 ?_
    refine lv_topi (fun x2 ex2 => ?_)
    exact g_iret2 C hQ hW hS ⟨_, _, rfl, Or.inr ⟨i, hi, rfl, rfl, rfl, by first | grind | assumption⟩⟩ rfl (Nat.zero_le _) (Nat.zero_le _) dX8_cost_34
  · subst e9
    rw [z1, z2] at hW
    refine lv_if_eq (tgt := 13) hx hb dX8_cost_6 (by decide) (fun _ => ?_) (fun c9 => absurd (by decide) c9)
    refine lv_iconst (v := 1) hx hb dX8_cost_13 (by decide) ?_
    refine m_putI C hm hW hS 0 (by decide) rfl tw_5_203 dX8_cost_14 (fun H locs hW hS => ?_)
    refine lv_aload_n hx hb dX8_cost_17 rfl (lv_at hl 0 rfl) ?_
    refine m_getI (v := 1) C hm hW 0 (by decide) rfl tw_5_203 rfl dX8_cost_18 ?_
    refine lv_if_le (tgt := 28) hx hb dX8_cost_21 (by decide) (fun c9 => absurd c9 (by decide)) (fun _ => ?_)
    refine lv_iconst (v := 0) hx hb dX8_cost_24 (by decide) ?_
    refine lv_goto (tgt := 34) hx hb dX8_cost_25 (by decide) ?_
    exact g_iret2 C hQ hW hS ⟨_, _, rfl, Or.inl ⟨hq8, rfl, rfl⟩⟩ rfl (Nat.zero_le _) (Nat.zero_le _) dX8_cost_34

set_option maxHeartbeats 4000000 in
set_option maxRecDepth 100000 in
theorem c_X8_priceOf (l : Launch) (X : GX) (L : List ro) (ad : ro → Nat) (st : ro → va_E) (f0 : Int32) (f1 : Int32) (f2 : Int32) (ap : Int32) (gr : Int32) (ft : Int32) : gS l yX8_priceOf cX8_priceOf 7 (some .int) 0 0 X [.int f0, .int f1, .int f2, .int ap, .int gr, .int ft] L ad st (fun v => v = prc f0 f1 f2 ap gr ft) := by
  intro sz
  refine gM_of2 (Qc := fun A => va_Qi _ (gB X A) A) (by decide) (Nat.le_of_ble_eq_true rfl) ?_ sz
  intro p e s m args below meth c A R Q hR hQ C hW hS ls hl
  obtain ⟨hR1, hR2, hR3, hR4⟩ := hR
  have hx := C.1.1
  have hb := C.1.2.1
  have hml := C.1.2.2.1
  have hl : lv_has ls 7 [(0, .int f0), (1, .int f1), (2, .int f2), (3, .int ap), (4, .int gr), (5, .int ft)] := hl
  refine lv_iload_n hx hb dX8_priceOf_0 rfl (lv_at hl 0 rfl) ?_
  refine lv_iload_n hx hb dX8_priceOf_1 rfl (lv_at hl 1 rfl) ?_
  refine lv_iload_n hx hb dX8_priceOf_2 rfl (lv_at hl 3 rfl) ?_
  refine lv_imul hx hb dX8_priceOf_3 ?_
  refine lv_topi (fun x1 ex1 => ?_)
  refine lv_iadd hx hb dX8_priceOf_4 ?_
  refine lv_topi (fun x2 ex2 => ?_)
  refine lv_iload_n hx hb dX8_priceOf_5 rfl (lv_at hl 2 rfl) ?_
  refine lv_iload hx hb dX8_priceOf_6 (lv_at hl 4 rfl) ?_
  refine lv_bipush (v := 99) hx hb dX8_priceOf_8 (by decide) ?_
  refine lv_iadd hx hb dX8_priceOf_10 ?_
  refine lv_topi (fun x3 ex3 => ?_)
  refine lv_bipush (v := 100) hx hb dX8_priceOf_11 (by decide) ?_
  refine lv_idiv hx hb dX8_priceOf_13 (by decide) ?_
  refine lv_topi (fun x4 ex4 => ?_)
  refine lv_imul hx hb dX8_priceOf_14 ?_
  refine lv_topi (fun x5 ex5 => ?_)
  refine lv_iadd hx hb dX8_priceOf_15 ?_
  refine lv_topi (fun x6 ex6 => ?_)
  refine lv_istore (lv' := [(6, .int x6), (0, .int f0), (1, .int f1), (2, .int f2), (3, .int ap), (4, .int gr), (5, .int ft)]) hx hb dX8_priceOf_16 hl (by decide) rfl (fun ls hl => ?_)
  refine lv_iload hx hb dX8_priceOf_18 (lv_at hl 6 rfl) ?_
  refine lv_if_eq (tgt := 32) hx hb dX8_priceOf_20 (by decide) (fun c7 => ?_) (fun c7 => ?_)
  · refine lv_iload hx hb dX8_priceOf_32 (lv_at hl 0 rfl) ?_
    exact g_iret2 C hQ hW hS ⟨rfl, by unfold prc; grind⟩ rfl (Nat.zero_le _) (Nat.zero_le _) dX8_priceOf_34
  · refine lv_iload hx hb dX8_priceOf_23 (lv_at hl 0 rfl) ?_
    refine lv_iconst (v := 3) hx hb dX8_priceOf_25 (by decide) ?_
    refine lv_imul hx hb dX8_priceOf_26 ?_
    refine lv_topi (fun x8 ex8 => ?_)
    refine lv_iconst (v := 2) hx hb dX8_priceOf_27 (by decide) ?_
    refine lv_idiv hx hb dX8_priceOf_28 (by decide) ?_
    refine lv_topi (fun x9 ex9 => ?_)
    refine lv_goto (tgt := 34) hx hb dX8_priceOf_29 (by decide) ?_
    exact g_iret2 C hQ hW hS ⟨rfl, by unfold prc; grind⟩ rfl (Nat.zero_le _) (Nat.zero_le _) dX8_priceOf_34

set_option maxHeartbeats 4000000 in
set_option maxRecDepth 100000 in
theorem c_X8_quoted (l : Launch) (X : GX) (L : List ro) (ad : ro → Nat) (st0 : ro → va_E) (fi : Nat → Int32) (fa : Nat → Nat → Int32) (hm : mL L) (i : Nat) (hi : i < 100) (gr : Int32) : mM l yX8_quoted cX8_quoted 3 (some .int) 1 26 X [.int (nI i), .int gr] L ad st0 fi fa (fun v fi' fa' => fi' = fi ∧ fa' = fa ∧ v = prc (fa 38 i) (fa 39 i) (fa 40 i) (fa 35 i) gr (fa 37 i)) := by
  intro sz
  refine gM_of2 (Qc := fun A => va_Qi _ (gB X A) A) (by decide) (Nat.le_of_ble_eq_true rfl) ?_ sz
  intro p e s m args below meth c A R Q hR hQ C hW hS ls hl
  obtain ⟨hR1, hR2, hR3, hR4⟩ := hR
  have hx := C.1.1
  have hb := C.1.2.1
  have hml := C.1.2.2.1
  have hl : lv_has ls 3 [(0, .ref (ad (100, 0))), (1, .int (nI i)), (2, .int gr)] := hl
  refine lv_aload_n hx hb dX8_quoted_0 rfl (lv_at hl 0 rfl) ?_
  refine m_getA C hm hW 38 (by decide) rfl tw_6_1 dX8_quoted_1 ?_
  refine lv_iload_n hx hb dX8_quoted_4 rfl (lv_at hl 1 rfl) ?_
  refine m_iald (v := (fa 38) i) (j := i) C hm hW 38 (by decide) rfl rfl (vp_in_nI (N := 100) (by omega) (by decide)) (nI_clamp (by omega)) rfl dX8_quoted_5 ?_
  refine lv_topi (fun x1 ex1 => ?_)
  refine lv_aload_n hx hb dX8_quoted_6 rfl (lv_at hl 0 rfl) ?_
  refine m_getA C hm hW 39 (by decide) rfl tw_6_2 dX8_quoted_7 ?_
  refine lv_iload_n hx hb dX8_quoted_10 rfl (lv_at hl 1 rfl) ?_
  refine m_iald (v := (fa 39) i) (j := i) C hm hW 39 (by decide) rfl rfl (vp_in_nI (N := 100) (by omega) (by decide)) (nI_clamp (by omega)) rfl dX8_quoted_11 ?_
  refine lv_topi (fun x2 ex2 => ?_)
  refine lv_aload_n hx hb dX8_quoted_12 rfl (lv_at hl 0 rfl) ?_
  refine m_getA C hm hW 40 (by decide) rfl tw_6_3 dX8_quoted_13 ?_
  refine lv_iload_n hx hb dX8_quoted_16 rfl (lv_at hl 1 rfl) ?_
  refine m_iald (v := (fa 40) i) (j := i) C hm hW 40 (by decide) rfl rfl (vp_in_nI (N := 100) (by omega) (by decide)) (nI_clamp (by omega)) rfl dX8_quoted_17 ?_
  refine lv_topi (fun x3 ex3 => ?_)
  refine lv_aload_n hx hb dX8_quoted_18 rfl (lv_at hl 0 rfl) ?_
  refine m_getA C hm hW 35 (by decide) rfl tw_5_238 dX8_quoted_19 ?_
  refine lv_iload_n hx hb dX8_quoted_22 rfl (lv_at hl 1 rfl) ?_
  refine m_iald (v := (fa 35) i) (j := i) C hm hW 35 (by decide) rfl rfl (vp_in_nI (N := 100) (by omega) (by decide)) (nI_clamp (by omega)) rfl dX8_quoted_23 ?_
  refine lv_topi (fun x4 ex4 => ?_)
  refine lv_iload_n hx hb dX8_quoted_24 rfl (lv_at hl 2 rfl) ?_
  refine lv_aload_n hx hb dX8_quoted_25 rfl (lv_at hl 0 rfl) ?_
  refine m_getA C hm hW 37 (by decide) rfl tw_6_0 dX8_quoted_26 ?_
  refine lv_iload_n hx hb dX8_quoted_29 rfl (lv_at hl 1 rfl) ?_
  refine m_zald (v := (fa 37) i) (j := i) C hm hW 37 (by decide) rfl rfl (vp_in_nI (N := 100) (by omega) (by decide)) (nI_clamp (by omega)) rfl dX8_quoted_30 ?_
  refine lv_topi (fun x5 ex5 => ?_)
  refine g_callSp (k2 := 6) (As := [.int x1, .int x2, .int x3, .int x4, .int gr, .int x5]) (rest := []) C (c_X8_priceOf l X L ad _ x1 x2 x3 x4 gr x5) tw_6_218 tw_6_219 tw_1_10 tw_6_220 (by decide +kernel) ⟨by rw [hR1]; exact Nat.le_of_ble_eq_true rfl, by rw [hR2]; exact Nat.le_of_ble_eq_true rfl⟩ hW hS rfl hl.1 rfl (Nat.le_of_ble_eq_true rfl) dX8_quoted_31 ⟨Nat.zero_le _, Nat.zero_le _⟩ (fun x6 H locs hp hW hS => ?_)
  have h7 := hp
  exact g_iret2 C hQ hW hS ⟨_, _, rfl, rfl, rfl, by grind⟩ rfl (Nat.zero_le _) (Nat.zero_le _) dX8_quoted_34

set_option maxHeartbeats 4000000 in
set_option maxRecDepth 100000 in
theorem c_X8_price (l : Launch) (X : GX) (L : List ro) (ad : ro → Nat) (st0 : ro → va_E) (fi : Nat → Int32) (fa : Nat → Nat → Int32) (hm : mL L) (a : Int32) (nq : Nat) (hnq : fi 32 = nI nq) (hnq2 : nq ≤ 100) : mM l yX8_price cX8_price 2 (some .int) 2 48 X [.int a] L ad st0 fi fa (fun v fi' fa' => (¬ vp_in a nq ∧ fi' = upd fi 0 1 ∧ fa' = fa) ∨ (∃ i, i < nq ∧ a = nI i ∧ fi' = upd fi 0 0 ∧ fa' = fa ∧ v = prc (fa 38 i) (fa 39 i) (fa 40 i) (fa 35 i) (fa 36 i) (fa 37 i))) := by
  intro sz
  refine gM_of2 (Qc := fun A => va_Qi _ (gB X A) A) (by decide) (Nat.le_of_ble_eq_true rfl) ?_ sz
  intro p e s m args below meth c A R Q hR hQ C hW hS ls hl
  obtain ⟨hR1, hR2, hR3, hR4⟩ := hR
  have hx := C.1.1
  have hb := C.1.2.1
  have hml := C.1.2.2.1
  have hl : lv_has ls 2 [(0, .ref (ad (100, 0))), (1, .int a)] := hl
  refine lv_aload_n hx hb dX8_price_0 rfl (lv_at hl 0 rfl) ?_
  refine lv_iload_n hx hb dX8_price_1 rfl (lv_at hl 1 rfl) ?_
  refine m_callVi (k2 := 1) (As := [.int a]) (rest := []) C (c_X8_asksQuote l X L ad st0 fi fa hm a nq hnq hnq2) tw_6_210 tw_6_212 tw_0_37 tw_1_10 tw_6_213 (by decide +kernel) ⟨by rw [hR1]; exact Nat.le_of_ble_eq_true rfl, by rw [hR2]; exact Nat.le_of_ble_eq_true rfl⟩ hm hW hS rfl hl.1 rfl (Nat.le_of_ble_eq_true rfl) dX8_price_2 ⟨Nat.zero_le _, Nat.zero_le _⟩ (fun x1 fi9 fa9 H locs hp hW hS => ?_)
  rcases hp with ⟨i, hi, e8, z1, z2, e9⟩ | ⟨hq8, z1, z2, e9⟩
  · subst e9
    rw [z1, z2] at hW
    subst e8
    refine lv_if_eq (tgt := 22) hx hb dX8_price_5 (by decide) (fun c9 => absurd c9 (by decide)) (fun _ => ?_)
    refine lv_aload_n hx hb dX8_price_8 rfl (lv_at hl 0 rfl) ?_
    refine lv_iload_n hx hb dX8_price_9 rfl (lv_at hl 1 rfl) ?_
    refine lv_aload_n hx hb dX8_price_10 rfl (lv_at hl 0 rfl) ?_
    refine m_getA C hm hW 36 (by decide) rfl tw_5_239 dX8_price_11 ?_
    refine lv_iload_n hx hb dX8_price_14 rfl (lv_at hl 1 rfl) ?_
    refine m_iald (v := (fa 36) i) (j := i) C hm hW 36 (by decide) rfl rfl (vp_in_nI (N := 100) (by omega) (by decide)) (nI_clamp (by omega)) rfl dX8_price_15 ?_
    refine lv_topi (fun x2 ex2 => ?_)
    refine m_callVi (k2 := 2) (As := [.int (nI i), .int x2]) (rest := []) C (c_X8_quoted l X L ad st0 (upd fi 0 0) fa hm i (by omega) x2) tw_6_214 tw_6_216 tw_0_38 tw_1_10 tw_6_217 (by decide +kernel) ⟨by rw [hR1]; exact Nat.le_of_ble_eq_true rfl, by rw [hR2]; exact Nat.le_of_ble_eq_true rfl⟩ hm hW hS rfl hl.1 rfl (Nat.le_of_ble_eq_true rfl) dX8_price_16 ⟨Nat.zero_le _, Nat.zero_le _⟩ (fun x3 fi9 fa9 H locs hp hW hS => ?_)
    obtain ⟨z1, z2, h4⟩ := hp
    rw [z1, z2] at hW
    refine lv_goto (tgt := 23) hx hb dX8_price_19 (by decide) ?_
    exact g_iret2 C hQ hW hS ⟨_, _, rfl, Or.inr ⟨i, hi, rfl, rfl, rfl, by first | grind | assumption⟩⟩ rfl (Nat.zero_le _) (Nat.zero_le _) dX8_price_23
  · subst e9
    rw [z1, z2] at hW
    refine lv_if_eq (tgt := 22) hx hb dX8_price_5 (by decide) (fun _ => ?_) (fun c9 => absurd (by decide) c9)
    refine lv_iconst (v := 0) hx hb dX8_price_22 (by decide) ?_
    exact g_iret2 C hQ hW hS ⟨_, _, rfl, Or.inl ⟨hq8, rfl, rfl⟩⟩ rfl (Nat.zero_le _) (Nat.zero_le _) dX8_price_23

set_option maxHeartbeats 4000000 in
set_option maxRecDepth 100000 in
theorem c_X8_fixed (l : Launch) (X : GX) (L : List ro) (ad : ro → Nat) (st0 : ro → va_E) (fi : Nat → Int32) (fa : Nat → Nat → Int32) (hm : mL L) (a : Int32) (nq : Nat) (hnq : fi 32 = nI nq) (hnq2 : nq ≤ 100) : mM l yX8_fixed cX8_fixed 2 (some .int) 2 43 X [.int a] L ad st0 fi fa (fun v fi' fa' => (¬ vp_in a nq ∧ fi' = upd fi 0 1 ∧ fa' = fa) ∨ (∃ i, i < nq ∧ a = nI i ∧ fi' = upd fi 0 0 ∧ fa' = fa ∧ v = (if fi 1 ≤ fa 41 i then fa 41 i - fi 1 + 1 else 0))) := by
  intro sz
  refine gM_of2 (Qc := fun A => va_Qi _ (gB X A) A) (by decide) (Nat.le_of_ble_eq_true rfl) ?_ sz
  intro p e s m args below meth c A R Q hR hQ C hW hS ls hl
  obtain ⟨hR1, hR2, hR3, hR4⟩ := hR
  have hx := C.1.1
  have hb := C.1.2.1
  have hml := C.1.2.2.1
  have hl : lv_has ls 2 [(0, .ref (ad (100, 0))), (1, .int a)] := hl
  refine lv_aload_n hx hb dX8_fixed_0 rfl (lv_at hl 0 rfl) ?_
  refine lv_iload_n hx hb dX8_fixed_1 rfl (lv_at hl 1 rfl) ?_
  refine m_callVi (k2 := 1) (As := [.int a]) (rest := []) C (c_X8_asksQuote l X L ad st0 fi fa hm a nq hnq hnq2) tw_6_210 tw_6_212 tw_0_37 tw_1_10 tw_6_213 (by decide +kernel) ⟨by rw [hR1]; exact Nat.le_of_ble_eq_true rfl, by rw [hR2]; exact Nat.le_of_ble_eq_true rfl⟩ hm hW hS rfl hl.1 rfl (Nat.le_of_ble_eq_true rfl) dX8_fixed_2 ⟨Nat.zero_le _, Nat.zero_le _⟩ (fun x1 fi9 fa9 H locs hp hW hS => ?_)
  rcases hp with ⟨i, hi, e8, z1, z2, e9⟩ | ⟨hq8, z1, z2, e9⟩
  · subst e9
    rw [z1, z2] at hW
    subst e8
    refine lv_if_eq (tgt := 37) hx hb dX8_fixed_5 (by decide) (fun c9 => absurd c9 (by decide)) (fun _ => ?_)
    refine lv_aload_n hx hb dX8_fixed_8 rfl (lv_at hl 0 rfl) ?_
    refine m_getI (v := fi 1) C hm hW 1 (by decide) rfl tw_5_204 rfl dX8_fixed_9 ?_
    refine lv_aload_n hx hb dX8_fixed_12 rfl (lv_at hl 0 rfl) ?_
    refine m_getA C hm hW 41 (by decide) rfl tw_6_4 dX8_fixed_13 ?_
    refine lv_iload_n hx hb dX8_fixed_16 rfl (lv_at hl 1 rfl) ?_
    refine m_iald (v := (fa 41) i) (j := i) C hm hW 41 (by decide) rfl rfl (vp_in_nI (N := 100) (by omega) (by decide)) (nI_clamp (by omega)) rfl dX8_fixed_17 ?_
    refine lv_topi (fun x2 ex2 => ?_)
    refine lv_icmp_gt (tgt := 37) hx hb dX8_fixed_18 (by decide) (fun c3 => ?_) (fun c3 => ?_)
    · refine lv_iconst (v := 0) hx hb dX8_fixed_37 (by decide) ?_
      exact g_iret2 C hQ hW hS ⟨_, _, rfl, Or.inr ⟨i, hi, rfl, rfl, rfl, by first | grind | assumption⟩⟩ rfl (Nat.zero_le _) (Nat.zero_le _) dX8_fixed_38
    · refine lv_aload_n hx hb dX8_fixed_21 rfl (lv_at hl 0 rfl) ?_
      refine m_getA C hm hW 41 (by decide) rfl tw_6_4 dX8_fixed_22 ?_
      refine lv_iload_n hx hb dX8_fixed_25 rfl (lv_at hl 1 rfl) ?_
      refine m_iald (v := (fa 41) i) (j := i) C hm hW 41 (by decide) rfl rfl (vp_in_nI (N := 100) (by omega) (by decide)) (nI_clamp (by omega)) rfl dX8_fixed_26 ?_
      refine lv_topi (fun x4 ex4 => ?_)
      refine lv_aload_n hx hb dX8_fixed_27 rfl (lv_at hl 0 rfl) ?_
      refine m_getI (v := fi 1) C hm hW 1 (by decide) rfl tw_5_204 rfl dX8_fixed_28 ?_
      refine lv_isub hx hb dX8_fixed_31 ?_
      refine lv_topi (fun x5 ex5 => ?_)
      refine lv_iconst (v := 1) hx hb dX8_fixed_32 (by decide) ?_
      refine lv_iadd hx hb dX8_fixed_33 ?_
      refine lv_topi (fun x6 ex6 => ?_)
      refine lv_goto (tgt := 38) hx hb dX8_fixed_34 (by decide) ?_
      exact g_iret2 C hQ hW hS ⟨_, _, rfl, Or.inr ⟨i, hi, rfl, rfl, rfl, by first | grind | assumption⟩⟩ rfl (Nat.zero_le _) (Nat.zero_le _) dX8_fixed_38
  · subst e9
    rw [z1, z2] at hW
    refine lv_if_eq (tgt := 37) hx hb dX8_fixed_5 (by decide) (fun _ => ?_) (fun c9 => absurd (by decide) c9)
    refine lv_iconst (v := 0) hx hb dX8_fixed_37 (by decide) ?_
    exact g_iret2 C hQ hW hS ⟨_, _, rfl, Or.inl ⟨hq8, rfl, rfl⟩⟩ rfl (Nat.zero_le _) (Nat.zero_le _) dX8_fixed_38

