set_option maxHeartbeats 4000000 in
set_option maxRecDepth 100000 in
theorem c_X8_book2 (l : Launch) (X : GX) (L : List ro) (ad : ro → Nat) (st0 : ro → va_E) (fi : Nat → Int32) (fa : Nat → Nat → Int32) (hm : mL L) (a : Int32) (nq : Nat) (hnq : fi 32 = nI nq) (hnq2 : nq ≤ 100) (np : Nat) (hnp : fi 42 = nI np) (hnp2 : np ≤ 50) (hqc : ∀ i, i < nq → ∃ c, c < 4 ∧ fa 34 i = nI c) : mM l yX8_book cX8_book 5 (some .int) 2 48 X [.int a] L ad st0 fi fa (fun v fi' fa' => (¬ vp_in a nq ∧ fi' = upd fi 0 1 ∧ fa' = fa) ∨ (∃ i c, i < nq ∧ a = nI i ∧ fa 34 i = nI c ∧ c < 4 ∧ ((fa 41 i < fi 1 ∧ ¬ prc (fa 38 i) (fa 39 i) (fa 40 i) (fa 35 i) (fa 36 i) (fa 37 i) = prc (fa 19 c) (fa 20 c) (fa 21 c) (fa 35 i) (fa 36 i) (fa 37 i)) ∨ np = 50) ∧ fi' = upd fi 0 2 ∧ fa' = fa) ∨ (∃ i c, i < nq ∧ a = nI i ∧ fa 34 i = nI c ∧ c < 4 ∧ ¬ ((fa 41 i < fi 1 ∧ ¬ prc (fa 38 i) (fa 39 i) (fa 40 i) (fa 35 i) (fa 36 i) (fa 37 i) = prc (fa 19 c) (fa 20 c) (fa 21 c) (fa 35 i) (fa 36 i) (fa 37 i)) ∨ np = 50) ∧ fi' = upd (upd fi 0 0) 42 (nI (np + 1)) ∧ fa' = rowu (rowu (rowu fa 43 (upd (fa 43) np (nI i))) 44 (upd (fa 44) np (fi 1))) 45 (upd (fa 45) np (prc (fa 38 i) (fa 39 i) (fa 40 i) (fa 35 i) (fa 36 i) (fa 37 i))) ∧ v = nI np)) := by
  intro sz
  refine gM_of2 (Qc := fun A => va_Qi _ (gB X A) A) (by decide) (Nat.le_of_ble_eq_true rfl) ?_ sz
  intro p e s m args below meth c A R Q hR hQ C hW hS ls hl
  obtain ⟨hR1, hR2, hR3, hR4⟩ := hR
  have hx := C.1.1
  have hb := C.1.2.1
  have hml := C.1.2.2.1
  have hl : lv_has ls 5 [(0, .ref (ad (100, 0))), (1, .int a)] := hl
  refine lv_aload_n hx hb dX8_book_0 rfl (lv_at hl 0 rfl) ?_
  refine lv_iload_n hx hb dX8_book_1 rfl (lv_at hl 1 rfl) ?_
  refine m_callVi (k2 := 1) (As := [.int a]) (rest := []) C (c_X8_asksQuote l X L ad st0 fi fa hm a nq hnq hnq2) tw_6_210 tw_6_212 tw_0_37 tw_1_10 tw_6_213 (by decide +kernel) ⟨by rw [hR1]; exact Nat.le_of_ble_eq_true rfl, by rw [hR2]; exact Nat.le_of_ble_eq_true rfl⟩ hm hW hS rfl hl.1 rfl (Nat.le_of_ble_eq_true rfl) dX8_book_2 ⟨Nat.zero_le _, Nat.zero_le _⟩ (fun x1 fi9 fa9 H locs hp hW hS => ?_)
  rcases hp with ⟨i, hi, e8, z1, z2, e9⟩ | ⟨hq8, z1, z2, e9⟩
  · subst e9
    rw [z1, z2] at hW
    subst e8
    obtain ⟨c2, hc2, hc⟩ := hqc i hi
    refine lv_if_ne (tgt := 10) hx hb dX8_book_5 (by decide) (fun _ => ?_) (fun c9 => absurd c9 (by decide))
    refine lv_aload_n hx hb dX8_book_10 rfl (lv_at hl 0 rfl) ?_
    refine m_getA C hm hW 34 (by decide) rfl tw_5_237 dX8_book_11 ?_
    refine lv_iload_n hx hb dX8_book_14 rfl (lv_at hl 1 rfl) ?_
    refine m_iald (v := (fa 34) i) (j := i) C hm hW 34 (by decide) rfl rfl (vp_in_nI (N := 100) (by omega) (by decide)) (nI_clamp (by omega)) rfl dX8_book_15 ?_
    refine lv_topE (y := nI c2) hc ?_
    refine lv_istore_n (lv' := [(2, .int (nI c2)), (0, .ref (ad (100, 0))), (1, .int (nI i))]) hx hb dX8_book_16 rfl hl (by decide) rfl (fun ls hl => ?_)
    refine lv_aload_n hx hb dX8_book_17 rfl (lv_at hl 1 rfl) ?_
    refine lv_iload_n hx hb dX8_book_18 rfl (lv_at hl 2 rfl) ?_
    refine lv_aload_n hx hb dX8_book_19 rfl (lv_at hl 1 rfl) ?_
    refine m_getA C hm hW 36 (by decide) rfl tw_5_239 dX8_book_20 ?_
    refine lv_iload_n hx hb dX8_book_23 rfl (lv_at hl 2 rfl) ?_
    refine m_iald (v := (fa 36) i) (j := i) C hm hW 36 (by decide) rfl rfl (vp_in_nI (N := 100) (by omega) (by decide)) (nI_clamp (by omega)) rfl dX8_book_24 ?_
    refine lv_topi (fun x2 ex2 => ?_)
    refine m_callVi (k2 := 2) (As := [.int (nI i), .int x2]) (rest := []) C (c_X8_quoted l X L ad st0 (upd fi 0 0) fa hm i (by omega) x2) tw_6_214 tw_6_216 tw_0_38 tw_1_10 tw_6_217 (by decide +kernel) ⟨by rw [hR1]; exact Nat.le_of_ble_eq_true rfl, by rw [hR2]; exact Nat.le_of_ble_eq_true rfl⟩ hm hW hS rfl hl.1 rfl (Nat.le_of_ble_eq_true rfl) dX8_book_25 ⟨Nat.zero_le _, Nat.zero_le _⟩ (fun x3 fi9 fa9 H locs hp hW hS => ?_)
    obtain ⟨z1, z2, h4⟩ := hp
    rw [z1, z2] at hW
    refine lv_istore_n (lv' := [(3, .int x3), (2, .int (nI c2)), (0, .ref (ad (100, 0))), (1, .int (nI i))]) hx hb dX8_book_28 rfl hl (by decide) rfl (fun ls hl => ?_)
    refine lv_aload_n hx hb dX8_book_29 rfl (lv_at hl 2 rfl) ?_
    refine m_getA C hm hW 19 (by decide) rfl tw_5_222 dX8_book_30 ?_
    refine lv_iload_n hx hb dX8_book_33 rfl (lv_at hl 1 rfl) ?_
    refine m_iald (v := (fa 19) c2) (j := c2) C hm hW 19 (by decide) rfl rfl (vp_in_nI (N := 4) (by omega) (by decide)) (nI_clamp (by omega)) rfl dX8_book_34 ?_
    refine lv_topi (fun x5 ex5 => ?_)
    refine lv_aload_n hx hb dX8_book_35 rfl (lv_at hl 2 rfl) ?_
    refine m_getA C hm hW 20 (by decide) rfl tw_5_223 dX8_book_36 ?_
    refine lv_iload_n hx hb dX8_book_39 rfl (lv_at hl 1 rfl) ?_
    refine m_iald (v := (fa 20) c2) (j := c2) C hm hW 20 (by decide) rfl rfl (vp_in_nI (N := 4) (by omega) (by decide)) (nI_clamp (by omega)) rfl dX8_book_40 ?_
    refine lv_topi (fun x6 ex6 => ?_)
    refine lv_aload_n hx hb dX8_book_41 rfl (lv_at hl 2 rfl) ?_
    refine m_getA C hm hW 21 (by decide) rfl tw_5_224 dX8_book_42 ?_
    refine lv_iload_n hx hb dX8_book_45 rfl (lv_at hl 1 rfl) ?_
    refine m_iald (v := (fa 21) c2) (j := c2) C hm hW 21 (by decide) rfl rfl (vp_in_nI (N := 4) (by omega) (by decide)) (nI_clamp (by omega)) rfl dX8_book_46 ?_
    refine lv_topi (fun x7 ex7 => ?_)
    refine lv_aload_n hx hb dX8_book_47 rfl (lv_at hl 2 rfl) ?_
    refine m_getA C hm hW 35 (by decide) rfl tw_5_238 dX8_book_48 ?_
    refine lv_iload_n hx hb dX8_book_51 rfl (lv_at hl 3 rfl) ?_
    refine m_iald (v := (fa 35) i) (j := i) C hm hW 35 (by decide) rfl rfl (vp_in_nI (N := 100) (by omega) (by decide)) (nI_clamp (by omega)) rfl dX8_book_52 ?_
    refine lv_topi (fun x8 ex8 => ?_)
    refine lv_aload_n hx hb dX8_book_53 rfl (lv_at hl 2 rfl) ?_
    refine m_getA C hm hW 36 (by decide) rfl tw_5_239 dX8_book_54 ?_
    refine lv_iload_n hx hb dX8_book_57 rfl (lv_at hl 3 rfl) ?_
    refine m_iald (v := (fa 36) i) (j := i) C hm hW 36 (by decide) rfl rfl (vp_in_nI (N := 100) (by omega) (by decide)) (nI_clamp (by omega)) rfl dX8_book_58 ?_
    refine lv_topi (fun x9 ex9 => ?_)
    refine lv_aload_n hx hb dX8_book_59 rfl (lv_at hl 2 rfl) ?_
    refine m_getA C hm hW 37 (by decide) rfl tw_6_0 dX8_book_60 ?_
    refine lv_iload_n hx hb dX8_book_63 rfl (lv_at hl 3 rfl) ?_
    refine m_zald (v := (fa 37) i) (j := i) C hm hW 37 (by decide) rfl rfl (vp_in_nI (N := 100) (by omega) (by decide)) (nI_clamp (by omega)) rfl dX8_book_64 ?_
    refine lv_topi (fun x10 ex10 => ?_)
    refine g_callSp (k2 := 6) (As := [.int x5, .int x6, .int x7, .int x8, .int x9, .int x10]) (rest := []) C (c_X8_priceOf l X L ad _ x5 x6 x7 x8 x9 x10) tw_6_218 tw_6_219 tw_1_10 tw_6_220 (by decide +kernel) ⟨by rw [hR1]; exact Nat.le_of_ble_eq_true rfl, by rw [hR2]; exact Nat.le_of_ble_eq_true rfl⟩ hW hS rfl hl.1 rfl (Nat.le_of_ble_eq_true rfl) dX8_book_65 ⟨Nat.zero_le _, Nat.zero_le _⟩ (fun x11 H locs hp hW hS => ?_)
    have h12 := hp
    refine lv_istore (lv' := [(4, .int x11), (3, .int x3), (2, .int (nI c2)), (0, .ref (ad (100, 0))), (1, .int (nI i))]) hx hb dX8_book_68 hl (by decide) rfl (fun ls hl => ?_)
    refine lv_aload_n hx hb dX8_book_70 rfl (lv_at hl 3 rfl) ?_
    refine lv_aload_n hx hb dX8_book_71 rfl (lv_at hl 3 rfl) ?_
    refine m_getI (v := fi 1) C hm hW 1 (by decide) rfl tw_5_204 rfl dX8_book_72 ?_
    refine lv_aload_n hx hb dX8_book_75 rfl (lv_at hl 3 rfl) ?_
    refine m_getA C hm hW 41 (by decide) rfl tw_6_4 dX8_book_76 ?_
    refine lv_iload_n hx hb dX8_book_79 rfl (lv_at hl 4 rfl) ?_
    refine m_iald (v := (fa 41) i) (j := i) C hm hW 41 (by decide) rfl rfl (vp_in_nI (N := 100) (by omega) (by decide)) (nI_clamp (by omega)) rfl dX8_book_80 ?_
    refine lv_topi (fun x13 ex13 => ?_)
    refine lv_icmp_le (tgt := 90) hx hb dX8_book_81 (by decide) (fun c14 => ?_) (fun c14 => ?_)
    · refine lv_aload_n hx hb dX8_book_90 rfl (lv_at hl 3 rfl) ?_
      refine m_getI (v := nI np) C hm hW 42 (by decide) rfl tw_6_5 hnp dX8_book_91 ?_
      refine lv_bipush (v := 50) hx hb dX8_book_94 (by decide) ?_
      refine lv_icmp_ne (tgt := 103) hx hb dX8_book_96 (by decide) (fun c15 => ?_) (fun c15 => ?_)
      · have c15n := q_ne (a := np) (b := 50) (by omega) (by omega) c15
        refine lv_iconst (v := 0) hx hb dX8_book_103 (by decide) ?_
        refine m_putI C hm hW hS 0 (by decide) rfl tw_5_203 dX8_book_104 (fun H locs hW hS => ?_)
        rw [upd_same] at hW
        refine lv_aload_n hx hb dX8_book_107 rfl (lv_at hl 3 rfl) ?_
        refine m_getI (v := 0) C hm hW 0 (by decide) rfl tw_5_203 rfl dX8_book_108 ?_
        refine lv_if_le (tgt := 116) hx hb dX8_book_111 (by decide) (fun _ => ?_) (fun c9 => absurd (by decide) c9)
        refine lv_aload_n hx hb dX8_book_116 rfl (lv_at hl 3 rfl) ?_
        refine m_getA C hm hW 43 (by decide) rfl tw_6_6 dX8_book_117 ?_
        refine lv_aload_n hx hb dX8_book_120 rfl (lv_at hl 3 rfl) ?_
        refine m_getI (v := nI np) C hm hW 42 (by decide) rfl tw_6_5 hnp dX8_book_121 ?_
        refine lv_iload_n hx hb dX8_book_124 rfl (lv_at hl 4 rfl) ?_
        refine m_iast (j := np) C hm hW hS 43 (by decide) rfl rfl (vp_in_nI (N := 50) (by omega) (by decide)) (nI_clamp (by omega)) dX8_book_125 (fun H locs hW hS => ?_)
        refine lv_aload_n hx hb dX8_book_126 rfl (lv_at hl 3 rfl) ?_
        refine m_getA C hm hW 44 (by decide) rfl tw_6_7 dX8_book_127 ?_
        refine lv_aload_n hx hb dX8_book_130 rfl (lv_at hl 3 rfl) ?_
        refine m_getI (v := nI np) C hm hW 42 (by decide) rfl tw_6_5 hnp dX8_book_131 ?_
        refine lv_aload_n hx hb dX8_book_134 rfl (lv_at hl 3 rfl) ?_
        refine m_getI (v := fi 1) C hm hW 1 (by decide) rfl tw_5_204 rfl dX8_book_135 ?_
        refine m_iast (j := np) C hm hW hS 44 (by decide) rfl rfl (vp_in_nI (N := 50) (by omega) (by decide)) (nI_clamp (by omega)) dX8_book_138 (fun H locs hW hS => ?_)
        refine lv_aload_n hx hb dX8_book_139 rfl (lv_at hl 3 rfl) ?_
        refine m_getA C hm hW 45 (by decide) rfl tw_6_8 dX8_book_140 ?_
        refine lv_aload_n hx hb dX8_book_143 rfl (lv_at hl 3 rfl) ?_
        refine m_getI (v := nI np) C hm hW 42 (by decide) rfl tw_6_5 hnp dX8_book_144 ?_
        refine lv_iload_n hx hb dX8_book_147 rfl (lv_at hl 1 rfl) ?_
        refine m_iast (j := np) C hm hW hS 45 (by decide) rfl rfl (vp_in_nI (N := 50) (by omega) (by decide)) (nI_clamp (by omega)) dX8_book_148 (fun H locs hW hS => ?_)
        refine lv_aload_n hx hb dX8_book_149 rfl (lv_at hl 3 rfl) ?_
        refine lv_dup hx hb dX8_book_150 rfl ?_
        refine m_getI (v := nI np) C hm hW 42 (by decide) rfl tw_6_5 hnp dX8_book_151 ?_
        refine lv_iconst (v := 1) hx hb dX8_book_154 (by decide) ?_
        refine lv_iadd hx hb dX8_book_155 ?_
        refine lv_topE (y := nI (np + 1)) (nI_1 np) ?_
        refine m_putI C hm hW hS 42 (by decide) rfl tw_6_5 dX8_book_156 (fun H locs hW hS => ?_)
        refine lv_aload_n hx hb dX8_book_159 rfl (lv_at hl 3 rfl) ?_
        refine m_getI (v := nI (np + 1)) C hm hW 42 (by decide) rfl tw_6_5 rfl dX8_book_160 ?_
        refine lv_iconst (v := 1) hx hb dX8_book_163 (by decide) ?_
        refine lv_isub hx hb dX8_book_164 ?_
        refine lv_topE (y := nI np) (nI_pred np) ?_
        exact g_iret2 C hQ hW hS ⟨_, _, rfl, Or.inr (Or.inr ⟨i, c2, hi, rfl, hc, hc2, by grind, rfl, by subst_vars; rfl, rfl⟩)⟩ rfl (Nat.zero_le _) (Nat.zero_le _) dX8_book_165
      · have c15n := q_eq (a := np) (b := 50) (by omega) (by omega) c15
        refine lv_iconst (v := 2) hx hb dX8_book_99 (by decide) ?_
        refine lv_goto (tgt := 104) hx hb dX8_book_100 (by decide) ?_
        refine m_putI C hm hW hS 0 (by decide) rfl tw_5_203 dX8_book_104 (fun H locs hW hS => ?_)
        rw [upd_same] at hW
        refine lv_aload_n hx hb dX8_book_107 rfl (lv_at hl 3 rfl) ?_
        refine m_getI (v := 2) C hm hW 0 (by decide) rfl tw_5_203 rfl dX8_book_108 ?_
        refine lv_if_le (tgt := 116) hx hb dX8_book_111 (by decide) (fun c9 => absurd c9 (by decide)) (fun _ => ?_)
        refine lv_iconst (v := 0) hx hb dX8_book_114 (by decide) ?_
        exact g_iret2 C hQ hW hS ⟨_, _, rfl, Or.inr (Or.inl ⟨i, c2, hi, rfl, hc, hc2, by grind, rfl, rfl⟩)⟩ rfl (Nat.zero_le _) (Nat.zero_le _) dX8_book_115
    · refine lv_iload_n hx hb dX8_book_84 rfl (lv_at hl 1 rfl) ?_
      refine lv_iload hx hb dX8_book_85 (lv_at hl 0 rfl) ?_
      refine lv_icmp_ne (tgt := 99) hx hb dX8_book_87 (by decide) (fun c16 => ?_) (fun c16 => ?_)
      · refine lv_iconst (v := 2) hx hb dX8_book_99 (by decide) ?_
        refine lv_goto (tgt := 104) hx hb dX8_book_100 (by decide) ?_
        refine m_putI C hm hW hS 0 (by decide) rfl tw_5_203 dX8_book_104 (fun H locs hW hS => ?_)
        rw [upd_same] at hW
        refine lv_aload_n hx hb dX8_book_107 rfl (lv_at hl 3 rfl) ?_
        refine m_getI (v := 2) C hm hW 0 (by decide) rfl tw_5_203 rfl dX8_book_108 ?_
        refine lv_if_le (tgt := 116) hx hb dX8_book_111 (by decide) (fun c9 => absurd c9 (by decide)) (fun _ => ?_)
        refine lv_iconst (v := 0) hx hb dX8_book_114 (by decide) ?_
        exact g_iret2 C hQ hW hS ⟨_, _, rfl, Or.inr (Or.inl ⟨i, c2, hi, rfl, hc, hc2, by grind, rfl, rfl⟩)⟩ rfl (Nat.zero_le _) (Nat.zero_le _) dX8_book_115
      · refine lv_aload_n hx hb dX8_book_90 rfl (lv_at hl 3 rfl) ?_
        refine m_getI (v := nI np) C hm hW 42 (by decide) rfl tw_6_5 hnp dX8_book_91 ?_
        refine lv_bipush (v := 50) hx hb dX8_book_94 (by decide) ?_
        refine lv_icmp_ne (tgt := 103) hx hb dX8_book_96 (by decide) (fun c17 => ?_) (fun c17 => ?_)
        · have c17n := q_ne (a := np) (b := 50) (by omega) (by omega) c17
          refine lv_iconst (v := 0) hx hb dX8_book_103 (by decide) ?_
          refine m_putI C hm hW hS 0 (by decide) rfl tw_5_203 dX8_book_104 (fun H locs hW hS => ?_)
          rw [upd_same] at hW
          refine lv_aload_n hx hb dX8_book_107 rfl (lv_at hl 3 rfl) ?_
          refine m_getI (v := 0) C hm hW 0 (by decide) rfl tw_5_203 rfl dX8_book_108 ?_
          refine lv_if_le (tgt := 116) hx hb dX8_book_111 (by decide) (fun _ => ?_) (fun c9 => absurd (by decide) c9)
          refine lv_aload_n hx hb dX8_book_116 rfl (lv_at hl 3 rfl) ?_
          refine m_getA C hm hW 43 (by decide) rfl tw_6_6 dX8_book_117 ?_
          refine lv_aload_n hx hb dX8_book_120 rfl (lv_at hl 3 rfl) ?_
          refine m_getI (v := nI np) C hm hW 42 (by decide) rfl tw_6_5 hnp dX8_book_121 ?_
          refine lv_iload_n hx hb dX8_book_124 rfl (lv_at hl 4 rfl) ?_
          refine m_iast (j := np) C hm hW hS 43 (by decide) rfl rfl (vp_in_nI (N := 50) (by omega) (by decide)) (nI_clamp (by omega)) dX8_book_125 (fun H locs hW hS => ?_)
          refine lv_aload_n hx hb dX8_book_126 rfl (lv_at hl 3 rfl) ?_
          refine m_getA C hm hW 44 (by decide) rfl tw_6_7 dX8_book_127 ?_
          refine lv_aload_n hx hb dX8_book_130 rfl (lv_at hl 3 rfl) ?_
          refine m_getI (v := nI np) C hm hW 42 (by decide) rfl tw_6_5 hnp dX8_book_131 ?_
          refine lv_aload_n hx hb dX8_book_134 rfl (lv_at hl 3 rfl) ?_
          refine m_getI (v := fi 1) C hm hW 1 (by decide) rfl tw_5_204 rfl dX8_book_135 ?_
          refine m_iast (j := np) C hm hW hS 44 (by decide) rfl rfl (vp_in_nI (N := 50) (by omega) (by decide)) (nI_clamp (by omega)) dX8_book_138 (fun H locs hW hS => ?_)
          refine lv_aload_n hx hb dX8_book_139 rfl (lv_at hl 3 rfl) ?_
          refine m_getA C hm hW 45 (by decide) rfl tw_6_8 dX8_book_140 ?_
          refine lv_aload_n hx hb dX8_book_143 rfl (lv_at hl 3 rfl) ?_
          refine m_getI (v := nI np) C hm hW 42 (by decide) rfl tw_6_5 hnp dX8_book_144 ?_
          refine lv_iload_n hx hb dX8_book_147 rfl (lv_at hl 1 rfl) ?_
          refine m_iast (j := np) C hm hW hS 45 (by decide) rfl rfl (vp_in_nI (N := 50) (by omega) (by decide)) (nI_clamp (by omega)) dX8_book_148 (fun H locs hW hS => ?_)
          refine lv_aload_n hx hb dX8_book_149 rfl (lv_at hl 3 rfl) ?_
          refine lv_dup hx hb dX8_book_150 rfl ?_
          refine m_getI (v := nI np) C hm hW 42 (by decide) rfl tw_6_5 hnp dX8_book_151 ?_
          refine lv_iconst (v := 1) hx hb dX8_book_154 (by decide) ?_
          refine lv_iadd hx hb dX8_book_155 ?_
          refine lv_topE (y := nI (np + 1)) (nI_1 np) ?_
          refine m_putI C hm hW hS 42 (by decide) rfl tw_6_5 dX8_book_156 (fun H locs hW hS => ?_)
          refine lv_aload_n hx hb dX8_book_159 rfl (lv_at hl 3 rfl) ?_
          refine m_getI (v := nI (np + 1)) C hm hW 42 (by decide) rfl tw_6_5 rfl dX8_book_160 ?_
          refine lv_iconst (v := 1) hx hb dX8_book_163 (by decide) ?_
          refine lv_isub hx hb dX8_book_164 ?_
          refine lv_topE (y := nI np) (nI_pred np) ?_
          exact g_iret2 C hQ hW hS ⟨_, _, rfl, Or.inr (Or.inr ⟨i, c2, hi, rfl, hc, hc2, by grind, rfl, by subst_vars; rfl, rfl⟩)⟩ rfl (Nat.zero_le _) (Nat.zero_le _) dX8_book_165
        · have c17n := q_eq (a := np) (b := 50) (by omega) (by omega) c17
          refine lv_iconst (v := 2) hx hb dX8_book_99 (by decide) ?_
          refine lv_goto (tgt := 104) hx hb dX8_book_100 (by decide) ?_
          refine m_putI C hm hW hS 0 (by decide) rfl tw_5_203 dX8_book_104 (fun H locs hW hS => ?_)
          rw [upd_same] at hW
          refine lv_aload_n hx hb dX8_book_107 rfl (lv_at hl 3 rfl) ?_
          refine m_getI (v := 2) C hm hW 0 (by decide) rfl tw_5_203 rfl dX8_book_108 ?_
          refine lv_if_le (tgt := 116) hx hb dX8_book_111 (by decide) (fun c9 => absurd c9 (by decide)) (fun _ => ?_)
          refine lv_iconst (v := 0) hx hb dX8_book_114 (by decide) ?_
          exact g_iret2 C hQ hW hS ⟨_, _, rfl, Or.inr (Or.inl ⟨i, c2, hi, rfl, hc, hc2, by grind, rfl, rfl⟩)⟩ rfl (Nat.zero_le _) (Nat.zero_le _) dX8_book_115
  · subst e9
    rw [z1, z2] at hW
    refine lv_if_ne (tgt := 10) hx hb dX8_book_5 (by decide) (fun c9 => absurd c9 (by decide)) (fun _ => ?_)
    refine lv_iconst (v := 0) hx hb dX8_book_8 (by decide) ?_
    exact g_iret2 C hQ hW hS ⟨_, _, rfl, Or.inl ⟨hq8, rfl, rfl⟩⟩ rfl (Nat.zero_le _) (Nat.zero_le _) dX8_book_9

