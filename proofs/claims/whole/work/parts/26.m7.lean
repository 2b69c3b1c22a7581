set_option maxHeartbeats 4000000 in
set_option maxRecDepth 100000 in
theorem c_X8_isFailed (l : Launch) (X : GX) (L : List ro) (ad : ro → Nat) (st0 : ro → va_E) (fi : Nat → Int32) (fa : Nat → Nat → Int32) (hm : mL L) (i : Nat) (hi : i < 4) : mM l yX8_isFailed cX8_isFailed 4 (some .boolean) 1 21 X [.int (nI i)] L ad st0 fi fa (fun v fi' fa' => fi' = fi ∧ fa' = mset fa i (tryS (fi 1) (fa 13 i) (fa 14 i) (mcr fa i)).2 ∧ (((tryS (fi 1) (fa 13 i) (fa 14 i) (mcr fa i)).1 = 1 ∧ v = 1) ∨ ((tryS (fi 1) (fa 13 i) (fa 14 i) (mcr fa i)).1 = 0 ∧ v = 0))) := by
  intro sz
  refine gM_of2 (Qc := fun A => va_Qi _ (gB X A) A) (by decide) (Nat.le_of_ble_eq_true rfl) ?_ sz
  intro p e s m args below meth c A R Q hR hQ C hW hS ls hl
  obtain ⟨hR1, hR2, hR3, hR4⟩ := hR
  have hx := C.1.1
  have hb := C.1.2.1
  have hml := C.1.2.2.1
  have hl : lv_has ls 4 [(0, .ref (ad (100, 0))), (1, .int (nI i))] := hl
  refine lv_aload_n hx hb dX8_isFailed_0 rfl (lv_at hl 0 rfl) ?_
  refine lv_iload_n hx hb dX8_isFailed_1 rfl (lv_at hl 1 rfl) ?_
  refine m_callVi (k2 := 1) (As := [.int (nI i)]) (rest := []) C (c_X8_circuitOf l X L ad st0 fi fa hm i (by omega)) tw_6_198 tw_6_200 tw_0_35 tw_1_10 tw_6_201 (by decide +kernel) ⟨by rw [hR1]; exact Nat.le_of_ble_eq_true rfl, by rw [hR2]; exact Nat.le_of_ble_eq_true rfl⟩ hm hW hS rfl hl.1 rfl (Nat.le_of_ble_eq_true rfl) dX8_isFailed_2 ⟨Nat.zero_le _, Nat.zero_le _⟩ (fun x1 fi9 fa9 H locs hp hW hS => ?_)
  obtain ⟨z1, z2, h2⟩ := hp
  rw [z1, z2] at hW
  refine lv_iconst (v := 2) hx hb dX8_isFailed_5 (by decide) ?_
  refine lv_icmp_ne (tgt := 13) hx hb dX8_isFailed_6 (by decide) (fun c3 => ?_) (fun c3 => ?_)
  · refine lv_iconst (v := 0) hx hb dX8_isFailed_13 (by decide) ?_
    refine lv_istore_n (lv' := [(2, .int 0), (0, .ref (ad (100, 0))), (1, .int (nI i))]) hx hb dX8_isFailed_14 rfl hl (by decide) rfl (fun ls hl => ?_)
    refine lv_aload_n hx hb dX8_isFailed_15 rfl (lv_at hl 1 rfl) ?_
    refine m_getA C hm hW 15 (by decide) rfl tw_5_218 dX8_isFailed_16 ?_
    refine lv_iload_n hx hb dX8_isFailed_19 rfl (lv_at hl 2 rfl) ?_
    refine lv_dup2_11 hx hb dX8_isFailed_20 rfl rfl ?_
    refine m_iald (v := (fa 15) i) (j := i) C hm hW 15 (by decide) rfl rfl (vp_in_nI (N := 4) (by omega) (by decide)) (nI_clamp (by omega)) rfl dX8_isFailed_21 ?_
    refine lv_topi (fun x4 ex4 => ?_)
    refine lv_iconst (v := 1) hx hb dX8_isFailed_22 (by decide) ?_
    refine lv_iadd hx hb dX8_isFailed_23 ?_
    refine lv_topi (fun x5 ex5 => ?_)
    refine m_iast (j := i) C hm hW hS 15 (by decide) rfl rfl (vp_in_nI (N := 4) (by omega) (by decide)) (nI_clamp (by omega)) dX8_isFailed_24 (fun H locs hW hS => ?_)
    refine lv_aload_n hx hb dX8_isFailed_25 rfl (lv_at hl 1 rfl) ?_
    refine m_getA C hm hW 13 (by decide) rfl tw_5_216 dX8_isFailed_26 ?_
    refine lv_iload_n hx hb dX8_isFailed_29 rfl (lv_at hl 2 rfl) ?_
    refine m_zald (v := (fa 13) i) (j := i) C hm hW 13 (by decide) rfl rfl (vp_in_nI (N := 4) (by omega) (by decide)) (nI_clamp (by omega)) rfl dX8_isFailed_30 ?_
    refine lv_topi (fun x6 ex6 => ?_)
    refine lv_if_ne (tgt := 72) hx hb dX8_isFailed_31 (by decide) (fun c7 => ?_) (fun c7 => ?_)
    · refine lv_iconst (v := 1) hx hb dX8_isFailed_72 (by decide) ?_
      refine lv_goto (tgt := 77) hx hb dX8_isFailed_73 (by decide) ?_
      refine lv_istore_n (lv' := [(3, .int 1), (2, .int 0), (0, .ref (ad (100, 0))), (1, .int (nI i))]) hx hb dX8_isFailed_77 rfl hl (by decide) rfl (fun ls hl => ?_)
      refine lv_iload_n hx hb dX8_isFailed_78 rfl (lv_at hl 0 rfl) ?_
      refine lv_if_eq (tgt := 129) hx hb dX8_isFailed_79 (by decide) (fun c9 => absurd c9 (by decide)) (fun _ => ?_)
      refine lv_aload_n hx hb dX8_isFailed_82 rfl (lv_at hl 2 rfl) ?_
      refine m_getA C hm hW 16 (by decide) rfl tw_5_219 dX8_isFailed_83 ?_
      refine lv_iload_n hx hb dX8_isFailed_86 rfl (lv_at hl 3 rfl) ?_
      refine lv_dup2_11 hx hb dX8_isFailed_87 rfl rfl ?_
      refine m_iald (v := (fa 16) i) (j := i) C hm hW 16 (by decide) rfl rfl (vp_in_nI (N := 4) (by omega) (by decide)) (nI_clamp (by omega)) rfl dX8_isFailed_88 ?_
      refine lv_topi (fun x8 ex8 => ?_)
      refine lv_iconst (v := 1) hx hb dX8_isFailed_89 (by decide) ?_
      refine lv_iadd hx hb dX8_isFailed_90 ?_
      refine lv_topi (fun x9 ex9 => ?_)
      refine m_iast (j := i) C hm hW hS 16 (by decide) rfl rfl (vp_in_nI (N := 4) (by omega) (by decide)) (nI_clamp (by omega)) dX8_isFailed_91 (fun H locs hW hS => ?_)
      refine lv_aload_n hx hb dX8_isFailed_92 rfl (lv_at hl 2 rfl) ?_
      refine m_getA C hm hW 16 (by decide) rfl tw_5_219 dX8_isFailed_93 ?_
      refine lv_iload_n hx hb dX8_isFailed_96 rfl (lv_at hl 3 rfl) ?_
      refine m_iald (v := x9) (j := i) C hm hW 16 (by decide) rfl rfl (vp_in_nI (N := 4) (by omega) (by decide)) (nI_clamp (by omega)) pk_us dX8_isFailed_97 ?_
      refine lv_iconst (v := 5) hx hb dX8_isFailed_98 (by decide) ?_
      refine lv_icmp_ge (tgt := 106) hx hb dX8_isFailed_99 (by decide) (fun c10 => ?_) (fun c10 => ?_)
      · refine lv_aload_n hx hb dX8_isFailed_106 rfl (lv_at hl 2 rfl) ?_
        refine m_getA C hm hW 17 (by decide) rfl tw_5_220 dX8_isFailed_107 ?_
        refine lv_iload_n hx hb dX8_isFailed_110 rfl (lv_at hl 3 rfl) ?_
        refine lv_iconst (v := 1) hx hb dX8_isFailed_111 (by decide) ?_
        refine m_zast (j := i) C hm hW hS 17 (by decide) rfl rfl (vp_in_nI (N := 4) (by omega) (by decide)) (nI_clamp (by omega)) dX8_isFailed_112 (fun H locs hW hS => ?_)
        rw [show vp_nar .boolean 1 = 1 from rfl] at hW
        refine lv_aload_n hx hb dX8_isFailed_113 rfl (lv_at hl 2 rfl) ?_
        refine m_getA C hm hW 18 (by decide) rfl tw_5_221 dX8_isFailed_114 ?_
        refine lv_iload_n hx hb dX8_isFailed_117 rfl (lv_at hl 3 rfl) ?_
        refine lv_aload_n hx hb dX8_isFailed_118 rfl (lv_at hl 2 rfl) ?_
        refine m_getI (v := fi 1) C hm hW 1 (by decide) rfl tw_5_204 rfl dX8_isFailed_119 ?_
        refine lv_bipush (v := 9) hx hb dX8_isFailed_122 (by decide) ?_
        refine lv_iadd hx hb dX8_isFailed_124 ?_
        refine lv_topi (fun x11 ex11 => ?_)
        refine m_iast (j := i) C hm hW hS 18 (by decide) rfl rfl (vp_in_nI (N := 4) (by omega) (by decide)) (nI_clamp (by omega)) dX8_isFailed_125 (fun H locs hW hS => ?_)
        refine lv_goto (tgt := 143) hx hb dX8_isFailed_126 (by decide) ?_
        refine lv_iload_n hx hb dX8_isFailed_143 rfl (lv_at hl 0 rfl) ?_
        exact g_iret2 C hQ hW hS ⟨_, _, rfl, rfl, (by rw [tryS_a (by unfold tryD; simp only [mcr]; grind) (by simp only [mcr]; grind)]; subst_vars; simp only [mset, mcr, upd_self]; funext k; simp only [rowu]; grind), Or.inl ⟨by rw [tryS_a (by unfold tryD; simp only [mcr]; grind) (by simp only [mcr]; grind)], rfl⟩⟩ (by decide) (Nat.zero_le _) (Nat.zero_le _) dX8_isFailed_144
      · refine lv_iload_n hx hb dX8_isFailed_102 rfl (lv_at hl 1 rfl) ?_
        refine lv_if_eq (tgt := 143) hx hb dX8_isFailed_103 (by decide) (fun _ => ?_) (fun c9 => absurd (by decide) c9)
        refine lv_iload_n hx hb dX8_isFailed_143 rfl (lv_at hl 0 rfl) ?_
        exact g_iret2 C hQ hW hS ⟨_, _, rfl, rfl, (by rw [tryS_b (by unfold tryD; simp only [mcr]; grind) (by simp only [mcr]; grind)]; subst_vars; simp only [mset, mcr, upd_self]; funext k; simp only [rowu]; grind), Or.inl ⟨by rw [tryS_b (by unfold tryD; simp only [mcr]; grind) (by simp only [mcr]; grind)], rfl⟩⟩ (by decide) (Nat.zero_le _) (Nat.zero_le _) dX8_isFailed_144
    · refine lv_aload_n hx hb dX8_isFailed_34 rfl (lv_at hl 1 rfl) ?_
      refine m_getA C hm hW 14 (by decide) rfl tw_5_217 dX8_isFailed_35 ?_
      refine lv_iload_n hx hb dX8_isFailed_38 rfl (lv_at hl 2 rfl) ?_
      refine m_iald (v := (fa 14) i) (j := i) C hm hW 14 (by decide) rfl rfl (vp_in_nI (N := 4) (by omega) (by decide)) (nI_clamp (by omega)) rfl dX8_isFailed_39 ?_
      refine lv_topi (fun x12 ex12 => ?_)
      refine lv_if_le (tgt := 76) hx hb dX8_isFailed_40 (by decide) (fun c13 => ?_) (fun c13 => ?_)
      · refine lv_iconst (v := 0) hx hb dX8_isFailed_76 (by decide) ?_
        refine lv_istore_n (lv' := [(3, .int 0), (2, .int 0), (0, .ref (ad (100, 0))), (1, .int (nI i))]) hx hb dX8_isFailed_77 rfl hl (by decide) rfl (fun ls hl => ?_)
        refine lv_iload_n hx hb dX8_isFailed_78 rfl (lv_at hl 0 rfl) ?_
        refine lv_if_eq (tgt := 129) hx hb dX8_isFailed_79 (by decide) (fun _ => ?_) (fun c9 => absurd (by decide) c9)
        refine lv_aload_n hx hb dX8_isFailed_129 rfl (lv_at hl 2 rfl) ?_
        refine m_getA C hm hW 16 (by decide) rfl tw_5_219 dX8_isFailed_130 ?_
        refine lv_iload_n hx hb dX8_isFailed_133 rfl (lv_at hl 3 rfl) ?_
        refine lv_iconst (v := 0) hx hb dX8_isFailed_134 (by decide) ?_
        refine m_iast (j := i) C hm hW hS 16 (by decide) rfl rfl (vp_in_nI (N := 4) (by omega) (by decide)) (nI_clamp (by omega)) dX8_isFailed_135 (fun H locs hW hS => ?_)
        refine lv_aload_n hx hb dX8_isFailed_136 rfl (lv_at hl 2 rfl) ?_
        refine m_getA C hm hW 17 (by decide) rfl tw_5_220 dX8_isFailed_137 ?_
        refine lv_iload_n hx hb dX8_isFailed_140 rfl (lv_at hl 3 rfl) ?_
        refine lv_iconst (v := 0) hx hb dX8_isFailed_141 (by decide) ?_
        refine m_zast (j := i) C hm hW hS 17 (by decide) rfl rfl (vp_in_nI (N := 4) (by omega) (by decide)) (nI_clamp (by omega)) dX8_isFailed_142 (fun H locs hW hS => ?_)
        rw [show vp_nar .boolean 0 = 0 from rfl] at hW
        refine lv_iload_n hx hb dX8_isFailed_143 rfl (lv_at hl 0 rfl) ?_
        exact g_iret2 C hQ hW hS ⟨_, _, rfl, rfl, by rw [tryS_c (by unfold tryD; simp only [mcr]; grind)]; subst_vars; simp only [mset, mcr, upd_self]; funext k; simp only [rowu]; grind, Or.inr ⟨by rw [tryS_c (by unfold tryD; simp only [mcr]; grind)], rfl⟩⟩ (by decide) (Nat.zero_le _) (Nat.zero_le _) dX8_isFailed_144
      · refine lv_aload_n hx hb dX8_isFailed_43 rfl (lv_at hl 1 rfl) ?_
        refine m_getA C hm hW 15 (by decide) rfl tw_5_218 dX8_isFailed_44 ?_
        refine lv_iload_n hx hb dX8_isFailed_47 rfl (lv_at hl 2 rfl) ?_
        refine m_iald (v := x5) (j := i) C hm hW 15 (by decide) rfl rfl (vp_in_nI (N := 4) (by omega) (by decide)) (nI_clamp (by omega)) pk_us dX8_isFailed_48 ?_
        refine lv_aload_n hx hb dX8_isFailed_49 rfl (lv_at hl 1 rfl) ?_
        refine m_getA C hm hW 14 (by decide) rfl tw_5_217 dX8_isFailed_50 ?_
        refine lv_iload_n hx hb dX8_isFailed_53 rfl (lv_at hl 2 rfl) ?_
        refine m_iald (v := (fa 14) i) (j := i) C hm hW 14 (by decide) rfl rfl (vp_in_nI (N := 4) (by omega) (by decide)) (nI_clamp (by omega)) rfl dX8_isFailed_54 ?_
        refine lv_topi (fun x14 ex14 => ?_)
        refine lv_if_ne (tgt := 62) hx hb dX8_isFailed_55 (by decide) (fun c15 => ?_) (fun c15 => ?_)
        · refine lv_aload_n hx hb dX8_isFailed_62 rfl (lv_at hl 1 rfl) ?_
          refine m_getA C hm hW 14 (by decide) rfl tw_5_217 dX8_isFailed_63 ?_
          refine lv_iload_n hx hb dX8_isFailed_66 rfl (lv_at hl 2 rfl) ?_
          refine m_iald (v := (fa 14) i) (j := i) C hm hW 14 (by decide) rfl rfl (vp_in_nI (N := 4) (by omega) (by decide)) (nI_clamp (by omega)) rfl dX8_isFailed_67 ?_
          refine lv_topi (fun x16 ex16 => ?_)
          refine lv_irem hx hb dX8_isFailed_68 (by grind) ?_
          refine lv_topi (fun x17 ex17 => ?_)
          refine lv_if_ne (tgt := 76) hx hb dX8_isFailed_69 (by decide) (fun c18 => ?_) (fun c18 => ?_)
          · refine lv_iconst (v := 0) hx hb dX8_isFailed_76 (by decide) ?_
            refine lv_istore_n (lv' := [(3, .int 0), (2, .int 0), (0, .ref (ad (100, 0))), (1, .int (nI i))]) hx hb dX8_isFailed_77 rfl hl (by decide) rfl (fun ls hl => ?_)
            refine lv_iload_n hx hb dX8_isFailed_78 rfl (lv_at hl 0 rfl) ?_
            refine lv_if_eq (tgt := 129) hx hb dX8_isFailed_79 (by decide) (fun _ => ?_) (fun c9 => absurd (by decide) c9)
            refine lv_aload_n hx hb dX8_isFailed_129 rfl (lv_at hl 2 rfl) ?_
            refine m_getA C hm hW 16 (by decide) rfl tw_5_219 dX8_isFailed_130 ?_
            refine lv_iload_n hx hb dX8_isFailed_133 rfl (lv_at hl 3 rfl) ?_
            refine lv_iconst (v := 0) hx hb dX8_isFailed_134 (by decide) ?_
            refine m_iast (j := i) C hm hW hS 16 (by decide) rfl rfl (vp_in_nI (N := 4) (by omega) (by decide)) (nI_clamp (by omega)) dX8_isFailed_135 (fun H locs hW hS => ?_)
            refine lv_aload_n hx hb dX8_isFailed_136 rfl (lv_at hl 2 rfl) ?_
            refine m_getA C hm hW 17 (by decide) rfl tw_5_220 dX8_isFailed_137 ?_
            refine lv_iload_n hx hb dX8_isFailed_140 rfl (lv_at hl 3 rfl) ?_
            refine lv_iconst (v := 0) hx hb dX8_isFailed_141 (by decide) ?_
            refine m_zast (j := i) C hm hW hS 17 (by decide) rfl rfl (vp_in_nI (N := 4) (by omega) (by decide)) (nI_clamp (by omega)) dX8_isFailed_142 (fun H locs hW hS => ?_)
            rw [show vp_nar .boolean 0 = 0 from rfl] at hW
            refine lv_iload_n hx hb dX8_isFailed_143 rfl (lv_at hl 0 rfl) ?_
            exact g_iret2 C hQ hW hS ⟨_, _, rfl, rfl, by rw [tryS_c (by unfold tryD; simp only [mcr]; grind)]; subst_vars; simp only [mset, mcr, upd_self]; funext k; simp only [rowu]; grind, Or.inr ⟨by rw [tryS_c (by unfold tryD; simp only [mcr]; grind)], rfl⟩⟩ (by decide) (Nat.zero_le _) (Nat.zero_le _) dX8_isFailed_144
          · refine lv_iconst (v := 1) hx hb dX8_isFailed_72 (by decide) ?_
            refine lv_goto (tgt := 77) hx hb dX8_isFailed_73 (by decide) ?_
            refine lv_istore_n (lv' := [(3, .int 1), (2, .int 0), (0, .ref (ad (100, 0))), (1, .int (nI i))]) hx hb dX8_isFailed_77 rfl hl (by decide) rfl (fun ls hl => ?_)
            refine lv_iload_n hx hb dX8_isFailed_78 rfl (lv_at hl 0 rfl) ?_
            refine lv_if_eq (tgt := 129) hx hb dX8_isFailed_79 (by decide) (fun c9 => absurd c9 (by decide)) (fun _ => ?_)
            refine lv_aload_n hx hb dX8_isFailed_82 rfl (lv_at hl 2 rfl) ?_
            refine m_getA C hm hW 16 (by decide) rfl tw_5_219 dX8_isFailed_83 ?_
            refine lv_iload_n hx hb dX8_isFailed_86 rfl (lv_at hl 3 rfl) ?_
            refine lv_dup2_11 hx hb dX8_isFailed_87 rfl rfl ?_
            refine m_iald (v := (fa 16) i) (j := i) C hm hW 16 (by decide) rfl rfl (vp_in_nI (N := 4) (by omega) (by decide)) (nI_clamp (by omega)) rfl dX8_isFailed_88 ?_
            refine lv_topi (fun x19 ex19 => ?_)
            refine lv_iconst (v := 1) hx hb dX8_isFailed_89 (by decide) ?_
            refine lv_iadd hx hb dX8_isFailed_90 ?_
            refine lv_topi (fun x20 ex20 => ?_)
            refine m_iast (j := i) C hm hW hS 16 (by decide) rfl rfl (vp_in_nI (N := 4) (by omega) (by decide)) (nI_clamp (by omega)) dX8_isFailed_91 (fun H locs hW hS => ?_)
            refine lv_aload_n hx hb dX8_isFailed_92 rfl (lv_at hl 2 rfl) ?_
            refine m_getA C hm hW 16 (by decide) rfl tw_5_219 dX8_isFailed_93 ?_
            refine lv_iload_n hx hb dX8_isFailed_96 rfl (lv_at hl 3 rfl) ?_
            refine m_iald (v := x20) (j := i) C hm hW 16 (by decide) rfl rfl (vp_in_nI (N := 4) (by omega) (by decide)) (nI_clamp (by omega)) pk_us dX8_isFailed_97 ?_
            refine lv_iconst (v := 5) hx hb dX8_isFailed_98 (by decide) ?_
            refine lv_icmp_ge (tgt := 106) hx hb dX8_isFailed_99 (by decide) (fun c21 => ?_) (fun c21 => ?_)
            · refine lv_aload_n hx hb dX8_isFailed_106 rfl (lv_at hl 2 rfl) ?_
              refine m_getA C hm hW 17 (by decide) rfl tw_5_220 dX8_isFailed_107 ?_
              refine lv_iload_n hx hb dX8_isFailed_110 rfl (lv_at hl 3 rfl) ?_
              refine lv_iconst (v := 1) hx hb dX8_isFailed_111 (by decide) ?_
              refine m_zast (j := i) C hm hW hS 17 (by decide) rfl rfl (vp_in_nI (N := 4) (by omega) (by decide)) (nI_clamp (by omega)) dX8_isFailed_112 (fun H locs hW hS => ?_)
              rw [show vp_nar .boolean 1 = 1 from rfl] at hW
              refine lv_aload_n hx hb dX8_isFailed_113 rfl (lv_at hl 2 rfl) ?_
              refine m_getA C hm hW 18 (by decide) rfl tw_5_221 dX8_isFailed_114 ?_
              refine lv_iload_n hx hb dX8_isFailed_117 rfl (lv_at hl 3 rfl) ?_
              refine lv_aload_n hx hb dX8_isFailed_118 rfl (lv_at hl 2 rfl) ?_
              refine m_getI (v := fi 1) C hm hW 1 (by decide) rfl tw_5_204 rfl dX8_isFailed_119 ?_
              refine lv_bipush (v := 9) hx hb dX8_isFailed_122 (by decide) ?_
              refine lv_iadd hx hb dX8_isFailed_124 ?_
              refine lv_topi (fun x22 ex22 => ?_)
              refine m_iast (j := i) C hm hW hS 18 (by decide) rfl rfl (vp_in_nI (N := 4) (by omega) (by decide)) (nI_clamp (by omega)) dX8_isFailed_125 (fun H locs hW hS => ?_)
              refine lv_goto (tgt := 143) hx hb dX8_isFailed_126 (by decide) ?_
              refine lv_iload_n hx hb dX8_isFailed_143 rfl (lv_at hl 0 rfl) ?_
              exact g_iret2 C hQ hW hS ⟨_, _, rfl, rfl, (by rw [tryS_a (by unfold tryD; simp only [mcr]; grind) (by simp only [mcr]; grind)]; subst_vars; simp only [mset, mcr, upd_self]; funext k; simp only [rowu]; grind), Or.inl ⟨by rw [tryS_a (by unfold tryD; simp only [mcr]; grind) (by simp only [mcr]; grind)], rfl⟩⟩ (by decide) (Nat.zero_le _) (Nat.zero_le _) dX8_isFailed_144
            · refine lv_iload_n hx hb dX8_isFailed_102 rfl (lv_at hl 1 rfl) ?_
              refine lv_if_eq (tgt := 143) hx hb dX8_isFailed_103 (by decide) (fun _ => ?_) (fun c9 => absurd (by decide) c9)
              refine lv_iload_n hx hb dX8_isFailed_143 rfl (lv_at hl 0 rfl) ?_
              exact g_iret2 C hQ hW hS ⟨_, _, rfl, rfl, (by rw [tryS_b (by unfold tryD; simp only [mcr]; grind) (by simp only [mcr]; grind)]; subst_vars; simp only [mset, mcr, upd_self]; funext k; simp only [rowu]; grind), Or.inl ⟨by rw [tryS_b (by unfold tryD; simp only [mcr]; grind) (by simp only [mcr]; grind)], rfl⟩⟩ (by decide) (Nat.zero_le _) (Nat.zero_le _) dX8_isFailed_144
        · exfalso
          grind
  · refine lv_iconst (v := 1) hx hb dX8_isFailed_9 (by decide) ?_
    refine lv_goto (tgt := 14) hx hb dX8_isFailed_10 (by decide) ?_
    refine lv_istore_n (lv' := [(2, .int 1), (0, .ref (ad (100, 0))), (1, .int (nI i))]) hx hb dX8_isFailed_14 rfl hl (by decide) rfl (fun ls hl => ?_)
    refine lv_aload_n hx hb dX8_isFailed_15 rfl (lv_at hl 1 rfl) ?_
    refine m_getA C hm hW 15 (by decide) rfl tw_5_218 dX8_isFailed_16 ?_
    refine lv_iload_n hx hb dX8_isFailed_19 rfl (lv_at hl 2 rfl) ?_
    refine lv_dup2_11 hx hb dX8_isFailed_20 rfl rfl ?_
    refine m_iald (v := (fa 15) i) (j := i) C hm hW 15 (by decide) rfl rfl (vp_in_nI (N := 4) (by omega) (by decide)) (nI_clamp (by omega)) rfl dX8_isFailed_21 ?_
    refine lv_topi (fun x23 ex23 => ?_)
    refine lv_iconst (v := 1) hx hb dX8_isFailed_22 (by decide) ?_
    refine lv_iadd hx hb dX8_isFailed_23 ?_
    refine lv_topi (fun x24 ex24 => ?_)
    refine m_iast (j := i) C hm hW hS 15 (by decide) rfl rfl (vp_in_nI (N := 4) (by omega) (by decide)) (nI_clamp (by omega)) dX8_isFailed_24 (fun H locs hW hS => ?_)
    refine lv_aload_n hx hb dX8_isFailed_25 rfl (lv_at hl 1 rfl) ?_
    refine m_getA C hm hW 13 (by decide) rfl tw_5_216 dX8_isFailed_26 ?_
    refine lv_iload_n hx hb dX8_isFailed_29 rfl (lv_at hl 2 rfl) ?_
    refine m_zald (v := (fa 13) i) (j := i) C hm hW 13 (by decide) rfl rfl (vp_in_nI (N := 4) (by omega) (by decide)) (nI_clamp (by omega)) rfl dX8_isFailed_30 ?_
    refine lv_topi (fun x25 ex25 => ?_)
    refine lv_if_ne (tgt := 72) hx hb dX8_isFailed_31 (by decide) (fun c26 => ?_) (fun c26 => ?_)
    · refine lv_iconst (v := 1) hx hb dX8_isFailed_72 (by decide) ?_
      refine lv_goto (tgt := 77) hx hb dX8_isFailed_73 (by decide) ?_
      refine lv_istore_n (lv' := [(3, .int 1), (2, .int 1), (0, .ref (ad (100, 0))), (1, .int (nI i))]) hx hb dX8_isFailed_77 rfl hl (by decide) rfl (fun ls hl => ?_)
      refine lv_iload_n hx hb dX8_isFailed_78 rfl (lv_at hl 0 rfl) ?_
      refine lv_if_eq (tgt := 129) hx hb dX8_isFailed_79 (by decide) (fun c9 => absurd c9 (by decide)) (fun _ => ?_)
      refine lv_aload_n hx hb dX8_isFailed_82 rfl (lv_at hl 2 rfl) ?_
      refine m_getA C hm hW 16 (by decide) rfl tw_5_219 dX8_isFailed_83 ?_
      refine lv_iload_n hx hb dX8_isFailed_86 rfl (lv_at hl 3 rfl) ?_
      refine lv_dup2_11 hx hb dX8_isFailed_87 rfl rfl ?_
      refine m_iald (v := (fa 16) i) (j := i) C hm hW 16 (by decide) rfl rfl (vp_in_nI (N := 4) (by omega) (by decide)) (nI_clamp (by omega)) rfl dX8_isFailed_88 ?_
      refine lv_topi (fun x27 ex27 => ?_)
      refine lv_iconst (v := 1) hx hb dX8_isFailed_89 (by decide) ?_
      refine lv_iadd hx hb dX8_isFailed_90 ?_
      refine lv_topi (fun x28 ex28 => ?_)
      refine m_iast (j := i) C hm hW hS 16 (by decide) rfl rfl (vp_in_nI (N := 4) (by omega) (by decide)) (nI_clamp (by omega)) dX8_isFailed_91 (fun H locs hW hS => ?_)
      refine lv_aload_n hx hb dX8_isFailed_92 rfl (lv_at hl 2 rfl) ?_
      refine m_getA C hm hW 16 (by decide) rfl tw_5_219 dX8_isFailed_93 ?_
      refine lv_iload_n hx hb dX8_isFailed_96 rfl (lv_at hl 3 rfl) ?_
      refine m_iald (v := x28) (j := i) C hm hW 16 (by decide) rfl rfl (vp_in_nI (N := 4) (by omega) (by decide)) (nI_clamp (by omega)) pk_us dX8_isFailed_97 ?_
      refine lv_iconst (v := 5) hx hb dX8_isFailed_98 (by decide) ?_
      refine lv_icmp_ge (tgt := 106) hx hb dX8_isFailed_99 (by decide) (fun c29 => ?_) (fun c29 => ?_)
      · refine lv_aload_n hx hb dX8_isFailed_106 rfl (lv_at hl 2 rfl) ?_
        refine m_getA C hm hW 17 (by decide) rfl tw_5_220 dX8_isFailed_107 ?_
        refine lv_iload_n hx hb dX8_isFailed_110 rfl (lv_at hl 3 rfl) ?_
        refine lv_iconst (v := 1) hx hb dX8_isFailed_111 (by decide) ?_
        refine m_zast (j := i) C hm hW hS 17 (by decide) rfl rfl (vp_in_nI (N := 4) (by omega) (by decide)) (nI_clamp (by omega)) dX8_isFailed_112 (fun H locs hW hS => ?_)
        rw [show vp_nar .boolean 1 = 1 from rfl] at hW
        refine lv_aload_n hx hb dX8_isFailed_113 rfl (lv_at hl 2 rfl) ?_
        refine m_getA C hm hW 18 (by decide) rfl tw_5_221 dX8_isFailed_114 ?_
        refine lv_iload_n hx hb dX8_isFailed_117 rfl (lv_at hl 3 rfl) ?_
        refine lv_aload_n hx hb dX8_isFailed_118 rfl (lv_at hl 2 rfl) ?_
        refine m_getI (v := fi 1) C hm hW 1 (by decide) rfl tw_5_204 rfl dX8_isFailed_119 ?_
        refine lv_bipush (v := 9) hx hb dX8_isFailed_122 (by decide) ?_
        refine lv_iadd hx hb dX8_isFailed_124 ?_
        refine lv_topi (fun x30 ex30 => ?_)
        refine m_iast (j := i) C hm hW hS 18 (by decide) rfl rfl (vp_in_nI (N := 4) (by omega) (by decide)) (nI_clamp (by omega)) dX8_isFailed_125 (fun H locs hW hS => ?_)
        refine lv_goto (tgt := 143) hx hb dX8_isFailed_126 (by decide) ?_
        refine lv_iload_n hx hb dX8_isFailed_143 rfl (lv_at hl 0 rfl) ?_
        exact g_iret2 C hQ hW hS ⟨_, _, rfl, rfl, (by rw [tryS_a (by unfold tryD; simp only [mcr]; grind) (by simp only [mcr]; grind)]; subst_vars; simp only [mset, mcr, upd_self]; funext k; simp only [rowu]; grind), Or.inl ⟨by rw [tryS_a (by unfold tryD; simp only [mcr]; grind) (by simp only [mcr]; grind)], rfl⟩⟩ (by decide) (Nat.zero_le _) (Nat.zero_le _) dX8_isFailed_144
      · refine lv_iload_n hx hb dX8_isFailed_102 rfl (lv_at hl 1 rfl) ?_
        refine lv_if_eq (tgt := 143) hx hb dX8_isFailed_103 (by decide) (fun c9 => absurd c9 (by decide)) (fun _ => ?_)
        refine lv_aload_n hx hb dX8_isFailed_106 rfl (lv_at hl 2 rfl) ?_
        refine m_getA C hm hW 17 (by decide) rfl tw_5_220 dX8_isFailed_107 ?_
        refine lv_iload_n hx hb dX8_isFailed_110 rfl (lv_at hl 3 rfl) ?_
        refine lv_iconst (v := 1) hx hb dX8_isFailed_111 (by decide) ?_
        refine m_zast (j := i) C hm hW hS 17 (by decide) rfl rfl (vp_in_nI (N := 4) (by omega) (by decide)) (nI_clamp (by omega)) dX8_isFailed_112 (fun H locs hW hS => ?_)
        rw [show vp_nar .boolean 1 = 1 from rfl] at hW
        refine lv_aload_n hx hb dX8_isFailed_113 rfl (lv_at hl 2 rfl) ?_
        refine m_getA C hm hW 18 (by decide) rfl tw_5_221 dX8_isFailed_114 ?_
        refine lv_iload_n hx hb dX8_isFailed_117 rfl (lv_at hl 3 rfl) ?_
        refine lv_aload_n hx hb dX8_isFailed_118 rfl (lv_at hl 2 rfl) ?_
        refine m_getI (v := fi 1) C hm hW 1 (by decide) rfl tw_5_204 rfl dX8_isFailed_119 ?_
        refine lv_bipush (v := 9) hx hb dX8_isFailed_122 (by decide) ?_
        refine lv_iadd hx hb dX8_isFailed_124 ?_
        refine lv_topi (fun x31 ex31 => ?_)
        refine m_iast (j := i) C hm hW hS 18 (by decide) rfl rfl (vp_in_nI (N := 4) (by omega) (by decide)) (nI_clamp (by omega)) dX8_isFailed_125 (fun H locs hW hS => ?_)
        refine lv_goto (tgt := 143) hx hb dX8_isFailed_126 (by decide) ?_
        refine lv_iload_n hx hb dX8_isFailed_143 rfl (lv_at hl 0 rfl) ?_
        exact g_iret2 C hQ hW hS ⟨_, _, rfl, rfl, (by rw [tryS_a (by unfold tryD; simp only [mcr]; grind) (by simp only [mcr]; grind)]; subst_vars; simp only [mset, mcr, upd_self]; funext k; simp only [rowu]; grind), Or.inl ⟨by rw [tryS_a (by unfold tryD; simp only [mcr]; grind) (by simp only [mcr]; grind)], rfl⟩⟩ (by decide) (Nat.zero_le _) (Nat.zero_le _) dX8_isFailed_144
    · refine lv_aload_n hx hb dX8_isFailed_34 rfl (lv_at hl 1 rfl) ?_
      refine m_getA C hm hW 14 (by decide) rfl tw_5_217 dX8_isFailed_35 ?_
      refine lv_iload_n hx hb dX8_isFailed_38 rfl (lv_at hl 2 rfl) ?_
      refine m_iald (v := (fa 14) i) (j := i) C hm hW 14 (by decide) rfl rfl (vp_in_nI (N := 4) (by omega) (by decide)) (nI_clamp (by omega)) rfl dX8_isFailed_39 ?_
      refine lv_topi (fun x32 ex32 => ?_)
      refine lv_if_le (tgt := 76) hx hb dX8_isFailed_40 (by decide) (fun c33 => ?_) (fun c33 => ?_)
      · refine lv_iconst (v := 0) hx hb dX8_isFailed_76 (by decide) ?_
        refine lv_istore_n (lv' := [(3, .int 0), (2, .int 1), (0, .ref (ad (100, 0))), (1, .int (nI i))]) hx hb dX8_isFailed_77 rfl hl (by decide) rfl (fun ls hl => ?_)
        refine lv_iload_n hx hb dX8_isFailed_78 rfl (lv_at hl 0 rfl) ?_
        refine lv_if_eq (tgt := 129) hx hb dX8_isFailed_79 (by decide) (fun _ => ?_) (fun c9 => absurd (by decide) c9)
        refine lv_aload_n hx hb dX8_isFailed_129 rfl (lv_at hl 2 rfl) ?_
        refine m_getA C hm hW 16 (by decide) rfl tw_5_219 dX8_isFailed_130 ?_
        refine lv_iload_n hx hb dX8_isFailed_133 rfl (lv_at hl 3 rfl) ?_
        refine lv_iconst (v := 0) hx hb dX8_isFailed_134 (by decide) ?_
        refine m_iast (j := i) C hm hW hS 16 (by decide) rfl rfl (vp_in_nI (N := 4) (by omega) (by decide)) (nI_clamp (by omega)) dX8_isFailed_135 (fun H locs hW hS => ?_)
        refine lv_aload_n hx hb dX8_isFailed_136 rfl (lv_at hl 2 rfl) ?_
        refine m_getA C hm hW 17 (by decide) rfl tw_5_220 dX8_isFailed_137 ?_
        refine lv_iload_n hx hb dX8_isFailed_140 rfl (lv_at hl 3 rfl) ?_
        refine lv_iconst (v := 0) hx hb dX8_isFailed_141 (by decide) ?_
        refine m_zast (j := i) C hm hW hS 17 (by decide) rfl rfl (vp_in_nI (N := 4) (by omega) (by decide)) (nI_clamp (by omega)) dX8_isFailed_142 (fun H locs hW hS => ?_)
        rw [show vp_nar .boolean 0 = 0 from rfl] at hW
        refine lv_iload_n hx hb dX8_isFailed_143 rfl (lv_at hl 0 rfl) ?_
        exact g_iret2 C hQ hW hS ⟨_, _, rfl, rfl, by rw [tryS_c (by unfold tryD; simp only [mcr]; grind)]; subst_vars; simp only [mset, mcr, upd_self]; funext k; simp only [rowu]; grind, Or.inr ⟨by rw [tryS_c (by unfold tryD; simp only [mcr]; grind)], rfl⟩⟩ (by decide) (Nat.zero_le _) (Nat.zero_le _) dX8_isFailed_144
      · refine lv_aload_n hx hb dX8_isFailed_43 rfl (lv_at hl 1 rfl) ?_
        refine m_getA C hm hW 15 (by decide) rfl tw_5_218 dX8_isFailed_44 ?_
        refine lv_iload_n hx hb dX8_isFailed_47 rfl (lv_at hl 2 rfl) ?_
        refine m_iald (v := x24) (j := i) C hm hW 15 (by decide) rfl rfl (vp_in_nI (N := 4) (by omega) (by decide)) (nI_clamp (by omega)) pk_us dX8_isFailed_48 ?_
        refine lv_aload_n hx hb dX8_isFailed_49 rfl (lv_at hl 1 rfl) ?_
        refine m_getA C hm hW 14 (by decide) rfl tw_5_217 dX8_isFailed_50 ?_
        refine lv_iload_n hx hb dX8_isFailed_53 rfl (lv_at hl 2 rfl) ?_
        refine m_iald (v := (fa 14) i) (j := i) C hm hW 14 (by decide) rfl rfl (vp_in_nI (N := 4) (by omega) (by decide)) (nI_clamp (by omega)) rfl dX8_isFailed_54 ?_
        refine lv_topi (fun x34 ex34 => ?_)
        refine lv_if_ne (tgt := 62) hx hb dX8_isFailed_55 (by decide) (fun c35 => ?_) (fun c35 => ?_)
        · refine lv_aload_n hx hb dX8_isFailed_62 rfl (lv_at hl 1 rfl) ?_
          refine m_getA C hm hW 14 (by decide) rfl tw_5_217 dX8_isFailed_63 ?_
          refine lv_iload_n hx hb dX8_isFailed_66 rfl (lv_at hl 2 rfl) ?_
          refine m_iald (v := (fa 14) i) (j := i) C hm hW 14 (by decide) rfl rfl (vp_in_nI (N := 4) (by omega) (by decide)) (nI_clamp (by omega)) rfl dX8_isFailed_67 ?_
          refine lv_topi (fun x36 ex36 => ?_)
          refine lv_irem hx hb dX8_isFailed_68 (by grind) ?_
          refine lv_topi (fun x37 ex37 => ?_)
          refine lv_if_ne (tgt := 76) hx hb dX8_isFailed_69 (by decide) (fun c38 => ?_) (fun c38 => ?_)
          · refine lv_iconst (v := 0) hx hb dX8_isFailed_76 (by decide) ?_
            refine lv_istore_n (lv' := [(3, .int 0), (2, .int 1), (0, .ref (ad (100, 0))), (1, .int (nI i))]) hx hb dX8_isFailed_77 rfl hl (by decide) rfl (fun ls hl => ?_)
            refine lv_iload_n hx hb dX8_isFailed_78 rfl (lv_at hl 0 rfl) ?_
            refine lv_if_eq (tgt := 129) hx hb dX8_isFailed_79 (by decide) (fun _ => ?_) (fun c9 => absurd (by decide) c9)
            refine lv_aload_n hx hb dX8_isFailed_129 rfl (lv_at hl 2 rfl) ?_
            refine m_getA C hm hW 16 (by decide) rfl tw_5_219 dX8_isFailed_130 ?_
            refine lv_iload_n hx hb dX8_isFailed_133 rfl (lv_at hl 3 rfl) ?_
            refine lv_iconst (v := 0) hx hb dX8_isFailed_134 (by decide) ?_
            refine m_iast (j := i) C hm hW hS 16 (by decide) rfl rfl (vp_in_nI (N := 4) (by omega) (by decide)) (nI_clamp (by omega)) dX8_isFailed_135 (fun H locs hW hS => ?_)
            refine lv_aload_n hx hb dX8_isFailed_136 rfl (lv_at hl 2 rfl) ?_
            refine m_getA C hm hW 17 (by decide) rfl tw_5_220 dX8_isFailed_137 ?_
            refine lv_iload_n hx hb dX8_isFailed_140 rfl (lv_at hl 3 rfl) ?_
            refine lv_iconst (v := 0) hx hb dX8_isFailed_141 (by decide) ?_
            refine m_zast (j := i) C hm hW hS 17 (by decide) rfl rfl (vp_in_nI (N := 4) (by omega) (by decide)) (nI_clamp (by omega)) dX8_isFailed_142 (fun H locs hW hS => ?_)
            rw [show vp_nar .boolean 0 = 0 from rfl] at hW
            refine lv_iload_n hx hb dX8_isFailed_143 rfl (lv_at hl 0 rfl) ?_
            exact g_iret2 C hQ hW hS ⟨_, _, rfl, rfl, by rw [tryS_c (by unfold tryD; simp only [mcr]; grind)]; subst_vars; simp only [mset, mcr, upd_self]; funext k; simp only [rowu]; grind, Or.inr ⟨by rw [tryS_c (by unfold tryD; simp only [mcr]; grind)], rfl⟩⟩ (by decide) (Nat.zero_le _) (Nat.zero_le _) dX8_isFailed_144
          · refine lv_iconst (v := 1) hx hb dX8_isFailed_72 (by decide) ?_
            refine lv_goto (tgt := 77) hx hb dX8_isFailed_73 (by decide) ?_
            refine lv_istore_n (lv' := [(3, .int 1), (2, .int 1), (0, .ref (ad (100, 0))), (1, .int (nI i))]) hx hb dX8_isFailed_77 rfl hl (by decide) rfl (fun ls hl => ?_)
            refine lv_iload_n hx hb dX8_isFailed_78 rfl (lv_at hl 0 rfl) ?_
            refine lv_if_eq (tgt := 129) hx hb dX8_isFailed_79 (by decide) (fun c9 => absurd c9 (by decide)) (fun _ => ?_)
            refine lv_aload_n hx hb dX8_isFailed_82 rfl (lv_at hl 2 rfl) ?_
            refine m_getA C hm hW 16 (by decide) rfl tw_5_219 dX8_isFailed_83 ?_
            refine lv_iload_n hx hb dX8_isFailed_86 rfl (lv_at hl 3 rfl) ?_
            refine lv_dup2_11 hx hb dX8_isFailed_87 rfl rfl ?_
            refine m_iald (v := (fa 16) i) (j := i) C hm hW 16 (by decide) rfl rfl (vp_in_nI (N := 4) (by omega) (by decide)) (nI_clamp (by omega)) rfl dX8_isFailed_88 ?_
            refine lv_topi (fun x39 ex39 => ?_)
            refine lv_iconst (v := 1) hx hb dX8_isFailed_89 (by decide) ?_
            refine lv_iadd hx hb dX8_isFailed_90 ?_
            refine lv_topi (fun x40 ex40 => ?_)
            refine m_iast (j := i) C hm hW hS 16 (by decide) rfl rfl (vp_in_nI (N := 4) (by omega) (by decide)) (nI_clamp (by omega)) dX8_isFailed_91 (fun H locs hW hS => ?_)
            refine lv_aload_n hx hb dX8_isFailed_92 rfl (lv_at hl 2 rfl) ?_
            refine m_getA C hm hW 16 (by decide) rfl tw_5_219 dX8_isFailed_93 ?_
            refine lv_iload_n hx hb dX8_isFailed_96 rfl (lv_at hl 3 rfl) ?_
            refine m_iald (v := x40) (j := i) C hm hW 16 (by decide) rfl rfl (vp_in_nI (N := 4) (by omega) (by decide)) (nI_clamp (by omega)) pk_us dX8_isFailed_97 ?_
            refine lv_iconst (v := 5) hx hb dX8_isFailed_98 (by decide) ?_
            refine lv_icmp_ge (tgt := 106) hx hb dX8_isFailed_99 (by decide) (fun c41 => ?_) (fun c41 => ?_)
            · refine lv_aload_n hx hb dX8_isFailed_106 rfl (lv_at hl 2 rfl) ?_
              refine m_getA C hm hW 17 (by decide) rfl tw_5_220 dX8_isFailed_107 ?_
              refine lv_iload_n hx hb dX8_isFailed_110 rfl (lv_at hl 3 rfl) ?_
              refine lv_iconst (v := 1) hx hb dX8_isFailed_111 (by decide) ?_
              refine m_zast (j := i) C hm hW hS 17 (by decide) rfl rfl (vp_in_nI (N := 4) (by omega) (by decide)) (nI_clamp (by omega)) dX8_isFailed_112 (fun H locs hW hS => ?_)
              rw [show vp_nar .boolean 1 = 1 from rfl] at hW
              refine lv_aload_n hx hb dX8_isFailed_113 rfl (lv_at hl 2 rfl) ?_
              refine m_getA C hm hW 18 (by decide) rfl tw_5_221 dX8_isFailed_114 ?_
              refine lv_iload_n hx hb dX8_isFailed_117 rfl (lv_at hl 3 rfl) ?_
              refine lv_aload_n hx hb dX8_isFailed_118 rfl (lv_at hl 2 rfl) ?_
              refine m_getI (v := fi 1) C hm hW 1 (by decide) rfl tw_5_204 rfl dX8_isFailed_119 ?_
              refine lv_bipush (v := 9) hx hb dX8_isFailed_122 (by decide) ?_
              refine lv_iadd hx hb dX8_isFailed_124 ?_
              refine lv_topi (fun x42 ex42 => ?_)
              refine m_iast (j := i) C hm hW hS 18 (by decide) rfl rfl (vp_in_nI (N := 4) (by omega) (by decide)) (nI_clamp (by omega)) dX8_isFailed_125 (fun H locs hW hS => ?_)
              refine lv_goto (tgt := 143) hx hb dX8_isFailed_126 (by decide) ?_
              refine lv_iload_n hx hb dX8_isFailed_143 rfl (lv_at hl 0 rfl) ?_
              exact g_iret2 C hQ hW hS ⟨_, _, rfl, rfl, (by rw [tryS_a (by unfold tryD; simp only [mcr]; grind) (by simp only [mcr]; grind)]; subst_vars; simp only [mset, mcr, upd_self]; funext k; simp only [rowu]; grind), Or.inl ⟨by rw [tryS_a (by unfold tryD; simp only [mcr]; grind) (by simp only [mcr]; grind)], rfl⟩⟩ (by decide) (Nat.zero_le _) (Nat.zero_le _) dX8_isFailed_144
            · refine lv_iload_n hx hb dX8_isFailed_102 rfl (lv_at hl 1 rfl) ?_
              refine lv_if_eq (tgt := 143) hx hb dX8_isFailed_103 (by decide) (fun c9 => absurd c9 (by decide)) (fun _ => ?_)
              refine lv_aload_n hx hb dX8_isFailed_106 rfl (lv_at hl 2 rfl) ?_
              refine m_getA C hm hW 17 (by decide) rfl tw_5_220 dX8_isFailed_107 ?_
              refine lv_iload_n hx hb dX8_isFailed_110 rfl (lv_at hl 3 rfl) ?_
              refine lv_iconst (v := 1) hx hb dX8_isFailed_111 (by decide) ?_
              refine m_zast (j := i) C hm hW hS 17 (by decide) rfl rfl (vp_in_nI (N := 4) (by omega) (by decide)) (nI_clamp (by omega)) dX8_isFailed_112 (fun H locs hW hS => ?_)
              rw [show vp_nar .boolean 1 = 1 from rfl] at hW
              refine lv_aload_n hx hb dX8_isFailed_113 rfl (lv_at hl 2 rfl) ?_
              refine m_getA C hm hW 18 (by decide) rfl tw_5_221 dX8_isFailed_114 ?_
              refine lv_iload_n hx hb dX8_isFailed_117 rfl (lv_at hl 3 rfl) ?_
              refine lv_aload_n hx hb dX8_isFailed_118 rfl (lv_at hl 2 rfl) ?_
              refine m_getI (v := fi 1) C hm hW 1 (by decide) rfl tw_5_204 rfl dX8_isFailed_119 ?_
              refine lv_bipush (v := 9) hx hb dX8_isFailed_122 (by decide) ?_
              refine lv_iadd hx hb dX8_isFailed_124 ?_
              refine lv_topi (fun x43 ex43 => ?_)
              refine m_iast (j := i) C hm hW hS 18 (by decide) rfl rfl (vp_in_nI (N := 4) (by omega) (by decide)) (nI_clamp (by omega)) dX8_isFailed_125 (fun H locs hW hS => ?_)
              refine lv_goto (tgt := 143) hx hb dX8_isFailed_126 (by decide) ?_
              refine lv_iload_n hx hb dX8_isFailed_143 rfl (lv_at hl 0 rfl) ?_
              exact g_iret2 C hQ hW hS ⟨_, _, rfl, rfl, (by rw [tryS_a (by unfold tryD; simp only [mcr]; grind) (by simp only [mcr]; grind)]; subst_vars; simp only [mset, mcr, upd_self]; funext k; simp only [rowu]; grind), Or.inl ⟨by rw [tryS_a (by unfold tryD; simp only [mcr]; grind) (by simp only [mcr]; grind)], rfl⟩⟩ (by decide) (Nat.zero_le _) (Nat.zero_le _) dX8_isFailed_144
        · exfalso
          grind

