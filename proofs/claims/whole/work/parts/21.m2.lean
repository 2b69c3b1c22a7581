set_option maxHeartbeats 4000000 in
set_option maxRecDepth 100000 in
theorem c_X8_number (l : Launch) (X : GX) (L : List ro) (ad : ro → Nat) (st0 : ro → va_E) (fi : Nat → Int32) (fa : Nat → Nat → Int32) (hm : mL L) (a b most : Nat) (hab : a ≤ b) (hb : b ≤ 60) (hmo : most ≤ 60) : mM l yX8_number cX8_number 7 (some .int) 1 22 X [.int (nI a), .int (nI b), .int (nI most)] L ad st0 fi fa (fun v fi' fa' => fi' = fi ∧ fa' = fa ∧ v = rd_nm (fa 2) a b most) := by
  intro sz
  refine gM_of2 (Qc := fun A => va_Qi _ (gB X A) A) (by decide) (Nat.le_of_ble_eq_true rfl) ?_ sz
  intro p e s m args below meth c A R Q hR hQ C hW hS ls hl
  obtain ⟨hR1, hR2, hR3, hR4⟩ := hR
  have hx := C.1.1
  have hb := C.1.2.1
  have hml := C.1.2.2.1
  have hl : lv_has ls 7 [(0, .ref (ad (100, 0))), (1, .int (nI a)), (2, .int (nI b)), (3, .int (nI most))] := hl
  have loop : ∀ (f : Nat) (k : Nat) (its : Int32) (is : Int32), (b - k < f) → (a ≤ k ∧ k ≤ b) → ((is = 1 ∧ rd_nm (fa 2) a b most = rd_num (fa 2) (b - k) k its) ∨ (is = 0 ∧ rd_nm (fa 2) a b most = -1)) → ∀ (H : Heap) (locs : List Loc), gW X A L ad (mSt X ad st0 fi fa) s H → va_S A s.heap H locs → ∀ ls : Array Slot, lv_has ls 7 [(0, .ref (ad (100, 0))), (1, .int (nI a)), (2, .int (nI b)), (3, .int (nI most)), (4, .int its), (5, .int is), (6, .int (nI k))] → W p l e R s m args below meth c H locs 0 0 Q (F0 m 25 ls []) := by
    intro f
    induction f with
    | zero =>
      intro k its is hf9
      exact absurd hf9 (Nat.not_lt_zero _)
    | succ f ih =>
      intro k its is hf hk his H locs hW hS ls hl
      rcases his with ⟨his, hF⟩ | ⟨his, hF⟩
      · subst his
        refine lv_iload hx hb dX8_number_25 (lv_at hl 6 rfl) ?_
        refine lv_iload_n hx hb dX8_number_27 rfl (lv_at hl 2 rfl) ?_
        refine lv_icmp_ge (tgt := 76) hx hb dX8_number_28 (by decide) (fun c1 => ?_) (fun c1 => ?_)
        · have c1n := q_le (a := b) (b := k) (by omega) (by omega) c1
          refine lv_iload hx hb dX8_number_76 (lv_at hl 5 rfl) ?_
          refine lv_if_eq (tgt := 86) hx hb dX8_number_78 (by decide) (fun c9 => absurd c9 (by decide)) (fun _ => ?_)
          refine lv_iload hx hb dX8_number_81 (lv_at hl 4 rfl) ?_
          refine lv_goto (tgt := 87) hx hb dX8_number_83 (by decide) ?_
          exact g_iret2 C hQ hW hS ⟨_, _, rfl, rfl, rfl, by rw [hF, rd_done (by omega)]⟩ rfl (Nat.zero_le _) (Nat.zero_le _) dX8_number_87
        · have c1n := q_nle (a := b) (b := k) (by omega) (by omega) c1
          refine lv_iload hx hb dX8_number_31 (lv_at hl 5 rfl) ?_
          refine lv_if_eq (tgt := 76) hx hb dX8_number_33 (by decide) (fun c9 => absurd c9 (by decide)) (fun _ => ?_)
          refine lv_aload_n hx hb dX8_number_36 rfl (lv_at hl 0 rfl) ?_
          refine m_getA C hm hW 2 (by decide) rfl tw_5_205 dX8_number_37 ?_
          refine lv_iload hx hb dX8_number_40 (lv_at hl 6 rfl) ?_
          refine m_cald (v := (fa 2) k) C hm hW 2 (by decide) rfl rfl (vp_in_nI (N := 60) (by omega) (by decide)) (nI_clamp (by omega)) rfl dX8_number_42 ?_
          refine lv_topi (fun x2 ex2 => ?_)
          refine lv_bipush (v := 48) hx hb dX8_number_43 (by decide) ?_
          refine lv_bipush (v := 57) hx hb dX8_number_45 (by decide) ?_
          refine g_callSp (k2 := 3) (As := [.int x2, .int 48, .int 57]) (rest := []) C (c_X8_isIn l X L ad _ x2 48 57) tw_6_113 tw_6_114 tw_1_10 tw_6_115 (by decide +kernel) ⟨by rw [hR1]; exact Nat.le_of_ble_eq_true rfl, by rw [hR2]; exact Nat.le_of_ble_eq_true rfl⟩ hW hS rfl hl.1 rfl (Nat.le_of_ble_eq_true rfl) dX8_number_47 ⟨Nat.zero_le _, Nat.zero_le _⟩ (fun v9 H locs hp hW hS => ?_)
          have h3 := hp
          rcases h3 with ⟨h3, e9⟩ | ⟨h3, e9⟩
          · subst e9
            refine lv_istore (lv' := [(5, .int 1), (0, .ref (ad (100, 0))), (1, .int (nI a)), (2, .int (nI b)), (3, .int (nI most)), (4, .int its), (6, .int (nI k))]) hx hb dX8_number_50 hl (by decide) rfl (fun ls hl => ?_)
            refine lv_bipush (v := 10) hx hb dX8_number_52 (by decide) ?_
            refine lv_iload hx hb dX8_number_54 (lv_at hl 5 rfl) ?_
            refine lv_imul hx hb dX8_number_56 ?_
            refine lv_topi (fun x4 ex4 => ?_)
            refine lv_aload_n hx hb dX8_number_57 rfl (lv_at hl 1 rfl) ?_
            refine m_getA C hm hW 2 (by decide) rfl tw_5_205 dX8_number_58 ?_
            refine lv_iload hx hb dX8_number_61 (lv_at hl 6 rfl) ?_
            refine m_cald (v := (fa 2) k) C hm hW 2 (by decide) rfl rfl (vp_in_nI (N := 60) (by omega) (by decide)) (nI_clamp (by omega)) rfl dX8_number_63 ?_
            refine lv_topi (fun x5 ex5 => ?_)
            refine lv_iadd hx hb dX8_number_64 ?_
            refine lv_topi (fun x6 ex6 => ?_)
            refine lv_bipush (v := 48) hx hb dX8_number_65 (by decide) ?_
            refine lv_isub hx hb dX8_number_67 ?_
            refine lv_topi (fun x7 ex7 => ?_)
            refine lv_istore (lv' := [(4, .int x7), (5, .int 1), (0, .ref (ad (100, 0))), (1, .int (nI a)), (2, .int (nI b)), (3, .int (nI most)), (6, .int (nI k))]) hx hb dX8_number_68 hl (by decide) rfl (fun ls hl => ?_)
            refine lv_iinc (v := nI (k + 1)) (lv' := [(6, .int (nI (k + 1))), (4, .int x7), (5, .int 1), (0, .ref (ad (100, 0))), (1, .int (nI a)), (2, .int (nI b)), (3, .int (nI most))]) hx hb dX8_number_70 hl (k := 6) rfl (nI_1 k) (by decide) rfl (fun ls hl => ?_)
            refine lv_goto (tgt := 25) hx hb dX8_number_73 (by decide) ?_
            exact ih (k + 1) x7 1 (by omega) (by omega) (by rw [rd_step (by omega)] at hF; grind) _ _ hW hS _ (lv_sub hl [3, 4, 5, 6, 1, 2, 0] rfl)
          · subst e9
            refine lv_istore (lv' := [(5, .int 0), (0, .ref (ad (100, 0))), (1, .int (nI a)), (2, .int (nI b)), (3, .int (nI most)), (4, .int its), (6, .int (nI k))]) hx hb dX8_number_50 hl (by decide) rfl (fun ls hl => ?_)
            refine lv_bipush (v := 10) hx hb dX8_number_52 (by decide) ?_
            refine lv_iload hx hb dX8_number_54 (lv_at hl 5 rfl) ?_
            refine lv_imul hx hb dX8_number_56 ?_
            refine lv_topi (fun x9 ex9 => ?_)
            refine lv_aload_n hx hb dX8_number_57 rfl (lv_at hl 1 rfl) ?_
            refine m_getA C hm hW 2 (by decide) rfl tw_5_205 dX8_number_58 ?_
            refine lv_iload hx hb dX8_number_61 (lv_at hl 6 rfl) ?_
            refine m_cald (v := (fa 2) k) C hm hW 2 (by decide) rfl rfl (vp_in_nI (N := 60) (by omega) (by decide)) (nI_clamp (by omega)) rfl dX8_number_63 ?_
            refine lv_topi (fun x10 ex10 => ?_)
            refine lv_iadd hx hb dX8_number_64 ?_
            refine lv_topi (fun x11 ex11 => ?_)
            refine lv_bipush (v := 48) hx hb dX8_number_65 (by decide) ?_
            refine lv_isub hx hb dX8_number_67 ?_
            refine lv_topi (fun x12 ex12 => ?_)
            refine lv_istore (lv' := [(4, .int x12), (5, .int 0), (0, .ref (ad (100, 0))), (1, .int (nI a)), (2, .int (nI b)), (3, .int (nI most)), (6, .int (nI k))]) hx hb dX8_number_68 hl (by decide) rfl (fun ls hl => ?_)
            refine lv_iinc (v := nI (k + 1)) (lv' := [(6, .int (nI (k + 1))), (4, .int x12), (5, .int 0), (0, .ref (ad (100, 0))), (1, .int (nI a)), (2, .int (nI b)), (3, .int (nI most))]) hx hb dX8_number_70 hl (k := 6) rfl (nI_1 k) (by decide) rfl (fun ls hl => ?_)
            refine lv_goto (tgt := 25) hx hb dX8_number_73 (by decide) ?_
            exact ih (k + 1) x12 0 (by omega) (by omega) (by rw [rd_step (by omega)] at hF; grind) _ _ hW hS _ (lv_sub hl [3, 4, 5, 6, 1, 2, 0] rfl)
      · subst his
        refine lv_iload hx hb dX8_number_25 (lv_at hl 6 rfl) ?_
        refine lv_iload_n hx hb dX8_number_27 rfl (lv_at hl 2 rfl) ?_
        refine lv_icmp_ge (tgt := 76) hx hb dX8_number_28 (by decide) (fun c14 => ?_) (fun c14 => ?_)
        · have c14n := q_le (a := b) (b := k) (by omega) (by omega) c14
          refine lv_iload hx hb dX8_number_76 (lv_at hl 5 rfl) ?_
          refine lv_if_eq (tgt := 86) hx hb dX8_number_78 (by decide) (fun _ => ?_) (fun c9 => absurd (by decide) c9)
          refine lv_iconst (v := (-1)) hx hb dX8_number_86 (by decide) ?_
          exact g_iret2 C hQ hW hS ⟨_, _, rfl, rfl, rfl, hF.symm⟩ rfl (Nat.zero_le _) (Nat.zero_le _) dX8_number_87
        · have c14n := q_nle (a := b) (b := k) (by omega) (by omega) c14
          refine lv_iload hx hb dX8_number_31 (lv_at hl 5 rfl) ?_
          refine lv_if_eq (tgt := 76) hx hb dX8_number_33 (by decide) (fun _ => ?_) (fun c9 => absurd (by decide) c9)
          refine lv_iload hx hb dX8_number_76 (lv_at hl 5 rfl) ?_
          refine lv_if_eq (tgt := 86) hx hb dX8_number_78 (by decide) (fun _ => ?_) (fun c9 => absurd (by decide) c9)
          refine lv_iconst (v := (-1)) hx hb dX8_number_86 (by decide) ?_
          exact g_iret2 C hQ hW hS ⟨_, _, rfl, rfl, rfl, hF.symm⟩ rfl (Nat.zero_le _) (Nat.zero_le _) dX8_number_87
  refine lv_iconst (v := 0) hx hb dX8_number_0 (by decide) ?_
  refine lv_istore (lv' := [(4, .int 0), (0, .ref (ad (100, 0))), (1, .int (nI a)), (2, .int (nI b)), (3, .int (nI most))]) hx hb dX8_number_1 hl (by decide) rfl (fun ls hl => ?_)
  refine lv_iload_n hx hb dX8_number_3 rfl (lv_at hl 3 rfl) ?_
  refine lv_iload_n hx hb dX8_number_4 rfl (lv_at hl 2 rfl) ?_
  refine lv_icmp_le (tgt := 19) hx hb dX8_number_5 (by decide) (fun c15 => ?_) (fun c15 => ?_)
  · have c15n := q_le (a := b) (b := a) (by omega) (by omega) c15
    refine lv_iconst (v := 0) hx hb dX8_number_19 (by decide) ?_
    refine lv_istore (lv' := [(5, .int 0), (4, .int 0), (0, .ref (ad (100, 0))), (1, .int (nI a)), (2, .int (nI b)), (3, .int (nI most))]) hx hb dX8_number_20 hl (by decide) rfl (fun ls hl => ?_)
    refine lv_iload_n hx hb dX8_number_22 rfl (lv_at hl 3 rfl) ?_
    refine lv_istore (lv' := [(6, .int (nI a)), (5, .int 0), (4, .int 0), (0, .ref (ad (100, 0))), (1, .int (nI a)), (2, .int (nI b)), (3, .int (nI most))]) hx hb dX8_number_23 hl (by decide) rfl (fun ls hl => ?_)
    exact loop _ a 0 0 (Nat.lt_succ_self _) (⟨Nat.le_refl _, hab⟩) (by unfold rd_nm; grind) _ _ hW hS _ (lv_sub hl [3, 4, 5, 6, 2, 1, 0] rfl)
  · have c15n := q_nle (a := b) (b := a) (by omega) (by omega) c15
    refine lv_iload_n hx hb dX8_number_8 rfl (lv_at hl 3 rfl) ?_
    refine lv_iload_n hx hb dX8_number_9 rfl (lv_at hl 2 rfl) ?_
    refine lv_isub hx hb dX8_number_10 ?_
    refine lv_topE (y := nI (b - a)) (pk_sub (by omega)) ?_
    refine lv_iload_n hx hb dX8_number_11 rfl (lv_at hl 4 rfl) ?_
    refine lv_icmp_gt (tgt := 19) hx hb dX8_number_12 (by decide) (fun c16 => ?_) (fun c16 => ?_)
    · have c16n := q_lt (a := most) (b := (b - a)) (by omega) (by omega) c16
      refine lv_iconst (v := 0) hx hb dX8_number_19 (by decide) ?_
      refine lv_istore (lv' := [(5, .int 0), (4, .int 0), (0, .ref (ad (100, 0))), (1, .int (nI a)), (2, .int (nI b)), (3, .int (nI most))]) hx hb dX8_number_20 hl (by decide) rfl (fun ls hl => ?_)
      refine lv_iload_n hx hb dX8_number_22 rfl (lv_at hl 3 rfl) ?_
      refine lv_istore (lv' := [(6, .int (nI a)), (5, .int 0), (4, .int 0), (0, .ref (ad (100, 0))), (1, .int (nI a)), (2, .int (nI b)), (3, .int (nI most))]) hx hb dX8_number_23 hl (by decide) rfl (fun ls hl => ?_)
      exact loop _ a 0 0 (Nat.lt_succ_self _) (⟨Nat.le_refl _, hab⟩) (by unfold rd_nm; grind) _ _ hW hS _ (lv_sub hl [3, 4, 5, 6, 2, 1, 0] rfl)
    · have c16n := q_nlt (a := most) (b := (b - a)) (by omega) (by omega) c16
      refine lv_iconst (v := 1) hx hb dX8_number_15 (by decide) ?_
      refine lv_goto (tgt := 20) hx hb dX8_number_16 (by decide) ?_
      refine lv_istore (lv' := [(5, .int 1), (4, .int 0), (0, .ref (ad (100, 0))), (1, .int (nI a)), (2, .int (nI b)), (3, .int (nI most))]) hx hb dX8_number_20 hl (by decide) rfl (fun ls hl => ?_)
      refine lv_iload_n hx hb dX8_number_22 rfl (lv_at hl 3 rfl) ?_
      refine lv_istore (lv' := [(6, .int (nI a)), (5, .int 1), (4, .int 0), (0, .ref (ad (100, 0))), (1, .int (nI a)), (2, .int (nI b)), (3, .int (nI most))]) hx hb dX8_number_23 hl (by decide) rfl (fun ls hl => ?_)
      exact loop _ a 0 1 (Nat.lt_succ_self _) (⟨Nat.le_refl _, hab⟩) (by unfold rd_nm; grind) _ _ hW hS _ (lv_sub hl [3, 4, 5, 6, 2, 1, 0] rfl)

