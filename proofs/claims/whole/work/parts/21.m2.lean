set_option maxHeartbeats 4000000 in
set_option maxRecDepth 100000 in
theorem c_X8_number (l : Launch) (X : GX) (L : List ro) (ad : ro → Nat) (st0 : ro → va_E) (fi : Nat → Int32) (fa : Nat → Nat → Int32) (hm : mL L) (a b most : Nat) (hab : a ≤ b) (hb : b ≤ 60) (hmo : most ≤ 60) : mM l yX8_number cX8_number 7 (some .int) 1 22 X [.int (nI a), .int (nI b), .int (nI most)] L ad st0 fi fa (fun v fi' fa' => fi' = fi ∧ fa' = fa ∧ v = rd_nm (fa 2) a b most) := by
  intro sz
  refine gM_of2 (Qc := fun A => va_Qi _ (gB X A) A) (by decide) (Nat.le_of_ble_eq_true rfl) ?_ sz
  intro p e s m args below meth c A R Q hR hQ C hW hS ls hl
  obtain ⟨hR1, hR2, hR3, hR4⟩ := hR
  have hx := C.1.1
  have hb := C.1.2.1
  have hml := C.1.2.2.1
  have hl : lv_has ls 7 [(0, .ref (ad (100, 0))), (1, .int (nI a)), (2, .int (nI b)), (3, .int (nI most))] := hl
  have loop : ∀ (f : Nat) (k : Nat) (its : Int32) (is : Int32), (b - k < f) → (a ≤ k ∧ k ≤ b) → ((is = 1 ∧ rd_nm (fa 2) a b most = rd_num (fa 2) (b - k) k its) ∨ (is = 0 ∧ rd_nm (fa 2) a b most = -1)) → ∀ (H : Heap) (locs : List Loc), gW X A L ad (mSt X ad st0 fi fa) s H → va_S A s.heap H locs → ∀ ls : Array Slot, lv_has ls 7 [(0, .ref (ad (100, 0))), (1, .int (nI a)), (2, .int (nI b)), (3, .int (nI most)), (4, .int its), (5, .int is), (6, .int (nI k))] → W p l e R s m args below meth c H locs 0 0 Q (F0 m 25 ls []) := by
    intro f
    induction f with
    | zero =>
      intro k its is hf9
      exact absurd hf9 (Nat.not_lt_zero _)
    | succ f ih =>
      intro k its is hf hk his H locs hW hS ls hl
      rcases his with ⟨his, hF⟩ | ⟨his, hF⟩
      · subst his
        refine lv_iload hx hb dX8_number_25 (lv_at hl 6 rfl) ?_
        refine lv_iload_n hx hb dX8_number_27 rfl (lv_at hl 2 rfl) ?_
        refine lv_icmp_ge (tgt := 76) hx hb dX8_number_28 (by decide) (fun c1 => ?_) (fun c1 => ?_)
        · have c1n := q_le (a := b) (b := k) (by omega) (by omega) c1
          refine lv_iload hx hb dX8_number_76 (lv_at hl 5 rfl) ?_
          refine lv_if_eq (tgt := 86) hx hb dX8_number_78 (by decide) (fun c9 => absurd c9 (by decide)) (fun _ => ?_)
          refine lv_iload hx hb dX8_number_81 (lv_at hl 4 rfl) ?_
          refine lv_goto (tgt := 87) hx hb dX8_number_83 (by decide) ?_
          exact g_iret2 C hQ hW hS ⟨_, _, rfl, rfl, rfl, by rw [hF, rd_done (by omega)]⟩ rfl (Nat.zero_le _) (Nat.zero_le _) dX8_number_87
        · have c1n := q_nle (a := b) (b := k) (by omega) (by omega) c1
          refine lv_iload hx hb dX8_number_31 (lv_at hl 5 rfl) ?_
          refine lv_if_eq (tgt := 76) hx hb dX8_number_33 (by decide) (fun c9 => absurd c9 (by decide)) (fun _ => ?_)
          refine lv_aload_n hx hb dX8_number_36 rfl (lv_at hl 0 rfl) ?_
          refine m_getA C hm hW 2 (by decide) rfl tw_5_205 dX8_number_37 ?_
          refine lv_iload hx hb dX8_number_40 (lv_at hl 6 rfl) ?_
          refine m_cald (v := (fa 2) k) (j := k) C hm hW 2 (by decide) rfl rfl (vp_in_nI (N := 60) (by omega) (by decide)) (nI_clamp (by omega)) rfl dX8_number_42 ?_
          refine lv_topi (fun x2 ex2 => ?_)
          refine lv_bipush (v := 48) hx hb dX8_number_43 (by decide) ?_
          refine lv_bipush (v := 57) hx hb dX8_number_45 (by decide) ?_
          refine g_callSp (k2 := 3) (As := [.int x2, .int 48, .int 57]) (rest := []) C (c_X8_isIn l X L ad _ x2 48 57) tw_6_113 tw_6_114 tw_1_10 tw_6_115 (by decide +kernel) ⟨by rw [hR1]; exact Nat.le_of_ble_eq_true rfl, by rw [hR2]; exact Nat.le_of_ble_eq_true rfl⟩ hW hS rfl hl.1 rfl (Nat.le_of_ble_eq_true rfl) dX8_number_47 ⟨Nat.zero_le _, Nat.zero_le _⟩ (fun v9 H locs hp hW hS => ?_)
          have h3 := hp
          rcases h3 with ⟨h3, e9⟩ | ⟨h3, e9⟩
          · subst e9
            refine lv_istore (lv' := [(5, .int 1), (0, .ref (ad (100, 0))), (1, .int (nI a)), (2, .int (nI b)), (3, .int (nI most)), (4, .int its), (6, .int (nI k))]) hx hb dX8_number_50 hl (by decide) rfl (fun ls hl => ?_)
            refine lv_bipush (v := 10) hx hb dX8_number_52 (by decide) ?_
            refine lv_iload hx hb dX8_number_54 (lv_at hl 5 rfl) ?_
            refine lv_imul hx hb dX8_number_56 ?_
            refine lv_topi (fun x4 ex4 => ?_)
            refine lv_aload_n hx hb dX8_number_57 rfl (lv_at hl 1 rfl) ?_
            refine m_getA C hm hW 2 (by decide) rfl tw_5_205 dX8_number_58 ?_
            refine lv_iload hx hb dX8_number_61 (lv_at hl 6 rfl) ?_
            refine m_cald (v := (fa 2) k) (j := k) C hm hW 2 (by decide) rfl rfl (vp_in_nI (N := 60) (by omega) (by decide)) (nI_clamp (by omega)) rfl dX8_number_63 ?_
            refine lv_topi (fun x5 ex5 => ?_)
            refine lv_iadd hx hb dX8_number_64 ?_
            refine lv_topi (fun x6 ex6 => ?_)
            refine lv_bipush (v := 48) hx hb dX8_number_65 (by decide) ?_
            refine lv_isub hx hb dX8_number_67 ?_
            refine lv_topi (fun x7 ex7 => ?_)
            refine lv_istore (lv' := [(4, .int x7), (5, .int 1), (0, .ref (ad (100, 0))), (1, .int (nI a)), (2, .int (nI b)), (3, .int (nI most)), (6, .int (nI k))]) hx hb dX8_number_68 hl (by decide) rfl (fun ls hl => ?_)
            refine lv_iinc (v := nI (k + 1)) (lv' := [(6, .int (nI (k + 1))), (4, .int x7), (5, .int 1), (0, .ref (ad (100, 0))), (1, .int (nI a)), (2, .int (nI b)), (3, .int (nI most))]) hx hb dX8_number_70 hl (k := 6) rfl (nI_1 k) (by decide) rfl (fun ls hl => ?_)
            refine lv_goto (tgt := 25) hx hb dX8_number_73 (by decide) ?_
            exact ih (k + 1) x7 1 (by omega) (by omega) (by rw [rd_step (by omega)] at hF; grind) _ _ hW hS _ (lv_sub hl [3, 4, 5, 6, 1, 2, 0] rfl)
          · subst e9
            refine lv_istore (lv' := [(5, .int 0), (0, .ref (ad (100, 0))), (1, .int (nI a)), (2, .int (nI b)), (3, .int (nI most)), (4, .int its), (6, .int (nI k))]) hx hb dX8_number_50 hl (by decide) rfl (fun ls hl => ?_)
            refine lv_bipush (v := 10) hx hb dX8_number_52 (by decide) ?_
            refine lv_iload hx hb dX8_number_54 (lv_at hl 5 rfl) ?_
            refine lv_imul hx hb dX8_number_56 ?_
            refine lv_topi (fun x9 ex9 => ?_)
            refine lv_aload_n hx hb dX8_number_57 rfl (lv_at hl 1 rfl) ?_
            refine m_getA C hm hW 2 (by decide) rfl tw_5_205 dX8_number_58 ?_
            refine lv_iload hx hb dX8_number_61 (lv_at hl 6 rfl) ?_
            refine m_cald (v := (fa 2) k) (j := k) C hm hW 2 (by decide) rfl rfl (vp_in_nI (N := 60) (by omega) (by decide)) (nI_clamp (by omega)) rfl dX8_number_63 ?_
            refine lv_topi (fun x10 ex10 => ?_)
            refine lv_iadd hx hb dX8_number_64 ?_
            refine lv_topi (fun x11 ex11 => ?_)
            refine lv_bipush (v := 48) hx hb dX8_number_65 (by decide) ?_
            refine lv_isub hx hb dX8_number_67 ?_
            refine lv_topi (fun x12 ex12 => ?_)
            refine lv_istore (lv' := [(4, .int x12), (5, .int 0), (0, .ref (ad (100, 0))), (1, .int (nI a)), (2, .int (nI b)), (3, .int (nI most)), (6, .int (nI k))]) hx hb dX8_number_68 hl (by decide) rfl (fun ls hl => ?_)
            refine lv_iinc (v := nI (k + 1)) (lv' := [(6, .int (nI (k + 1))), (4, .int x12), (5, .int 0), (0, .ref (ad (100, 0))), (1, .int (nI a)), (2, .int (nI b)), (3, .int (nI most))]) hx hb dX8_number_70 hl (k := 6) rfl (nI_1 k) (by decide) rfl (fun ls hl => ?_)
            refine lv_goto (tgt := 25) hx hb dX8_number_73 (by decide) ?_
            exact ih (k + 1) x12 0 (by omega) (by omega) (by rw [rd_step (by omega)] at hF; grind) _ _ hW hS _ (lv_sub hl [3, 4, 5, 6, 1, 2, 0] rfl)
      · subst his
        refine lv_iload hx hb dX8_number_25 (lv_at hl 6 rfl) ?_
        refine lv_iload_n hx hb dX8_number_27 rfl (lv_at hl 2 rfl) ?_
        refine lv_icmp_ge (tgt := 76) hx hb dX8_number_28 (by decide) (fun c14 => ?_) (fun c14 => ?_)
        · have c14n := q_le (a := b) (b := k) (by omega) (by omega) c14
          refine lv_iload hx hb dX8_number_76 (lv_at hl 5 rfl) ?_
          refine lv_if_eq (tgt := 86) hx hb dX8_number_78 (by decide) (fun _ => ?_) (fun c9 => absurd (by decide) c9)
          refine lv_iconst (v := (-1)) hx hb dX8_number_86 (by decide) ?_
          exact g_iret2 C hQ hW hS ⟨_, _, rfl, rfl, rfl, hF.symm⟩ rfl (Nat.zero_le _) (Nat.zero_le _) dX8_number_87
        · have c14n := q_nle (a := b) (b := k) (by omega) (by omega) c14
          refine lv_iload hx hb dX8_number_31 (lv_at hl 5 rfl) ?_
          refine lv_if_eq (tgt := 76) hx hb dX8_number_33 (by decide) (fun _ => ?_) (fun c9 => absurd (by decide) c9)
          refine lv_iload hx hb dX8_number_76 (lv_at hl 5 rfl) ?_
          refine lv_if_eq (tgt := 86) hx hb dX8_number_78 (by decide) (fun _ => ?_) (fun c9 => absurd (by decide) c9)
          refine lv_iconst (v := (-1)) hx hb dX8_number_86 (by decide) ?_
          exact g_iret2 C hQ hW hS ⟨_, _, rfl, rfl, rfl, hF.symm⟩ rfl (Nat.zero_le _) (Nat.zero_le _) dX8_number_87
  refine lv_iconst (v := 0) hx hb dX8_number_0 (by decide) ?_
  refine lv_istore (lv' := [(4, .int 0), (0, .ref (ad (100, 0))), (1, .int (nI a)), (2, .int (nI b)), (3, .int (nI most))]) hx hb dX8_number_1 hl (by decide) rfl (fun ls hl => ?_)
  refine lv_iload_n hx hb dX8_number_3 rfl (lv_at hl 3 rfl) ?_
  refine lv_iload_n hx hb dX8_number_4 rfl (lv_at hl 2 rfl) ?_
  refine lv_icmp_le (tgt := 19) hx hb dX8_number_5 (by decide) (fun c15 => ?_) (fun c15 => ?_)
  · have c15n := q_le (a := b) (b := a) (by omega) (by omega) c15
    refine lv_iconst (v := 0) hx hb dX8_number_19 (by decide) ?_
    refine lv_istore (lv' := [(5, .int 0), (4, .int 0), (0, .ref (ad (100, 0))), (1, .int (nI a)), (2, .int (nI b)), (3, .int (nI most))]) hx hb dX8_number_20 hl (by decide) rfl (fun ls hl => ?_)
    refine lv_iload_n hx hb dX8_number_22 rfl (lv_at hl 3 rfl) ?_
    refine lv_istore (lv' := [(6, .int (nI a)), (5, .int 0), (4, .int 0), (0, .ref (ad (100, 0))), (1, .int (nI a)), (2, .int (nI b)), (3, .int (nI most))]) hx hb dX8_number_23 hl (by decide) rfl (fun ls hl => ?_)
    exact loop _ a 0 0 (Nat.lt_succ_self _) (⟨Nat.le_refl _, hab⟩) (by unfold rd_nm; grind) _ _ hW hS _ (lv_sub hl [3, 4, 5, 6, 2, 1, 0] rfl)
  · have c15n := q_nle (a := b) (b := a) (by omega) (by omega) c15
    refine lv_iload_n hx hb dX8_number_8 rfl (lv_at hl 3 rfl) ?_
    refine lv_iload_n hx hb dX8_number_9 rfl (lv_at hl 2 rfl) ?_
    refine lv_isub hx hb dX8_number_10 ?_
    refine lv_topE (y := nI (b - a)) (pk_sub (by omega)) ?_
    refine lv_iload_n hx hb dX8_number_11 rfl (lv_at hl 4 rfl) ?_
    refine lv_icmp_gt (tgt := 19) hx hb dX8_number_12 (by decide) (fun c16 => ?_) (fun c16 => ?_)
    · have c16n := q_lt (a := most) (b := (b - a)) (by omega) (by omega) c16
      refine lv_iconst (v := 0) hx hb dX8_number_19 (by decide) ?_
      refine lv_istore (lv' := [(5, .int 0), (4, .int 0), (0, .ref (ad (100, 0))), (1, .int (nI a)), (2, .int (nI b)), (3, .int (nI most))]) hx hb dX8_number_20 hl (by decide) rfl (fun ls hl => ?_)
      refine lv_iload_n hx hb dX8_number_22 rfl (lv_at hl 3 rfl) ?_
      refine lv_istore (lv' := [(6, .int (nI a)), (5, .int 0), (4, .int 0), (0, .ref (ad (100, 0))), (1, .int (nI a)), (2, .int (nI b)), (3, .int (nI most))]) hx hb dX8_number_23 hl (by decide) rfl (fun ls hl => ?_)
      exact loop _ a 0 0 (Nat.lt_succ_self _) (⟨Nat.le_refl _, hab⟩) (by unfold rd_nm; grind) _ _ hW hS _ (lv_sub hl [3, 4, 5, 6, 2, 1, 0] rfl)
    · have c16n := q_nlt (a := most) (b := (b - a)) (by omega) (by omega) c16
      refine lv_iconst (v := 1) hx hb dX8_number_15 (by decide) ?_
      refine lv_goto (tgt := 20) hx hb dX8_number_16 (by decide) ?_
      refine lv_istore (lv' := [(5, .int 1), (4, .int 0), (0, .ref (ad (100, 0))), (1, .int (nI a)), (2, .int (nI b)), (3, .int (nI most))]) hx hb dX8_number_20 hl (by decide) rfl (fun ls hl => ?_)
      refine lv_iload_n hx hb dX8_number_22 rfl (lv_at hl 3 rfl) ?_
      refine lv_istore (lv' := [(6, .int (nI a)), (5, .int 1), (4, .int 0), (0, .ref (ad (100, 0))), (1, .int (nI a)), (2, .int (nI b)), (3, .int (nI most))]) hx hb dX8_number_23 hl (by decide) rfl (fun ls hl => ?_)
      exact loop _ a 0 1 (Nat.lt_succ_self _) (⟨Nat.le_refl _, hab⟩) (by unfold rd_nm; grind) _ _ hW hS _ (lv_sub hl [3, 4, 5, 6, 2, 1, 0] rfl)

set_option maxHeartbeats 4000000 in
set_option maxRecDepth 100000 in
theorem c_X8_keyOf (l : Launch) (X : GX) (L : List ro) (ad : ro → Nat) (st0 : ro → va_E) (fi : Nat → Int32) (fa : Nat → Nat → Int32) (hm : mL L) (a b : Nat) (hab : a ≤ b) (hb : b ≤ 60) (h4 : ∀ k, k < 6 → fa 4 k = keyc k) : mM l yX8_keyOf cX8_keyOf 5 (some .int) 0 0 X [.int (nI a), .int (nI b)] L ad st0 fi fa (fun v fi' fa' => fi' = fi ∧ fa' = fa ∧ v = rdK (fa 2) a b) := by
  intro sz
  refine gM_of2 (Qc := fun A => va_Qi _ (gB X A) A) (by decide) (Nat.le_of_ble_eq_true rfl) ?_ sz
  intro p e s m args below meth c A R Q hR hQ C hW hS ls hl
  obtain ⟨hR1, hR2, hR3, hR4⟩ := hR
  have hx := C.1.1
  have hb := C.1.2.1
  have hml := C.1.2.2.1
  have hl : lv_has ls 5 [(0, .ref (ad (100, 0))), (1, .int (nI a)), (2, .int (nI b))] := hl
  have loop : ∀ (f : Nat) (k : Nat) (fo : Int32), (6 - k < f) → (k ≤ 6) → (fo = rd_found (fa 2) a b k) → ∀ (H : Heap) (locs : List Loc), gW X A L ad (mSt X ad st0 fi fa) s H → va_S A s.heap H locs → ∀ ls : Array Slot, lv_has ls 5 [(0, .ref (ad (100, 0))), (1, .int (nI a)), (2, .int (nI b)), (3, .int fo), (4, .int (nI k))] → W p l e R s m args below meth c H locs 0 0 Q (F0 m 5 ls []) := by
    intro f
    induction f with
    | zero =>
      intro k fo hf9
      exact absurd hf9 (Nat.not_lt_zero _)
    | succ f ih =>
      intro k fo hf hk hfo H locs hW hS ls hl
      refine lv_iload hx hb dX8_keyOf_5 (lv_at hl 4 rfl) ?_
      refine lv_bipush (v := 6) hx hb dX8_keyOf_7 (by decide) ?_
      refine lv_icmp_ge (tgt := 61) hx hb dX8_keyOf_9 (by decide) (fun c1 => ?_) (fun c1 => ?_)
      · have c1n := q_le (a := 6) (b := k) (by omega) (by omega) c1
        refine lv_iload_n hx hb dX8_keyOf_61 rfl (lv_at hl 3 rfl) ?_
        exact g_iret2 C hQ hW hS ⟨_, _, rfl, rfl, rfl, by rw [hfo, show k = 6 by omega]; exact rd_found6⟩ rfl (Nat.zero_le _) (Nat.zero_le _) dX8_keyOf_62
      · have c1n := q_nle (a := 6) (b := k) (by omega) (by omega) c1
        refine lv_iload_n hx hb dX8_keyOf_12 rfl (lv_at hl 2 rfl) ?_
        refine lv_iload_n hx hb dX8_keyOf_13 rfl (lv_at hl 1 rfl) ?_
        refine lv_isub hx hb dX8_keyOf_14 ?_
        refine lv_topE (y := nI (b - a)) (pk_sub (by omega)) ?_
        refine lv_iconst (v := 2) hx hb dX8_keyOf_15 (by decide) ?_
        refine lv_icmp_lt (tgt := 53) hx hb dX8_keyOf_16 (by decide) (fun c2 => ?_) (fun c2 => ?_)
        · have c2n := q_lt (a := (b - a)) (b := 2) (by omega) (by omega) c2
          refine lv_iload_n hx hb dX8_keyOf_53 rfl (lv_at hl 3 rfl) ?_
          refine lv_istore_n (lv' := [(3, .int fo), (0, .ref (ad (100, 0))), (1, .int (nI a)), (2, .int (nI b)), (4, .int (nI k))]) hx hb dX8_keyOf_54 rfl hl (by decide) rfl (fun ls hl => ?_)
          refine lv_iinc (v := nI (k + 1)) (lv' := [(4, .int (nI (k + 1))), (3, .int fo), (0, .ref (ad (100, 0))), (1, .int (nI a)), (2, .int (nI b))]) hx hb dX8_keyOf_55 hl (k := 4) rfl (nI_1 k) (by decide) rfl (fun ls hl => ?_)
          refine lv_goto (tgt := 5) hx hb dX8_keyOf_58 (by decide) ?_
          exact ih (k + 1) fo (by omega) (by omega) (by simp only [rd_found]; have h9 := h4 k (by omega); grind) _ _ hW hS _ (lv_sub hl [2, 3, 4, 1, 0] rfl)
        · have c2n := q_nlt (a := (b - a)) (b := 2) (by omega) (by omega) c2
          refine lv_aload_n hx hb dX8_keyOf_19 rfl (lv_at hl 0 rfl) ?_
          refine m_getA C hm hW 2 (by decide) rfl tw_5_205 dX8_keyOf_20 ?_
          refine lv_iload_n hx hb dX8_keyOf_23 rfl (lv_at hl 1 rfl) ?_
          refine m_cald (v := (fa 2) a) (j := a) C hm hW 2 (by decide) rfl rfl (vp_in_nI (N := 60) (by omega) (by decide)) (nI_clamp (by omega)) rfl dX8_keyOf_24 ?_
          refine lv_topi (fun x4 ex4 => ?_)
          refine lv_aload_n hx hb dX8_keyOf_25 rfl (lv_at hl 0 rfl) ?_
          refine m_getA C hm hW 4 (by decide) rfl tw_5_207 dX8_keyOf_26 ?_
          refine lv_iload hx hb dX8_keyOf_29 (lv_at hl 4 rfl) ?_
          refine m_cald (v := (fa 4) k) (j := k) C hm hW 4 (by decide) rfl rfl (vp_in_nI (N := 6) (by omega) (by decide)) (nI_clamp (by omega)) rfl dX8_keyOf_31 ?_
          refine lv_topi (fun x5 ex5 => ?_)
          refine lv_icmp_ne (tgt := 53) hx hb dX8_keyOf_32 (by decide) (fun c6 => ?_) (fun c6 => ?_)
          · refine lv_iload_n hx hb dX8_keyOf_53 rfl (lv_at hl 3 rfl) ?_
            refine lv_istore_n (lv' := [(3, .int fo), (0, .ref (ad (100, 0))), (1, .int (nI a)), (2, .int (nI b)), (4, .int (nI k))]) hx hb dX8_keyOf_54 rfl hl (by decide) rfl (fun ls hl => ?_)
            refine lv_iinc (v := nI (k + 1)) (lv' := [(4, .int (nI (k + 1))), (3, .int fo), (0, .ref (ad (100, 0))), (1, .int (nI a)), (2, .int (nI b))]) hx hb dX8_keyOf_55 hl (k := 4) rfl (nI_1 k) (by decide) rfl (fun ls hl => ?_)
            refine lv_goto (tgt := 5) hx hb dX8_keyOf_58 (by decide) ?_
            exact ih (k + 1) fo (by omega) (by omega) (by simp only [rd_found]; have h9 := h4 k (by omega); grind) _ _ hW hS _ (lv_sub hl [2, 3, 4, 1, 0] rfl)
          · refine lv_aload_n hx hb dX8_keyOf_35 rfl (lv_at hl 0 rfl) ?_
            refine m_getA C hm hW 2 (by decide) rfl tw_5_205 dX8_keyOf_36 ?_
            refine lv_iload_n hx hb dX8_keyOf_39 rfl (lv_at hl 1 rfl) ?_
            refine lv_iconst (v := 1) hx hb dX8_keyOf_40 (by decide) ?_
            refine lv_iadd hx hb dX8_keyOf_41 ?_
            refine lv_topE (y := nI (a + 1)) (nI_1 a) ?_
            refine m_cald (v := (fa 2) (a + 1)) (j := (a + 1)) C hm hW 2 (by decide) rfl rfl (vp_in_nI (N := 60) (by omega) (by decide)) (nI_clamp (by omega)) rfl dX8_keyOf_42 ?_
            refine lv_topi (fun x8 ex8 => ?_)
            refine lv_bipush (v := 61) hx hb dX8_keyOf_43 (by decide) ?_
            refine lv_icmp_ne (tgt := 53) hx hb dX8_keyOf_45 (by decide) (fun c9 => ?_) (fun c9 => ?_)
            · refine lv_iload_n hx hb dX8_keyOf_53 rfl (lv_at hl 3 rfl) ?_
              refine lv_istore_n (lv' := [(3, .int fo), (0, .ref (ad (100, 0))), (1, .int (nI a)), (2, .int (nI b)), (4, .int (nI k))]) hx hb dX8_keyOf_54 rfl hl (by decide) rfl (fun ls hl => ?_)
              refine lv_iinc (v := nI (k + 1)) (lv' := [(4, .int (nI (k + 1))), (3, .int fo), (0, .ref (ad (100, 0))), (1, .int (nI a)), (2, .int (nI b))]) hx hb dX8_keyOf_55 hl (k := 4) rfl (nI_1 k) (by decide) rfl (fun ls hl => ?_)
              refine lv_goto (tgt := 5) hx hb dX8_keyOf_58 (by decide) ?_
              exact ih (k + 1) fo (by omega) (by omega) (by simp only [rd_found]; have h9 := h4 k (by omega); grind) _ _ hW hS _ (lv_sub hl [2, 3, 4, 1, 0] rfl)
            · refine lv_iload hx hb dX8_keyOf_48 (lv_at hl 4 rfl) ?_
              refine lv_goto (tgt := 54) hx hb dX8_keyOf_50 (by decide) ?_
              refine lv_istore_n (lv' := [(3, .int (nI k)), (0, .ref (ad (100, 0))), (1, .int (nI a)), (2, .int (nI b)), (4, .int (nI k))]) hx hb dX8_keyOf_54 rfl hl (by decide) rfl (fun ls hl => ?_)
              refine lv_iinc (v := nI (k + 1)) (lv' := [(4, .int (nI (k + 1))), (3, .int (nI k)), (0, .ref (ad (100, 0))), (1, .int (nI a)), (2, .int (nI b))]) hx hb dX8_keyOf_55 hl (k := 4) rfl (nI_1 k) (by decide) rfl (fun ls hl => ?_)
              refine lv_goto (tgt := 5) hx hb dX8_keyOf_58 (by decide) ?_
              exact ih (k + 1) (nI k) (by omega) (by omega) (by simp only [rd_found]; have h9 := h4 k (by omega); grind) _ _ hW hS _ (lv_sub hl [2, 3, 4, 1, 0] rfl)
  refine lv_iconst (v := (-1)) hx hb dX8_keyOf_0 (by decide) ?_
  refine lv_istore_n (lv' := [(3, .int (-1)), (0, .ref (ad (100, 0))), (1, .int (nI a)), (2, .int (nI b))]) hx hb dX8_keyOf_1 rfl hl (by decide) rfl (fun ls hl => ?_)
  refine lv_iconst (v := 0) hx hb dX8_keyOf_2 (by decide) ?_
  refine lv_istore (lv' := [(4, .int 0), (3, .int (-1)), (0, .ref (ad (100, 0))), (1, .int (nI a)), (2, .int (nI b))]) hx hb dX8_keyOf_3 hl (by decide) rfl (fun ls hl => ?_)
  exact loop _ 0 (-1) (Nat.lt_succ_self _) (by omega) rfl _ _ hW hS _ (lv_sub hl [2, 3, 4, 1, 0] rfl)

set_option maxHeartbeats 4000000 in
set_option maxRecDepth 100000 in
theorem c_X8_valueOf (l : Launch) (X : GX) (L : List ro) (ad : ro → Nat) (st0 : ro → va_E) (fi : Nat → Int32) (fa : Nat → Nat → Int32) (hm : mL L) (kk a b : Nat) (hkk : kk < 6) (hab : a ≤ b) (hb : b ≤ 60) : mM l yX8_valueOf cX8_valueOf 7 (some .int) 2 48 X [.int (nI kk), .int (nI a), .int (nI b)] L ad st0 fi fa (fun v fi' fa' => fi' = fi ∧ fa' = fa ∧ v = rdVal (fa 2) (nI kk) a b) := by
  intro sz
  refine gM_of2 (Qc := fun A => va_Qi _ (gB X A) A) (by decide) (Nat.le_of_ble_eq_true rfl) ?_ sz
  intro p e s m args below meth c A R Q hR hQ C hW hS ls hl
  obtain ⟨hR1, hR2, hR3, hR4⟩ := hR
  have hx := C.1.1
  have hb := C.1.2.1
  have hml := C.1.2.2.1
  have hl : lv_has ls 7 [(0, .ref (ad (100, 0))), (1, .int (nI kk)), (2, .int (nI a)), (3, .int (nI b))] := hl
  rcases (show kk = 0 ∨ kk = 1 ∨ kk = 2 ∨ kk = 3 ∨ kk = 4 ∨ kk = 5 by omega) with hkk | hkk | hkk | hkk | hkk | hkk
  · subst hkk
    have hl : lv_has ls 7 [(0, .ref (ad (100, 0))), (1, .int 0), (2, .int (nI a)), (3, .int (nI b))] := hl
    show W p l e R s m args below meth c s.heap [] 0 0 Q (F0 m 0 ls [])
    refine lv_iload_n hx hb dX8_valueOf_0 rfl (lv_at hl 1 rfl) ?_
    refine lv_iconst (v := 5) hx hb dX8_valueOf_1 (by decide) ?_
    refine lv_icmp_ne (tgt := 67) hx hb dX8_valueOf_2 (by decide) (fun _ => ?_) (fun c9 => absurd c9 (by decide))
    refine lv_aload_n hx hb dX8_valueOf_67 rfl (lv_at hl 0 rfl) ?_
    refine lv_iload_n hx hb dX8_valueOf_68 rfl (lv_at hl 2 rfl) ?_
    refine lv_iload_n hx hb dX8_valueOf_69 rfl (lv_at hl 3 rfl) ?_
    refine lv_iload_n hx hb dX8_valueOf_70 rfl (lv_at hl 1 rfl) ?_
    refine lv_iconst (v := 4) hx hb dX8_valueOf_71 (by decide) ?_
    refine lv_icmp_ne (tgt := 79) hx hb dX8_valueOf_72 (by decide) (fun _ => ?_) (fun c9 => absurd c9 (by decide))
    refine lv_iconst (v := 1) hx hb dX8_valueOf_79 (by decide) ?_
    refine m_callVi (k2 := 3) (As := [.int (nI a), .int (nI b), .int 1]) (rest := []) C (c_X8_number l X L ad st0 fi fa hm a b 1 (by omega) (by omega) (by decide)) tw_6_144 tw_6_146 tw_0_30 tw_1_10 tw_6_147 (by decide +kernel) ⟨by rw [hR1]; exact Nat.le_of_ble_eq_true rfl, by rw [hR2]; exact Nat.le_of_ble_eq_true rfl⟩ hm hW hS rfl hl.1 rfl (Nat.le_of_ble_eq_true rfl) dX8_valueOf_80 ⟨Nat.zero_le _, Nat.zero_le _⟩ (fun x1 fi9 fa9 H locs hp hW hS => ?_)
    obtain ⟨z1, z2, h2⟩ := hp
    rw [z1, z2] at hW
    refine lv_istore (lv' := [(4, .int x1), (0, .ref (ad (100, 0))), (1, .int 0), (2, .int (nI a)), (3, .int (nI b))]) hx hb dX8_valueOf_83 hl (by decide) rfl (fun ls hl => ?_)
    refine lv_iload_n hx hb dX8_valueOf_85 rfl (lv_at hl 2 rfl) ?_
    refine lv_iconst (v := 4) hx hb dX8_valueOf_86 (by decide) ?_
    refine lv_icmp_ne (tgt := 94) hx hb dX8_valueOf_87 (by decide) (fun _ => ?_) (fun c9 => absurd c9 (by decide))
    refine lv_iconst (v := 0) hx hb dX8_valueOf_94 (by decide) ?_
    refine lv_istore (lv' := [(5, .int 0), (4, .int x1), (0, .ref (ad (100, 0))), (1, .int 0), (2, .int (nI a)), (3, .int (nI b))]) hx hb dX8_valueOf_95 hl (by decide) rfl (fun ls hl => ?_)
    refine lv_iload_n hx hb dX8_valueOf_97 rfl (lv_at hl 3 rfl) ?_
    refine lv_if_ne (tgt := 105) hx hb dX8_valueOf_98 (by decide) (fun c9 => absurd c9 (by decide)) (fun _ => ?_)
    refine lv_iconst (v := 5) hx hb dX8_valueOf_101 (by decide) ?_
    refine lv_goto (tgt := 127) hx hb dX8_valueOf_102 (by decide) ?_
    refine lv_istore (lv' := [(6, .int 5), (5, .int 0), (4, .int x1), (0, .ref (ad (100, 0))), (1, .int 0), (2, .int (nI a)), (3, .int (nI b))]) hx hb dX8_valueOf_127 hl (by decide) rfl (fun ls hl => ?_)
    refine lv_iload hx hb dX8_valueOf_129 (lv_at hl 2 rfl) ?_
    refine lv_iconst (v := (-1)) hx hb dX8_valueOf_131 (by decide) ?_
    refine lv_icmp_eq (tgt := 152) hx hb dX8_valueOf_132 (by decide) (fun c3 => ?_) (fun c3 => ?_)
    · refine lv_iconst (v := (-1)) hx hb dX8_valueOf_152 (by decide) ?_
      exact g_iret2 C hQ hW hS ⟨_, _, rfl, rfl, rfl, by show _ = rdVal (fa 2) 0 a b; rw [rdVal, if_neg (by decide)]; simp only [rd_lo, rd_hi]; grind⟩ rfl (Nat.zero_le _) (Nat.zero_le _) dX8_valueOf_153
    · refine lv_iload hx hb dX8_valueOf_135 (lv_at hl 2 rfl) ?_
      refine lv_iload hx hb dX8_valueOf_137 (lv_at hl 1 rfl) ?_
      refine lv_iload hx hb dX8_valueOf_139 (lv_at hl 0 rfl) ?_
      refine g_callSp (k2 := 3) (As := [.int x1, .int 0, .int 5]) (rest := []) C (c_X8_isIn l X L ad _ x1 0 5) tw_6_113 tw_6_114 tw_1_10 tw_6_115 (by decide +kernel) ⟨by rw [hR1]; exact Nat.le_of_ble_eq_true rfl, by rw [hR2]; exact Nat.le_of_ble_eq_true rfl⟩ hW hS rfl hl.1 rfl (Nat.le_of_ble_eq_true rfl) dX8_valueOf_141 ⟨Nat.zero_le _, Nat.zero_le _⟩ (fun v9 H locs hp hW hS => ?_)
      have h4 := hp
      rcases h4 with ⟨h4, e9⟩ | ⟨h4, e9⟩
      · subst e9
        refine lv_if_eq (tgt := 152) hx hb dX8_valueOf_144 (by decide) (fun c9 => absurd c9 (by decide)) (fun _ => ?_)
        refine lv_iload hx hb dX8_valueOf_147 (lv_at hl 2 rfl) ?_
        refine lv_goto (tgt := 153) hx hb dX8_valueOf_149 (by decide) ?_
        exact g_iret2 C hQ hW hS ⟨_, _, rfl, rfl, rfl, by show _ = rdVal (fa 2) 0 a b; rw [rdVal, if_neg (by decide)]; simp only [rd_lo, rd_hi]; grind⟩ rfl (Nat.zero_le _) (Nat.zero_le _) dX8_valueOf_153
      · subst e9
        refine lv_if_eq (tgt := 152) hx hb dX8_valueOf_144 (by decide) (fun _ => ?_) (fun c9 => absurd (by decide) c9)
        refine lv_iconst (v := (-1)) hx hb dX8_valueOf_152 (by decide) ?_
        exact g_iret2 C hQ hW hS ⟨_, _, rfl, rfl, rfl, by show _ = rdVal (fa 2) 0 a b; rw [rdVal, if_neg (by decide)]; simp only [rd_lo, rd_hi]; grind⟩ rfl (Nat.zero_le _) (Nat.zero_le _) dX8_valueOf_153
  · subst hkk
    have hl : lv_has ls 7 [(0, .ref (ad (100, 0))), (1, .int 1), (2, .int (nI a)), (3, .int (nI b))] := hl
    show W p l e R s m args below meth c s.heap [] 0 0 Q (F0 m 0 ls [])
    refine lv_iload_n hx hb dX8_valueOf_0 rfl (lv_at hl 1 rfl) ?_
    refine lv_iconst (v := 5) hx hb dX8_valueOf_1 (by decide) ?_
    refine lv_icmp_ne (tgt := 67) hx hb dX8_valueOf_2 (by decide) (fun _ => ?_) (fun c9 => absurd c9 (by decide))
    refine lv_aload_n hx hb dX8_valueOf_67 rfl (lv_at hl 0 rfl) ?_
    refine lv_iload_n hx hb dX8_valueOf_68 rfl (lv_at hl 2 rfl) ?_
    refine lv_iload_n hx hb dX8_valueOf_69 rfl (lv_at hl 3 rfl) ?_
    refine lv_iload_n hx hb dX8_valueOf_70 rfl (lv_at hl 1 rfl) ?_
    refine lv_iconst (v := 4) hx hb dX8_valueOf_71 (by decide) ?_
    refine lv_icmp_ne (tgt := 79) hx hb dX8_valueOf_72 (by decide) (fun _ => ?_) (fun c9 => absurd c9 (by decide))
    refine lv_iconst (v := 1) hx hb dX8_valueOf_79 (by decide) ?_
    refine m_callVi (k2 := 3) (As := [.int (nI a), .int (nI b), .int 1]) (rest := []) C (c_X8_number l X L ad st0 fi fa hm a b 1 (by omega) (by omega) (by decide)) tw_6_144 tw_6_146 tw_0_30 tw_1_10 tw_6_147 (by decide +kernel) ⟨by rw [hR1]; exact Nat.le_of_ble_eq_true rfl, by rw [hR2]; exact Nat.le_of_ble_eq_true rfl⟩ hm hW hS rfl hl.1 rfl (Nat.le_of_ble_eq_true rfl) dX8_valueOf_80 ⟨Nat.zero_le _, Nat.zero_le _⟩ (fun x5 fi9 fa9 H locs hp hW hS => ?_)
    obtain ⟨z1, z2, h6⟩ := hp
    rw [z1, z2] at hW
    refine lv_istore (lv' := [(4, .int x5), (0, .ref (ad (100, 0))), (1, .int 1), (2, .int (nI a)), (3, .int (nI b))]) hx hb dX8_valueOf_83 hl (by decide) rfl (fun ls hl => ?_)
    refine lv_iload_n hx hb dX8_valueOf_85 rfl (lv_at hl 2 rfl) ?_
    refine lv_iconst (v := 4) hx hb dX8_valueOf_86 (by decide) ?_
    refine lv_icmp_ne (tgt := 94) hx hb dX8_valueOf_87 (by decide) (fun _ => ?_) (fun c9 => absurd c9 (by decide))
    refine lv_iconst (v := 0) hx hb dX8_valueOf_94 (by decide) ?_
    refine lv_istore (lv' := [(5, .int 0), (4, .int x5), (0, .ref (ad (100, 0))), (1, .int 1), (2, .int (nI a)), (3, .int (nI b))]) hx hb dX8_valueOf_95 hl (by decide) rfl (fun ls hl => ?_)
    refine lv_iload_n hx hb dX8_valueOf_97 rfl (lv_at hl 3 rfl) ?_
    refine lv_if_ne (tgt := 105) hx hb dX8_valueOf_98 (by decide) (fun _ => ?_) (fun c9 => absurd c9 (by decide))
    refine lv_iload_n hx hb dX8_valueOf_105 rfl (lv_at hl 3 rfl) ?_
    refine lv_iconst (v := 1) hx hb dX8_valueOf_106 (by decide) ?_
    refine lv_icmp_ne (tgt := 114) hx hb dX8_valueOf_107 (by decide) (fun c9 => absurd c9 (by decide)) (fun _ => ?_)
    refine lv_iconst (v := 3) hx hb dX8_valueOf_110 (by decide) ?_
    refine lv_goto (tgt := 127) hx hb dX8_valueOf_111 (by decide) ?_
    refine lv_istore (lv' := [(6, .int 3), (5, .int 0), (4, .int x5), (0, .ref (ad (100, 0))), (1, .int 1), (2, .int (nI a)), (3, .int (nI b))]) hx hb dX8_valueOf_127 hl (by decide) rfl (fun ls hl => ?_)
    refine lv_iload hx hb dX8_valueOf_129 (lv_at hl 2 rfl) ?_
    refine lv_iconst (v := (-1)) hx hb dX8_valueOf_131 (by decide) ?_
    refine lv_icmp_eq (tgt := 152) hx hb dX8_valueOf_132 (by decide) (fun c7 => ?_) (fun c7 => ?_)
    · refine lv_iconst (v := (-1)) hx hb dX8_valueOf_152 (by decide) ?_
      exact g_iret2 C hQ hW hS ⟨_, _, rfl, rfl, rfl, by show _ = rdVal (fa 2) 1 a b; rw [rdVal, if_neg (by decide)]; simp only [rd_lo, rd_hi]; grind⟩ rfl (Nat.zero_le _) (Nat.zero_le _) dX8_valueOf_153
    · refine lv_iload hx hb dX8_valueOf_135 (lv_at hl 2 rfl) ?_
      refine lv_iload hx hb dX8_valueOf_137 (lv_at hl 1 rfl) ?_
      refine lv_iload hx hb dX8_valueOf_139 (lv_at hl 0 rfl) ?_
      refine g_callSp (k2 := 3) (As := [.int x5, .int 0, .int 3]) (rest := []) C (c_X8_isIn l X L ad _ x5 0 3) tw_6_113 tw_6_114 tw_1_10 tw_6_115 (by decide +kernel) ⟨by rw [hR1]; exact Nat.le_of_ble_eq_true rfl, by rw [hR2]; exact Nat.le_of_ble_eq_true rfl⟩ hW hS rfl hl.1 rfl (Nat.le_of_ble_eq_true rfl) dX8_valueOf_141 ⟨Nat.zero_le _, Nat.zero_le _⟩ (fun v9 H locs hp hW hS => ?_)
      have h8 := hp
      rcases h8 with ⟨h8, e9⟩ | ⟨h8, e9⟩
      · subst e9
        refine lv_if_eq (tgt := 152) hx hb dX8_valueOf_144 (by decide) (fun c9 => absurd c9 (by decide)) (fun _ => ?_)
        refine lv_iload hx hb dX8_valueOf_147 (lv_at hl 2 rfl) ?_
        refine lv_goto (tgt := 153) hx hb dX8_valueOf_149 (by decide) ?_
        exact g_iret2 C hQ hW hS ⟨_, _, rfl, rfl, rfl, by show _ = rdVal (fa 2) 1 a b; rw [rdVal, if_neg (by decide)]; simp only [rd_lo, rd_hi]; grind⟩ rfl (Nat.zero_le _) (Nat.zero_le _) dX8_valueOf_153
      · subst e9
        refine lv_if_eq (tgt := 152) hx hb dX8_valueOf_144 (by decide) (fun _ => ?_) (fun c9 => absurd (by decide) c9)
        refine lv_iconst (v := (-1)) hx hb dX8_valueOf_152 (by decide) ?_
        exact g_iret2 C hQ hW hS ⟨_, _, rfl, rfl, rfl, by show _ = rdVal (fa 2) 1 a b; rw [rdVal, if_neg (by decide)]; simp only [rd_lo, rd_hi]; grind⟩ rfl (Nat.zero_le _) (Nat.zero_le _) dX8_valueOf_153
  · subst hkk
    have hl : lv_has ls 7 [(0, .ref (ad (100, 0))), (1, .int 2), (2, .int (nI a)), (3, .int (nI b))] := hl
    show W p l e R s m args below meth c s.heap [] 0 0 Q (F0 m 0 ls [])
    refine lv_iload_n hx hb dX8_valueOf_0 rfl (lv_at hl 1 rfl) ?_
    refine lv_iconst (v := 5) hx hb dX8_valueOf_1 (by decide) ?_
    refine lv_icmp_ne (tgt := 67) hx hb dX8_valueOf_2 (by decide) (fun _ => ?_) (fun c9 => absurd c9 (by decide))
    refine lv_aload_n hx hb dX8_valueOf_67 rfl (lv_at hl 0 rfl) ?_
    refine lv_iload_n hx hb dX8_valueOf_68 rfl (lv_at hl 2 rfl) ?_
    refine lv_iload_n hx hb dX8_valueOf_69 rfl (lv_at hl 3 rfl) ?_
    refine lv_iload_n hx hb dX8_valueOf_70 rfl (lv_at hl 1 rfl) ?_
    refine lv_iconst (v := 4) hx hb dX8_valueOf_71 (by decide) ?_
    refine lv_icmp_ne (tgt := 79) hx hb dX8_valueOf_72 (by decide) (fun _ => ?_) (fun c9 => absurd c9 (by decide))
    refine lv_iconst (v := 1) hx hb dX8_valueOf_79 (by decide) ?_
    refine m_callVi (k2 := 3) (As := [.int (nI a), .int (nI b), .int 1]) (rest := []) C (c_X8_number l X L ad st0 fi fa hm a b 1 (by omega) (by omega) (by decide)) tw_6_144 tw_6_146 tw_0_30 tw_1_10 tw_6_147 (by decide +kernel) ⟨by rw [hR1]; exact Nat.le_of_ble_eq_true rfl, by rw [hR2]; exact Nat.le_of_ble_eq_true rfl⟩ hm hW hS rfl hl.1 rfl (Nat.le_of_ble_eq_true rfl) dX8_valueOf_80 ⟨Nat.zero_le _, Nat.zero_le _⟩ (fun x9 fi9 fa9 H locs hp hW hS => ?_)
    obtain ⟨z1, z2, h10⟩ := hp
    rw [z1, z2] at hW
    refine lv_istore (lv' := [(4, .int x9), (0, .ref (ad (100, 0))), (1, .int 2), (2, .int (nI a)), (3, .int (nI b))]) hx hb dX8_valueOf_83 hl (by decide) rfl (fun ls hl => ?_)
    refine lv_iload_n hx hb dX8_valueOf_85 rfl (lv_at hl 2 rfl) ?_
    refine lv_iconst (v := 4) hx hb dX8_valueOf_86 (by decide) ?_
    refine lv_icmp_ne (tgt := 94) hx hb dX8_valueOf_87 (by decide) (fun _ => ?_) (fun c9 => absurd c9 (by decide))
    refine lv_iconst (v := 0) hx hb dX8_valueOf_94 (by decide) ?_
    refine lv_istore (lv' := [(5, .int 0), (4, .int x9), (0, .ref (ad (100, 0))), (1, .int 2), (2, .int (nI a)), (3, .int (nI b))]) hx hb dX8_valueOf_95 hl (by decide) rfl (fun ls hl => ?_)
    refine lv_iload_n hx hb dX8_valueOf_97 rfl (lv_at hl 3 rfl) ?_
    refine lv_if_ne (tgt := 105) hx hb dX8_valueOf_98 (by decide) (fun _ => ?_) (fun c9 => absurd c9 (by decide))
    refine lv_iload_n hx hb dX8_valueOf_105 rfl (lv_at hl 3 rfl) ?_
    refine lv_iconst (v := 1) hx hb dX8_valueOf_106 (by decide) ?_
    refine lv_icmp_ne (tgt := 114) hx hb dX8_valueOf_107 (by decide) (fun _ => ?_) (fun c9 => absurd c9 (by decide))
    refine lv_iload_n hx hb dX8_valueOf_114 rfl (lv_at hl 3 rfl) ?_
    refine lv_iconst (v := 4) hx hb dX8_valueOf_115 (by decide) ?_
    refine lv_icmp_ne (tgt := 125) hx hb dX8_valueOf_116 (by decide) (fun _ => ?_) (fun c9 => absurd c9 (by decide))
    refine lv_bipush (v := 7) hx hb dX8_valueOf_125 (by decide) ?_
    refine lv_istore (lv' := [(6, .int 7), (5, .int 0), (4, .int x9), (0, .ref (ad (100, 0))), (1, .int 2), (2, .int (nI a)), (3, .int (nI b))]) hx hb dX8_valueOf_127 hl (by decide) rfl (fun ls hl => ?_)
    refine lv_iload hx hb dX8_valueOf_129 (lv_at hl 2 rfl) ?_
    refine lv_iconst (v := (-1)) hx hb dX8_valueOf_131 (by decide) ?_
    refine lv_icmp_eq (tgt := 152) hx hb dX8_valueOf_132 (by decide) (fun c11 => ?_) (fun c11 => ?_)
    · refine lv_iconst (v := (-1)) hx hb dX8_valueOf_152 (by decide) ?_
      exact g_iret2 C hQ hW hS ⟨_, _, rfl, rfl, rfl, by show _ = rdVal (fa 2) 2 a b; rw [rdVal, if_neg (by decide)]; simp only [rd_lo, rd_hi]; grind⟩ rfl (Nat.zero_le _) (Nat.zero_le _) dX8_valueOf_153
    · refine lv_iload hx hb dX8_valueOf_135 (lv_at hl 2 rfl) ?_
      refine lv_iload hx hb dX8_valueOf_137 (lv_at hl 1 rfl) ?_
      refine lv_iload hx hb dX8_valueOf_139 (lv_at hl 0 rfl) ?_
      refine g_callSp (k2 := 3) (As := [.int x9, .int 0, .int 7]) (rest := []) C (c_X8_isIn l X L ad _ x9 0 7) tw_6_113 tw_6_114 tw_1_10 tw_6_115 (by decide +kernel) ⟨by rw [hR1]; exact Nat.le_of_ble_eq_true rfl, by rw [hR2]; exact Nat.le_of_ble_eq_true rfl⟩ hW hS rfl hl.1 rfl (Nat.le_of_ble_eq_true rfl) dX8_valueOf_141 ⟨Nat.zero_le _, Nat.zero_le _⟩ (fun v9 H locs hp hW hS => ?_)
      have h12 := hp
      rcases h12 with ⟨h12, e9⟩ | ⟨h12, e9⟩
      · subst e9
        refine lv_if_eq (tgt := 152) hx hb dX8_valueOf_144 (by decide) (fun c9 => absurd c9 (by decide)) (fun _ => ?_)
        refine lv_iload hx hb dX8_valueOf_147 (lv_at hl 2 rfl) ?_
        refine lv_goto (tgt := 153) hx hb dX8_valueOf_149 (by decide) ?_
        exact g_iret2 C hQ hW hS ⟨_, _, rfl, rfl, rfl, by show _ = rdVal (fa 2) 2 a b; rw [rdVal, if_neg (by decide)]; simp only [rd_lo, rd_hi]; grind⟩ rfl (Nat.zero_le _) (Nat.zero_le _) dX8_valueOf_153
      · subst e9
        refine lv_if_eq (tgt := 152) hx hb dX8_valueOf_144 (by decide) (fun _ => ?_) (fun c9 => absurd (by decide) c9)
        refine lv_iconst (v := (-1)) hx hb dX8_valueOf_152 (by decide) ?_
        exact g_iret2 C hQ hW hS ⟨_, _, rfl, rfl, rfl, by show _ = rdVal (fa 2) 2 a b; rw [rdVal, if_neg (by decide)]; simp only [rd_lo, rd_hi]; grind⟩ rfl (Nat.zero_le _) (Nat.zero_le _) dX8_valueOf_153
  · subst hkk
    have hl : lv_has ls 7 [(0, .ref (ad (100, 0))), (1, .int 3), (2, .int (nI a)), (3, .int (nI b))] := hl
    show W p l e R s m args below meth c s.heap [] 0 0 Q (F0 m 0 ls [])
    refine lv_iload_n hx hb dX8_valueOf_0 rfl (lv_at hl 1 rfl) ?_
    refine lv_iconst (v := 5) hx hb dX8_valueOf_1 (by decide) ?_
    refine lv_icmp_ne (tgt := 67) hx hb dX8_valueOf_2 (by decide) (fun _ => ?_) (fun c9 => absurd c9 (by decide))
    refine lv_aload_n hx hb dX8_valueOf_67 rfl (lv_at hl 0 rfl) ?_
    refine lv_iload_n hx hb dX8_valueOf_68 rfl (lv_at hl 2 rfl) ?_
    refine lv_iload_n hx hb dX8_valueOf_69 rfl (lv_at hl 3 rfl) ?_
    refine lv_iload_n hx hb dX8_valueOf_70 rfl (lv_at hl 1 rfl) ?_
    refine lv_iconst (v := 4) hx hb dX8_valueOf_71 (by decide) ?_
    refine lv_icmp_ne (tgt := 79) hx hb dX8_valueOf_72 (by decide) (fun _ => ?_) (fun c9 => absurd c9 (by decide))
    refine lv_iconst (v := 1) hx hb dX8_valueOf_79 (by decide) ?_
    refine m_callVi (k2 := 3) (As := [.int (nI a), .int (nI b), .int 1]) (rest := []) C (c_X8_number l X L ad st0 fi fa hm a b 1 (by omega) (by omega) (by decide)) tw_6_144 tw_6_146 tw_0_30 tw_1_10 tw_6_147 (by decide +kernel) ⟨by rw [hR1]; exact Nat.le_of_ble_eq_true rfl, by rw [hR2]; exact Nat.le_of_ble_eq_true rfl⟩ hm hW hS rfl hl.1 rfl (Nat.le_of_ble_eq_true rfl) dX8_valueOf_80 ⟨Nat.zero_le _, Nat.zero_le _⟩ (fun x13 fi9 fa9 H locs hp hW hS => ?_)
    obtain ⟨z1, z2, h14⟩ := hp
    rw [z1, z2] at hW
    refine lv_istore (lv' := [(4, .int x13), (0, .ref (ad (100, 0))), (1, .int 3), (2, .int (nI a)), (3, .int (nI b))]) hx hb dX8_valueOf_83 hl (by decide) rfl (fun ls hl => ?_)
    refine lv_iload_n hx hb dX8_valueOf_85 rfl (lv_at hl 2 rfl) ?_
    refine lv_iconst (v := 4) hx hb dX8_valueOf_86 (by decide) ?_
    refine lv_icmp_ne (tgt := 94) hx hb dX8_valueOf_87 (by decide) (fun _ => ?_) (fun c9 => absurd c9 (by decide))
    refine lv_iconst (v := 0) hx hb dX8_valueOf_94 (by decide) ?_
    refine lv_istore (lv' := [(5, .int 0), (4, .int x13), (0, .ref (ad (100, 0))), (1, .int 3), (2, .int (nI a)), (3, .int (nI b))]) hx hb dX8_valueOf_95 hl (by decide) rfl (fun ls hl => ?_)
    refine lv_iload_n hx hb dX8_valueOf_97 rfl (lv_at hl 3 rfl) ?_
    refine lv_if_ne (tgt := 105) hx hb dX8_valueOf_98 (by decide) (fun _ => ?_) (fun c9 => absurd c9 (by decide))
    refine lv_iload_n hx hb dX8_valueOf_105 rfl (lv_at hl 3 rfl) ?_
    refine lv_iconst (v := 1) hx hb dX8_valueOf_106 (by decide) ?_
    refine lv_icmp_ne (tgt := 114) hx hb dX8_valueOf_107 (by decide) (fun _ => ?_) (fun c9 => absurd c9 (by decide))
    refine lv_iload_n hx hb dX8_valueOf_114 rfl (lv_at hl 3 rfl) ?_
    refine lv_iconst (v := 4) hx hb dX8_valueOf_115 (by decide) ?_
    refine lv_icmp_ne (tgt := 125) hx hb dX8_valueOf_116 (by decide) (fun _ => ?_) (fun c9 => absurd c9 (by decide))
    refine lv_bipush (v := 7) hx hb dX8_valueOf_125 (by decide) ?_
    refine lv_istore (lv' := [(6, .int 7), (5, .int 0), (4, .int x13), (0, .ref (ad (100, 0))), (1, .int 3), (2, .int (nI a)), (3, .int (nI b))]) hx hb dX8_valueOf_127 hl (by decide) rfl (fun ls hl => ?_)
    refine lv_iload hx hb dX8_valueOf_129 (lv_at hl 2 rfl) ?_
    refine lv_iconst (v := (-1)) hx hb dX8_valueOf_131 (by decide) ?_
    refine lv_icmp_eq (tgt := 152) hx hb dX8_valueOf_132 (by decide) (fun c15 => ?_) (fun c15 => ?_)
    · refine lv_iconst (v := (-1)) hx hb dX8_valueOf_152 (by decide) ?_
      exact g_iret2 C hQ hW hS ⟨_, _, rfl, rfl, rfl, by show _ = rdVal (fa 2) 3 a b; rw [rdVal, if_neg (by decide)]; simp only [rd_lo, rd_hi]; grind⟩ rfl (Nat.zero_le _) (Nat.zero_le _) dX8_valueOf_153
    · refine lv_iload hx hb dX8_valueOf_135 (lv_at hl 2 rfl) ?_
      refine lv_iload hx hb dX8_valueOf_137 (lv_at hl 1 rfl) ?_
      refine lv_iload hx hb dX8_valueOf_139 (lv_at hl 0 rfl) ?_
      refine g_callSp (k2 := 3) (As := [.int x13, .int 0, .int 7]) (rest := []) C (c_X8_isIn l X L ad _ x13 0 7) tw_6_113 tw_6_114 tw_1_10 tw_6_115 (by decide +kernel) ⟨by rw [hR1]; exact Nat.le_of_ble_eq_true rfl, by rw [hR2]; exact Nat.le_of_ble_eq_true rfl⟩ hW hS rfl hl.1 rfl (Nat.le_of_ble_eq_true rfl) dX8_valueOf_141 ⟨Nat.zero_le _, Nat.zero_le _⟩ (fun v9 H locs hp hW hS => ?_)
      have h16 := hp
      rcases h16 with ⟨h16, e9⟩ | ⟨h16, e9⟩
      · subst e9
        refine lv_if_eq (tgt := 152) hx hb dX8_valueOf_144 (by decide) (fun c9 => absurd c9 (by decide)) (fun _ => ?_)
        refine lv_iload hx hb dX8_valueOf_147 (lv_at hl 2 rfl) ?_
        refine lv_goto (tgt := 153) hx hb dX8_valueOf_149 (by decide) ?_
        exact g_iret2 C hQ hW hS ⟨_, _, rfl, rfl, rfl, by show _ = rdVal (fa 2) 3 a b; rw [rdVal, if_neg (by decide)]; simp only [rd_lo, rd_hi]; grind⟩ rfl (Nat.zero_le _) (Nat.zero_le _) dX8_valueOf_153
      · subst e9
        refine lv_if_eq (tgt := 152) hx hb dX8_valueOf_144 (by decide) (fun _ => ?_) (fun c9 => absurd (by decide) c9)
        refine lv_iconst (v := (-1)) hx hb dX8_valueOf_152 (by decide) ?_
        exact g_iret2 C hQ hW hS ⟨_, _, rfl, rfl, rfl, by show _ = rdVal (fa 2) 3 a b; rw [rdVal, if_neg (by decide)]; simp only [rd_lo, rd_hi]; grind⟩ rfl (Nat.zero_le _) (Nat.zero_le _) dX8_valueOf_153
  · subst hkk
    have hl : lv_has ls 7 [(0, .ref (ad (100, 0))), (1, .int 4), (2, .int (nI a)), (3, .int (nI b))] := hl
    show W p l e R s m args below meth c s.heap [] 0 0 Q (F0 m 0 ls [])
    refine lv_iload_n hx hb dX8_valueOf_0 rfl (lv_at hl 1 rfl) ?_
    refine lv_iconst (v := 5) hx hb dX8_valueOf_1 (by decide) ?_
    refine lv_icmp_ne (tgt := 67) hx hb dX8_valueOf_2 (by decide) (fun _ => ?_) (fun c9 => absurd c9 (by decide))
    refine lv_aload_n hx hb dX8_valueOf_67 rfl (lv_at hl 0 rfl) ?_
    refine lv_iload_n hx hb dX8_valueOf_68 rfl (lv_at hl 2 rfl) ?_
    refine lv_iload_n hx hb dX8_valueOf_69 rfl (lv_at hl 3 rfl) ?_
    refine lv_iload_n hx hb dX8_valueOf_70 rfl (lv_at hl 1 rfl) ?_
    refine lv_iconst (v := 4) hx hb dX8_valueOf_71 (by decide) ?_
    refine lv_icmp_ne (tgt := 79) hx hb dX8_valueOf_72 (by decide) (fun c9 => absurd c9 (by decide)) (fun _ => ?_)
    refine lv_iconst (v := 5) hx hb dX8_valueOf_75 (by decide) ?_
    refine lv_goto (tgt := 80) hx hb dX8_valueOf_76 (by decide) ?_
    refine m_callVi (k2 := 3) (As := [.int (nI a), .int (nI b), .int 5]) (rest := []) C (c_X8_number l X L ad st0 fi fa hm a b 5 (by omega) (by omega) (by decide)) tw_6_144 tw_6_146 tw_0_30 tw_1_10 tw_6_147 (by decide +kernel) ⟨by rw [hR1]; exact Nat.le_of_ble_eq_true rfl, by rw [hR2]; exact Nat.le_of_ble_eq_true rfl⟩ hm hW hS rfl hl.1 rfl (Nat.le_of_ble_eq_true rfl) dX8_valueOf_80 ⟨Nat.zero_le _, Nat.zero_le _⟩ (fun x17 fi9 fa9 H locs hp hW hS => ?_)
    obtain ⟨z1, z2, h18⟩ := hp
    rw [z1, z2] at hW
    refine lv_istore (lv' := [(4, .int x17), (0, .ref (ad (100, 0))), (1, .int 4), (2, .int (nI a)), (3, .int (nI b))]) hx hb dX8_valueOf_83 hl (by decide) rfl (fun ls hl => ?_)
    refine lv_iload_n hx hb dX8_valueOf_85 rfl (lv_at hl 2 rfl) ?_
    refine lv_iconst (v := 4) hx hb dX8_valueOf_86 (by decide) ?_
    refine lv_icmp_ne (tgt := 94) hx hb dX8_valueOf_87 (by decide) (fun c9 => absurd c9 (by decide)) (fun _ => ?_)
    refine lv_iconst (v := 1) hx hb dX8_valueOf_90 (by decide) ?_
    refine lv_goto (tgt := 95) hx hb dX8_valueOf_91 (by decide) ?_
    refine lv_istore (lv' := [(5, .int 1), (4, .int x17), (0, .ref (ad (100, 0))), (1, .int 4), (2, .int (nI a)), (3, .int (nI b))]) hx hb dX8_valueOf_95 hl (by decide) rfl (fun ls hl => ?_)
    refine lv_iload_n hx hb dX8_valueOf_97 rfl (lv_at hl 3 rfl) ?_
    refine lv_if_ne (tgt := 105) hx hb dX8_valueOf_98 (by decide) (fun _ => ?_) (fun c9 => absurd c9 (by decide))
    refine lv_iload_n hx hb dX8_valueOf_105 rfl (lv_at hl 3 rfl) ?_
    refine lv_iconst (v := 1) hx hb dX8_valueOf_106 (by decide) ?_
    refine lv_icmp_ne (tgt := 114) hx hb dX8_valueOf_107 (by decide) (fun _ => ?_) (fun c9 => absurd c9 (by decide))
    refine lv_iload_n hx hb dX8_valueOf_114 rfl (lv_at hl 3 rfl) ?_
    refine lv_iconst (v := 4) hx hb dX8_valueOf_115 (by decide) ?_
    refine lv_icmp_ne (tgt := 125) hx hb dX8_valueOf_116 (by decide) (fun c9 => absurd c9 (by decide)) (fun _ => ?_)
    refine lv_sipush (v := 30000) hx hb dX8_valueOf_119 (by decide) ?_
    refine lv_goto (tgt := 127) hx hb dX8_valueOf_122 (by decide) ?_
    refine lv_istore (lv' := [(6, .int 30000), (5, .int 1), (4, .int x17), (0, .ref (ad (100, 0))), (1, .int 4), (2, .int (nI a)), (3, .int (nI b))]) hx hb dX8_valueOf_127 hl (by decide) rfl (fun ls hl => ?_)
    refine lv_iload hx hb dX8_valueOf_129 (lv_at hl 2 rfl) ?_
    refine lv_iconst (v := (-1)) hx hb dX8_valueOf_131 (by decide) ?_
    refine lv_icmp_eq (tgt := 152) hx hb dX8_valueOf_132 (by decide) (fun c19 => ?_) (fun c19 => ?_)
    · refine lv_iconst (v := (-1)) hx hb dX8_valueOf_152 (by decide) ?_
      exact g_iret2 C hQ hW hS ⟨_, _, rfl, rfl, rfl, by show _ = rdVal (fa 2) 4 a b; rw [rdVal, if_neg (by decide)]; simp only [rd_lo, rd_hi]; grind⟩ rfl (Nat.zero_le _) (Nat.zero_le _) dX8_valueOf_153
    · refine lv_iload hx hb dX8_valueOf_135 (lv_at hl 2 rfl) ?_
      refine lv_iload hx hb dX8_valueOf_137 (lv_at hl 1 rfl) ?_
      refine lv_iload hx hb dX8_valueOf_139 (lv_at hl 0 rfl) ?_
      refine g_callSp (k2 := 3) (As := [.int x17, .int 1, .int 30000]) (rest := []) C (c_X8_isIn l X L ad _ x17 1 30000) tw_6_113 tw_6_114 tw_1_10 tw_6_115 (by decide +kernel) ⟨by rw [hR1]; exact Nat.le_of_ble_eq_true rfl, by rw [hR2]; exact Nat.le_of_ble_eq_true rfl⟩ hW hS rfl hl.1 rfl (Nat.le_of_ble_eq_true rfl) dX8_valueOf_141 ⟨Nat.zero_le _, Nat.zero_le _⟩ (fun v9 H locs hp hW hS => ?_)
      have h20 := hp
      rcases h20 with ⟨h20, e9⟩ | ⟨h20, e9⟩
      · subst e9
        refine lv_if_eq (tgt := 152) hx hb dX8_valueOf_144 (by decide) (fun c9 => absurd c9 (by decide)) (fun _ => ?_)
        refine lv_iload hx hb dX8_valueOf_147 (lv_at hl 2 rfl) ?_
        refine lv_goto (tgt := 153) hx hb dX8_valueOf_149 (by decide) ?_
        exact g_iret2 C hQ hW hS ⟨_, _, rfl, rfl, rfl, by show _ = rdVal (fa 2) 4 a b; rw [rdVal, if_neg (by decide)]; simp only [rd_lo, rd_hi]; grind⟩ rfl (Nat.zero_le _) (Nat.zero_le _) dX8_valueOf_153
      · subst e9
        refine lv_if_eq (tgt := 152) hx hb dX8_valueOf_144 (by decide) (fun _ => ?_) (fun c9 => absurd (by decide) c9)
        refine lv_iconst (v := (-1)) hx hb dX8_valueOf_152 (by decide) ?_
        exact g_iret2 C hQ hW hS ⟨_, _, rfl, rfl, rfl, by show _ = rdVal (fa 2) 4 a b; rw [rdVal, if_neg (by decide)]; simp only [rd_lo, rd_hi]; grind⟩ rfl (Nat.zero_le _) (Nat.zero_le _) dX8_valueOf_153
  · subst hkk
    have hl : lv_has ls 7 [(0, .ref (ad (100, 0))), (1, .int 5), (2, .int (nI a)), (3, .int (nI b))] := hl
    show W p l e R s m args below meth c s.heap [] 0 0 Q (F0 m 0 ls [])
    refine lv_iload_n hx hb dX8_valueOf_0 rfl (lv_at hl 1 rfl) ?_
    refine lv_iconst (v := 5) hx hb dX8_valueOf_1 (by decide) ?_
    refine lv_icmp_ne (tgt := 67) hx hb dX8_valueOf_2 (by decide) (fun c9 => absurd c9 (by decide)) (fun _ => ?_)
    refine lv_iload_n hx hb dX8_valueOf_5 rfl (lv_at hl 3 rfl) ?_
    refine lv_iload_n hx hb dX8_valueOf_6 rfl (lv_at hl 2 rfl) ?_
    refine lv_isub hx hb dX8_valueOf_7 ?_
    refine lv_topE (y := nI (b - a)) (pk_sub (by omega)) ?_
    refine lv_iconst (v := 1) hx hb dX8_valueOf_8 (by decide) ?_
    refine lv_icmp_ne (tgt := 38) hx hb dX8_valueOf_9 (by decide) (fun c21 => ?_) (fun c21 => ?_)
    · have c21n := q_ne (a := (b - a)) (b := 1) (by omega) (by omega) c21
      refine lv_iconst (v := 0) hx hb dX8_valueOf_38 (by decide) ?_
      refine lv_istore (lv' := [(4, .int 0), (0, .ref (ad (100, 0))), (1, .int 5), (2, .int (nI a)), (3, .int (nI b))]) hx hb dX8_valueOf_39 hl (by decide) rfl (fun ls hl => ?_)
      refine lv_iload hx hb dX8_valueOf_41 (lv_at hl 0 rfl) ?_
      refine lv_if_ne (tgt := 50) hx hb dX8_valueOf_43 (by decide) (fun c9 => absurd c9 (by decide)) (fun _ => ?_)
      refine lv_iconst (v := (-1)) hx hb dX8_valueOf_46 (by decide) ?_
      refine lv_goto (tgt := 66) hx hb dX8_valueOf_47 (by decide) ?_
      exact g_iret2 C hQ hW hS ⟨_, _, rfl, rfl, rfl, by show _ = rdVal (fa 2) 5 a b; rw [rdVal, if_pos rfl]; grind⟩ rfl (Nat.zero_le _) (Nat.zero_le _) dX8_valueOf_66
    · have c21n := q_eq (a := (b - a)) (b := 1) (by omega) (by omega) c21
      refine lv_aload_n hx hb dX8_valueOf_12 rfl (lv_at hl 0 rfl) ?_
      refine m_getA C hm hW 2 (by decide) rfl tw_5_205 dX8_valueOf_13 ?_
      refine lv_iload_n hx hb dX8_valueOf_16 rfl (lv_at hl 2 rfl) ?_
      refine m_cald (v := (fa 2) a) (j := a) C hm hW 2 (by decide) rfl rfl (vp_in_nI (N := 60) (by omega) (by decide)) (nI_clamp (by omega)) rfl dX8_valueOf_17 ?_
      refine lv_topi (fun x22 ex22 => ?_)
      refine lv_bipush (v := 89) hx hb dX8_valueOf_18 (by decide) ?_
      refine lv_icmp_eq (tgt := 34) hx hb dX8_valueOf_20 (by decide) (fun c23 => ?_) (fun c23 => ?_)
      · refine lv_iconst (v := 1) hx hb dX8_valueOf_34 (by decide) ?_
        refine lv_goto (tgt := 39) hx hb dX8_valueOf_35 (by decide) ?_
        refine lv_istore (lv' := [(4, .int 1), (0, .ref (ad (100, 0))), (1, .int 5), (2, .int (nI a)), (3, .int (nI b))]) hx hb dX8_valueOf_39 hl (by decide) rfl (fun ls hl => ?_)
        refine lv_iload hx hb dX8_valueOf_41 (lv_at hl 0 rfl) ?_
        refine lv_if_ne (tgt := 50) hx hb dX8_valueOf_43 (by decide) (fun _ => ?_) (fun c9 => absurd c9 (by decide))
        refine lv_aload_n hx hb dX8_valueOf_50 rfl (lv_at hl 1 rfl) ?_
        refine m_getA C hm hW 2 (by decide) rfl tw_5_205 dX8_valueOf_51 ?_
        refine lv_iload_n hx hb dX8_valueOf_54 rfl (lv_at hl 3 rfl) ?_
        refine m_cald (v := (fa 2) a) (j := a) C hm hW 2 (by decide) rfl rfl (vp_in_nI (N := 60) (by omega) (by decide)) (nI_clamp (by omega)) rfl dX8_valueOf_55 ?_
        refine lv_topi (fun x24 ex24 => ?_)
        refine lv_bipush (v := 89) hx hb dX8_valueOf_56 (by decide) ?_
        refine lv_icmp_ne (tgt := 65) hx hb dX8_valueOf_58 (by decide) (fun c25 => ?_) (fun c25 => ?_)
        · refine lv_iconst (v := 0) hx hb dX8_valueOf_65 (by decide) ?_
          exact g_iret2 C hQ hW hS ⟨_, _, rfl, rfl, rfl, by show _ = rdVal (fa 2) 5 a b; rw [rdVal, if_pos rfl]; grind⟩ rfl (Nat.zero_le _) (Nat.zero_le _) dX8_valueOf_66
        · refine lv_iconst (v := 1) hx hb dX8_valueOf_61 (by decide) ?_
          refine lv_goto (tgt := 66) hx hb dX8_valueOf_62 (by decide) ?_
          exact g_iret2 C hQ hW hS ⟨_, _, rfl, rfl, rfl, by show _ = rdVal (fa 2) 5 a b; rw [rdVal, if_pos rfl]; grind⟩ rfl (Nat.zero_le _) (Nat.zero_le _) dX8_valueOf_66
      · refine lv_aload_n hx hb dX8_valueOf_23 rfl (lv_at hl 0 rfl) ?_
        refine m_getA C hm hW 2 (by decide) rfl tw_5_205 dX8_valueOf_24 ?_
        refine lv_iload_n hx hb dX8_valueOf_27 rfl (lv_at hl 2 rfl) ?_
        refine m_cald (v := (fa 2) a) (j := a) C hm hW 2 (by decide) rfl rfl (vp_in_nI (N := 60) (by omega) (by decide)) (nI_clamp (by omega)) rfl dX8_valueOf_28 ?_
        refine lv_topi (fun x26 ex26 => ?_)
        refine lv_bipush (v := 78) hx hb dX8_valueOf_29 (by decide) ?_
        refine lv_icmp_ne (tgt := 38) hx hb dX8_valueOf_31 (by decide) (fun c27 => ?_) (fun c27 => ?_)
        · refine lv_iconst (v := 0) hx hb dX8_valueOf_38 (by decide) ?_
          refine lv_istore (lv' := [(4, .int 0), (0, .ref (ad (100, 0))), (1, .int 5), (2, .int (nI a)), (3, .int (nI b))]) hx hb dX8_valueOf_39 hl (by decide) rfl (fun ls hl => ?_)
          refine lv_iload hx hb dX8_valueOf_41 (lv_at hl 0 rfl) ?_
          refine lv_if_ne (tgt := 50) hx hb dX8_valueOf_43 (by decide) (fun c9 => absurd c9 (by decide)) (fun _ => ?_)
          refine lv_iconst (v := (-1)) hx hb dX8_valueOf_46 (by decide) ?_
          refine lv_goto (tgt := 66) hx hb dX8_valueOf_47 (by decide) ?_
          exact g_iret2 C hQ hW hS ⟨_, _, rfl, rfl, rfl, by show _ = rdVal (fa 2) 5 a b; rw [rdVal, if_pos rfl]; grind⟩ rfl (Nat.zero_le _) (Nat.zero_le _) dX8_valueOf_66
        · refine lv_iconst (v := 1) hx hb dX8_valueOf_34 (by decide) ?_
          refine lv_goto (tgt := 39) hx hb dX8_valueOf_35 (by decide) ?_
          refine lv_istore (lv' := [(4, .int 1), (0, .ref (ad (100, 0))), (1, .int 5), (2, .int (nI a)), (3, .int (nI b))]) hx hb dX8_valueOf_39 hl (by decide) rfl (fun ls hl => ?_)
          refine lv_iload hx hb dX8_valueOf_41 (lv_at hl 0 rfl) ?_
          refine lv_if_ne (tgt := 50) hx hb dX8_valueOf_43 (by decide) (fun _ => ?_) (fun c9 => absurd c9 (by decide))
          refine lv_aload_n hx hb dX8_valueOf_50 rfl (lv_at hl 1 rfl) ?_
          refine m_getA C hm hW 2 (by decide) rfl tw_5_205 dX8_valueOf_51 ?_
          refine lv_iload_n hx hb dX8_valueOf_54 rfl (lv_at hl 3 rfl) ?_
          refine m_cald (v := (fa 2) a) (j := a) C hm hW 2 (by decide) rfl rfl (vp_in_nI (N := 60) (by omega) (by decide)) (nI_clamp (by omega)) rfl dX8_valueOf_55 ?_
          refine lv_topi (fun x28 ex28 => ?_)
          refine lv_bipush (v := 89) hx hb dX8_valueOf_56 (by decide) ?_
          refine lv_icmp_ne (tgt := 65) hx hb dX8_valueOf_58 (by decide) (fun c29 => ?_) (fun c29 => ?_)
          · refine lv_iconst (v := 0) hx hb dX8_valueOf_65 (by decide) ?_
            exact g_iret2 C hQ hW hS ⟨_, _, rfl, rfl, rfl, by show _ = rdVal (fa 2) 5 a b; rw [rdVal, if_pos rfl]; grind⟩ rfl (Nat.zero_le _) (Nat.zero_le _) dX8_valueOf_66
          · refine lv_iconst (v := 1) hx hb dX8_valueOf_61 (by decide) ?_
            refine lv_goto (tgt := 66) hx hb dX8_valueOf_62 (by decide) ?_
            exact g_iret2 C hQ hW hS ⟨_, _, rfl, rfl, rfl, by show _ = rdVal (fa 2) 5 a b; rw [rdVal, if_pos rfl]; grind⟩ rfl (Nat.zero_le _) (Nat.zero_le _) dX8_valueOf_66

set_option maxHeartbeats 4000000 in
set_option maxRecDepth 100000 in
theorem c_X8_fails0 (l : Launch) (X : GX) (L : List ro) (ad : ro → Nat) (st0 : ro → va_E) (fi : Nat → Int32) (fa : Nat → Nat → Int32) (hm : mL L) (kd at9 : Int32) (h7 : fi 7 = 0) : mMv l yX8_fails cX8_fails 3 none 0 0 X [.int kd, .int at9] L ad st0 fi fa (fun fi' fa' => fi' = upd (upd fi 7 kd) 8 at9 ∧ fa' = fa) := by
  intro sz
  refine gM_of2 (Qc := fun A => va_Qv _ (gB X A) A) (by decide) (Nat.le_of_ble_eq_true rfl) ?_ sz
  intro p e s m args below meth c A R Q hR hQ C hW hS ls hl
  obtain ⟨hR1, hR2, hR3, hR4⟩ := hR
  have hx := C.1.1
  have hb := C.1.2.1
  have hml := C.1.2.2.1
  have hl : lv_has ls 3 [(0, .ref (ad (100, 0))), (1, .int kd), (2, .int at9)] := hl
  refine lv_aload_n hx hb dX8_fails_0 rfl (lv_at hl 0 rfl) ?_
  refine m_getI (v := fi 7) C hm hW 7 (by decide) rfl tw_5_210 rfl dX8_fails_1 ?_
  refine lv_if_ne (tgt := 17) hx hb dX8_fails_4 (by decide) (fun c9 => absurd h7 c9) (fun _ => ?_)
  refine lv_aload_n hx hb dX8_fails_7 rfl (lv_at hl 0 rfl) ?_
  refine lv_iload_n hx hb dX8_fails_8 rfl (lv_at hl 1 rfl) ?_
  refine m_putI C hm hW hS 7 (by decide) rfl tw_5_210 dX8_fails_9 (fun H locs hW hS => ?_)
  refine lv_aload_n hx hb dX8_fails_12 rfl (lv_at hl 0 rfl) ?_
  refine lv_iload_n hx hb dX8_fails_13 rfl (lv_at hl 2 rfl) ?_
  refine m_putI C hm hW hS 8 (by decide) rfl tw_5_211 dX8_fails_14 (fun H locs hW hS => ?_)
  exact g_vret2 C hQ hW hS ⟨_, _, rfl, rfl, rfl⟩ (Nat.zero_le _) (Nat.zero_le _) dX8_fails_17

set_option maxHeartbeats 4000000 in
set_option maxRecDepth 100000 in
theorem c_X8_fails1 (l : Launch) (X : GX) (L : List ro) (ad : ro → Nat) (st0 : ro → va_E) (fi : Nat → Int32) (fa : Nat → Nat → Int32) (hm : mL L) (kd at9 : Int32) (h7 : ¬ fi 7 = 0) : mMv l yX8_fails cX8_fails 3 none 0 0 X [.int kd, .int at9] L ad st0 fi fa (fun fi' fa' => fi' = fi ∧ fa' = fa) := by
  intro sz
  refine gM_of2 (Qc := fun A => va_Qv _ (gB X A) A) (by decide) (Nat.le_of_ble_eq_true rfl) ?_ sz
  intro p e s m args below meth c A R Q hR hQ C hW hS ls hl
  obtain ⟨hR1, hR2, hR3, hR4⟩ := hR
  have hx := C.1.1
  have hb := C.1.2.1
  have hml := C.1.2.2.1
  have hl : lv_has ls 3 [(0, .ref (ad (100, 0))), (1, .int kd), (2, .int at9)] := hl
  refine lv_aload_n hx hb dX8_fails_0 rfl (lv_at hl 0 rfl) ?_
  refine m_getI (v := fi 7) C hm hW 7 (by decide) rfl tw_5_210 rfl dX8_fails_1 ?_
  refine lv_if_ne (tgt := 17) hx hb dX8_fails_4 (by decide) (fun _ => ?_) (fun c9 => absurd c9 h7)
  exact g_vret2 C hQ hW hS ⟨_, _, rfl, rfl, rfl⟩ (Nat.zero_le _) (Nat.zero_le _) dX8_fails_17

set_option maxHeartbeats 4000000 in
set_option maxRecDepth 100000 in
theorem c_X8_readPart (l : Launch) (X : GX) (L : List ro) (ad : ro → Nat) (st0 : ro → va_E) (fi : Nat → Int32) (fa : Nat → Nat → Int32) (hm : mL L) (part a b : Nat) (hab : a ≤ b) (hb : b ≤ 60) (h4 : ∀ k, k < 6 → fa 4 k = keyc k) (hz7 : fi 7 = 0) : mMv l yX8_readPart cX8_readPart 5 none 3 74 X [.int (nI part), .int (nI a), .int (nI b)] L ad st0 fi fa (fun fi' fa' => (rdK (fa 2) a b = -1 ∧ fi' = upd (upd fi 7 1) 8 (nI part) ∧ fa' = fa) ∨ (∃ j, j < 6 ∧ rdK (fa 2) a b = nI j ∧ ¬ fa 6 j = -1 ∧ fi' = upd (upd fi 7 2) 8 (nI j) ∧ fa' = fa) ∨ (∃ j, j < 6 ∧ rdK (fa 2) a b = nI j ∧ fa 6 j = -1 ∧ rdVal (fa 2) (nI j) (a + 2) b = -1 ∧ fi' = upd (upd fi 7 3) 8 (nI j) ∧ fa' = rowu fa 6 (upd (fa 6) j (-1))) ∨ (∃ j, j < 6 ∧ rdK (fa 2) a b = nI j ∧ fa 6 j = -1 ∧ ¬ rdVal (fa 2) (nI j) (a + 2) b = -1 ∧ fi' = fi ∧ fa' = rowu fa 6 (upd (fa 6) j (rdVal (fa 2) (nI j) (a + 2) b)))) := by
  intro sz
  refine gM_of2 (Qc := fun A => va_Qv _ (gB X A) A) (by decide) (Nat.le_of_ble_eq_true rfl) ?_ sz
  intro p e s m args below meth c A R Q hR hQ C hW hS ls hl
  obtain ⟨hR1, hR2, hR3, hR4⟩ := hR
  have hx := C.1.1
  have hb := C.1.2.1
  have hml := C.1.2.2.1
  have hl : lv_has ls 5 [(0, .ref (ad (100, 0))), (1, .int (nI part)), (2, .int (nI a)), (3, .int (nI b))] := hl
  refine lv_aload_n hx hb dX8_readPart_0 rfl (lv_at hl 0 rfl) ?_
  refine lv_iload_n hx hb dX8_readPart_1 rfl (lv_at hl 2 rfl) ?_
  refine lv_iload_n hx hb dX8_readPart_2 rfl (lv_at hl 3 rfl) ?_
  refine m_callVi (k2 := 2) (As := [.int (nI a), .int (nI b)]) (rest := []) C (c_X8_keyOf l X L ad st0 fi fa hm a b (by omega) (by omega) h4) tw_6_132 tw_6_134 tw_0_27 tw_1_10 tw_6_135 (by decide +kernel) ⟨by rw [hR1]; exact Nat.le_of_ble_eq_true rfl, by rw [hR2]; exact Nat.le_of_ble_eq_true rfl⟩ hm hW hS rfl hl.1 rfl (Nat.le_of_ble_eq_true rfl) dX8_readPart_3 ⟨Nat.zero_le _, Nat.zero_le _⟩ (fun x1 fi9 fa9 H locs hp hW hS => ?_)
  obtain ⟨z1, z2, h2⟩ := hp
  rw [z1, z2] at hW
  rcases rdK_cases (fa 2) a b with k1 | ⟨k0, j, hj, k1⟩
  · rw [k1] at h2
    subst h2
    refine lv_istore (lv' := [(4, .int (-1)), (0, .ref (ad (100, 0))), (1, .int (nI part)), (2, .int (nI a)), (3, .int (nI b))]) hx hb dX8_readPart_6 hl (by decide) rfl (fun ls hl => ?_)
    refine lv_iload hx hb dX8_readPart_8 (lv_at hl 0 rfl) ?_
    refine lv_iconst (v := (-1)) hx hb dX8_readPart_10 (by decide) ?_
    refine lv_icmp_ne (tgt := 23) hx hb dX8_readPart_11 (by decide) (fun c9 => absurd c9 (by decide)) (fun _ => ?_)
    refine lv_aload_n hx hb dX8_readPart_14 rfl (lv_at hl 1 rfl) ?_
    refine lv_iconst (v := 1) hx hb dX8_readPart_15 (by decide) ?_
    refine lv_iload_n hx hb dX8_readPart_16 rfl (lv_at hl 2 rfl) ?_
    refine m_callVv (k2 := 2) (As := [.int 1, .int (nI part)]) (rest := []) C (c_X8_fails0 l X L ad st0 fi fa hm 1 (nI part) hz7) tw_6_136 tw_6_138 tw_0_28 tw_1_10 tw_6_139 (by decide +kernel) ⟨by rw [hR1]; exact Nat.le_of_ble_eq_true rfl, by rw [hR2]; exact Nat.le_of_ble_eq_true rfl⟩ hm hW hS rfl hl.1 rfl (Nat.le_of_ble_eq_true rfl) dX8_readPart_17 ⟨Nat.zero_le _, Nat.zero_le _⟩ (fun fi9 fa9 H locs hp hW hS => ?_)
    obtain ⟨z1, z2⟩ := hp
    rw [z1, z2] at hW
    refine lv_goto (tgt := 79) hx hb dX8_readPart_20 (by decide) ?_
    exact g_vret2 C hQ hW hS ⟨_, _, rfl, Or.inl ⟨k1, rfl, rfl⟩⟩ (Nat.zero_le _) (Nat.zero_le _) dX8_readPart_79
  · rw [k1] at h2
    subst h2
    refine lv_istore (lv' := [(4, .int (nI j)), (0, .ref (ad (100, 0))), (1, .int (nI part)), (2, .int (nI a)), (3, .int (nI b))]) hx hb dX8_readPart_6 hl (by decide) rfl (fun ls hl => ?_)
    refine lv_iload hx hb dX8_readPart_8 (lv_at hl 0 rfl) ?_
    refine lv_iconst (v := (-1)) hx hb dX8_readPart_10 (by decide) ?_
    refine lv_icmp_ne (tgt := 23) hx hb dX8_readPart_11 (by decide) (fun _ => ?_) (fun c9 => absurd c9 (nI_m1 hj))
    refine lv_aload_n hx hb dX8_readPart_23 rfl (lv_at hl 1 rfl) ?_
    refine m_getA C hm hW 6 (by decide) rfl tw_5_209 dX8_readPart_24 ?_
    refine lv_iload hx hb dX8_readPart_27 (lv_at hl 0 rfl) ?_
    refine m_iald (v := (fa 6) j) (j := j) C hm hW 6 (by decide) rfl rfl (vp_in_nI (N := 6) (by omega) (by decide)) (nI_clamp (by omega)) rfl dX8_readPart_29 ?_
    refine lv_topi (fun x3 ex3 => ?_)
    refine lv_iconst (v := (-1)) hx hb dX8_readPart_30 (by decide) ?_
    refine lv_icmp_eq (tgt := 44) hx hb dX8_readPart_31 (by decide) (fun c4 => ?_) (fun c4 => ?_)
    · refine lv_aload_n hx hb dX8_readPart_44 rfl (lv_at hl 1 rfl) ?_
      refine m_getA C hm hW 6 (by decide) rfl tw_5_209 dX8_readPart_45 ?_
      refine lv_iload hx hb dX8_readPart_48 (lv_at hl 0 rfl) ?_
      refine lv_aload_n hx hb dX8_readPart_50 rfl (lv_at hl 1 rfl) ?_
      refine lv_iload hx hb dX8_readPart_51 (lv_at hl 0 rfl) ?_
      refine lv_iload_n hx hb dX8_readPart_53 rfl (lv_at hl 3 rfl) ?_
      refine lv_iconst (v := 2) hx hb dX8_readPart_54 (by decide) ?_
      refine lv_iadd hx hb dX8_readPart_55 ?_
      refine lv_topE (y := nI (a + 2)) (nI_add a 2) ?_
      refine lv_iload_n hx hb dX8_readPart_56 rfl (lv_at hl 4 rfl) ?_
      refine m_callVi (k2 := 3) (As := [.int (nI j), .int (nI (a + 2)), .int (nI b)]) (rest := [.int (nI j), .ref (ad (101, 6))]) C (c_X8_valueOf l X L ad st0 fi fa hm j (a + 2) b (by omega) (by omega) (by omega)) tw_6_140 tw_6_142 tw_0_29 tw_1_10 tw_6_143 (by decide +kernel) ⟨by rw [hR1]; exact Nat.le_of_ble_eq_true rfl, by rw [hR2]; exact Nat.le_of_ble_eq_true rfl⟩ hm hW hS rfl hl.1 rfl (Nat.le_of_ble_eq_true rfl) dX8_readPart_57 ⟨Nat.zero_le _, Nat.zero_le _⟩ (fun x5 fi9 fa9 H locs hp hW hS => ?_)
      obtain ⟨z1, z2, h6⟩ := hp
      rw [z1, z2] at hW
      refine m_iast (j := j) C hm hW hS 6 (by decide) rfl rfl (vp_in_nI (N := 6) (by omega) (by decide)) (nI_clamp (by omega)) dX8_readPart_60 (fun H locs hW hS => ?_)
      refine lv_aload_n hx hb dX8_readPart_61 rfl (lv_at hl 1 rfl) ?_
      refine m_getA C hm hW 6 (by decide) rfl tw_5_209 dX8_readPart_62 ?_
      refine lv_iload hx hb dX8_readPart_65 (lv_at hl 0 rfl) ?_
      refine m_iald (v := x5) (j := j) C hm hW 6 (by decide) rfl rfl (vp_in_nI (N := 6) (by omega) (by decide)) (nI_clamp (by omega)) pk_us dX8_readPart_67 ?_
      refine lv_iconst (v := (-1)) hx hb dX8_readPart_68 (by decide) ?_
      refine lv_icmp_ne (tgt := 79) hx hb dX8_readPart_69 (by decide) (fun c7 => ?_) (fun c7 => ?_)
      · exact g_vret2 C hQ hW hS ⟨_, _, rfl, Or.inr (Or.inr (Or.inr ⟨j, hj, k1, by grind, by simp only [pk_us] at *; grind, rfl, by simp only [pk_us] at *; grind⟩))⟩ (Nat.zero_le _) (Nat.zero_le _) dX8_readPart_79
      · refine lv_aload_n hx hb dX8_readPart_72 rfl (lv_at hl 1 rfl) ?_
        refine lv_iconst (v := 3) hx hb dX8_readPart_73 (by decide) ?_
        refine lv_iload hx hb dX8_readPart_74 (lv_at hl 0 rfl) ?_
        refine m_callVv (k2 := 2) (As := [.int 3, .int (nI j)]) (rest := []) C (c_X8_fails0 l X L ad st0 fi (rowu fa 6 (upd (fa 6) j x5)) hm 3 (nI j) hz7) tw_6_136 tw_6_138 tw_0_28 tw_1_10 tw_6_139 (by decide +kernel) ⟨by rw [hR1]; exact Nat.le_of_ble_eq_true rfl, by rw [hR2]; exact Nat.le_of_ble_eq_true rfl⟩ hm hW hS rfl hl.1 rfl (Nat.le_of_ble_eq_true rfl) dX8_readPart_76 ⟨Nat.zero_le _, Nat.zero_le _⟩ (fun fi9 fa9 H locs hp hW hS => ?_)
        obtain ⟨z1, z2⟩ := hp
        rw [z1, z2] at hW
        exact g_vret2 C hQ hW hS ⟨_, _, rfl, Or.inr (Or.inr (Or.inl ⟨j, hj, k1, by grind, by simp only [pk_us] at *; grind, rfl, by simp only [pk_us] at *; grind⟩))⟩ (Nat.zero_le _) (Nat.zero_le _) dX8_readPart_79
    · refine lv_aload_n hx hb dX8_readPart_34 rfl (lv_at hl 1 rfl) ?_
      refine lv_iconst (v := 2) hx hb dX8_readPart_35 (by decide) ?_
      refine lv_iload hx hb dX8_readPart_36 (lv_at hl 0 rfl) ?_
      refine m_callVv (k2 := 2) (As := [.int 2, .int (nI j)]) (rest := []) C (c_X8_fails0 l X L ad st0 fi fa hm 2 (nI j) hz7) tw_6_136 tw_6_138 tw_0_28 tw_1_10 tw_6_139 (by decide +kernel) ⟨by rw [hR1]; exact Nat.le_of_ble_eq_true rfl, by rw [hR2]; exact Nat.le_of_ble_eq_true rfl⟩ hm hW hS rfl hl.1 rfl (Nat.le_of_ble_eq_true rfl) dX8_readPart_38 ⟨Nat.zero_le _, Nat.zero_le _⟩ (fun fi9 fa9 H locs hp hW hS => ?_)
      obtain ⟨z1, z2⟩ := hp
      rw [z1, z2] at hW
      refine lv_goto (tgt := 79) hx hb dX8_readPart_41 (by decide) ?_
      exact g_vret2 C hQ hW hS ⟨_, _, rfl, Or.inr (Or.inl ⟨j, hj, k1, by grind, rfl, rfl⟩)⟩ (Nat.zero_le _) (Nat.zero_le _) dX8_readPart_79

