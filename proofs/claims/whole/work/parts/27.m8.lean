set_option maxHeartbeats 4000000 in
set_option maxRecDepth 100000 in
theorem c_X8_asked (l : Launch) (X : GX) (L : List ro) (ad : ro → Nat) (st0 : ro → va_E) (fi : Nat → Int32) (fa : Nat → Nat → Int32) (hm : mL L) (i : Nat) (hi : i < 4) : mM l yX8_asked cX8_asked 4 (some .int) 2 44 X [.int (nI i)] L ad st0 fi fa (fun v fi' fa' => fi' = fi ∧ fa' = mset fa i (askS (fi 1) (fa 13 i) (fa 14 i) (mcr fa i)).2 ∧ v = (askS (fi 1) (fa 13 i) (fa 14 i) (mcr fa i)).1) := by
  intro sz
  refine gM_of2 (Qc := fun A => va_Qi _ (gB X A) A) (by decide) (Nat.le_of_ble_eq_true rfl) ?_ sz
  intro p e s m args below meth c A R Q hR hQ C hW hS ls hl
  obtain ⟨hR1, hR2, hR3, hR4⟩ := hR
  have hx := C.1.1
  have hb := C.1.2.1
  have hml := C.1.2.2.1
  have hl : lv_has ls 4 [(0, .ref (ad (100, 0))), (1, .int (nI i))] := hl
  have loop : ∀ (f : Nat) (n : Nat) (u9 : CrS), (n < f) → (n ≤ 3) → (askL (fi 1) (fa 13 i) (fa 14 i) n u9 = (askS (fi 1) (fa 13 i) (fa 14 i) (mcr fa i))) → ∀ (H : Heap) (locs : List Loc), gW X A L ad (mSt X ad st0 fi (mset fa i u9)) s H → va_S A s.heap H locs → ∀ ls : Array Slot, lv_has ls 4 [(0, .ref (ad (100, 0))), (1, .int (nI i)), (3, .int (nI n))] → W p l e R s m args below meth c H locs 0 0 Q (F0 m 25 ls []) := by
    intro f
    induction f with
    | zero =>
      intro n u9 hf9
      exact absurd hf9 (Nat.not_lt_zero _)
    | succ f ih =>
      intro n u9 hf hn3 hres H locs hW hS ls hl
      cases n with
      | zero => ?_
      | succ n1 => ?_
      · refine lv_iload_n hx hb dX8_asked_25 rfl (lv_at hl 2 rfl) ?_
        refine lv_if_le (tgt := 59) hx hb dX8_asked_26 (by decide) (fun _ => ?_) (fun c9 => absurd (by decide) c9)
        refine lv_bipush (v := (-4)) hx hb dX8_asked_59 (by decide) ?_
        exact g_iret2 C hQ hW hS ⟨_, _, rfl, rfl, (by rw [← hres]; rfl), (by rw [← hres]; rfl)⟩ rfl (Nat.zero_le _) (Nat.zero_le _) dX8_asked_61
      · refine lv_iload_n hx hb dX8_asked_25 rfl (lv_at hl 2 rfl) ?_
        refine lv_if_le (tgt := 59) hx hb dX8_asked_26 (by decide) (fun c9 => absurd c9 (fun q => absurd (q_le (a := n1 + 1) (b := 0) (by omega) (by decide) q) (by omega))) (fun _ => ?_)
        refine lv_aload_n hx hb dX8_asked_29 rfl (lv_at hl 0 rfl) ?_
        refine lv_iload_n hx hb dX8_asked_30 rfl (lv_at hl 1 rfl) ?_
        refine m_callVi (k2 := 1) (As := [.int (nI i)]) (rest := []) C (c_X8_isFailed l X L ad st0 fi (mset fa i u9) hm i hi) tw_6_202 tw_6_204 tw_0_36 tw_1_10 tw_6_205 (by decide +kernel) ⟨by rw [hR1]; exact Nat.le_of_ble_eq_true rfl, by rw [hR2]; exact Nat.le_of_ble_eq_true rfl⟩ hm hW hS rfl hl.1 rfl (Nat.le_of_ble_eq_true rfl) dX8_asked_31 ⟨Nat.zero_le _, Nat.zero_le _⟩ (fun v9 fi9 fa9 H locs hp hW hS => ?_)
        obtain ⟨z1, z2, hb9⟩ := hp
        rw [mset_mcr, mset_row 13 (by decide), mset_row 14 (by decide)] at z2 hb9
        rw [mset_mset] at z2
        rw [z1, z2] at hW
        obtain ⟨ts, hts⟩ : ∃ ts, (tryS (fi 1) (fa 13 i) (fa 14 i) u9).2 = ts := ⟨_, rfl⟩
        rw [hts] at hW
        rcases hb9 with ⟨t1, r9⟩ | ⟨t1, r9⟩
        · subst r9
          refine lv_if_ne (tgt := 39) hx hb dX8_asked_34 (by decide) (fun _ => ?_) (fun c9 => absurd c9 (by decide))
          refine lv_aload_n hx hb dX8_asked_39 rfl (lv_at hl 0 rfl) ?_
          refine lv_iload_n hx hb dX8_asked_40 rfl (lv_at hl 1 rfl) ?_
          refine m_callVi (k2 := 1) (As := [.int (nI i)]) (rest := []) C (c_X8_circuitOf l X L ad st0 fi (mset fa i ts) hm i hi) tw_6_198 tw_6_200 tw_0_35 tw_1_10 tw_6_201 (by decide +kernel) ⟨by rw [hR1]; exact Nat.le_of_ble_eq_true rfl, by rw [hR2]; exact Nat.le_of_ble_eq_true rfl⟩ hm hW hS rfl hl.1 rfl (Nat.le_of_ble_eq_true rfl) dX8_asked_41 ⟨Nat.zero_le _, Nat.zero_le _⟩ (fun x1 fi9 fa9 H locs hp hW hS => ?_)
          obtain ⟨z1, z2, h2⟩ := hp
          rw [z1, z2] at hW
          refine lv_iconst (v := 1) hx hb dX8_asked_44 (by decide) ?_
          refine lv_icmp_ne (tgt := 52) hx hb dX8_asked_45 (by decide) (fun c3 => ?_) (fun c3 => ?_)
          · have hcr := fun q => c3 (h2.trans q)
            refine lv_iload_n hx hb dX8_asked_52 rfl (lv_at hl 2 rfl) ?_
            refine lv_iconst (v := 1) hx hb dX8_asked_53 (by decide) ?_
            refine lv_isub hx hb dX8_asked_54 ?_
            refine lv_topE (y := nI n1) (nI_pred n1) ?_
            refine lv_istore_n (lv' := [(3, .int (nI n1)), (0, .ref (ad (100, 0))), (1, .int (nI i))]) hx hb dX8_asked_55 rfl hl (by decide) rfl (fun ls hl => ?_)
            refine lv_goto (tgt := 25) hx hb dX8_asked_56 (by decide) ?_
            exact ih n1 ts (by omega) (by omega) (by rw [← hres, askL_n (by rw [t1]; decide) (by rw [hts]; simpa [mset, rowu, upd] using hcr), hts]) _ _ hW hS _ (lv_sub hl [1, 2, 0] rfl)
          · have hcr := (h2.symm.trans c3)
            refine lv_iconst (v := 0) hx hb dX8_asked_48 (by decide) ?_
            refine lv_goto (tgt := 55) hx hb dX8_asked_49 (by decide) ?_
            refine lv_istore_n (lv' := [(3, .int 0), (0, .ref (ad (100, 0))), (1, .int (nI i))]) hx hb dX8_asked_55 rfl hl (by decide) rfl (fun ls hl => ?_)
            refine lv_goto (tgt := 25) hx hb dX8_asked_56 (by decide) ?_
            exact ih 0 ts (by omega) (by omega) (by rw [← hres, askL_o (by rw [t1]; decide) (by rw [hts]; simpa [mset, rowu, upd] using hcr), hts]; rfl) _ _ hW hS _ (lv_sub hl [1, 2, 0] rfl)
        · subst r9
          refine lv_if_ne (tgt := 39) hx hb dX8_asked_34 (by decide) (fun c9 => absurd c9 (by decide)) (fun _ => ?_)
          refine lv_iconst (v := 0) hx hb dX8_asked_37 (by decide) ?_
          exact g_iret2 C hQ hW hS ⟨_, _, rfl, rfl, (by rw [← hres, askL_z t1, hts]), (by rw [← hres, askL_z t1])⟩ rfl (Nat.zero_le _) (Nat.zero_le _) dX8_asked_38
  refine lv_aload_n hx hb dX8_asked_0 rfl (lv_at hl 0 rfl) ?_
  refine lv_iload_n hx hb dX8_asked_1 rfl (lv_at hl 1 rfl) ?_
  refine m_callVi (k2 := 1) (As := [.int (nI i)]) (rest := []) C (c_X8_circuitOf l X L ad st0 fi fa hm i hi) tw_6_198 tw_6_200 tw_0_35 tw_1_10 tw_6_201 (by decide +kernel) ⟨by rw [hR1]; exact Nat.le_of_ble_eq_true rfl, by rw [hR2]; exact Nat.le_of_ble_eq_true rfl⟩ hm hW hS rfl hl.1 rfl (Nat.le_of_ble_eq_true rfl) dX8_asked_2 ⟨Nat.zero_le _, Nat.zero_le _⟩ (fun x4 fi9 fa9 H locs hp hW hS => ?_)
  obtain ⟨z1, z2, h5⟩ := hp
  rw [z1, z2] at hW
  refine lv_istore_n (lv' := [(2, .int x4), (0, .ref (ad (100, 0))), (1, .int (nI i))]) hx hb dX8_asked_5 rfl hl (by decide) rfl (fun ls hl => ?_)
  refine lv_iload_n hx hb dX8_asked_6 rfl (lv_at hl 0 rfl) ?_
  refine lv_iconst (v := 1) hx hb dX8_asked_7 (by decide) ?_
  refine lv_icmp_ne (tgt := 14) hx hb dX8_asked_8 (by decide) (fun c6 => ?_) (fun c6 => ?_)
  · refine lv_iload_n hx hb dX8_asked_14 rfl (lv_at hl 0 rfl) ?_
    refine lv_iconst (v := 2) hx hb dX8_asked_15 (by decide) ?_
    refine lv_icmp_ne (tgt := 23) hx hb dX8_asked_16 (by decide) (fun c7 => ?_) (fun c7 => ?_)
    · refine lv_iconst (v := 3) hx hb dX8_asked_23 (by decide) ?_
      refine lv_istore_n (lv' := [(3, .int 3), (2, .int x4), (0, .ref (ad (100, 0))), (1, .int (nI i))]) hx hb dX8_asked_24 rfl hl (by decide) rfl (fun ls hl => ?_)
      rw [← mset_self (fa := fa) (i := i)] at hW
      exact loop _ 3 (mcr fa i) (Nat.lt_succ_self _) (by decide) (by rw [askS, if_neg (by simp only [mcr]; grind), if_neg (by simp only [mcr]; grind)]) _ _ hW hS _ (lv_sub hl [2, 3, 0] rfl)
    · refine lv_iconst (v := 1) hx hb dX8_asked_19 (by decide) ?_
      refine lv_goto (tgt := 24) hx hb dX8_asked_20 (by decide) ?_
      refine lv_istore_n (lv' := [(3, .int 1), (2, .int x4), (0, .ref (ad (100, 0))), (1, .int (nI i))]) hx hb dX8_asked_24 rfl hl (by decide) rfl (fun ls hl => ?_)
      rw [← mset_self (fa := fa) (i := i)] at hW
      exact loop _ 1 (mcr fa i) (Nat.lt_succ_self _) (by decide) (by rw [askS, if_neg (by simp only [mcr]; grind), if_pos (by simp only [mcr]; grind)]) _ _ hW hS _ (lv_sub hl [2, 3, 0] rfl)
  · refine lv_bipush (v := (-3)) hx hb dX8_asked_11 (by decide) ?_
    exact g_iret2 C hQ hW hS ⟨_, _, rfl, rfl, (by rw [askS, if_pos (by simp only [mcr]; grind)]; exact mset_self.symm), (by rw [askS, if_pos (by simp only [mcr]; grind)])⟩ rfl (Nat.zero_le _) (Nat.zero_le _) dX8_asked_13

set_option maxHeartbeats 4000000 in
set_option maxRecDepth 100000 in
theorem c_X8_inWindow (l : Launch) (X : GX) (L : List ro) (ad : ro → Nat) (st0 : ro → va_E) (fi : Nat → Int32) (fa : Nat → Nat → Int32) (hm : mL L) (i : Nat) (hi : i < 6) (nc : Nat) (hnc : fi 23 = nI nc) (hnc2 : nc ≤ 2000) : mM l yX8_inWindow cX8_inWindow 4 (some .int) 0 0 X [.int (nI i)] L ad st0 fi fa (fun v fi' fa' => fi' = fi ∧ fa' = fa ∧ v = cntW (fa 24) (fa 25) (nI i) (fi 1) (fa 12 i) nc) := by
  intro sz
  refine gM_of2 (Qc := fun A => va_Qi _ (gB X A) A) (by decide) (Nat.le_of_ble_eq_true rfl) ?_ sz
  intro p e s m args below meth c A R Q hR hQ C hW hS ls hl
  obtain ⟨hR1, hR2, hR3, hR4⟩ := hR
  have hx := C.1.1
  have hb := C.1.2.1
  have hml := C.1.2.2.1
  have hl : lv_has ls 4 [(0, .ref (ad (100, 0))), (1, .int (nI i))] := hl
  have loop : ∀ (f : Nat) (k : Nat) (many : Int32), (nc - k < f) → (k ≤ nc) → (many = cntW (fa 24) (fa 25) (nI i) (fi 1) (fa 12 i) k) → ∀ (H : Heap) (locs : List Loc), gW X A L ad (mSt X ad st0 fi fa) s H → va_S A s.heap H locs → ∀ ls : Array Slot, lv_has ls 4 [(0, .ref (ad (100, 0))), (1, .int (nI i)), (2, .int many), (3, .int (nI k))] → W p l e R s m args below meth c H locs 0 0 Q (F0 m 4 ls []) := by
    intro f
    induction f with
    | zero =>
      intro k many hf9
      exact absurd hf9 (Nat.not_lt_zero _)
    | succ f ih =>
      intro k many hf hk hmany H locs hW hS ls hl
      refine lv_iload_n hx hb dX8_inWindow_4 rfl (lv_at hl 3 rfl) ?_
      refine lv_aload_n hx hb dX8_inWindow_5 rfl (lv_at hl 0 rfl) ?_
      refine m_getI (v := nI nc) C hm hW 23 (by decide) rfl tw_5_226 hnc dX8_inWindow_6 ?_
      refine lv_icmp_ge (tgt := 56) hx hb dX8_inWindow_9 (by decide) (fun c1 => ?_) (fun c1 => ?_)
      · have c1n := q_le (a := nc) (b := k) (by omega) (by omega) c1
        refine lv_iload_n hx hb dX8_inWindow_56 rfl (lv_at hl 2 rfl) ?_
        exact g_iret2 C hQ hW hS ⟨_, _, rfl, rfl, rfl, by rw [hmany, show k = nc by omega]⟩ rfl (Nat.zero_le _) (Nat.zero_le _) dX8_inWindow_57
      · have c1n := q_nle (a := nc) (b := k) (by omega) (by omega) c1
        refine lv_iload_n hx hb dX8_inWindow_12 rfl (lv_at hl 2 rfl) ?_
        refine lv_aload_n hx hb dX8_inWindow_13 rfl (lv_at hl 0 rfl) ?_
        refine m_getA C hm hW 25 (by decide) rfl tw_5_228 dX8_inWindow_14 ?_
        refine lv_iload_n hx hb dX8_inWindow_17 rfl (lv_at hl 3 rfl) ?_
        refine m_iald (v := (fa 25) k) (j := k) C hm hW 25 (by decide) rfl rfl (vp_in_nI (N := 2000) (by omega) (by decide)) (nI_clamp (by omega)) rfl dX8_inWindow_18 ?_
        refine lv_topi (fun x2 ex2 => ?_)
        refine lv_iload_n hx hb dX8_inWindow_19 rfl (lv_at hl 1 rfl) ?_
        refine lv_icmp_ne (tgt := 47) hx hb dX8_inWindow_20 (by decide) (fun c3 => ?_) (fun c3 => ?_)
        · refine lv_iconst (v := 0) hx hb dX8_inWindow_47 (by decide) ?_
          refine lv_iadd hx hb dX8_inWindow_48 ?_
          refine lv_topi (fun x4 ex4 => ?_)
          refine lv_istore_n (lv' := [(2, .int x4), (0, .ref (ad (100, 0))), (1, .int (nI i)), (3, .int (nI k))]) hx hb dX8_inWindow_49 rfl hl (by decide) rfl (fun ls hl => ?_)
          refine lv_iinc (v := nI (k + 1)) (lv' := [(3, .int (nI (k + 1))), (2, .int x4), (0, .ref (ad (100, 0))), (1, .int (nI i))]) hx hb dX8_inWindow_50 hl (k := 3) rfl (nI_1 k) (by decide) rfl (fun ls hl => ?_)
          refine lv_goto (tgt := 4) hx hb dX8_inWindow_53 (by decide) ?_
          exact ih (k + 1) x4 (by omega) (by omega) (by rw [cntW]; grind) _ _ hW hS _ (lv_sub hl [2, 3, 1, 0] rfl)
        · refine lv_aload_n hx hb dX8_inWindow_23 rfl (lv_at hl 0 rfl) ?_
          refine m_getI (v := fi 1) C hm hW 1 (by decide) rfl tw_5_204 rfl dX8_inWindow_24 ?_
          refine lv_aload_n hx hb dX8_inWindow_27 rfl (lv_at hl 0 rfl) ?_
          refine m_getA C hm hW 24 (by decide) rfl tw_5_227 dX8_inWindow_28 ?_
          refine lv_iload_n hx hb dX8_inWindow_31 rfl (lv_at hl 3 rfl) ?_
          refine m_iald (v := (fa 24) k) (j := k) C hm hW 24 (by decide) rfl rfl (vp_in_nI (N := 2000) (by omega) (by decide)) (nI_clamp (by omega)) rfl dX8_inWindow_32 ?_
          refine lv_topi (fun x6 ex6 => ?_)
          refine lv_isub hx hb dX8_inWindow_33 ?_
          refine lv_topi (fun x7 ex7 => ?_)
          refine lv_aload_n hx hb dX8_inWindow_34 rfl (lv_at hl 0 rfl) ?_
          refine m_getA C hm hW 12 (by decide) rfl tw_5_215 dX8_inWindow_35 ?_
          refine lv_iload_n hx hb dX8_inWindow_38 rfl (lv_at hl 1 rfl) ?_
          refine m_iald (v := (fa 12) i) (j := i) C hm hW 12 (by decide) rfl rfl (vp_in_nI (N := 6) (by omega) (by decide)) (nI_clamp (by omega)) rfl dX8_inWindow_39 ?_
          refine lv_topi (fun x8 ex8 => ?_)
          refine lv_icmp_ge (tgt := 47) hx hb dX8_inWindow_40 (by decide) (fun c9 => ?_) (fun c9 => ?_)
          · refine lv_iconst (v := 0) hx hb dX8_inWindow_47 (by decide) ?_
            refine lv_iadd hx hb dX8_inWindow_48 ?_
            refine lv_topi (fun x10 ex10 => ?_)
            refine lv_istore_n (lv' := [(2, .int x10), (0, .ref (ad (100, 0))), (1, .int (nI i)), (3, .int (nI k))]) hx hb dX8_inWindow_49 rfl hl (by decide) rfl (fun ls hl => ?_)
            refine lv_iinc (v := nI (k + 1)) (lv' := [(3, .int (nI (k + 1))), (2, .int x10), (0, .ref (ad (100, 0))), (1, .int (nI i))]) hx hb dX8_inWindow_50 hl (k := 3) rfl (nI_1 k) (by decide) rfl (fun ls hl => ?_)
            refine lv_goto (tgt := 4) hx hb dX8_inWindow_53 (by decide) ?_
            exact ih (k + 1) x10 (by omega) (by omega) (by rw [cntW]; grind) _ _ hW hS _ (lv_sub hl [2, 3, 1, 0] rfl)
          · refine lv_iconst (v := 1) hx hb dX8_inWindow_43 (by decide) ?_
            refine lv_goto (tgt := 48) hx hb dX8_inWindow_44 (by decide) ?_
            refine lv_iadd hx hb dX8_inWindow_48 ?_
            refine lv_topi (fun x12 ex12 => ?_)
            refine lv_istore_n (lv' := [(2, .int x12), (0, .ref (ad (100, 0))), (1, .int (nI i)), (3, .int (nI k))]) hx hb dX8_inWindow_49 rfl hl (by decide) rfl (fun ls hl => ?_)
            refine lv_iinc (v := nI (k + 1)) (lv' := [(3, .int (nI (k + 1))), (2, .int x12), (0, .ref (ad (100, 0))), (1, .int (nI i))]) hx hb dX8_inWindow_50 hl (k := 3) rfl (nI_1 k) (by decide) rfl (fun ls hl => ?_)
            refine lv_goto (tgt := 4) hx hb dX8_inWindow_53 (by decide) ?_
            exact ih (k + 1) x12 (by omega) (by omega) (by rw [cntW]; grind) _ _ hW hS _ (lv_sub hl [2, 3, 1, 0] rfl)
  refine lv_iconst (v := 0) hx hb dX8_inWindow_0 (by decide) ?_
  refine lv_istore_n (lv' := [(2, .int 0), (0, .ref (ad (100, 0))), (1, .int (nI i))]) hx hb dX8_inWindow_1 rfl hl (by decide) rfl (fun ls hl => ?_)
  refine lv_iconst (v := 0) hx hb dX8_inWindow_2 (by decide) ?_
  refine lv_istore_n (lv' := [(3, .int 0), (2, .int 0), (0, .ref (ad (100, 0))), (1, .int (nI i))]) hx hb dX8_inWindow_3 rfl hl (by decide) rfl (fun ls hl => ?_)
  exact loop _ 0 0 (Nat.lt_succ_self _) (by omega) rfl _ _ hW hS _ (lv_sub hl [2, 3, 1, 0] rfl)

set_option maxHeartbeats 4000000 in
set_option maxRecDepth 100000 in
theorem c_X8_leftOf (l : Launch) (X : GX) (L : List ro) (ad : ro → Nat) (st0 : ro → va_E) (fi : Nat → Int32) (fa : Nat → Nat → Int32) (hm : mL L) (i : Nat) (hi : i < 6) (nc : Nat) (hnc : fi 23 = nI nc) (hnc2 : nc ≤ 2000) : mM l yX8_leftOf cX8_leftOf 3 (some .int) 1 23 X [.int (nI i)] L ad st0 fi fa (fun v fi' fa' => fi' = fi ∧ fa' = fa ∧ v = lft (fa 11 i) (cntW (fa 24) (fa 25) (nI i) (fi 1) (fa 12 i) nc)) := by
  intro sz
  refine gM_of2 (Qc := fun A => va_Qi _ (gB X A) A) (by decide) (Nat.le_of_ble_eq_true rfl) ?_ sz
  intro p e s m args below meth c A R Q hR hQ C hW hS ls hl
  obtain ⟨hR1, hR2, hR3, hR4⟩ := hR
  have hx := C.1.1
  have hb := C.1.2.1
  have hml := C.1.2.2.1
  have hl : lv_has ls 3 [(0, .ref (ad (100, 0))), (1, .int (nI i))] := hl
  refine lv_aload_n hx hb dX8_leftOf_0 rfl (lv_at hl 0 rfl) ?_
  refine m_getA C hm hW 11 (by decide) rfl tw_5_214 dX8_leftOf_1 ?_
  refine lv_iload_n hx hb dX8_leftOf_4 rfl (lv_at hl 1 rfl) ?_
  refine m_iald (v := (fa 11) i) (j := i) C hm hW 11 (by decide) rfl rfl (vp_in_nI (N := 6) (by omega) (by decide)) (nI_clamp (by omega)) rfl dX8_leftOf_5 ?_
  refine lv_topi (fun x1 ex1 => ?_)
  refine lv_aload_n hx hb dX8_leftOf_6 rfl (lv_at hl 0 rfl) ?_
  refine lv_iload_n hx hb dX8_leftOf_7 rfl (lv_at hl 1 rfl) ?_
  refine m_callVi (k2 := 1) (As := [.int (nI i)]) (rest := [.int x1]) C (c_X8_inWindow l X L ad st0 fi fa hm i (by omega) nc hnc (by omega)) tw_6_186 tw_6_188 tw_0_32 tw_1_10 tw_6_189 (by decide +kernel) ⟨by rw [hR1]; exact Nat.le_of_ble_eq_true rfl, by rw [hR2]; exact Nat.le_of_ble_eq_true rfl⟩ hm hW hS rfl hl.1 rfl (Nat.le_of_ble_eq_true rfl) dX8_leftOf_8 ⟨Nat.zero_le _, Nat.zero_le _⟩ (fun x2 fi9 fa9 H locs hp hW hS => ?_)
  obtain ⟨z1, z2, h3⟩ := hp
  rw [z1, z2] at hW
  refine lv_isub hx hb dX8_leftOf_11 ?_
  refine lv_topi (fun x4 ex4 => ?_)
  refine lv_istore_n (lv' := [(2, .int x4), (0, .ref (ad (100, 0))), (1, .int (nI i))]) hx hb dX8_leftOf_12 rfl hl (by decide) rfl (fun ls hl => ?_)
  refine lv_iload_n hx hb dX8_leftOf_13 rfl (lv_at hl 0 rfl) ?_
  refine lv_if_ge (tgt := 21) hx hb dX8_leftOf_14 (by decide) (fun c5 => ?_) (fun c5 => ?_)
  · refine lv_iload_n hx hb dX8_leftOf_21 rfl (lv_at hl 0 rfl) ?_
    exact g_iret2 C hQ hW hS ⟨_, _, rfl, rfl, rfl, by unfold lft; grind⟩ rfl (Nat.zero_le _) (Nat.zero_le _) dX8_leftOf_22
  · refine lv_iconst (v := 0) hx hb dX8_leftOf_17 (by decide) ?_
    refine lv_goto (tgt := 22) hx hb dX8_leftOf_18 (by decide) ?_
    exact g_iret2 C hQ hW hS ⟨_, _, rfl, rfl, rfl, by unfold lft; grind⟩ rfl (Nat.zero_le _) (Nat.zero_le _) dX8_leftOf_22

set_option maxHeartbeats 4000000 in
set_option maxRecDepth 100000 in
theorem c_X8_left (l : Launch) (X : GX) (L : List ro) (ad : ro → Nat) (st0 : ro → va_E) (fi : Nat → Int32) (fa : Nat → Nat → Int32) (hm : mL L) (a : Int32) (nc : Nat) (hnc : fi 23 = nI nc) (hnc2 : nc ≤ 2000) : mM l yX8_left cX8_left 2 (some .int) 2 45 X [.int a] L ad st0 fi fa (fun v fi' fa' => (¬ vp_in a 6 ∧ fi' = upd fi 0 1 ∧ fa' = fa) ∨ (∃ i, i < 6 ∧ a = nI i ∧ fi' = upd fi 0 0 ∧ fa' = fa ∧ v = lft (fa 11 i) (cntW (fa 24) (fa 25) (nI i) (fi 1) (fa 12 i) nc))) := by
  intro sz
  refine gM_of2 (Qc := fun A => va_Qi _ (gB X A) A) (by decide) (Nat.le_of_ble_eq_true rfl) ?_ sz
  intro p e s m args below meth c A R Q hR hQ C hW hS ls hl
  obtain ⟨hR1, hR2, hR3, hR4⟩ := hR
  have hx := C.1.1
  have hb := C.1.2.1
  have hml := C.1.2.2.1
  have hl : lv_has ls 2 [(0, .ref (ad (100, 0))), (1, .int a)] := hl
  refine lv_aload_n hx hb dX8_left_0 rfl (lv_at hl 0 rfl) ?_
  refine lv_iload_n hx hb dX8_left_1 rfl (lv_at hl 1 rfl) ?_
  refine g_callSp (k2 := 1) (As := [.int a]) (rest := [.ref (ad (100, 0))]) C (c_X8_isShipper l X L ad _ a) tw_6_168 tw_6_169 tw_1_10 tw_6_170 (by decide +kernel) ⟨by rw [hR1]; exact Nat.le_of_ble_eq_true rfl, by rw [hR2]; exact Nat.le_of_ble_eq_true rfl⟩ hW hS rfl hl.1 rfl (Nat.le_of_ble_eq_true rfl) dX8_left_2 ⟨Nat.zero_le _, Nat.zero_le _⟩ (fun v9 H locs hp hW hS => ?_)
  rcases hp with ⟨hq9, e9⟩ | ⟨hq9, e9⟩
  · subst e9
    obtain ⟨i, hi, e8⟩ := vp_in_of hq9 (by decide)
    subst e8
    refine lv_if_eq (tgt := 12) hx hb dX8_left_5 (by decide) (fun c9 => absurd c9 (by decide)) (fun _ => ?_)
    refine lv_iconst (v := 0) hx hb dX8_left_8 (by decide) ?_
    refine lv_goto (tgt := 13) hx hb dX8_left_9 (by decide) ?_
    refine m_putI C hm hW hS 0 (by decide) rfl tw_5_203 dX8_left_13 (fun H locs hW hS => ?_)
    refine lv_aload_n hx hb dX8_left_16 rfl (lv_at hl 0 rfl) ?_
    refine m_getI (v := 0) C hm hW 0 (by decide) rfl tw_5_203 rfl dX8_left_17 ?_
    refine lv_if_le (tgt := 27) hx hb dX8_left_20 (by decide) (fun _ => ?_) (fun c9 => absurd (by decide) c9)
    refine lv_aload_n hx hb dX8_left_27 rfl (lv_at hl 0 rfl) ?_
    refine lv_iload_n hx hb dX8_left_28 rfl (lv_at hl 1 rfl) ?_
    refine m_callVi (k2 := 1) (As := [.int (nI i)]) (rest := []) C (c_X8_leftOf l X L ad st0 (upd fi 0 0) fa hm i (by omega) nc hnc (by omega)) tw_6_229 tw_6_231 tw_0_39 tw_1_10 tw_6_232 (by decide +kernel) ⟨by rw [hR1]; exact Nat.le_of_ble_eq_true rfl, by rw [hR2]; exact Nat.le_of_ble_eq_true rfl⟩ hm hW hS rfl hl.1 rfl (Nat.le_of_ble_eq_true rfl) dX8_left_29 ⟨Nat.zero_le _, Nat.zero_le _⟩ (fun x1 fi9 fa9 H locs hp hW hS => ?_)
    obtain ⟨z1, z2, h2⟩ := hp
    rw [z1, z2] at hW
    exact g_iret2 C hQ hW hS ⟨_, _, rfl, Or.inr ⟨i, hi, rfl, rfl, rfl, by first | assumption | grind⟩⟩ rfl (Nat.zero_le _) (Nat.zero_le _) dX8_left_32
  · subst e9
    refine lv_if_eq (tgt := 12) hx hb dX8_left_5 (by decide) (fun _ => ?_) (fun c9 => absurd (by decide) c9)
    refine lv_iconst (v := 1) hx hb dX8_left_12 (by decide) ?_
    refine m_putI C hm hW hS 0 (by decide) rfl tw_5_203 dX8_left_13 (fun H locs hW hS => ?_)
    refine lv_aload_n hx hb dX8_left_16 rfl (lv_at hl 0 rfl) ?_
    refine m_getI (v := 1) C hm hW 0 (by decide) rfl tw_5_203 rfl dX8_left_17 ?_
    refine lv_if_le (tgt := 27) hx hb dX8_left_20 (by decide) (fun c9 => absurd c9 (by decide)) (fun _ => ?_)
    refine lv_iconst (v := 0) hx hb dX8_left_23 (by decide) ?_
    refine lv_goto (tgt := 32) hx hb dX8_left_24 (by decide) ?_
    exact g_iret2 C hQ hW hS ⟨_, _, rfl, Or.inl ⟨hq9, rfl, rfl⟩⟩ rfl (Nat.zero_le _) (Nat.zero_le _) dX8_left_32

set_option maxHeartbeats 4000000 in
set_option maxRecDepth 100000 in
theorem c_X8_leftByLog (l : Launch) (X : GX) (L : List ro) (ad : ro → Nat) (st0 : ro → va_E) (fi : Nat → Int32) (fa : Nat → Nat → Int32) (hm : mL L) (a : Int32) (nc : Nat) (hnc : fi 23 = nI nc) (hnc2 : nc ≤ 2000) : mM l yX8_leftByLog cX8_leftByLog 2 (some .int) 2 45 X [.int a] L ad st0 fi fa (fun v fi' fa' => (¬ vp_in a 6 ∧ fi' = upd fi 0 1 ∧ fa' = fa) ∨ (∃ i, i < 6 ∧ a = nI i ∧ fi' = upd fi 0 0 ∧ fa' = fa ∧ v = lft (fa 11 i) (cntW (fa 24) (fa 25) (nI i) (fi 1) (fa 12 i) nc))) := by
  intro sz
  refine gM_of2 (Qc := fun A => va_Qi _ (gB X A) A) (by decide) (Nat.le_of_ble_eq_true rfl) ?_ sz
  intro p e s m args below meth c A R Q hR hQ C hW hS ls hl
  obtain ⟨hR1, hR2, hR3, hR4⟩ := hR
  have hx := C.1.1
  have hb := C.1.2.1
  have hml := C.1.2.2.1
  have hl : lv_has ls 2 [(0, .ref (ad (100, 0))), (1, .int a)] := hl
  refine lv_aload_n hx hb dX8_leftByLog_0 rfl (lv_at hl 0 rfl) ?_
  refine lv_iload_n hx hb dX8_leftByLog_1 rfl (lv_at hl 1 rfl) ?_
  refine g_callSp (k2 := 1) (As := [.int a]) (rest := [.ref (ad (100, 0))]) C (c_X8_isShipper l X L ad _ a) tw_6_168 tw_6_169 tw_1_10 tw_6_170 (by decide +kernel) ⟨by rw [hR1]; exact Nat.le_of_ble_eq_true rfl, by rw [hR2]; exact Nat.le_of_ble_eq_true rfl⟩ hW hS rfl hl.1 rfl (Nat.le_of_ble_eq_true rfl) dX8_leftByLog_2 ⟨Nat.zero_le _, Nat.zero_le _⟩ (fun v9 H locs hp hW hS => ?_)
  rcases hp with ⟨hq9, e9⟩ | ⟨hq9, e9⟩
  · subst e9
    obtain ⟨i, hi, e8⟩ := vp_in_of hq9 (by decide)
    subst e8
    refine lv_if_eq (tgt := 12) hx hb dX8_leftByLog_5 (by decide) (fun c9 => absurd c9 (by decide)) (fun _ => ?_)
    refine lv_iconst (v := 0) hx hb dX8_leftByLog_8 (by decide) ?_
    refine lv_goto (tgt := 13) hx hb dX8_leftByLog_9 (by decide) ?_
    refine m_putI C hm hW hS 0 (by decide) rfl tw_5_203 dX8_leftByLog_13 (fun H locs hW hS => ?_)
    refine lv_aload_n hx hb dX8_leftByLog_16 rfl (lv_at hl 0 rfl) ?_
    refine m_getI (v := 0) C hm hW 0 (by decide) rfl tw_5_203 rfl dX8_leftByLog_17 ?_
    refine lv_if_le (tgt := 27) hx hb dX8_leftByLog_20 (by decide) (fun _ => ?_) (fun c9 => absurd (by decide) c9)
    refine lv_aload_n hx hb dX8_leftByLog_27 rfl (lv_at hl 0 rfl) ?_
    refine lv_iload_n hx hb dX8_leftByLog_28 rfl (lv_at hl 1 rfl) ?_
    refine m_callVi (k2 := 1) (As := [.int (nI i)]) (rest := []) C (c_X8_leftOf l X L ad st0 (upd fi 0 0) fa hm i (by omega) nc hnc (by omega)) tw_6_229 tw_6_231 tw_0_39 tw_1_10 tw_6_232 (by decide +kernel) ⟨by rw [hR1]; exact Nat.le_of_ble_eq_true rfl, by rw [hR2]; exact Nat.le_of_ble_eq_true rfl⟩ hm hW hS rfl hl.1 rfl (Nat.le_of_ble_eq_true rfl) dX8_leftByLog_29 ⟨Nat.zero_le _, Nat.zero_le _⟩ (fun x1 fi9 fa9 H locs hp hW hS => ?_)
    obtain ⟨z1, z2, h2⟩ := hp
    rw [z1, z2] at hW
    exact g_iret2 C hQ hW hS ⟨_, _, rfl, Or.inr ⟨i, hi, rfl, rfl, rfl, by first | assumption | grind⟩⟩ rfl (Nat.zero_le _) (Nat.zero_le _) dX8_leftByLog_32
  · subst e9
    refine lv_if_eq (tgt := 12) hx hb dX8_leftByLog_5 (by decide) (fun _ => ?_) (fun c9 => absurd (by decide) c9)
    refine lv_iconst (v := 1) hx hb dX8_leftByLog_12 (by decide) ?_
    refine m_putI C hm hW hS 0 (by decide) rfl tw_5_203 dX8_leftByLog_13 (fun H locs hW hS => ?_)
    refine lv_aload_n hx hb dX8_leftByLog_16 rfl (lv_at hl 0 rfl) ?_
    refine m_getI (v := 1) C hm hW 0 (by decide) rfl tw_5_203 rfl dX8_leftByLog_17 ?_
    refine lv_if_le (tgt := 27) hx hb dX8_leftByLog_20 (by decide) (fun c9 => absurd c9 (by decide)) (fun _ => ?_)
    refine lv_iconst (v := 0) hx hb dX8_leftByLog_23 (by decide) ?_
    refine lv_goto (tgt := 32) hx hb dX8_leftByLog_24 (by decide) ?_
    exact g_iret2 C hQ hW hS ⟨_, _, rfl, Or.inl ⟨hq9, rfl, rfl⟩⟩ rfl (Nat.zero_le _) (Nat.zero_le _) dX8_leftByLog_32

set_option maxHeartbeats 4000000 in
set_option maxRecDepth 100000 in
theorem c_X8_isDue (l : Launch) (X : GX) (L : List ro) (ad : ro → Nat) (st0 : ro → va_E) (fi : Nat → Int32) (fa : Nat → Nat → Int32) (hm : mL L) (k i q : Nat) (hk : k < 50) (hq : fa 43 k = nI q) (hq1 : q < 100) : mM l yX8_isDue cX8_isDue 3 (some .boolean) 0 0 X [.int (nI k), .int (nI i)] L ad st0 fi fa (fun v fi' fa' => fi' = fi ∧ fa' = fa ∧ ((isdue fi fa (nI i) k ∧ v = 1) ∨ (¬ isdue fi fa (nI i) k ∧ v = 0))) := by
  intro sz
  refine gM_of2 (Qc := fun A => va_Qi _ (gB X A) A) (by decide) (Nat.le_of_ble_eq_true rfl) ?_ sz
  intro p e s m args below meth c A R Q hR hQ C hW hS ls hl
  obtain ⟨hR1, hR2, hR3, hR4⟩ := hR
  have hx := C.1.1
  have hb := C.1.2.1
  have hml := C.1.2.2.1
  have hl : lv_has ls 3 [(0, .ref (ad (100, 0))), (1, .int (nI k)), (2, .int (nI i))] := hl
  refine lv_aload_n hx hb dX8_isDue_0 rfl (lv_at hl 0 rfl) ?_
  refine m_getA C hm hW 46 (by decide) rfl tw_6_9 dX8_isDue_1 ?_
  refine lv_iload_n hx hb dX8_isDue_4 rfl (lv_at hl 1 rfl) ?_
  refine m_iald (v := (fa 46) k) (j := k) C hm hW 46 (by decide) rfl rfl (vp_in_nI (N := 50) (by omega) (by decide)) (nI_clamp (by omega)) rfl dX8_isDue_5 ?_
  refine lv_topi (fun x1 ex1 => ?_)
  refine lv_if_ne (tgt := 44) hx hb dX8_isDue_6 (by decide) (fun c2 => ?_) (fun c2 => ?_)
  · refine lv_iconst (v := 0) hx hb dX8_isDue_44 (by decide) ?_
    exact g_iret2 C hQ hW hS ⟨_, _, rfl, rfl, rfl, Or.inr ⟨by unfold isdue; rw [hq, nI_clamp (by omega)]; grind, rfl⟩⟩ (by decide) (Nat.zero_le _) (Nat.zero_le _) dX8_isDue_45
  · refine lv_aload_n hx hb dX8_isDue_9 rfl (lv_at hl 0 rfl) ?_
    refine m_getI (v := fi 1) C hm hW 1 (by decide) rfl tw_5_204 rfl dX8_isDue_10 ?_
    refine lv_aload_n hx hb dX8_isDue_13 rfl (lv_at hl 0 rfl) ?_
    refine m_getA C hm hW 44 (by decide) rfl tw_6_7 dX8_isDue_14 ?_
    refine lv_iload_n hx hb dX8_isDue_17 rfl (lv_at hl 1 rfl) ?_
    refine m_iald (v := (fa 44) k) (j := k) C hm hW 44 (by decide) rfl rfl (vp_in_nI (N := 50) (by omega) (by decide)) (nI_clamp (by omega)) rfl dX8_isDue_18 ?_
    refine lv_topi (fun x3 ex3 => ?_)
    refine lv_bipush (v := 30) hx hb dX8_isDue_19 (by decide) ?_
    refine lv_iadd hx hb dX8_isDue_21 ?_
    refine lv_topi (fun x4 ex4 => ?_)
    refine lv_icmp_le (tgt := 44) hx hb dX8_isDue_22 (by decide) (fun c5 => ?_) (fun c5 => ?_)
    · refine lv_iconst (v := 0) hx hb dX8_isDue_44 (by decide) ?_
      exact g_iret2 C hQ hW hS ⟨_, _, rfl, rfl, rfl, Or.inr ⟨by unfold isdue; rw [hq, nI_clamp (by omega)]; grind, rfl⟩⟩ (by decide) (Nat.zero_le _) (Nat.zero_le _) dX8_isDue_45
    · refine lv_aload_n hx hb dX8_isDue_25 rfl (lv_at hl 0 rfl) ?_
      refine m_getA C hm hW 33 (by decide) rfl tw_5_236 dX8_isDue_26 ?_
      refine lv_aload_n hx hb dX8_isDue_29 rfl (lv_at hl 0 rfl) ?_
      refine m_getA C hm hW 43 (by decide) rfl tw_6_6 dX8_isDue_30 ?_
      refine lv_iload_n hx hb dX8_isDue_33 rfl (lv_at hl 1 rfl) ?_
      refine m_iald (v := (fa 43) k) (j := k) C hm hW 43 (by decide) rfl rfl (vp_in_nI (N := 50) (by omega) (by decide)) (nI_clamp (by omega)) rfl dX8_isDue_34 ?_
      refine lv_topE (y := nI q) hq ?_
      refine m_iald (v := (fa 33) q) (j := q) C hm hW 33 (by decide) rfl rfl (vp_in_nI (N := 100) (by omega) (by decide)) (nI_clamp (by omega)) rfl dX8_isDue_35 ?_
      refine lv_topi (fun x6 ex6 => ?_)
      refine lv_iload_n hx hb dX8_isDue_36 rfl (lv_at hl 2 rfl) ?_
      refine lv_icmp_ne (tgt := 44) hx hb dX8_isDue_37 (by decide) (fun c7 => ?_) (fun c7 => ?_)
      · refine lv_iconst (v := 0) hx hb dX8_isDue_44 (by decide) ?_
        exact g_iret2 C hQ hW hS ⟨_, _, rfl, rfl, rfl, Or.inr ⟨by unfold isdue; rw [hq, nI_clamp (by omega)]; grind, rfl⟩⟩ (by decide) (Nat.zero_le _) (Nat.zero_le _) dX8_isDue_45
      · refine lv_iconst (v := 1) hx hb dX8_isDue_40 (by decide) ?_
        refine lv_goto (tgt := 45) hx hb dX8_isDue_41 (by decide) ?_
        exact g_iret2 C hQ hW hS ⟨_, _, rfl, rfl, rfl, Or.inl ⟨by unfold isdue; rw [hq, nI_clamp (by omega)]; grind, rfl⟩⟩ (by decide) (Nat.zero_le _) (Nat.zero_le _) dX8_isDue_45

set_option maxHeartbeats 4000000 in
set_option maxRecDepth 100000 in
theorem c_X8_billOf (l : Launch) (X : GX) (L : List ro) (ad : ro → Nat) (st0 : ro → va_E) (fi : Nat → Int32) (fa : Nat → Nat → Int32) (hm : mL L) (i : Nat) (hi : i < 6) (np : Nat) (hnp : fi 42 = nI np) (hnp2 : np ≤ 50) (hpq : ∀ k, k < np → ∃ q, q < 100 ∧ fa 43 k = nI q) : mM l yX8_billOf cX8_billOf 4 (some .int) 1 22 X [.int (nI i)] L ad st0 fi fa (fun v fi' fa' => fi' = fi ∧ fa' = fa ∧ v = sumDue fi fa (nI i) (fa 26 i) np) := by
  intro sz
  refine gM_of2 (Qc := fun A => va_Qi _ (gB X A) A) (by decide) (Nat.le_of_ble_eq_true rfl) ?_ sz
  intro p e s m args below meth c A R Q hR hQ C hW hS ls hl
  obtain ⟨hR1, hR2, hR3, hR4⟩ := hR
  have hx := C.1.1
  have hb := C.1.2.1
  have hml := C.1.2.2.1
  have hl : lv_has ls 4 [(0, .ref (ad (100, 0))), (1, .int (nI i))] := hl
  have loop : ∀ (f : Nat) (k : Nat) (sm : Int32), (np - k < f) → (k ≤ np) → (sm = sumDue fi fa (nI i) (fa 26 i) k) → ∀ (H : Heap) (locs : List Loc), gW X A L ad (mSt X ad st0 fi fa) s H → va_S A s.heap H locs → ∀ ls : Array Slot, lv_has ls 4 [(0, .ref (ad (100, 0))), (1, .int (nI i)), (2, .int sm), (3, .int (nI k))] → W p l e R s m args below meth c H locs 0 0 Q (F0 m 9 ls []) := by
    intro f
    induction f with
    | zero =>
      intro k sm hf9
      exact absurd hf9 (Nat.not_lt_zero _)
    | succ f ih =>
      intro k sm hf hk hsum H locs hW hS ls hl
      refine lv_iload_n hx hb dX8_billOf_9 rfl (lv_at hl 3 rfl) ?_
      refine lv_aload_n hx hb dX8_billOf_10 rfl (lv_at hl 0 rfl) ?_
      refine m_getI (v := nI np) C hm hW 42 (by decide) rfl tw_6_5 hnp dX8_billOf_11 ?_
      refine lv_icmp_ge (tgt := 45) hx hb dX8_billOf_14 (by decide) (fun c1 => ?_) (fun c1 => ?_)
      · have c1n := q_le (a := np) (b := k) (by omega) (by omega) c1
        refine lv_iload_n hx hb dX8_billOf_45 rfl (lv_at hl 2 rfl) ?_
        exact g_iret2 C hQ hW hS ⟨_, _, rfl, rfl, rfl, by rw [hsum, show k = np by omega]⟩ rfl (Nat.zero_le _) (Nat.zero_le _) dX8_billOf_46
      · have c1n := q_nle (a := np) (b := k) (by omega) (by omega) c1
        obtain ⟨q, hq1, hq⟩ := hpq k (by omega)
        refine lv_iload_n hx hb dX8_billOf_17 rfl (lv_at hl 2 rfl) ?_
        refine lv_aload_n hx hb dX8_billOf_18 rfl (lv_at hl 0 rfl) ?_
        refine lv_iload_n hx hb dX8_billOf_19 rfl (lv_at hl 3 rfl) ?_
        refine lv_iload_n hx hb dX8_billOf_20 rfl (lv_at hl 1 rfl) ?_
        refine m_callVi (k2 := 2) (As := [.int (nI k), .int (nI i)]) (rest := [.int sm]) C (c_X8_isDue l X L ad st0 fi fa hm k i q (by omega) hq hq1) tw_7_41 tw_7_43 tw_0_42 tw_1_10 tw_7_44 (by decide +kernel) ⟨by rw [hR1]; exact Nat.le_of_ble_eq_true rfl, by rw [hR2]; exact Nat.le_of_ble_eq_true rfl⟩ hm hW hS rfl hl.1 rfl (Nat.le_of_ble_eq_true rfl) dX8_billOf_21 ⟨Nat.zero_le _, Nat.zero_le _⟩ (fun v9 fi9 fa9 H locs hp hW hS => ?_)
        obtain ⟨z1, z2, hb9⟩ := hp
        rw [z1, z2] at hW
        rcases hb9 with ⟨t1, r9⟩ | ⟨t1, r9⟩
        · subst r9
          refine lv_if_eq (tgt := 36) hx hb dX8_billOf_24 (by decide) (fun c9 => absurd c9 (by decide)) (fun _ => ?_)
          refine lv_aload_n hx hb dX8_billOf_27 rfl (lv_at hl 0 rfl) ?_
          refine m_getA C hm hW 45 (by decide) rfl tw_6_8 dX8_billOf_28 ?_
          refine lv_iload_n hx hb dX8_billOf_31 rfl (lv_at hl 3 rfl) ?_
          refine m_iald (v := (fa 45) k) (j := k) C hm hW 45 (by decide) rfl rfl (vp_in_nI (N := 50) (by omega) (by decide)) (nI_clamp (by omega)) rfl dX8_billOf_32 ?_
          refine lv_topi (fun x2 ex2 => ?_)
          refine lv_goto (tgt := 37) hx hb dX8_billOf_33 (by decide) ?_
          refine lv_iadd hx hb dX8_billOf_37 ?_
          refine lv_topi (fun x3 ex3 => ?_)
          refine lv_istore_n (lv' := [(2, .int x3), (0, .ref (ad (100, 0))), (1, .int (nI i)), (3, .int (nI k))]) hx hb dX8_billOf_38 rfl hl (by decide) rfl (fun ls hl => ?_)
          refine lv_iinc (v := nI (k + 1)) (lv' := [(3, .int (nI (k + 1))), (2, .int x3), (0, .ref (ad (100, 0))), (1, .int (nI i))]) hx hb dX8_billOf_39 hl (k := 3) rfl (nI_1 k) (by decide) rfl (fun ls hl => ?_)
          refine lv_goto (tgt := 9) hx hb dX8_billOf_42 (by decide) ?_
          exact ih (k + 1) x3 (by omega) (by omega) (by rw [sumDue]; first | (rw [dueN_a t1]; grind) | (rw [dueN_b t1]; grind)) _ _ hW hS _ (lv_sub hl [2, 3, 1, 0] rfl)
        · subst r9
          refine lv_if_eq (tgt := 36) hx hb dX8_billOf_24 (by decide) (fun _ => ?_) (fun c9 => absurd (by decide) c9)
          refine lv_iconst (v := 0) hx hb dX8_billOf_36 (by decide) ?_
          refine lv_iadd hx hb dX8_billOf_37 ?_
          refine lv_topi (fun x5 ex5 => ?_)
          refine lv_istore_n (lv' := [(2, .int x5), (0, .ref (ad (100, 0))), (1, .int (nI i)), (3, .int (nI k))]) hx hb dX8_billOf_38 rfl hl (by decide) rfl (fun ls hl => ?_)
          refine lv_iinc (v := nI (k + 1)) (lv' := [(3, .int (nI (k + 1))), (2, .int x5), (0, .ref (ad (100, 0))), (1, .int (nI i))]) hx hb dX8_billOf_39 hl (k := 3) rfl (nI_1 k) (by decide) rfl (fun ls hl => ?_)
          refine lv_goto (tgt := 9) hx hb dX8_billOf_42 (by decide) ?_
          exact ih (k + 1) x5 (by omega) (by omega) (by rw [sumDue]; first | (rw [dueN_a t1]; grind) | (rw [dueN_b t1]; grind)) _ _ hW hS _ (lv_sub hl [2, 3, 1, 0] rfl)
  refine lv_aload_n hx hb dX8_billOf_0 rfl (lv_at hl 0 rfl) ?_
  refine m_getA C hm hW 26 (by decide) rfl tw_5_229 dX8_billOf_1 ?_
  refine lv_iload_n hx hb dX8_billOf_4 rfl (lv_at hl 1 rfl) ?_
  refine m_iald (v := (fa 26) i) (j := i) C hm hW 26 (by decide) rfl rfl (vp_in_nI (N := 6) (by omega) (by decide)) (nI_clamp (by omega)) rfl dX8_billOf_5 ?_
  refine lv_topi (fun x7 ex7 => ?_)
  refine lv_istore_n (lv' := [(2, .int x7), (0, .ref (ad (100, 0))), (1, .int (nI i))]) hx hb dX8_billOf_6 rfl hl (by decide) rfl (fun ls hl => ?_)
  refine lv_iconst (v := 0) hx hb dX8_billOf_7 (by decide) ?_
  refine lv_istore_n (lv' := [(3, .int 0), (2, .int x7), (0, .ref (ad (100, 0))), (1, .int (nI i))]) hx hb dX8_billOf_8 rfl hl (by decide) rfl (fun ls hl => ?_)
  exact loop _ 0 x7 (Nat.lt_succ_self _) (by omega) (by rw [sumDue]; grind) _ _ hW hS _ (lv_sub hl [2, 3, 1, 0] rfl)

set_option maxHeartbeats 4000000 in
set_option maxRecDepth 100000 in
theorem c_X8_bill (l : Launch) (X : GX) (L : List ro) (ad : ro → Nat) (st0 : ro → va_E) (fi : Nat → Int32) (fa : Nat → Nat → Int32) (hm : mL L) (a : Int32) (np : Nat) (hnp : fi 42 = nI np) (hnp2 : np ≤ 50) (hpq : ∀ k, k < np → ∃ q, q < 100 ∧ fa 43 k = nI q) : mM l yX8_bill cX8_bill 2 (some .int) 2 45 X [.int a] L ad st0 fi fa (fun v fi' fa' => (¬ vp_in a 6 ∧ fi' = upd fi 0 1 ∧ fa' = fa) ∨ (∃ i, i < 6 ∧ a = nI i ∧ fi' = upd fi 0 0 ∧ fa' = fa ∧ v = sumDue (upd fi 0 0) fa (nI i) (fa 26 i) np)) := by
  intro sz
  refine gM_of2 (Qc := fun A => va_Qi _ (gB X A) A) (by decide) (Nat.le_of_ble_eq_true rfl) ?_ sz
  intro p e s m args below meth c A R Q hR hQ C hW hS ls hl
  obtain ⟨hR1, hR2, hR3, hR4⟩ := hR
  have hx := C.1.1
  have hb := C.1.2.1
  have hml := C.1.2.2.1
  have hl : lv_has ls 2 [(0, .ref (ad (100, 0))), (1, .int a)] := hl
  refine lv_aload_n hx hb dX8_bill_0 rfl (lv_at hl 0 rfl) ?_
  refine lv_iload_n hx hb dX8_bill_1 rfl (lv_at hl 1 rfl) ?_
  refine g_callSp (k2 := 1) (As := [.int a]) (rest := [.ref (ad (100, 0))]) C (c_X8_isShipper l X L ad _ a) tw_6_168 tw_6_169 tw_1_10 tw_6_170 (by decide +kernel) ⟨by rw [hR1]; exact Nat.le_of_ble_eq_true rfl, by rw [hR2]; exact Nat.le_of_ble_eq_true rfl⟩ hW hS rfl hl.1 rfl (Nat.le_of_ble_eq_true rfl) dX8_bill_2 ⟨Nat.zero_le _, Nat.zero_le _⟩ (fun v9 H locs hp hW hS => ?_)
  rcases hp with ⟨hq9, e9⟩ | ⟨hq9, e9⟩
  · subst e9
    obtain ⟨i, hi, e8⟩ := vp_in_of hq9 (by decide)
    subst e8
    refine lv_if_eq (tgt := 12) hx hb dX8_bill_5 (by decide) (fun c9 => absurd c9 (by decide)) (fun _ => ?_)
    refine lv_iconst (v := 0) hx hb dX8_bill_8 (by decide) ?_
    refine lv_goto (tgt := 13) hx hb dX8_bill_9 (by decide) ?_
    refine m_putI C hm hW hS 0 (by decide) rfl tw_5_203 dX8_bill_13 (fun H locs hW hS => ?_)
    refine lv_aload_n hx hb dX8_bill_16 rfl (lv_at hl 0 rfl) ?_
    refine m_getI (v := 0) C hm hW 0 (by decide) rfl tw_5_203 rfl dX8_bill_17 ?_
    refine lv_if_le (tgt := 27) hx hb dX8_bill_20 (by decide) (fun _ => ?_) (fun c9 => absurd (by decide) c9)
    refine lv_aload_n hx hb dX8_bill_27 rfl (lv_at hl 0 rfl) ?_
    refine lv_iload_n hx hb dX8_bill_28 rfl (lv_at hl 1 rfl) ?_
    refine m_callVi (k2 := 1) (As := [.int (nI i)]) (rest := []) C (c_X8_billOf l X L ad st0 (upd fi 0 0) fa hm i (by omega) np hnp hnp2 hpq) tw_7_37 tw_7_39 tw_0_41 tw_1_10 tw_7_40 (by decide +kernel) ⟨by rw [hR1]; exact Nat.le_of_ble_eq_true rfl, by rw [hR2]; exact Nat.le_of_ble_eq_true rfl⟩ hm hW hS rfl hl.1 rfl (Nat.le_of_ble_eq_true rfl) dX8_bill_29 ⟨Nat.zero_le _, Nat.zero_le _⟩ (fun x1 fi9 fa9 H locs hp hW hS => ?_)
    obtain ⟨z1, z2, h2⟩ := hp
    rw [z1, z2] at hW
    exact g_iret2 C hQ hW hS ⟨_, _, rfl, Or.inr ⟨i, hi, rfl, rfl, rfl, by assumption⟩⟩ rfl (Nat.zero_le _) (Nat.zero_le _) dX8_bill_32
  · subst e9
    refine lv_if_eq (tgt := 12) hx hb dX8_bill_5 (by decide) (fun _ => ?_) (fun c9 => absurd (by decide) c9)
    refine lv_iconst (v := 1) hx hb dX8_bill_12 (by decide) ?_
    refine m_putI C hm hW hS 0 (by decide) rfl tw_5_203 dX8_bill_13 (fun H locs hW hS => ?_)
    refine lv_aload_n hx hb dX8_bill_16 rfl (lv_at hl 0 rfl) ?_
    refine m_getI (v := 1) C hm hW 0 (by decide) rfl tw_5_203 rfl dX8_bill_17 ?_
    refine lv_if_le (tgt := 27) hx hb dX8_bill_20 (by decide) (fun c9 => absurd c9 (by decide)) (fun _ => ?_)
    refine lv_iconst (v := 0) hx hb dX8_bill_23 (by decide) ?_
    refine lv_goto (tgt := 32) hx hb dX8_bill_24 (by decide) ?_
    exact g_iret2 C hQ hW hS ⟨_, _, rfl, Or.inl ⟨hq9, rfl, rfl⟩⟩ rfl (Nat.zero_le _) (Nat.zero_le _) dX8_bill_32

