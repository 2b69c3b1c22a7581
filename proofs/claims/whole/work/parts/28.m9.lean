set_option maxHeartbeats 4000000 in
set_option maxRecDepth 100000 in
theorem c_X8_close (l : Launch) (X : GX) (L : List ro) (ad : ro → Nat) (st0 : ro → va_E) (fi : Nat → Int32) (fa : Nat → Nat → Int32) (hm : mL L) (a : Int32) (np : Nat) (hnp : fi 42 = nI np) (hnp2 : np ≤ 50) (hpq : ∀ k, k < np → ∃ q, q < 100 ∧ fa 43 k = nI q) : mM l yX8_close cX8_close 4 (some .int) 2 45 X [.int a] L ad st0 fi fa (fun v fi' fa' => (¬ vp_in a 6 ∧ fi' = upd fi 0 1 ∧ fa' = fa) ∨ (∃ i, i < 6 ∧ a = nI i ∧ fi' = upd fi 0 0 ∧ v = sumDue (upd fi 0 0) fa (nI i) (fa 26 i) np ∧ ∃ g, (∀ j, j < np → g j = dueN (upd fi 0 0) fa (nI i) j 2 (fa 46 j)) ∧ (∀ j, np ≤ j → g j = fa 46 j) ∧ fa' = rowu (rowu (rowu fa 46 g) 26 (upd (fa 26) i 0)) 27 (upd (fa 27) i (fa 27 i + v)))) := by
  intro sz
  refine gM_of2 (Qc := fun A => va_Qi _ (gB X A) A) (by decide) (Nat.le_of_ble_eq_true rfl) ?_ sz
  intro p e s m args below meth c A R Q hR hQ C hW hS ls hl
  obtain ⟨hR1, hR2, hR3, hR4⟩ := hR
  have hx := C.1.1
  have hb := C.1.2.1
  have hml := C.1.2.2.1
  have hl : lv_has ls 4 [(0, .ref (ad (100, 0))), (1, .int a)] := hl
  refine lv_aload_n hx hb dX8_close_0 rfl (lv_at hl 0 rfl) ?_
  refine lv_iload_n hx hb dX8_close_1 rfl (lv_at hl 1 rfl) ?_
  refine g_callSp (k2 := 1) (As := [.int a]) (rest := [.ref (ad (100, 0))]) C (c_X8_isShipper l X L ad _ a) tw_6_168 tw_6_169 tw_1_10 tw_6_170 (by decide +kernel) ⟨by rw [hR1]; exact Nat.le_of_ble_eq_true rfl, by rw [hR2]; exact Nat.le_of_ble_eq_true rfl⟩ hW hS rfl hl.1 rfl (Nat.le_of_ble_eq_true rfl) dX8_close_2 ⟨Nat.zero_le _, Nat.zero_le _⟩ (fun v9 H locs hp hW hS => ?_)
  rcases hp with ⟨hq9, e9⟩ | ⟨hq9, e9⟩
  · subst e9
    obtain ⟨i, hi, e8⟩ := vp_in_of hq9 (by decide)
    subst e8
    refine lv_if_eq (tgt := 12) hx hb dX8_close_5 (by decide) (fun c9 => absurd c9 (by decide)) (fun _ => ?_)
    refine lv_iconst (v := 0) hx hb dX8_close_8 (by decide) ?_
    refine lv_goto (tgt := 13) hx hb dX8_close_9 (by decide) ?_
    refine m_putI C hm hW hS 0 (by decide) rfl tw_5_203 dX8_close_13 (fun H locs hW hS => ?_)
    refine lv_aload_n hx hb dX8_close_16 rfl (lv_at hl 0 rfl) ?_
    refine m_getI (v := 0) C hm hW 0 (by decide) rfl tw_5_203 rfl dX8_close_17 ?_
    refine lv_if_le (tgt := 25) hx hb dX8_close_20 (by decide) (fun _ => ?_) (fun c9 => absurd (by decide) c9)
    refine lv_aload_n hx hb dX8_close_25 rfl (lv_at hl 0 rfl) ?_
    refine lv_iload_n hx hb dX8_close_26 rfl (lv_at hl 1 rfl) ?_
    refine m_callVi (k2 := 1) (As := [.int (nI i)]) (rest := []) C (c_X8_billOf l X L ad st0 (upd fi 0 0) fa hm i (by omega) np hnp hnp2 hpq) tw_7_37 tw_7_39 tw_0_41 tw_1_10 tw_7_40 (by decide +kernel) ⟨by rw [hR1]; exact Nat.le_of_ble_eq_true rfl, by rw [hR2]; exact Nat.le_of_ble_eq_true rfl⟩ hm hW hS rfl hl.1 rfl (Nat.le_of_ble_eq_true rfl) dX8_close_27 ⟨Nat.zero_le _, Nat.zero_le _⟩ (fun x1 fi9 fa9 H locs hp hW hS => ?_)
    obtain ⟨z1, z2, h2⟩ := hp
    rw [z1, z2] at hW
    refine lv_istore_n (lv' := [(2, .int x1), (0, .ref (ad (100, 0))), (1, .int (nI i))]) hx hb dX8_close_30 rfl hl (by decide) rfl (fun ls hl => ?_)
    obtain ⟨bl, ebl⟩ : ∃ bl, bl = x1 := ⟨_, rfl⟩
    rw [← ebl] at hl
    have hbl : bl = sumDue (upd fi 0 0) fa (nI i) (fa 26 i) np := ebl.trans h2
    have loop : ∀ (f : Nat) (k : Nat) (g : Nat → Int32), (np - k < f) → (k ≤ np) → (∀ j, j < k → g j = dueN (upd fi 0 0) fa (nI i) j 2 (fa 46 j)) → (∀ j, k ≤ j → g j = fa 46 j) → ∀ (H : Heap) (locs : List Loc), gW X A L ad (mSt X ad st0 (upd fi 0 0) (rowu fa 46 g)) s H → va_S A s.heap H locs → ∀ ls : Array Slot, lv_has ls 4 [(0, .ref (ad (100, 0))), (1, .int (nI i)), (2, .int bl), (3, .int (nI k))] → W p l e R s m args below meth c H locs 0 0 Q (F0 m 33 ls []) := by
      intro f
      induction f with
      | zero =>
        intro k g hf9
        exact absurd hf9 (Nat.not_lt_zero _)
      | succ f ih =>
        intro k g hf hk hg1 hg2 H locs hW hS ls hl
        refine lv_iload_n hx hb dX8_close_33 rfl (lv_at hl 3 rfl) ?_
        refine lv_aload_n hx hb dX8_close_34 rfl (lv_at hl 0 rfl) ?_
        refine m_getI (v := nI np) C hm hW 42 (by decide) rfl tw_6_5 hnp dX8_close_35 ?_
        refine lv_icmp_ge (tgt := 72) hx hb dX8_close_38 (by decide) (fun c3 => ?_) (fun c3 => ?_)
        · have c3n := q_le (a := np) (b := k) (by omega) (by omega) c3
          refine lv_aload_n hx hb dX8_close_72 rfl (lv_at hl 0 rfl) ?_
          refine m_getA C hm hW 26 (by decide) rfl tw_5_229 dX8_close_73 ?_
          refine lv_iload_n hx hb dX8_close_76 rfl (lv_at hl 1 rfl) ?_
          refine lv_iconst (v := 0) hx hb dX8_close_77 (by decide) ?_
          refine m_iast (j := i) C hm hW hS 26 (by decide) rfl rfl (vp_in_nI (N := 6) (by omega) (by decide)) (nI_clamp (by omega)) dX8_close_78 (fun H locs hW hS => ?_)
          refine lv_aload_n hx hb dX8_close_79 rfl (lv_at hl 0 rfl) ?_
          refine m_getA C hm hW 27 (by decide) rfl tw_5_230 dX8_close_80 ?_
          refine lv_iload_n hx hb dX8_close_83 rfl (lv_at hl 1 rfl) ?_
          refine lv_dup2_11 hx hb dX8_close_84 rfl rfl ?_
          refine m_iald (v := (fa 27) i) (j := i) C hm hW 27 (by decide) rfl rfl (vp_in_nI (N := 6) (by omega) (by decide)) (nI_clamp (by omega)) rfl dX8_close_85 ?_
          refine lv_topi (fun x4 ex4 => ?_)
          refine lv_iload_n hx hb dX8_close_86 rfl (lv_at hl 2 rfl) ?_
          refine lv_iadd hx hb dX8_close_87 ?_
          refine lv_topi (fun x5 ex5 => ?_)
          refine m_iast (j := i) C hm hW hS 27 (by decide) rfl rfl (vp_in_nI (N := 6) (by omega) (by decide)) (nI_clamp (by omega)) dX8_close_88 (fun H locs hW hS => ?_)
          refine lv_iload_n hx hb dX8_close_89 rfl (lv_at hl 2 rfl) ?_
          exact g_iret2 C hQ hW hS ⟨_, _, rfl, Or.inr ⟨i, hi, rfl, rfl, hbl, g, (fun j q => hg1 j (by omega)), (fun j q => hg2 j (by omega)), by subst_vars; rfl⟩⟩ rfl (Nat.zero_le _) (Nat.zero_le _) dX8_close_90
        · have c3n := q_nle (a := np) (b := k) (by omega) (by omega) c3
          obtain ⟨q, hq1, hq⟩ := hpq k (by omega)
          refine lv_aload_n hx hb dX8_close_41 rfl (lv_at hl 0 rfl) ?_
          refine m_getA C hm hW 46 (by decide) rfl tw_6_9 dX8_close_42 ?_
          refine lv_iload_n hx hb dX8_close_45 rfl (lv_at hl 3 rfl) ?_
          refine lv_aload_n hx hb dX8_close_46 rfl (lv_at hl 0 rfl) ?_
          refine lv_iload_n hx hb dX8_close_47 rfl (lv_at hl 3 rfl) ?_
          refine lv_iload_n hx hb dX8_close_48 rfl (lv_at hl 1 rfl) ?_
          refine m_callVi (k2 := 2) (As := [.int (nI k), .int (nI i)]) (rest := [.int (nI k), .ref (ad (101, 46))]) C (c_X8_isDue l X L ad st0 (upd fi 0 0) (rowu fa 46 g) hm k i q (by omega) hq hq1) tw_7_41 tw_7_43 tw_0_42 tw_1_10 tw_7_44 (by decide +kernel) ⟨by rw [hR1]; exact Nat.le_of_ble_eq_true rfl, by rw [hR2]; exact Nat.le_of_ble_eq_true rfl⟩ hm hW hS rfl hl.1 rfl (Nat.le_of_ble_eq_true rfl) dX8_close_49 ⟨Nat.zero_le _, Nat.zero_le _⟩ (fun v9 fi9 fa9 H locs hp hW hS => ?_)
          obtain ⟨z1, z2, hb9⟩ := hp
          rw [z1, z2] at hW
          rcases hb9 with ⟨t1, r9⟩ | ⟨t1, r9⟩
          · subst r9
            refine lv_if_eq (tgt := 59) hx hb dX8_close_52 (by decide) (fun c9 => absurd c9 (by decide)) (fun _ => ?_)
            refine lv_iconst (v := 2) hx hb dX8_close_55 (by decide) ?_
            refine lv_goto (tgt := 65) hx hb dX8_close_56 (by decide) ?_
            refine m_iast (j := k) C hm hW hS 46 (by decide) rfl rfl (vp_in_nI (N := 50) (by omega) (by decide)) (nI_clamp (by omega)) dX8_close_65 (fun H locs hW hS => ?_)
            rw [rowu_same] at hW
            refine lv_iinc (v := nI (k + 1)) (lv' := [(3, .int (nI (k + 1))), (0, .ref (ad (100, 0))), (1, .int (nI i)), (2, .int bl)]) hx hb dX8_close_66 hl (k := 3) rfl (nI_1 k) (by decide) rfl (fun ls hl => ?_)
            refine lv_goto (tgt := 33) hx hb dX8_close_69 (by decide) ?_
            exact ih (k + 1) (upd g k 2) (by omega) (by omega) (by intro j hj; exact if e : j = k then (by subst e; rw [pk_us]; first | exact (dueN_a (by simpa [isdue, rowu, hg2 j (Nat.le_refl j)] using t1)).symm | (rw [dueN_b (by simpa [isdue, rowu, hg2 j (Nat.le_refl j)] using t1)]; have hg2j := hg2 j (Nat.le_refl j); grind)) else (by rw [pk_un e]; exact hg1 j (by omega))) (by intro j hj; rw [pk_un (by omega)]; exact hg2 j (by omega)) _ _ hW hS _ (lv_sub hl [1, 2, 3, 0] rfl)
          · subst r9
            refine lv_if_eq (tgt := 59) hx hb dX8_close_52 (by decide) (fun _ => ?_) (fun c9 => absurd (by decide) c9)
            refine lv_aload_n hx hb dX8_close_59 rfl (lv_at hl 0 rfl) ?_
            refine m_getA C hm hW 46 (by decide) rfl tw_6_9 dX8_close_60 ?_
            refine lv_iload_n hx hb dX8_close_63 rfl (lv_at hl 3 rfl) ?_
            refine m_iald (v := g k) (j := k) C hm hW 46 (by decide) rfl rfl (vp_in_nI (N := 50) (by omega) (by decide)) (nI_clamp (by omega)) rfl dX8_close_64 ?_
            refine lv_topi (fun x7 ex7 => ?_)
            refine m_iast (j := k) C hm hW hS 46 (by decide) rfl rfl (vp_in_nI (N := 50) (by omega) (by decide)) (nI_clamp (by omega)) dX8_close_65 (fun H locs hW hS => ?_)
            rw [rowu_same] at hW
            refine lv_iinc (v := nI (k + 1)) (lv' := [(3, .int (nI (k + 1))), (0, .ref (ad (100, 0))), (1, .int (nI i)), (2, .int bl)]) hx hb dX8_close_66 hl (k := 3) rfl (nI_1 k) (by decide) rfl (fun ls hl => ?_)
            refine lv_goto (tgt := 33) hx hb dX8_close_69 (by decide) ?_
            exact ih (k + 1) (upd g k x7) (by omega) (by omega) (by intro j hj; exact if e : j = k then (by subst e; rw [pk_us]; first | exact (dueN_a (by simpa [isdue, rowu, hg2 j (Nat.le_refl j)] using t1)).symm | (rw [dueN_b (by simpa [isdue, rowu, hg2 j (Nat.le_refl j)] using t1)]; have hg2j := hg2 j (Nat.le_refl j); grind)) else (by rw [pk_un e]; exact hg1 j (by omega))) (by intro j hj; rw [pk_un (by omega)]; exact hg2 j (by omega)) _ _ hW hS _ (lv_sub hl [1, 2, 3, 0] rfl)
    refine lv_iconst (v := 0) hx hb dX8_close_31 (by decide) ?_
    refine lv_istore_n (lv' := [(3, .int 0), (2, .int bl), (0, .ref (ad (100, 0))), (1, .int (nI i))]) hx hb dX8_close_32 rfl hl (by decide) rfl (fun ls hl => ?_)
    rw [← rowu_id (fa := fa) (k := 46)] at hW
    exact loop _ 0 (fa 46) (Nat.lt_succ_self _) (by omega) (fun j hj => absurd hj (Nat.not_lt_zero j)) (fun j _ => rfl) _ _ hW hS _ (lv_sub hl [2, 3, 1, 0] rfl)
  · subst e9
    refine lv_if_eq (tgt := 12) hx hb dX8_close_5 (by decide) (fun _ => ?_) (fun c9 => absurd (by decide) c9)
    refine lv_iconst (v := 1) hx hb dX8_close_12 (by decide) ?_
    refine m_putI C hm hW hS 0 (by decide) rfl tw_5_203 dX8_close_13 (fun H locs hW hS => ?_)
    refine lv_aload_n hx hb dX8_close_16 rfl (lv_at hl 0 rfl) ?_
    refine m_getI (v := 1) C hm hW 0 (by decide) rfl tw_5_203 rfl dX8_close_17 ?_
    refine lv_if_le (tgt := 25) hx hb dX8_close_20 (by decide) (fun c9 => absurd c9 (by decide)) (fun _ => ?_)
    refine lv_iconst (v := 0) hx hb dX8_close_23 (by decide) ?_
    exact g_iret2 C hQ hW hS ⟨_, _, rfl, Or.inl ⟨hq9, rfl, rfl⟩⟩ rfl (Nat.zero_le _) (Nat.zero_le _) dX8_close_24

set_option maxHeartbeats 4000000 in
set_option maxRecDepth 100000 in
theorem c_X8_quote (l : Launch) (X : GX) (L : List ro) (ad : ro → Nat) (st0 : ro → va_E) (fi : Nat → Int32) (fa : Nat → Nat → Int32) (hm : mL L) (sh its : Int32) (z : Nat) (hz : z < 1536) (nq : Nat) (hnq : fi 32 = nI nq) (hnq2 : nq < 100) : mM l yX8_quote cX8_quote 4 (some .int) 0 0 X [.int sh, .int its, .int (nI z)] L ad st0 fi fa (fun v fi' fa' => (∀ j, j ≠ 32 → fi' j = fi j) ∧ fi' 32 = nI (nq + 1) ∧ (∀ a, a < 33 ∨ 41 < a → fa' a = fa a) ∧ fa' 33 = upd (fa 33) nq sh ∧ fa' 34 = upd (fa 34) nq its ∧ fa' 35 = upd (fa 35) nq (if fa 6 3 < fa 6 2 then fa 6 2 - fa 6 3 else fa 6 3 - fa 6 2) ∧ fa' 36 = upd (fa 36) nq (fa 6 4) ∧ fa' 37 = upd (fa 37) nq (if fa 6 5 = 1 then 1 else 0) ∧ fa' 38 = upd (fa 38) nq (fa 29 z) ∧ fa' 39 = upd (fa 39) nq (fa 30 z) ∧ fa' 40 = upd (fa 40) nq (fa 31 z) ∧ fa' 41 = upd (fa 41) nq (fa 28 z) ∧ v = nI nq) := by
  intro sz
  refine gM_of2 (Qc := fun A => va_Qi _ (gB X A) A) (by decide) (Nat.le_of_ble_eq_true rfl) ?_ sz
  intro p e s m args below meth c A R Q hR hQ C hW hS ls hl
  obtain ⟨hR1, hR2, hR3, hR4⟩ := hR
  have hx := C.1.1
  have hb := C.1.2.1
  have hml := C.1.2.2.1
  have hl : lv_has ls 4 [(0, .ref (ad (100, 0))), (1, .int sh), (2, .int its), (3, .int (nI z))] := hl
  refine lv_aload_n hx hb dX8_quote_0 rfl (lv_at hl 0 rfl) ?_
  refine m_getA C hm hW 33 (by decide) rfl tw_5_236 dX8_quote_1 ?_
  refine lv_aload_n hx hb dX8_quote_4 rfl (lv_at hl 0 rfl) ?_
  refine m_getI (v := nI nq) C hm hW 32 (by decide) rfl tw_5_235 hnq dX8_quote_5 ?_
  refine lv_iload_n hx hb dX8_quote_8 rfl (lv_at hl 1 rfl) ?_
  refine m_iast (j := nq) C hm hW hS 33 (by decide) rfl rfl (vp_in_nI (N := 100) (by omega) (by decide)) (nI_clamp (by omega)) dX8_quote_9 (fun H locs hW hS => ?_)
  refine lv_aload_n hx hb dX8_quote_10 rfl (lv_at hl 0 rfl) ?_
  refine m_getA C hm hW 34 (by decide) rfl tw_5_237 dX8_quote_11 ?_
  refine lv_aload_n hx hb dX8_quote_14 rfl (lv_at hl 0 rfl) ?_
  refine m_getI (v := nI nq) C hm hW 32 (by decide) rfl tw_5_235 hnq dX8_quote_15 ?_
  refine lv_iload_n hx hb dX8_quote_18 rfl (lv_at hl 2 rfl) ?_
  refine m_iast (j := nq) C hm hW hS 34 (by decide) rfl rfl (vp_in_nI (N := 100) (by omega) (by decide)) (nI_clamp (by omega)) dX8_quote_19 (fun H locs hW hS => ?_)
  refine lv_aload_n hx hb dX8_quote_20 rfl (lv_at hl 0 rfl) ?_
  refine m_getA C hm hW 35 (by decide) rfl tw_5_238 dX8_quote_21 ?_
  refine lv_aload_n hx hb dX8_quote_24 rfl (lv_at hl 0 rfl) ?_
  refine m_getI (v := nI nq) C hm hW 32 (by decide) rfl tw_5_235 hnq dX8_quote_25 ?_
  refine lv_aload_n hx hb dX8_quote_28 rfl (lv_at hl 0 rfl) ?_
  refine m_getA C hm hW 6 (by decide) rfl tw_5_209 dX8_quote_29 ?_
  refine lv_iconst (v := 2) hx hb dX8_quote_32 (by decide) ?_
  refine m_iald (v := (fa 6) 2) (j := 2) C hm hW 6 (by decide) rfl rfl (vp_in_nI (n := 2) (N := 6) (by decide) (by decide)) (by decide) rfl dX8_quote_33 ?_
  refine lv_topi (fun x1 ex1 => ?_)
  refine lv_aload_n hx hb dX8_quote_34 rfl (lv_at hl 0 rfl) ?_
  refine m_getA C hm hW 6 (by decide) rfl tw_5_209 dX8_quote_35 ?_
  refine lv_iconst (v := 3) hx hb dX8_quote_38 (by decide) ?_
  refine m_iald (v := (fa 6) 3) (j := 3) C hm hW 6 (by decide) rfl rfl (vp_in_nI (n := 3) (N := 6) (by decide) (by decide)) (by decide) rfl dX8_quote_39 ?_
  refine lv_topi (fun x2 ex2 => ?_)
  refine lv_icmp_le (tgt := 59) hx hb dX8_quote_40 (by decide) (fun c3 => ?_) (fun c3 => ?_)
  · refine lv_aload_n hx hb dX8_quote_59 rfl (lv_at hl 0 rfl) ?_
    refine m_getA C hm hW 6 (by decide) rfl tw_5_209 dX8_quote_60 ?_
    refine lv_iconst (v := 3) hx hb dX8_quote_63 (by decide) ?_
    refine m_iald (v := (fa 6) 3) (j := 3) C hm hW 6 (by decide) rfl rfl (vp_in_nI (n := 3) (N := 6) (by decide) (by decide)) (by decide) rfl dX8_quote_64 ?_
    refine lv_topi (fun x4 ex4 => ?_)
    refine lv_aload_n hx hb dX8_quote_65 rfl (lv_at hl 0 rfl) ?_
    refine m_getA C hm hW 6 (by decide) rfl tw_5_209 dX8_quote_66 ?_
    refine lv_iconst (v := 2) hx hb dX8_quote_69 (by decide) ?_
    refine m_iald (v := (fa 6) 2) (j := 2) C hm hW 6 (by decide) rfl rfl (vp_in_nI (n := 2) (N := 6) (by decide) (by decide)) (by decide) rfl dX8_quote_70 ?_
    refine lv_topi (fun x5 ex5 => ?_)
    refine lv_isub hx hb dX8_quote_71 ?_
    refine lv_topi (fun x6 ex6 => ?_)
    refine m_iast (j := nq) C hm hW hS 35 (by decide) rfl rfl (vp_in_nI (N := 100) (by omega) (by decide)) (nI_clamp (by omega)) dX8_quote_72 (fun H locs hW hS => ?_)
    refine lv_aload_n hx hb dX8_quote_73 rfl (lv_at hl 0 rfl) ?_
    refine m_getA C hm hW 36 (by decide) rfl tw_5_239 dX8_quote_74 ?_
    refine lv_aload_n hx hb dX8_quote_77 rfl (lv_at hl 0 rfl) ?_
    refine m_getI (v := nI nq) C hm hW 32 (by decide) rfl tw_5_235 hnq dX8_quote_78 ?_
    refine lv_aload_n hx hb dX8_quote_81 rfl (lv_at hl 0 rfl) ?_
    refine m_getA C hm hW 6 (by decide) rfl tw_5_209 dX8_quote_82 ?_
    refine lv_iconst (v := 4) hx hb dX8_quote_85 (by decide) ?_
    refine m_iald (v := (fa 6) 4) (j := 4) C hm hW 6 (by decide) rfl rfl (vp_in_nI (n := 4) (N := 6) (by decide) (by decide)) (by decide) rfl dX8_quote_86 ?_
    refine lv_topi (fun x7 ex7 => ?_)
    refine m_iast (j := nq) C hm hW hS 36 (by decide) rfl rfl (vp_in_nI (N := 100) (by omega) (by decide)) (nI_clamp (by omega)) dX8_quote_87 (fun H locs hW hS => ?_)
    refine lv_aload_n hx hb dX8_quote_88 rfl (lv_at hl 0 rfl) ?_
    refine m_getA C hm hW 37 (by decide) rfl tw_6_0 dX8_quote_89 ?_
    refine lv_aload_n hx hb dX8_quote_92 rfl (lv_at hl 0 rfl) ?_
    refine m_getI (v := nI nq) C hm hW 32 (by decide) rfl tw_5_235 hnq dX8_quote_93 ?_
    refine lv_aload_n hx hb dX8_quote_96 rfl (lv_at hl 0 rfl) ?_
    refine m_getA C hm hW 6 (by decide) rfl tw_5_209 dX8_quote_97 ?_
    refine lv_iconst (v := 5) hx hb dX8_quote_100 (by decide) ?_
    refine m_iald (v := (fa 6) 5) (j := 5) C hm hW 6 (by decide) rfl rfl (vp_in_nI (n := 5) (N := 6) (by decide) (by decide)) (by decide) rfl dX8_quote_101 ?_
    refine lv_topi (fun x8 ex8 => ?_)
    refine lv_iconst (v := 1) hx hb dX8_quote_102 (by decide) ?_
    refine lv_icmp_ne (tgt := 110) hx hb dX8_quote_103 (by decide) (fun c9 => ?_) (fun c9 => ?_)
    · refine lv_iconst (v := 0) hx hb dX8_quote_110 (by decide) ?_
      refine m_zast (j := nq) C hm hW hS 37 (by decide) rfl rfl (vp_in_nI (N := 100) (by omega) (by decide)) (nI_clamp (by omega)) dX8_quote_111 (fun H locs hW hS => ?_)
      rw [show vp_nar .boolean 0 = 0 from rfl] at hW
      refine lv_aload_n hx hb dX8_quote_112 rfl (lv_at hl 0 rfl) ?_
      refine m_getA C hm hW 38 (by decide) rfl tw_6_1 dX8_quote_113 ?_
      refine lv_aload_n hx hb dX8_quote_116 rfl (lv_at hl 0 rfl) ?_
      refine m_getI (v := nI nq) C hm hW 32 (by decide) rfl tw_5_235 hnq dX8_quote_117 ?_
      refine lv_aload_n hx hb dX8_quote_120 rfl (lv_at hl 0 rfl) ?_
      refine m_getA C hm hW 29 (by decide) rfl tw_5_232 dX8_quote_121 ?_
      refine lv_iload_n hx hb dX8_quote_124 rfl (lv_at hl 3 rfl) ?_
      refine m_iald (v := (fa 29) z) (j := z) C hm hW 29 (by decide) rfl rfl (vp_in_nI (N := 1536) (by omega) (by decide)) (nI_clamp (by omega)) rfl dX8_quote_125 ?_
      refine lv_topi (fun x10 ex10 => ?_)
      refine m_iast (j := nq) C hm hW hS 38 (by decide) rfl rfl (vp_in_nI (N := 100) (by omega) (by decide)) (nI_clamp (by omega)) dX8_quote_126 (fun H locs hW hS => ?_)
      refine lv_aload_n hx hb dX8_quote_127 rfl (lv_at hl 0 rfl) ?_
      refine m_getA C hm hW 39 (by decide) rfl tw_6_2 dX8_quote_128 ?_
      refine lv_aload_n hx hb dX8_quote_131 rfl (lv_at hl 0 rfl) ?_
      refine m_getI (v := nI nq) C hm hW 32 (by decide) rfl tw_5_235 hnq dX8_quote_132 ?_
      refine lv_aload_n hx hb dX8_quote_135 rfl (lv_at hl 0 rfl) ?_
      refine m_getA C hm hW 30 (by decide) rfl tw_5_233 dX8_quote_136 ?_
      refine lv_iload_n hx hb dX8_quote_139 rfl (lv_at hl 3 rfl) ?_
      refine m_iald (v := (fa 30) z) (j := z) C hm hW 30 (by decide) rfl rfl (vp_in_nI (N := 1536) (by omega) (by decide)) (nI_clamp (by omega)) rfl dX8_quote_140 ?_
      refine lv_topi (fun x11 ex11 => ?_)
      refine m_iast (j := nq) C hm hW hS 39 (by decide) rfl rfl (vp_in_nI (N := 100) (by omega) (by decide)) (nI_clamp (by omega)) dX8_quote_141 (fun H locs hW hS => ?_)
      refine lv_aload_n hx hb dX8_quote_142 rfl (lv_at hl 0 rfl) ?_
      refine m_getA C hm hW 40 (by decide) rfl tw_6_3 dX8_quote_143 ?_
      refine lv_aload_n hx hb dX8_quote_146 rfl (lv_at hl 0 rfl) ?_
      refine m_getI (v := nI nq) C hm hW 32 (by decide) rfl tw_5_235 hnq dX8_quote_147 ?_
      refine lv_aload_n hx hb dX8_quote_150 rfl (lv_at hl 0 rfl) ?_
      refine m_getA C hm hW 31 (by decide) rfl tw_5_234 dX8_quote_151 ?_
      refine lv_iload_n hx hb dX8_quote_154 rfl (lv_at hl 3 rfl) ?_
      refine m_iald (v := (fa 31) z) (j := z) C hm hW 31 (by decide) rfl rfl (vp_in_nI (N := 1536) (by omega) (by decide)) (nI_clamp (by omega)) rfl dX8_quote_155 ?_
      refine lv_topi (fun x12 ex12 => ?_)
      refine m_iast (j := nq) C hm hW hS 40 (by decide) rfl rfl (vp_in_nI (N := 100) (by omega) (by decide)) (nI_clamp (by omega)) dX8_quote_156 (fun H locs hW hS => ?_)
      refine lv_aload_n hx hb dX8_quote_157 rfl (lv_at hl 0 rfl) ?_
      refine m_getA C hm hW 41 (by decide) rfl tw_6_4 dX8_quote_158 ?_
      refine lv_aload_n hx hb dX8_quote_161 rfl (lv_at hl 0 rfl) ?_
      refine m_getI (v := nI nq) C hm hW 32 (by decide) rfl tw_5_235 hnq dX8_quote_162 ?_
      refine lv_aload_n hx hb dX8_quote_165 rfl (lv_at hl 0 rfl) ?_
      refine m_getA C hm hW 28 (by decide) rfl tw_5_231 dX8_quote_166 ?_
      refine lv_iload_n hx hb dX8_quote_169 rfl (lv_at hl 3 rfl) ?_
      refine m_iald (v := (fa 28) z) (j := z) C hm hW 28 (by decide) rfl rfl (vp_in_nI (N := 1536) (by omega) (by decide)) (nI_clamp (by omega)) rfl dX8_quote_170 ?_
      refine lv_topi (fun x13 ex13 => ?_)
      refine m_iast (j := nq) C hm hW hS 41 (by decide) rfl rfl (vp_in_nI (N := 100) (by omega) (by decide)) (nI_clamp (by omega)) dX8_quote_171 (fun H locs hW hS => ?_)
      refine lv_aload_n hx hb dX8_quote_172 rfl (lv_at hl 0 rfl) ?_
      refine lv_dup hx hb dX8_quote_173 rfl ?_
      refine m_getI (v := nI nq) C hm hW 32 (by decide) rfl tw_5_235 hnq dX8_quote_174 ?_
      refine lv_iconst (v := 1) hx hb dX8_quote_177 (by decide) ?_
      refine lv_iadd hx hb dX8_quote_178 ?_
      refine lv_topE (y := nI (nq + 1)) (nI_1 nq) ?_
      refine m_putI C hm hW hS 32 (by decide) rfl tw_5_235 dX8_quote_179 (fun H locs hW hS => ?_)
      refine lv_aload_n hx hb dX8_quote_182 rfl (lv_at hl 0 rfl) ?_
      refine m_getI (v := nI (nq + 1)) C hm hW 32 (by decide) rfl tw_5_235 rfl dX8_quote_183 ?_
      refine lv_iconst (v := 1) hx hb dX8_quote_186 (by decide) ?_
      refine lv_isub hx hb dX8_quote_187 ?_
      refine lv_topE (y := nI nq) (nI_pred nq) ?_
      exact g_iret2 C hQ hW hS ⟨_, _, rfl, (fun j q => by simp [upd, q]), rfl, (fun a q => by simp only [rowu]; repeat rw [if_neg (by omega)]), (by subst_vars; rfl), (by subst_vars; rfl), (by subst_vars; split <;> first | rfl | (exfalso; grind)), (by subst_vars; rfl), (by subst_vars; split <;> first | rfl | (exfalso; grind)), (by subst_vars; rfl), (by subst_vars; rfl), (by subst_vars; rfl), (by subst_vars; rfl), rfl⟩ rfl (Nat.zero_le _) (Nat.zero_le _) dX8_quote_188
    · refine lv_iconst (v := 1) hx hb dX8_quote_106 (by decide) ?_
      refine lv_goto (tgt := 111) hx hb dX8_quote_107 (by decide) ?_
      refine m_zast (j := nq) C hm hW hS 37 (by decide) rfl rfl (vp_in_nI (N := 100) (by omega) (by decide)) (nI_clamp (by omega)) dX8_quote_111 (fun H locs hW hS => ?_)
      rw [show vp_nar .boolean 1 = 1 from rfl] at hW
      refine lv_aload_n hx hb dX8_quote_112 rfl (lv_at hl 0 rfl) ?_
      refine m_getA C hm hW 38 (by decide) rfl tw_6_1 dX8_quote_113 ?_
      refine lv_aload_n hx hb dX8_quote_116 rfl (lv_at hl 0 rfl) ?_
      refine m_getI (v := nI nq) C hm hW 32 (by decide) rfl tw_5_235 hnq dX8_quote_117 ?_
      refine lv_aload_n hx hb dX8_quote_120 rfl (lv_at hl 0 rfl) ?_
      refine m_getA C hm hW 29 (by decide) rfl tw_5_232 dX8_quote_121 ?_
      refine lv_iload_n hx hb dX8_quote_124 rfl (lv_at hl 3 rfl) ?_
      refine m_iald (v := (fa 29) z) (j := z) C hm hW 29 (by decide) rfl rfl (vp_in_nI (N := 1536) (by omega) (by decide)) (nI_clamp (by omega)) rfl dX8_quote_125 ?_
      refine lv_topi (fun x14 ex14 => ?_)
      refine m_iast (j := nq) C hm hW hS 38 (by decide) rfl rfl (vp_in_nI (N := 100) (by omega) (by decide)) (nI_clamp (by omega)) dX8_quote_126 (fun H locs hW hS => ?_)
      refine lv_aload_n hx hb dX8_quote_127 rfl (lv_at hl 0 rfl) ?_
      refine m_getA C hm hW 39 (by decide) rfl tw_6_2 dX8_quote_128 ?_
      refine lv_aload_n hx hb dX8_quote_131 rfl (lv_at hl 0 rfl) ?_
      refine m_getI (v := nI nq) C hm hW 32 (by decide) rfl tw_5_235 hnq dX8_quote_132 ?_
      refine lv_aload_n hx hb dX8_quote_135 rfl (lv_at hl 0 rfl) ?_
      refine m_getA C hm hW 30 (by decide) rfl tw_5_233 dX8_quote_136 ?_
      refine lv_iload_n hx hb dX8_quote_139 rfl (lv_at hl 3 rfl) ?_
      refine m_iald (v := (fa 30) z) (j := z) C hm hW 30 (by decide) rfl rfl (vp_in_nI (N := 1536) (by omega) (by decide)) (nI_clamp (by omega)) rfl dX8_quote_140 ?_
      refine lv_topi (fun x15 ex15 => ?_)
      refine m_iast (j := nq) C hm hW hS 39 (by decide) rfl rfl (vp_in_nI (N := 100) (by omega) (by decide)) (nI_clamp (by omega)) dX8_quote_141 (fun H locs hW hS => ?_)
      refine lv_aload_n hx hb dX8_quote_142 rfl (lv_at hl 0 rfl) ?_
      refine m_getA C hm hW 40 (by decide) rfl tw_6_3 dX8_quote_143 ?_
      refine lv_aload_n hx hb dX8_quote_146 rfl (lv_at hl 0 rfl) ?_
      refine m_getI (v := nI nq) C hm hW 32 (by decide) rfl tw_5_235 hnq dX8_quote_147 ?_
      refine lv_aload_n hx hb dX8_quote_150 rfl (lv_at hl 0 rfl) ?_
      refine m_getA C hm hW 31 (by decide) rfl tw_5_234 dX8_quote_151 ?_
      refine lv_iload_n hx hb dX8_quote_154 rfl (lv_at hl 3 rfl) ?_
      refine m_iald (v := (fa 31) z) (j := z) C hm hW 31 (by decide) rfl rfl (vp_in_nI (N := 1536) (by omega) (by decide)) (nI_clamp (by omega)) rfl dX8_quote_155 ?_
      refine lv_topi (fun x16 ex16 => ?_)
      refine m_iast (j := nq) C hm hW hS 40 (by decide) rfl rfl (vp_in_nI (N := 100) (by omega) (by decide)) (nI_clamp (by omega)) dX8_quote_156 (fun H locs hW hS => ?_)
      refine lv_aload_n hx hb dX8_quote_157 rfl (lv_at hl 0 rfl) ?_
      refine m_getA C hm hW 41 (by decide) rfl tw_6_4 dX8_quote_158 ?_
      refine lv_aload_n hx hb dX8_quote_161 rfl (lv_at hl 0 rfl) ?_
      refine m_getI (v := nI nq) C hm hW 32 (by decide) rfl tw_5_235 hnq dX8_quote_162 ?_
      refine lv_aload_n hx hb dX8_quote_165 rfl (lv_at hl 0 rfl) ?_
      refine m_getA C hm hW 28 (by decide) rfl tw_5_231 dX8_quote_166 ?_
      refine lv_iload_n hx hb dX8_quote_169 rfl (lv_at hl 3 rfl) ?_
      refine m_iald (v := (fa 28) z) (j := z) C hm hW 28 (by decide) rfl rfl (vp_in_nI (N := 1536) (by omega) (by decide)) (nI_clamp (by omega)) rfl dX8_quote_170 ?_
      refine lv_topi (fun x17 ex17 => ?_)
      refine m_iast (j := nq) C hm hW hS 41 (by decide) rfl rfl (vp_in_nI (N := 100) (by omega) (by decide)) (nI_clamp (by omega)) dX8_quote_171 (fun H locs hW hS => ?_)
      refine lv_aload_n hx hb dX8_quote_172 rfl (lv_at hl 0 rfl) ?_
      refine lv_dup hx hb dX8_quote_173 rfl ?_
      refine m_getI (v := nI nq) C hm hW 32 (by decide) rfl tw_5_235 hnq dX8_quote_174 ?_
      refine lv_iconst (v := 1) hx hb dX8_quote_177 (by decide) ?_
      refine lv_iadd hx hb dX8_quote_178 ?_
      refine lv_topE (y := nI (nq + 1)) (nI_1 nq) ?_
      refine m_putI C hm hW hS 32 (by decide) rfl tw_5_235 dX8_quote_179 (fun H locs hW hS => ?_)
      refine lv_aload_n hx hb dX8_quote_182 rfl (lv_at hl 0 rfl) ?_
      refine m_getI (v := nI (nq + 1)) C hm hW 32 (by decide) rfl tw_5_235 rfl dX8_quote_183 ?_
      refine lv_iconst (v := 1) hx hb dX8_quote_186 (by decide) ?_
      refine lv_isub hx hb dX8_quote_187 ?_
      refine lv_topE (y := nI nq) (nI_pred nq) ?_
      exact g_iret2 C hQ hW hS ⟨_, _, rfl, (fun j q => by simp [upd, q]), rfl, (fun a q => by simp only [rowu]; repeat rw [if_neg (by omega)]), (by subst_vars; rfl), (by subst_vars; rfl), (by subst_vars; split <;> first | rfl | (exfalso; grind)), (by subst_vars; rfl), (by subst_vars; split <;> first | rfl | (exfalso; grind)), (by subst_vars; rfl), (by subst_vars; rfl), (by subst_vars; rfl), (by subst_vars; rfl), rfl⟩ rfl (Nat.zero_le _) (Nat.zero_le _) dX8_quote_188
  · refine lv_aload_n hx hb dX8_quote_43 rfl (lv_at hl 0 rfl) ?_
    refine m_getA C hm hW 6 (by decide) rfl tw_5_209 dX8_quote_44 ?_
    refine lv_iconst (v := 2) hx hb dX8_quote_47 (by decide) ?_
    refine m_iald (v := (fa 6) 2) (j := 2) C hm hW 6 (by decide) rfl rfl (vp_in_nI (n := 2) (N := 6) (by decide) (by decide)) (by decide) rfl dX8_quote_48 ?_
    refine lv_topi (fun x18 ex18 => ?_)
    refine lv_aload_n hx hb dX8_quote_49 rfl (lv_at hl 0 rfl) ?_
    refine m_getA C hm hW 6 (by decide) rfl tw_5_209 dX8_quote_50 ?_
    refine lv_iconst (v := 3) hx hb dX8_quote_53 (by decide) ?_
    refine m_iald (v := (fa 6) 3) (j := 3) C hm hW 6 (by decide) rfl rfl (vp_in_nI (n := 3) (N := 6) (by decide) (by decide)) (by decide) rfl dX8_quote_54 ?_
    refine lv_topi (fun x19 ex19 => ?_)
    refine lv_isub hx hb dX8_quote_55 ?_
    refine lv_topi (fun x20 ex20 => ?_)
    refine lv_goto (tgt := 72) hx hb dX8_quote_56 (by decide) ?_
    refine m_iast (j := nq) C hm hW hS 35 (by decide) rfl rfl (vp_in_nI (N := 100) (by omega) (by decide)) (nI_clamp (by omega)) dX8_quote_72 (fun H locs hW hS => ?_)
    refine lv_aload_n hx hb dX8_quote_73 rfl (lv_at hl 0 rfl) ?_
    refine m_getA C hm hW 36 (by decide) rfl tw_5_239 dX8_quote_74 ?_
    refine lv_aload_n hx hb dX8_quote_77 rfl (lv_at hl 0 rfl) ?_
    refine m_getI (v := nI nq) C hm hW 32 (by decide) rfl tw_5_235 hnq dX8_quote_78 ?_
    refine lv_aload_n hx hb dX8_quote_81 rfl (lv_at hl 0 rfl) ?_
    refine m_getA C hm hW 6 (by decide) rfl tw_5_209 dX8_quote_82 ?_
    refine lv_iconst (v := 4) hx hb dX8_quote_85 (by decide) ?_
    refine m_iald (v := (fa 6) 4) (j := 4) C hm hW 6 (by decide) rfl rfl (vp_in_nI (n := 4) (N := 6) (by decide) (by decide)) (by decide) rfl dX8_quote_86 ?_
    refine lv_topi (fun x21 ex21 => ?_)
    refine m_iast (j := nq) C hm hW hS 36 (by decide) rfl rfl (vp_in_nI (N := 100) (by omega) (by decide)) (nI_clamp (by omega)) dX8_quote_87 (fun H locs hW hS => ?_)
    refine lv_aload_n hx hb dX8_quote_88 rfl (lv_at hl 0 rfl) ?_
    refine m_getA C hm hW 37 (by decide) rfl tw_6_0 dX8_quote_89 ?_
    refine lv_aload_n hx hb dX8_quote_92 rfl (lv_at hl 0 rfl) ?_
    refine m_getI (v := nI nq) C hm hW 32 (by decide) rfl tw_5_235 hnq dX8_quote_93 ?_
    refine lv_aload_n hx hb dX8_quote_96 rfl (lv_at hl 0 rfl) ?_
    refine m_getA C hm hW 6 (by decide) rfl tw_5_209 dX8_quote_97 ?_
    refine lv_iconst (v := 5) hx hb dX8_quote_100 (by decide) ?_
    refine m_iald (v := (fa 6) 5) (j := 5) C hm hW 6 (by decide) rfl rfl (vp_in_nI (n := 5) (N := 6) (by decide) (by decide)) (by decide) rfl dX8_quote_101 ?_
    refine lv_topi (fun x22 ex22 => ?_)
    refine lv_iconst (v := 1) hx hb dX8_quote_102 (by decide) ?_
    refine lv_icmp_ne (tgt := 110) hx hb dX8_quote_103 (by decide) (fun c23 => ?_) (fun c23 => ?_)
    · refine lv_iconst (v := 0) hx hb dX8_quote_110 (by decide) ?_
      refine m_zast (j := nq) C hm hW hS 37 (by decide) rfl rfl (vp_in_nI (N := 100) (by omega) (by decide)) (nI_clamp (by omega)) dX8_quote_111 (fun H locs hW hS => ?_)
      rw [show vp_nar .boolean 0 = 0 from rfl] at hW
      refine lv_aload_n hx hb dX8_quote_112 rfl (lv_at hl 0 rfl) ?_
      refine m_getA C hm hW 38 (by decide) rfl tw_6_1 dX8_quote_113 ?_
      refine lv_aload_n hx hb dX8_quote_116 rfl (lv_at hl 0 rfl) ?_
      refine m_getI (v := nI nq) C hm hW 32 (by decide) rfl tw_5_235 hnq dX8_quote_117 ?_
      refine lv_aload_n hx hb dX8_quote_120 rfl (lv_at hl 0 rfl) ?_
      refine m_getA C hm hW 29 (by decide) rfl tw_5_232 dX8_quote_121 ?_
      refine lv_iload_n hx hb dX8_quote_124 rfl (lv_at hl 3 rfl) ?_
      refine m_iald (v := (fa 29) z) (j := z) C hm hW 29 (by decide) rfl rfl (vp_in_nI (N := 1536) (by omega) (by decide)) (nI_clamp (by omega)) rfl dX8_quote_125 ?_
      refine lv_topi (fun x24 ex24 => ?_)
      refine m_iast (j := nq) C hm hW hS 38 (by decide) rfl rfl (vp_in_nI (N := 100) (by omega) (by decide)) (nI_clamp (by omega)) dX8_quote_126 (fun H locs hW hS => ?_)
      refine lv_aload_n hx hb dX8_quote_127 rfl (lv_at hl 0 rfl) ?_
      refine m_getA C hm hW 39 (by decide) rfl tw_6_2 dX8_quote_128 ?_
      refine lv_aload_n hx hb dX8_quote_131 rfl (lv_at hl 0 rfl) ?_
      refine m_getI (v := nI nq) C hm hW 32 (by decide) rfl tw_5_235 hnq dX8_quote_132 ?_
      refine lv_aload_n hx hb dX8_quote_135 rfl (lv_at hl 0 rfl) ?_
      refine m_getA C hm hW 30 (by decide) rfl tw_5_233 dX8_quote_136 ?_
      refine lv_iload_n hx hb dX8_quote_139 rfl (lv_at hl 3 rfl) ?_
      refine m_iald (v := (fa 30) z) (j := z) C hm hW 30 (by decide) rfl rfl (vp_in_nI (N := 1536) (by omega) (by decide)) (nI_clamp (by omega)) rfl dX8_quote_140 ?_
      refine lv_topi (fun x25 ex25 => ?_)
      refine m_iast (j := nq) C hm hW hS 39 (by decide) rfl rfl (vp_in_nI (N := 100) (by omega) (by decide)) (nI_clamp (by omega)) dX8_quote_141 (fun H locs hW hS => ?_)
      refine lv_aload_n hx hb dX8_quote_142 rfl (lv_at hl 0 rfl) ?_
      refine m_getA C hm hW 40 (by decide) rfl tw_6_3 dX8_quote_143 ?_
      refine lv_aload_n hx hb dX8_quote_146 rfl (lv_at hl 0 rfl) ?_
      refine m_getI (v := nI nq) C hm hW 32 (by decide) rfl tw_5_235 hnq dX8_quote_147 ?_
      refine lv_aload_n hx hb dX8_quote_150 rfl (lv_at hl 0 rfl) ?_
      refine m_getA C hm hW 31 (by decide) rfl tw_5_234 dX8_quote_151 ?_
      refine lv_iload_n hx hb dX8_quote_154 rfl (lv_at hl 3 rfl) ?_
      refine m_iald (v := (fa 31) z) (j := z) C hm hW 31 (by decide) rfl rfl (vp_in_nI (N := 1536) (by omega) (by decide)) (nI_clamp (by omega)) rfl dX8_quote_155 ?_
      refine lv_topi (fun x26 ex26 => ?_)
      refine m_iast (j := nq) C hm hW hS 40 (by decide) rfl rfl (vp_in_nI (N := 100) (by omega) (by decide)) (nI_clamp (by omega)) dX8_quote_156 (fun H locs hW hS => ?_)
      refine lv_aload_n hx hb dX8_quote_157 rfl (lv_at hl 0 rfl) ?_
      refine m_getA C hm hW 41 (by decide) rfl tw_6_4 dX8_quote_158 ?_
      refine lv_aload_n hx hb dX8_quote_161 rfl (lv_at hl 0 rfl) ?_
      refine m_getI (v := nI nq) C hm hW 32 (by decide) rfl tw_5_235 hnq dX8_quote_162 ?_
      refine lv_aload_n hx hb dX8_quote_165 rfl (lv_at hl 0 rfl) ?_
      refine m_getA C hm hW 28 (by decide) rfl tw_5_231 dX8_quote_166 ?_
      refine lv_iload_n hx hb dX8_quote_169 rfl (lv_at hl 3 rfl) ?_
      refine m_iald (v := (fa 28) z) (j := z) C hm hW 28 (by decide) rfl rfl (vp_in_nI (N := 1536) (by omega) (by decide)) (nI_clamp (by omega)) rfl dX8_quote_170 ?_
      refine lv_topi (fun x27 ex27 => ?_)
      refine m_iast (j := nq) C hm hW hS 41 (by decide) rfl rfl (vp_in_nI (N := 100) (by omega) (by decide)) (nI_clamp (by omega)) dX8_quote_171 (fun H locs hW hS => ?_)
      refine lv_aload_n hx hb dX8_quote_172 rfl (lv_at hl 0 rfl) ?_
      refine lv_dup hx hb dX8_quote_173 rfl ?_
      refine m_getI (v := nI nq) C hm hW 32 (by decide) rfl tw_5_235 hnq dX8_quote_174 ?_
      refine lv_iconst (v := 1) hx hb dX8_quote_177 (by decide) ?_
      refine lv_iadd hx hb dX8_quote_178 ?_
      refine lv_topE (y := nI (nq + 1)) (nI_1 nq) ?_
      refine m_putI C hm hW hS 32 (by decide) rfl tw_5_235 dX8_quote_179 (fun H locs hW hS => ?_)
      refine lv_aload_n hx hb dX8_quote_182 rfl (lv_at hl 0 rfl) ?_
      refine m_getI (v := nI (nq + 1)) C hm hW 32 (by decide) rfl tw_5_235 rfl dX8_quote_183 ?_
      refine lv_iconst (v := 1) hx hb dX8_quote_186 (by decide) ?_
      refine lv_isub hx hb dX8_quote_187 ?_
      refine lv_topE (y := nI nq) (nI_pred nq) ?_
      exact g_iret2 C hQ hW hS ⟨_, _, rfl, (fun j q => by simp [upd, q]), rfl, (fun a q => by simp only [rowu]; repeat rw [if_neg (by omega)]), (by subst_vars; rfl), (by subst_vars; rfl), (by subst_vars; split <;> first | rfl | (exfalso; grind)), (by subst_vars; rfl), (by subst_vars; split <;> first | rfl | (exfalso; grind)), (by subst_vars; rfl), (by subst_vars; rfl), (by subst_vars; rfl), (by subst_vars; rfl), rfl⟩ rfl (Nat.zero_le _) (Nat.zero_le _) dX8_quote_188
    · refine lv_iconst (v := 1) hx hb dX8_quote_106 (by decide) ?_
      refine lv_goto (tgt := 111) hx hb dX8_quote_107 (by decide) ?_
      refine m_zast (j := nq) C hm hW hS 37 (by decide) rfl rfl (vp_in_nI (N := 100) (by omega) (by decide)) (nI_clamp (by omega)) dX8_quote_111 (fun H locs hW hS => ?_)
      rw [show vp_nar .boolean 1 = 1 from rfl] at hW
      refine lv_aload_n hx hb dX8_quote_112 rfl (lv_at hl 0 rfl) ?_
      refine m_getA C hm hW 38 (by decide) rfl tw_6_1 dX8_quote_113 ?_
      refine lv_aload_n hx hb dX8_quote_116 rfl (lv_at hl 0 rfl) ?_
      refine m_getI (v := nI nq) C hm hW 32 (by decide) rfl tw_5_235 hnq dX8_quote_117 ?_
      refine lv_aload_n hx hb dX8_quote_120 rfl (lv_at hl 0 rfl) ?_
      refine m_getA C hm hW 29 (by decide) rfl tw_5_232 dX8_quote_121 ?_
      refine lv_iload_n hx hb dX8_quote_124 rfl (lv_at hl 3 rfl) ?_
      refine m_iald (v := (fa 29) z) (j := z) C hm hW 29 (by decide) rfl rfl (vp_in_nI (N := 1536) (by omega) (by decide)) (nI_clamp (by omega)) rfl dX8_quote_125 ?_
      refine lv_topi (fun x28 ex28 => ?_)
      refine m_iast (j := nq) C hm hW hS 38 (by decide) rfl rfl (vp_in_nI (N := 100) (by omega) (by decide)) (nI_clamp (by omega)) dX8_quote_126 (fun H locs hW hS => ?_)
      refine lv_aload_n hx hb dX8_quote_127 rfl (lv_at hl 0 rfl) ?_
      refine m_getA C hm hW 39 (by decide) rfl tw_6_2 dX8_quote_128 ?_
      refine lv_aload_n hx hb dX8_quote_131 rfl (lv_at hl 0 rfl) ?_
      refine m_getI (v := nI nq) C hm hW 32 (by decide) rfl tw_5_235 hnq dX8_quote_132 ?_
      refine lv_aload_n hx hb dX8_quote_135 rfl (lv_at hl 0 rfl) ?_
      refine m_getA C hm hW 30 (by decide) rfl tw_5_233 dX8_quote_136 ?_
      refine lv_iload_n hx hb dX8_quote_139 rfl (lv_at hl 3 rfl) ?_
      refine m_iald (v := (fa 30) z) (j := z) C hm hW 30 (by decide) rfl rfl (vp_in_nI (N := 1536) (by omega) (by decide)) (nI_clamp (by omega)) rfl dX8_quote_140 ?_
      refine lv_topi (fun x29 ex29 => ?_)
      refine m_iast (j := nq) C hm hW hS 39 (by decide) rfl rfl (vp_in_nI (N := 100) (by omega) (by decide)) (nI_clamp (by omega)) dX8_quote_141 (fun H locs hW hS => ?_)
      refine lv_aload_n hx hb dX8_quote_142 rfl (lv_at hl 0 rfl) ?_
      refine m_getA C hm hW 40 (by decide) rfl tw_6_3 dX8_quote_143 ?_
      refine lv_aload_n hx hb dX8_quote_146 rfl (lv_at hl 0 rfl) ?_
      refine m_getI (v := nI nq) C hm hW 32 (by decide) rfl tw_5_235 hnq dX8_quote_147 ?_
      refine lv_aload_n hx hb dX8_quote_150 rfl (lv_at hl 0 rfl) ?_
      refine m_getA C hm hW 31 (by decide) rfl tw_5_234 dX8_quote_151 ?_
      refine lv_iload_n hx hb dX8_quote_154 rfl (lv_at hl 3 rfl) ?_
      refine m_iald (v := (fa 31) z) (j := z) C hm hW 31 (by decide) rfl rfl (vp_in_nI (N := 1536) (by omega) (by decide)) (nI_clamp (by omega)) rfl dX8_quote_155 ?_
      refine lv_topi (fun x30 ex30 => ?_)
      refine m_iast (j := nq) C hm hW hS 40 (by decide) rfl rfl (vp_in_nI (N := 100) (by omega) (by decide)) (nI_clamp (by omega)) dX8_quote_156 (fun H locs hW hS => ?_)
      refine lv_aload_n hx hb dX8_quote_157 rfl (lv_at hl 0 rfl) ?_
      refine m_getA C hm hW 41 (by decide) rfl tw_6_4 dX8_quote_158 ?_
      refine lv_aload_n hx hb dX8_quote_161 rfl (lv_at hl 0 rfl) ?_
      refine m_getI (v := nI nq) C hm hW 32 (by decide) rfl tw_5_235 hnq dX8_quote_162 ?_
      refine lv_aload_n hx hb dX8_quote_165 rfl (lv_at hl 0 rfl) ?_
      refine m_getA C hm hW 28 (by decide) rfl tw_5_231 dX8_quote_166 ?_
      refine lv_iload_n hx hb dX8_quote_169 rfl (lv_at hl 3 rfl) ?_
      refine m_iald (v := (fa 28) z) (j := z) C hm hW 28 (by decide) rfl rfl (vp_in_nI (N := 1536) (by omega) (by decide)) (nI_clamp (by omega)) rfl dX8_quote_170 ?_
      refine lv_topi (fun x31 ex31 => ?_)
      refine m_iast (j := nq) C hm hW hS 41 (by decide) rfl rfl (vp_in_nI (N := 100) (by omega) (by decide)) (nI_clamp (by omega)) dX8_quote_171 (fun H locs hW hS => ?_)
      refine lv_aload_n hx hb dX8_quote_172 rfl (lv_at hl 0 rfl) ?_
      refine lv_dup hx hb dX8_quote_173 rfl ?_
      refine m_getI (v := nI nq) C hm hW 32 (by decide) rfl tw_5_235 hnq dX8_quote_174 ?_
      refine lv_iconst (v := 1) hx hb dX8_quote_177 (by decide) ?_
      refine lv_iadd hx hb dX8_quote_178 ?_
      refine lv_topE (y := nI (nq + 1)) (nI_1 nq) ?_
      refine m_putI C hm hW hS 32 (by decide) rfl tw_5_235 dX8_quote_179 (fun H locs hW hS => ?_)
      refine lv_aload_n hx hb dX8_quote_182 rfl (lv_at hl 0 rfl) ?_
      refine m_getI (v := nI (nq + 1)) C hm hW 32 (by decide) rfl tw_5_235 rfl dX8_quote_183 ?_
      refine lv_iconst (v := 1) hx hb dX8_quote_186 (by decide) ?_
      refine lv_isub hx hb dX8_quote_187 ?_
      refine lv_topE (y := nI nq) (nI_pred nq) ?_
      exact g_iret2 C hQ hW hS ⟨_, _, rfl, (fun j q => by simp [upd, q]), rfl, (fun a q => by simp only [rowu]; repeat rw [if_neg (by omega)]), (by subst_vars; rfl), (by subst_vars; rfl), (by subst_vars; split <;> first | rfl | (exfalso; grind)), (by subst_vars; rfl), (by subst_vars; split <;> first | rfl | (exfalso; grind)), (by subst_vars; rfl), (by subst_vars; rfl), (by subst_vars; rfl), (by subst_vars; rfl), rfl⟩ rfl (Nat.zero_le _) (Nat.zero_le _) dX8_quote_188

set_option maxHeartbeats 4000000 in
set_option maxRecDepth 100000 in
theorem c_X8_book (l : Launch) (X : GX) (L : List ro) (ad : ro → Nat) (st0 : ro → va_E) (fi : Nat → Int32) (fa : Nat → Nat → Int32) (hm : mL L) (a : Int32) (nq : Nat) (hnq : fi 32 = nI nq) (hnq2 : nq ≤ 100) (np : Nat) (hnp : fi 42 = nI np) (hnp2 : np ≤ 50) (hqc : ∀ i, i < nq → ∃ c, c < 4 ∧ fa 34 i = nI c) : mM l yX8_book cX8_book 5 (some .int) 2 48 X [.int a] L ad st0 fi fa (fun v fi' fa' => (¬ vp_in a nq ∧ fi' = upd fi 0 1 ∧ fa' = fa) ∨ (∃ i c, i < nq ∧ a = nI i ∧ fa 34 i = nI c ∧ ((fa 41 i < fi 1 ∧ ¬ prc (fa 38 i) (fa 39 i) (fa 40 i) (fa 35 i) (fa 36 i) (fa 37 i) = prc (fa 19 c) (fa 20 c) (fa 21 c) (fa 35 i) (fa 36 i) (fa 37 i)) ∨ np = 50) ∧ fi' = upd fi 0 2 ∧ fa' = fa) ∨ (∃ i c, i < nq ∧ a = nI i ∧ fa 34 i = nI c ∧ ¬ ((fa 41 i < fi 1 ∧ ¬ prc (fa 38 i) (fa 39 i) (fa 40 i) (fa 35 i) (fa 36 i) (fa 37 i) = prc (fa 19 c) (fa 20 c) (fa 21 c) (fa 35 i) (fa 36 i) (fa 37 i)) ∨ np = 50) ∧ fi' = upd (upd fi 0 0) 42 (nI (np + 1)) ∧ fa' = rowu (rowu (rowu fa 43 (upd (fa 43) np (nI i))) 44 (upd (fa 44) np (fi 1))) 45 (upd (fa 45) np (prc (fa 38 i) (fa 39 i) (fa 40 i) (fa 35 i) (fa 36 i) (fa 37 i))) ∧ v = nI np)) := by
  intro sz
  refine gM_of2 (Qc := fun A => va_Qi _ (gB X A) A) (by decide) (Nat.le_of_ble_eq_true rfl) ?_ sz
  intro p e s m args below meth c A R Q hR hQ C hW hS ls hl
  obtain ⟨hR1, hR2, hR3, hR4⟩ := hR
  have hx := C.1.1
  have hb := C.1.2.1
  have hml := C.1.2.2.1
  have hl : lv_has ls 5 [(0, .ref (ad (100, 0))), (1, .int a)] := hl
  refine lv_aload_n hx hb dX8_book_0 rfl (lv_at hl 0 rfl) ?_
  refine lv_iload_n hx hb dX8_book_1 rfl (lv_at hl 1 rfl) ?_
  refine m_callVi (k2 := 1) (As := [.int a]) (rest := []) C (c_X8_asksQuote l X L ad st0 fi fa hm a nq hnq hnq2) tw_6_210 tw_6_212 tw_0_37 tw_1_10 tw_6_213 (by decide +kernel) ⟨by rw [hR1]; exact Nat.le_of_ble_eq_true rfl, by rw [hR2]; exact Nat.le_of_ble_eq_true rfl⟩ hm hW hS rfl hl.1 rfl (Nat.le_of_ble_eq_true rfl) dX8_book_2 ⟨Nat.zero_le _, Nat.zero_le _⟩ (fun x1 fi9 fa9 H locs hp hW hS => ?_)
  rcases hp with ⟨i, hi, e8, z1, z2, e9⟩ | ⟨hq8, z1, z2, e9⟩
  · subst e9
    rw [z1, z2] at hW
    subst e8
    obtain ⟨c2, hc2, hc⟩ := hqc i hi
    refine lv_if_ne (tgt := 10) hx hb dX8_book_5 (by decide) (fun _ => ?_) (fun c9 => absurd c9 (by decide))
    refine lv_aload_n hx hb dX8_book_10 rfl (lv_at hl 0 rfl) ?_
    refine m_getA C hm hW 34 (by decide) rfl tw_5_237 dX8_book_11 ?_
    refine lv_iload_n hx hb dX8_book_14 rfl (lv_at hl 1 rfl) ?_
    refine m_iald (v := (fa 34) i) (j := i) C hm hW 34 (by decide) rfl rfl (vp_in_nI (N := 100) (by omega) (by decide)) (nI_clamp (by omega)) rfl dX8_book_15 ?_
    refine lv_topE (y := nI c2) hc ?_
    refine lv_istore_n (lv' := [(2, .int (nI c2)), (0, .ref (ad (100, 0))), (1, .int (nI i))]) hx hb dX8_book_16 rfl hl (by decide) rfl (fun ls hl => ?_)
    refine lv_aload_n hx hb dX8_book_17 rfl (lv_at hl 1 rfl) ?_
    refine lv_iload_n hx hb dX8_book_18 rfl (lv_at hl 2 rfl) ?_
    refine lv_aload_n hx hb dX8_book_19 rfl (lv_at hl 1 rfl) ?_
    refine m_getA C hm hW 36 (by decide) rfl tw_5_239 dX8_book_20 ?_
    refine lv_iload_n hx hb dX8_book_23 rfl (lv_at hl 2 rfl) ?_
    refine m_iald (v := (fa 36) i) (j := i) C hm hW 36 (by decide) rfl rfl (vp_in_nI (N := 100) (by omega) (by decide)) (nI_clamp (by omega)) rfl dX8_book_24 ?_
    refine lv_topi (fun x2 ex2 => ?_)
    refine m_callVi (k2 := 2) (As := [.int (nI i), .int x2]) (rest := []) C (c_X8_quoted l X L ad st0 (upd fi 0 0) fa hm i (by omega) x2) tw_6_214 tw_6_216 tw_0_38 tw_1_10 tw_6_217 (by decide +kernel) ⟨by rw [hR1]; exact Nat.le_of_ble_eq_true rfl, by rw [hR2]; exact Nat.le_of_ble_eq_true rfl⟩ hm hW hS rfl hl.1 rfl (Nat.le_of_ble_eq_true rfl) dX8_book_25 ⟨Nat.zero_le _, Nat.zero_le _⟩ (fun x3 fi9 fa9 H locs hp hW hS => ?_)
    obtain ⟨z1, z2, h4⟩ := hp
    rw [z1, z2] at hW
    refine lv_istore_n (lv' := [(3, .int x3), (2, .int (nI c2)), (0, .ref (ad (100, 0))), (1, .int (nI i))]) hx hb dX8_book_28 rfl hl (by decide) rfl (fun ls hl => ?_)
    refine lv_aload_n hx hb dX8_book_29 rfl (lv_at hl 2 rfl) ?_
    refine m_getA C hm hW 19 (by decide) rfl tw_5_222 dX8_book_30 ?_
    refine lv_iload_n hx hb dX8_book_33 rfl (lv_at hl 1 rfl) ?_
    refine m_iald (v := (fa 19) c2) (j := c2) C hm hW 19 (by decide) rfl rfl (vp_in_nI (N := 4) (by omega) (by decide)) (nI_clamp (by omega)) rfl dX8_book_34 ?_
    refine lv_topi (fun x5 ex5 => ?_)
    refine lv_aload_n hx hb dX8_book_35 rfl (lv_at hl 2 rfl) ?_
    refine m_getA C hm hW 20 (by decide) rfl tw_5_223 dX8_book_36 ?_
    refine lv_iload_n hx hb dX8_book_39 rfl (lv_at hl 1 rfl) ?_
    refine m_iald (v := (fa 20) c2) (j := c2) C hm hW 20 (by decide) rfl rfl (vp_in_nI (N := 4) (by omega) (by decide)) (nI_clamp (by omega)) rfl dX8_book_40 ?_
    refine lv_topi (fun x6 ex6 => ?_)
    refine lv_aload_n hx hb dX8_book_41 rfl (lv_at hl 2 rfl) ?_
    refine m_getA C hm hW 21 (by decide) rfl tw_5_224 dX8_book_42 ?_
    refine lv_iload_n hx hb dX8_book_45 rfl (lv_at hl 1 rfl) ?_
    refine m_iald (v := (fa 21) c2) (j := c2) C hm hW 21 (by decide) rfl rfl (vp_in_nI (N := 4) (by omega) (by decide)) (nI_clamp (by omega)) rfl dX8_book_46 ?_
    refine lv_topi (fun x7 ex7 => ?_)
    refine lv_aload_n hx hb dX8_book_47 rfl (lv_at hl 2 rfl) ?_
    refine m_getA C hm hW 35 (by decide) rfl tw_5_238 dX8_book_48 ?_
    refine lv_iload_n hx hb dX8_book_51 rfl (lv_at hl 3 rfl) ?_
    refine m_iald (v := (fa 35) i) (j := i) C hm hW 35 (by decide) rfl rfl (vp_in_nI (N := 100) (by omega) (by decide)) (nI_clamp (by omega)) rfl dX8_book_52 ?_
    refine lv_topi (fun x8 ex8 => ?_)
    refine lv_aload_n hx hb dX8_book_53 rfl (lv_at hl 2 rfl) ?_
    refine m_getA C hm hW 36 (by decide) rfl tw_5_239 dX8_book_54 ?_
    refine lv_iload_n hx hb dX8_book_57 rfl (lv_at hl 3 rfl) ?_
    refine m_iald (v := (fa 36) i) (j := i) C hm hW 36 (by decide) rfl rfl (vp_in_nI (N := 100) (by omega) (by decide)) (nI_clamp (by omega)) rfl dX8_book_58 ?_
    refine lv_topi (fun x9 ex9 => ?_)
    refine lv_aload_n hx hb dX8_book_59 rfl (lv_at hl 2 rfl) ?_
    refine m_getA C hm hW 37 (by decide) rfl tw_6_0 dX8_book_60 ?_
    refine lv_iload_n hx hb dX8_book_63 rfl (lv_at hl 3 rfl) ?_
    refine m_zald (v := (fa 37) i) (j := i) C hm hW 37 (by decide) rfl rfl (vp_in_nI (N := 100) (by omega) (by decide)) (nI_clamp (by omega)) rfl dX8_book_64 ?_
    refine lv_topi (fun x10 ex10 => ?_)
    refine g_callSp (k2 := 6) (As := [.int x5, .int x6, .int x7, .int x8, .int x9, .int x10]) (rest := []) C (c_X8_priceOf l X L ad _ x5 x6 x7 x8 x9 x10) tw_6_218 tw_6_219 tw_1_10 tw_6_220 (by decide +kernel) ⟨by rw [hR1]; exact Nat.le_of_ble_eq_true rfl, by rw [hR2]; exact Nat.le_of_ble_eq_true rfl⟩ hW hS rfl hl.1 rfl (Nat.le_of_ble_eq_true rfl) dX8_book_65 ⟨Nat.zero_le _, Nat.zero_le _⟩ (fun x11 H locs hp hW hS => ?_)
    have h12 := hp
    refine lv_istore (lv' := [(4, .int x11), (3, .int x3), (2, .int (nI c2)), (0, .ref (ad (100, 0))), (1, .int (nI i))]) hx hb dX8_book_68 hl (by decide) rfl (fun ls hl => ?_)
    refine lv_aload_n hx hb dX8_book_70 rfl (lv_at hl 3 rfl) ?_
    refine lv_aload_n hx hb dX8_book_71 rfl (lv_at hl 3 rfl) ?_
    refine m_getI (v := fi 1) C hm hW 1 (by decide) rfl tw_5_204 rfl dX8_book_72 ?_
    refine lv_aload_n hx hb dX8_book_75 rfl (lv_at hl 3 rfl) ?_
    refine m_getA C hm hW 41 (by decide) rfl tw_6_4 dX8_book_76 ?_
    refine lv_iload_n hx hb dX8_book_79 rfl (lv_at hl 4 rfl) ?_
    refine m_iald (v := (fa 41) i) (j := i) C hm hW 41 (by decide) rfl rfl (vp_in_nI (N := 100) (by omega) (by decide)) (nI_clamp (by omega)) rfl dX8_book_80 ?_
    refine lv_topi (fun x13 ex13 => ?_)
    refine lv_icmp_le (tgt := 90) hx hb dX8_book_81 (by decide) (fun c14 => ?_) (fun c14 => ?_)
    · refine lv_aload_n hx hb dX8_book_90 rfl (lv_at hl 3 rfl) ?_
      refine m_getI (v := nI np) C hm hW 42 (by decide) rfl tw_6_5 hnp dX8_book_91 ?_
      refine lv_bipush (v := 50) hx hb dX8_book_94 (by decide) ?_
      refine lv_icmp_ne (tgt := 103) hx hb dX8_book_96 (by decide) (fun c15 => ?_) (fun c15 => ?_)
      · have c15n := q_ne (a := np) (b := 50) (by omega) (by omega) c15
        refine lv_iconst (v := 0) hx hb dX8_book_103 (by decide) ?_
        refine m_putI C hm hW hS 0 (by decide) rfl tw_5_203 dX8_book_104 (fun H locs hW hS => ?_)
        rw [upd_same] at hW
        refine lv_aload_n hx hb dX8_book_107 rfl (lv_at hl 3 rfl) ?_
        refine m_getI (v := 0) C hm hW 0 (by decide) rfl tw_5_203 rfl dX8_book_108 ?_
        refine lv_if_le (tgt := 116) hx hb dX8_book_111 (by decide) (fun _ => ?_) (fun c9 => absurd (by decide) c9)
        refine lv_aload_n hx hb dX8_book_116 rfl (lv_at hl 3 rfl) ?_
        refine m_getA C hm hW 43 (by decide) rfl tw_6_6 dX8_book_117 ?_
        refine lv_aload_n hx hb dX8_book_120 rfl (lv_at hl 3 rfl) ?_
        refine m_getI (v := nI np) C hm hW 42 (by decide) rfl tw_6_5 hnp dX8_book_121 ?_
        refine lv_iload_n hx hb dX8_book_124 rfl (lv_at hl 4 rfl) ?_
        refine m_iast (j := np) C hm hW hS 43 (by decide) rfl rfl (vp_in_nI (N := 50) (by omega) (by decide)) (nI_clamp (by omega)) dX8_book_125 (fun H locs hW hS => ?_)
        refine lv_aload_n hx hb dX8_book_126 rfl (lv_at hl 3 rfl) ?_
        refine m_getA C hm hW 44 (by decide) rfl tw_6_7 dX8_book_127 ?_
        refine lv_aload_n hx hb dX8_book_130 rfl (lv_at hl 3 rfl) ?_
        refine m_getI (v := nI np) C hm hW 42 (by decide) rfl tw_6_5 hnp dX8_book_131 ?_
        refine lv_aload_n hx hb dX8_book_134 rfl (lv_at hl 3 rfl) ?_
        refine m_getI (v := fi 1) C hm hW 1 (by decide) rfl tw_5_204 rfl dX8_book_135 ?_
        refine m_iast (j := np) C hm hW hS 44 (by decide) rfl rfl (vp_in_nI (N := 50) (by omega) (by decide)) (nI_clamp (by omega)) dX8_book_138 (fun H locs hW hS => ?_)
        refine lv_aload_n hx hb dX8_book_139 rfl (lv_at hl 3 rfl) ?_
        refine m_getA C hm hW 45 (by decide) rfl tw_6_8 dX8_book_140 ?_
        refine lv_aload_n hx hb dX8_book_143 rfl (lv_at hl 3 rfl) ?_
        refine m_getI (v := nI np) C hm hW 42 (by decide) rfl tw_6_5 hnp dX8_book_144 ?_
        refine lv_iload_n hx hb dX8_book_147 rfl (lv_at hl 1 rfl) ?_
        refine m_iast (j := np) C hm hW hS 45 (by decide) rfl rfl (vp_in_nI (N := 50) (by omega) (by decide)) (nI_clamp (by omega)) dX8_book_148 (fun H locs hW hS => ?_)
        refine lv_aload_n hx hb dX8_book_149 rfl (lv_at hl 3 rfl) ?_
        refine lv_dup hx hb dX8_book_150 rfl ?_
        refine m_getI (v := nI np) C hm hW 42 (by decide) rfl tw_6_5 hnp dX8_book_151 ?_
        refine lv_iconst (v := 1) hx hb dX8_book_154 (by decide) ?_
        refine lv_iadd hx hb dX8_book_155 ?_
        refine lv_topE (y := nI (np + 1)) (nI_1 np) ?_
        refine m_putI C hm hW hS 42 (by decide) rfl tw_6_5 dX8_book_156 (fun H locs hW hS => ?_)
        refine lv_aload_n hx hb dX8_book_159 rfl (lv_at hl 3 rfl) ?_
        refine m_getI (v := nI (np + 1)) C hm hW 42 (by decide) rfl tw_6_5 rfl dX8_book_160 ?_
        refine lv_iconst (v := 1) hx hb dX8_book_163 (by decide) ?_
        refine lv_isub hx hb dX8_book_164 ?_
        refine lv_topE (y := nI np) (nI_pred np) ?_
        exact g_iret2 C hQ hW hS ⟨_, _, rfl, Or.inr (Or.inr ⟨i, c2, hi, rfl, hc, by grind, rfl, by subst_vars; rfl, rfl⟩)⟩ rfl (Nat.zero_le _) (Nat.zero_le _) dX8_book_165
      · have c15n := q_eq (a := np) (b := 50) (by omega) (by omega) c15
        refine lv_iconst (v := 2) hx hb dX8_book_99 (by decide) ?_
        refine lv_goto (tgt := 104) hx hb dX8_book_100 (by decide) ?_
        refine m_putI C hm hW hS 0 (by decide) rfl tw_5_203 dX8_book_104 (fun H locs hW hS => ?_)
        rw [upd_same] at hW
        refine lv_aload_n hx hb dX8_book_107 rfl (lv_at hl 3 rfl) ?_
        refine m_getI (v := 2) C hm hW 0 (by decide) rfl tw_5_203 rfl dX8_book_108 ?_
        refine lv_if_le (tgt := 116) hx hb dX8_book_111 (by decide) (fun c9 => absurd c9 (by decide)) (fun _ => ?_)
        refine lv_iconst (v := 0) hx hb dX8_book_114 (by decide) ?_
        exact g_iret2 C hQ hW hS ⟨_, _, rfl, Or.inr (Or.inl ⟨i, c2, hi, rfl, hc, by grind, rfl, rfl⟩)⟩ rfl (Nat.zero_le _) (Nat.zero_le _) dX8_book_115
    · refine lv_iload_n hx hb dX8_book_84 rfl (lv_at hl 1 rfl) ?_
      refine lv_iload hx hb dX8_book_85 (lv_at hl 0 rfl) ?_
      refine lv_icmp_ne (tgt := 99) hx hb dX8_book_87 (by decide) (fun c16 => ?_) (fun c16 => ?_)
      · refine lv_iconst (v := 2) hx hb dX8_book_99 (by decide) ?_
        refine lv_goto (tgt := 104) hx hb dX8_book_100 (by decide) ?_
        refine m_putI C hm hW hS 0 (by decide) rfl tw_5_203 dX8_book_104 (fun H locs hW hS => ?_)
        rw [upd_same] at hW
        refine lv_aload_n hx hb dX8_book_107 rfl (lv_at hl 3 rfl) ?_
        refine m_getI (v := 2) C hm hW 0 (by decide) rfl tw_5_203 rfl dX8_book_108 ?_
        refine lv_if_le (tgt := 116) hx hb dX8_book_111 (by decide) (fun c9 => absurd c9 (by decide)) (fun _ => ?_)
        refine lv_iconst (v := 0) hx hb dX8_book_114 (by decide) ?_
        exact g_iret2 C hQ hW hS ⟨_, _, rfl, Or.inr (Or.inl ⟨i, c2, hi, rfl, hc, by grind, rfl, rfl⟩)⟩ rfl (Nat.zero_le _) (Nat.zero_le _) dX8_book_115
      · refine lv_aload_n hx hb dX8_book_90 rfl (lv_at hl 3 rfl) ?_
        refine m_getI (v := nI np) C hm hW 42 (by decide) rfl tw_6_5 hnp dX8_book_91 ?_
        refine lv_bipush (v := 50) hx hb dX8_book_94 (by decide) ?_
        refine lv_icmp_ne (tgt := 103) hx hb dX8_book_96 (by decide) (fun c17 => ?_) (fun c17 => ?_)
        · have c17n := q_ne (a := np) (b := 50) (by omega) (by omega) c17
          refine lv_iconst (v := 0) hx hb dX8_book_103 (by decide) ?_
          refine m_putI C hm hW hS 0 (by decide) rfl tw_5_203 dX8_book_104 (fun H locs hW hS => ?_)
          rw [upd_same] at hW
          refine lv_aload_n hx hb dX8_book_107 rfl (lv_at hl 3 rfl) ?_
          refine m_getI (v := 0) C hm hW 0 (by decide) rfl tw_5_203 rfl dX8_book_108 ?_
          refine lv_if_le (tgt := 116) hx hb dX8_book_111 (by decide) (fun _ => ?_) (fun c9 => absurd (by decide) c9)
          refine lv_aload_n hx hb dX8_book_116 rfl (lv_at hl 3 rfl) ?_
          refine m_getA C hm hW 43 (by decide) rfl tw_6_6 dX8_book_117 ?_
          refine lv_aload_n hx hb dX8_book_120 rfl (lv_at hl 3 rfl) ?_
          refine m_getI (v := nI np) C hm hW 42 (by decide) rfl tw_6_5 hnp dX8_book_121 ?_
          refine lv_iload_n hx hb dX8_book_124 rfl (lv_at hl 4 rfl) ?_
          refine m_iast (j := np) C hm hW hS 43 (by decide) rfl rfl (vp_in_nI (N := 50) (by omega) (by decide)) (nI_clamp (by omega)) dX8_book_125 (fun H locs hW hS => ?_)
          refine lv_aload_n hx hb dX8_book_126 rfl (lv_at hl 3 rfl) ?_
          refine m_getA C hm hW 44 (by decide) rfl tw_6_7 dX8_book_127 ?_
          refine lv_aload_n hx hb dX8_book_130 rfl (lv_at hl 3 rfl) ?_
          refine m_getI (v := nI np) C hm hW 42 (by decide) rfl tw_6_5 hnp dX8_book_131 ?_
          refine lv_aload_n hx hb dX8_book_134 rfl (lv_at hl 3 rfl) ?_
          refine m_getI (v := fi 1) C hm hW 1 (by decide) rfl tw_5_204 rfl dX8_book_135 ?_
          refine m_iast (j := np) C hm hW hS 44 (by decide) rfl rfl (vp_in_nI (N := 50) (by omega) (by decide)) (nI_clamp (by omega)) dX8_book_138 (fun H locs hW hS => ?_)
          refine lv_aload_n hx hb dX8_book_139 rfl (lv_at hl 3 rfl) ?_
          refine m_getA C hm hW 45 (by decide) rfl tw_6_8 dX8_book_140 ?_
          refine lv_aload_n hx hb dX8_book_143 rfl (lv_at hl 3 rfl) ?_
          refine m_getI (v := nI np) C hm hW 42 (by decide) rfl tw_6_5 hnp dX8_book_144 ?_
          refine lv_iload_n hx hb dX8_book_147 rfl (lv_at hl 1 rfl) ?_
          refine m_iast (j := np) C hm hW hS 45 (by decide) rfl rfl (vp_in_nI (N := 50) (by omega) (by decide)) (nI_clamp (by omega)) dX8_book_148 (fun H locs hW hS => ?_)
          refine lv_aload_n hx hb dX8_book_149 rfl (lv_at hl 3 rfl) ?_
          refine lv_dup hx hb dX8_book_150 rfl ?_
          refine m_getI (v := nI np) C hm hW 42 (by decide) rfl tw_6_5 hnp dX8_book_151 ?_
          refine lv_iconst (v := 1) hx hb dX8_book_154 (by decide) ?_
          refine lv_iadd hx hb dX8_book_155 ?_
          refine lv_topE (y := nI (np + 1)) (nI_1 np) ?_
          refine m_putI C hm hW hS 42 (by decide) rfl tw_6_5 dX8_book_156 (fun H locs hW hS => ?_)
          refine lv_aload_n hx hb dX8_book_159 rfl (lv_at hl 3 rfl) ?_
          refine m_getI (v := nI (np + 1)) C hm hW 42 (by decide) rfl tw_6_5 rfl dX8_book_160 ?_
          refine lv_iconst (v := 1) hx hb dX8_book_163 (by decide) ?_
          refine lv_isub hx hb dX8_book_164 ?_
          refine lv_topE (y := nI np) (nI_pred np) ?_
          exact g_iret2 C hQ hW hS ⟨_, _, rfl, Or.inr (Or.inr ⟨i, c2, hi, rfl, hc, by grind, rfl, by subst_vars; rfl, rfl⟩)⟩ rfl (Nat.zero_le _) (Nat.zero_le _) dX8_book_165
        · have c17n := q_eq (a := np) (b := 50) (by omega) (by omega) c17
          refine lv_iconst (v := 2) hx hb dX8_book_99 (by decide) ?_
          refine lv_goto (tgt := 104) hx hb dX8_book_100 (by decide) ?_
          refine m_putI C hm hW hS 0 (by decide) rfl tw_5_203 dX8_book_104 (fun H locs hW hS => ?_)
          rw [upd_same] at hW
          refine lv_aload_n hx hb dX8_book_107 rfl (lv_at hl 3 rfl) ?_
          refine m_getI (v := 2) C hm hW 0 (by decide) rfl tw_5_203 rfl dX8_book_108 ?_
          refine lv_if_le (tgt := 116) hx hb dX8_book_111 (by decide) (fun c9 => absurd c9 (by decide)) (fun _ => ?_)
          refine lv_iconst (v := 0) hx hb dX8_book_114 (by decide) ?_
          exact g_iret2 C hQ hW hS ⟨_, _, rfl, Or.inr (Or.inl ⟨i, c2, hi, rfl, hc, by grind, rfl, rfl⟩)⟩ rfl (Nat.zero_le _) (Nat.zero_le _) dX8_book_115
  · subst e9
    rw [z1, z2] at hW
    refine lv_if_ne (tgt := 10) hx hb dX8_book_5 (by decide) (fun c9 => absurd c9 (by decide)) (fun _ => ?_)
    refine lv_iconst (v := 0) hx hb dX8_book_8 (by decide) ?_
    exact g_iret2 C hQ hW hS ⟨_, _, rfl, Or.inl ⟨hq8, rfl, rfl⟩⟩ rfl (Nat.zero_le _) (Nat.zero_le _) dX8_book_9

set_option maxHeartbeats 4000000 in
set_option maxRecDepth 100000 in
theorem c_X8_weigh (l : Launch) (X : GX) (L : List ro) (ad : ro → Nat) (st0 : ro → va_E) (fi : Nat → Int32) (fa : Nat → Nat → Int32) (hm : mL L) (a : Int32) (b : Int32) (np : Nat) (hnp : fi 42 = nI np) (hnp2 : np ≤ 50) (hpq : ∀ k, k < np → ∃ q, q < 100 ∧ fa 43 k = nI q) : mM l yX8_weigh cX8_weigh 4 (some .int) 2 48 X [.int a, .int b] L ad st0 fi fa (fun v fi' fa' => (¬ vp_in a np ∧ fi' = upd fi 0 1 ∧ fa' = fa) ∨ (∃ i, i < np ∧ a = nI i ∧ ¬ (1 ≤ b ∧ b ≤ 30000) ∧ fi' = upd fi 0 2 ∧ fa' = fa) ∨ (∃ i, i < np ∧ a = nI i ∧ (1 ≤ b ∧ b ≤ 30000) ∧ ¬ fa 46 i = 0 ∧ fi' = upd fi 0 3 ∧ fa' = fa) ∨ (∃ i q, i < np ∧ a = nI i ∧ (1 ≤ b ∧ b ≤ 30000) ∧ fa 46 i = 0 ∧ fa 43 i = nI q ∧ q < 100 ∧ fi' = upd fi 0 0 ∧ fa' = rowu fa 45 (upd (fa 45) i (prc (fa 38 q) (fa 39 q) (fa 40 q) (fa 35 q) b (fa 37 q))) ∧ v = prc (fa 38 q) (fa 39 q) (fa 40 q) (fa 35 q) b (fa 37 q) - fa 45 i)) := by
  intro sz
  refine gM_of2 (Qc := fun A => va_Qi _ (gB X A) A) (by decide) (Nat.le_of_ble_eq_true rfl) ?_ sz
  intro p e s m args below meth c A R Q hR hQ C hW hS ls hl
  obtain ⟨hR1, hR2, hR3, hR4⟩ := hR
  have hx := C.1.1
  have hb := C.1.2.1
  have hml := C.1.2.2.1
  have hl : lv_has ls 4 [(0, .ref (ad (100, 0))), (1, .int a), (2, .int b)] := hl
  refine lv_aload_n hx hb dX8_weigh_0 rfl (lv_at hl 0 rfl) ?_
  refine lv_aload_n hx hb dX8_weigh_1 rfl (lv_at hl 0 rfl) ?_
  refine lv_iload_n hx hb dX8_weigh_2 rfl (lv_at hl 1 rfl) ?_
  refine m_callVi (k2 := 1) (As := [.int a]) (rest := [.ref (ad (100, 0))]) C (c_X8_isParcel l X L ad st0 fi fa hm a np hnp (by omega)) tw_7_17 tw_7_19 tw_0_40 tw_1_10 tw_7_20 (by decide +kernel) ⟨by rw [hR1]; exact Nat.le_of_ble_eq_true rfl, by rw [hR2]; exact Nat.le_of_ble_eq_true rfl⟩ hm hW hS rfl hl.1 rfl (Nat.le_of_ble_eq_true rfl) dX8_weigh_3 ⟨Nat.zero_le _, Nat.zero_le _⟩ (fun x1 fi9 fa9 H locs hp hW hS => ?_)
  rcases hp with ⟨i, hi, e8, z1, z2, e9⟩ | ⟨hq8, z1, z2, e9⟩
  · subst e9
    rw [z1, z2] at hW
    subst e8
    refine lv_if_ne (tgt := 13) hx hb dX8_weigh_6 (by decide) (fun _ => ?_) (fun c9 => absurd c9 (by decide))
    refine lv_iload_n hx hb dX8_weigh_13 rfl (lv_at hl 2 rfl) ?_
    refine lv_iconst (v := 1) hx hb dX8_weigh_14 (by decide) ?_
    refine lv_sipush (v := 30000) hx hb dX8_weigh_15 (by decide) ?_
    refine g_callSp (k2 := 3) (As := [.int b, .int 1, .int 30000]) (rest := [.ref (ad (100, 0))]) C (c_X8_isIn l X L ad _ b 1 30000) tw_6_113 tw_6_114 tw_1_10 tw_6_115 (by decide +kernel) ⟨by rw [hR1]; exact Nat.le_of_ble_eq_true rfl, by rw [hR2]; exact Nat.le_of_ble_eq_true rfl⟩ hW hS rfl hl.1 rfl (Nat.le_of_ble_eq_true rfl) dX8_weigh_18 ⟨Nat.zero_le _, Nat.zero_le _⟩ (fun v9 H locs hp hW hS => ?_)
    have h2 := hp
    rcases h2 with ⟨h2, e9⟩ | ⟨h2, e9⟩
    · subst e9
      refine lv_if_ne (tgt := 28) hx hb dX8_weigh_21 (by decide) (fun _ => ?_) (fun c9 => absurd c9 (by decide))
      refine lv_aload_n hx hb dX8_weigh_28 rfl (lv_at hl 0 rfl) ?_
      refine m_getA C hm hW 46 (by decide) rfl tw_6_9 dX8_weigh_29 ?_
      refine lv_iload_n hx hb dX8_weigh_32 rfl (lv_at hl 1 rfl) ?_
      refine m_iald (v := (fa 46) i) (j := i) C hm hW 46 (by decide) rfl rfl (vp_in_nI (N := 50) (by omega) (by decide)) (nI_clamp (by omega)) rfl dX8_weigh_33 ?_
      refine lv_topi (fun x3 ex3 => ?_)
      refine lv_if_eq (tgt := 41) hx hb dX8_weigh_34 (by decide) (fun c4 => ?_) (fun c4 => ?_)
      · refine lv_iconst (v := 0) hx hb dX8_weigh_41 (by decide) ?_
        refine m_putI C hm hW hS 0 (by decide) rfl tw_5_203 dX8_weigh_42 (fun H locs hW hS => ?_)
        refine lv_aload_n hx hb dX8_weigh_45 rfl (lv_at hl 0 rfl) ?_
        refine m_getI (v := 0) C hm hW 0 (by decide) rfl tw_5_203 rfl dX8_weigh_46 ?_
        refine lv_if_le (tgt := 54) hx hb dX8_weigh_49 (by decide) (fun _ => ?_) (fun c9 => absurd (by decide) c9)
        obtain ⟨q, hq1, hq⟩ := hpq i hi
        refine lv_aload_n hx hb dX8_weigh_54 rfl (lv_at hl 0 rfl) ?_
        refine m_getA C hm hW 45 (by decide) rfl tw_6_8 dX8_weigh_55 ?_
        refine lv_iload_n hx hb dX8_weigh_58 rfl (lv_at hl 1 rfl) ?_
        refine m_iald (v := (fa 45) i) (j := i) C hm hW 45 (by decide) rfl rfl (vp_in_nI (N := 50) (by omega) (by decide)) (nI_clamp (by omega)) rfl dX8_weigh_59 ?_
        refine lv_topi (fun x5 ex5 => ?_)
        refine lv_istore_n (lv' := [(3, .int x5), (0, .ref (ad (100, 0))), (1, .int (nI i)), (2, .int b)]) hx hb dX8_weigh_60 rfl hl (by decide) rfl (fun ls hl => ?_)
        refine lv_aload_n hx hb dX8_weigh_61 rfl (lv_at hl 1 rfl) ?_
        refine m_getA C hm hW 45 (by decide) rfl tw_6_8 dX8_weigh_62 ?_
        refine lv_iload_n hx hb dX8_weigh_65 rfl (lv_at hl 2 rfl) ?_
        refine lv_aload_n hx hb dX8_weigh_66 rfl (lv_at hl 1 rfl) ?_
        refine lv_aload_n hx hb dX8_weigh_67 rfl (lv_at hl 1 rfl) ?_
        refine m_getA C hm hW 43 (by decide) rfl tw_6_6 dX8_weigh_68 ?_
        refine lv_iload_n hx hb dX8_weigh_71 rfl (lv_at hl 2 rfl) ?_
        refine m_iald (v := (fa 43) i) (j := i) C hm hW 43 (by decide) rfl rfl (vp_in_nI (N := 50) (by omega) (by decide)) (nI_clamp (by omega)) rfl dX8_weigh_72 ?_
        refine lv_topE (y := nI q) hq ?_
        refine lv_iload_n hx hb dX8_weigh_73 rfl (lv_at hl 3 rfl) ?_
        refine m_callVi (k2 := 2) (As := [.int (nI q), .int b]) (rest := [.int (nI i), .ref (ad (101, 45))]) C (c_X8_quoted l X L ad st0 (upd fi 0 0) fa hm q (by omega) b) tw_6_214 tw_6_216 tw_0_38 tw_1_10 tw_6_217 (by decide +kernel) ⟨by rw [hR1]; exact Nat.le_of_ble_eq_true rfl, by rw [hR2]; exact Nat.le_of_ble_eq_true rfl⟩ hm hW hS rfl hl.1 rfl (Nat.le_of_ble_eq_true rfl) dX8_weigh_74 ⟨Nat.zero_le _, Nat.zero_le _⟩ (fun x6 fi9 fa9 H locs hp hW hS => ?_)
        obtain ⟨z1, z2, h7⟩ := hp
        rw [z1, z2] at hW
        refine m_iast (j := i) C hm hW hS 45 (by decide) rfl rfl (vp_in_nI (N := 50) (by omega) (by decide)) (nI_clamp (by omega)) dX8_weigh_77 (fun H locs hW hS => ?_)
        refine lv_aload_n hx hb dX8_weigh_78 rfl (lv_at hl 1 rfl) ?_
        refine m_getA C hm hW 45 (by decide) rfl tw_6_8 dX8_weigh_79 ?_
        refine lv_iload_n hx hb dX8_weigh_82 rfl (lv_at hl 2 rfl) ?_
        refine m_iald (v := x6) (j := i) C hm hW 45 (by decide) rfl rfl (vp_in_nI (N := 50) (by omega) (by decide)) (nI_clamp (by omega)) pk_us dX8_weigh_83 ?_
        refine lv_iload_n hx hb dX8_weigh_84 rfl (lv_at hl 0 rfl) ?_
        refine lv_isub hx hb dX8_weigh_85 ?_
        refine lv_topi (fun x8 ex8 => ?_)
        exact g_iret2 C hQ hW hS ⟨_, _, rfl, Or.inr (Or.inr (Or.inr ⟨i, q, hi, rfl, by grind, by grind, hq, hq1, rfl, by subst_vars; rfl, by subst_vars; rfl⟩))⟩ rfl (Nat.zero_le _) (Nat.zero_le _) dX8_weigh_86
      · refine lv_iconst (v := 3) hx hb dX8_weigh_37 (by decide) ?_
        refine lv_goto (tgt := 42) hx hb dX8_weigh_38 (by decide) ?_
        refine m_putI C hm hW hS 0 (by decide) rfl tw_5_203 dX8_weigh_42 (fun H locs hW hS => ?_)
        refine lv_aload_n hx hb dX8_weigh_45 rfl (lv_at hl 0 rfl) ?_
        refine m_getI (v := 3) C hm hW 0 (by decide) rfl tw_5_203 rfl dX8_weigh_46 ?_
        refine lv_if_le (tgt := 54) hx hb dX8_weigh_49 (by decide) (fun c9 => absurd c9 (by decide)) (fun _ => ?_)
        refine lv_iconst (v := 0) hx hb dX8_weigh_52 (by decide) ?_
        exact g_iret2 C hQ hW hS ⟨_, _, rfl, Or.inr (Or.inr (Or.inl ⟨i, hi, rfl, by grind, by grind, rfl, rfl⟩))⟩ rfl (Nat.zero_le _) (Nat.zero_le _) dX8_weigh_53
    · subst e9
      refine lv_if_ne (tgt := 28) hx hb dX8_weigh_21 (by decide) (fun c9 => absurd c9 (by decide)) (fun _ => ?_)
      refine lv_iconst (v := 2) hx hb dX8_weigh_24 (by decide) ?_
      refine lv_goto (tgt := 42) hx hb dX8_weigh_25 (by decide) ?_
      refine m_putI C hm hW hS 0 (by decide) rfl tw_5_203 dX8_weigh_42 (fun H locs hW hS => ?_)
      refine lv_aload_n hx hb dX8_weigh_45 rfl (lv_at hl 0 rfl) ?_
      refine m_getI (v := 2) C hm hW 0 (by decide) rfl tw_5_203 rfl dX8_weigh_46 ?_
      refine lv_if_le (tgt := 54) hx hb dX8_weigh_49 (by decide) (fun c9 => absurd c9 (by decide)) (fun _ => ?_)
      refine lv_iconst (v := 0) hx hb dX8_weigh_52 (by decide) ?_
      exact g_iret2 C hQ hW hS ⟨_, _, rfl, Or.inr (Or.inl ⟨i, hi, rfl, by grind, rfl, rfl⟩)⟩ rfl (Nat.zero_le _) (Nat.zero_le _) dX8_weigh_53
  · subst e9
    rw [z1, z2] at hW
    refine lv_if_ne (tgt := 13) hx hb dX8_weigh_6 (by decide) (fun c9 => absurd c9 (by decide)) (fun _ => ?_)
    refine lv_iconst (v := 1) hx hb dX8_weigh_9 (by decide) ?_
    refine lv_goto (tgt := 42) hx hb dX8_weigh_10 (by decide) ?_
    refine m_putI C hm hW hS 0 (by decide) rfl tw_5_203 dX8_weigh_42 (fun H locs hW hS => ?_)
    refine lv_aload_n hx hb dX8_weigh_45 rfl (lv_at hl 0 rfl) ?_
    refine m_getI (v := 1) C hm hW 0 (by decide) rfl tw_5_203 rfl dX8_weigh_46 ?_
    refine lv_if_le (tgt := 54) hx hb dX8_weigh_49 (by decide) (fun c9 => absurd c9 (by decide)) (fun _ => ?_)
    refine lv_iconst (v := 0) hx hb dX8_weigh_52 (by decide) ?_
    exact g_iret2 C hQ hW hS ⟨_, _, rfl, Or.inl ⟨hq8, rfl, rfl⟩⟩ rfl (Nat.zero_le _) (Nat.zero_le _) dX8_weigh_53

set_option maxHeartbeats 4000000 in
set_option maxRecDepth 100000 in
theorem c_X8_cancel (l : Launch) (X : GX) (L : List ro) (ad : ro → Nat) (st0 : ro → va_E) (fi : Nat → Int32) (fa : Nat → Nat → Int32) (hm : mL L) (a : Int32) (np : Nat) (hnp : fi 42 = nI np) (hnp2 : np ≤ 50) : mM l yX8_cancel cX8_cancel 2 (some .int) 2 43 X [.int a] L ad st0 fi fa (fun v fi' fa' => (¬ vp_in a np ∧ fi' = upd fi 0 1 ∧ fa' = fa) ∨ (∃ i, i < np ∧ a = nI i ∧ (¬ fa 46 i = 0 ∨ fa 44 i + 30 < fi 1) ∧ fi' = upd fi 0 2 ∧ fa' = fa) ∨ (∃ i, i < np ∧ a = nI i ∧ ¬ (¬ fa 46 i = 0 ∨ fa 44 i + 30 < fi 1) ∧ fi' = upd fi 0 0 ∧ fa' = rowu fa 46 (upd (fa 46) i 1) ∧ v = fa 45 i)) := by
  intro sz
  refine gM_of2 (Qc := fun A => va_Qi _ (gB X A) A) (by decide) (Nat.le_of_ble_eq_true rfl) ?_ sz
  intro p e s m args below meth c A R Q hR hQ C hW hS ls hl
  obtain ⟨hR1, hR2, hR3, hR4⟩ := hR
  have hx := C.1.1
  have hb := C.1.2.1
  have hml := C.1.2.2.1
  have hl : lv_has ls 2 [(0, .ref (ad (100, 0))), (1, .int a)] := hl
  refine lv_aload_n hx hb dX8_cancel_0 rfl (lv_at hl 0 rfl) ?_
  refine lv_aload_n hx hb dX8_cancel_1 rfl (lv_at hl 0 rfl) ?_
  refine lv_iload_n hx hb dX8_cancel_2 rfl (lv_at hl 1 rfl) ?_
  refine m_callVi (k2 := 1) (As := [.int a]) (rest := [.ref (ad (100, 0))]) C (c_X8_isParcel l X L ad st0 fi fa hm a np hnp (by omega)) tw_7_17 tw_7_19 tw_0_40 tw_1_10 tw_7_20 (by decide +kernel) ⟨by rw [hR1]; exact Nat.le_of_ble_eq_true rfl, by rw [hR2]; exact Nat.le_of_ble_eq_true rfl⟩ hm hW hS rfl hl.1 rfl (Nat.le_of_ble_eq_true rfl) dX8_cancel_3 ⟨Nat.zero_le _, Nat.zero_le _⟩ (fun x1 fi9 fa9 H locs hp hW hS => ?_)
  rcases hp with ⟨i, hi, e8, z1, z2, e9⟩ | ⟨hq8, z1, z2, e9⟩
  · subst e9
    rw [z1, z2] at hW
    subst e8
    refine lv_if_eq (tgt := 13) hx hb dX8_cancel_6 (by decide) (fun c9 => absurd c9 (by decide)) (fun _ => ?_)
    refine lv_iconst (v := 0) hx hb dX8_cancel_9 (by decide) ?_
    refine lv_goto (tgt := 14) hx hb dX8_cancel_10 (by decide) ?_
    refine m_putI C hm hW hS 0 (by decide) rfl tw_5_203 dX8_cancel_14 (fun H locs hW hS => ?_)
    refine lv_aload_n hx hb dX8_cancel_17 rfl (lv_at hl 0 rfl) ?_
    refine m_getI (v := 0) C hm hW 0 (by decide) rfl tw_5_203 rfl dX8_cancel_18 ?_
    refine lv_if_le (tgt := 26) hx hb dX8_cancel_21 (by decide) (fun _ => ?_) (fun c9 => absurd (by decide) c9)
    refine lv_aload_n hx hb dX8_cancel_26 rfl (lv_at hl 0 rfl) ?_
    refine lv_aload_n hx hb dX8_cancel_27 rfl (lv_at hl 0 rfl) ?_
    refine m_getA C hm hW 46 (by decide) rfl tw_6_9 dX8_cancel_28 ?_
    refine lv_iload_n hx hb dX8_cancel_31 rfl (lv_at hl 1 rfl) ?_
    refine m_iald (v := (fa 46) i) (j := i) C hm hW 46 (by decide) rfl rfl (vp_in_nI (N := 50) (by omega) (by decide)) (nI_clamp (by omega)) rfl dX8_cancel_32 ?_
    refine lv_topi (fun x2 ex2 => ?_)
    refine lv_if_ne (tgt := 52) hx hb dX8_cancel_33 (by decide) (fun c3 => ?_) (fun c3 => ?_)
    · refine lv_iconst (v := 2) hx hb dX8_cancel_52 (by decide) ?_
      refine lv_goto (tgt := 57) hx hb dX8_cancel_53 (by decide) ?_
      refine m_putI C hm hW hS 0 (by decide) rfl tw_5_203 dX8_cancel_57 (fun H locs hW hS => ?_)
      rw [upd_same] at hW
      refine lv_aload_n hx hb dX8_cancel_60 rfl (lv_at hl 0 rfl) ?_
      refine m_getI (v := 2) C hm hW 0 (by decide) rfl tw_5_203 rfl dX8_cancel_61 ?_
      refine lv_if_le (tgt := 69) hx hb dX8_cancel_64 (by decide) (fun c9 => absurd c9 (by decide)) (fun _ => ?_)
      refine lv_iconst (v := 0) hx hb dX8_cancel_67 (by decide) ?_
      exact g_iret2 C hQ hW hS ⟨_, _, rfl, Or.inr (Or.inl ⟨i, hi, rfl, by grind, rfl, rfl⟩)⟩ rfl (Nat.zero_le _) (Nat.zero_le _) dX8_cancel_68
    · refine lv_aload_n hx hb dX8_cancel_36 rfl (lv_at hl 0 rfl) ?_
      refine m_getI (v := fi 1) C hm hW 1 (by decide) rfl tw_5_204 rfl dX8_cancel_37 ?_
      refine lv_aload_n hx hb dX8_cancel_40 rfl (lv_at hl 0 rfl) ?_
      refine m_getA C hm hW 44 (by decide) rfl tw_6_7 dX8_cancel_41 ?_
      refine lv_iload_n hx hb dX8_cancel_44 rfl (lv_at hl 1 rfl) ?_
      refine m_iald (v := (fa 44) i) (j := i) C hm hW 44 (by decide) rfl rfl (vp_in_nI (N := 50) (by omega) (by decide)) (nI_clamp (by omega)) rfl dX8_cancel_45 ?_
      refine lv_topi (fun x4 ex4 => ?_)
      refine lv_bipush (v := 30) hx hb dX8_cancel_46 (by decide) ?_
      refine lv_iadd hx hb dX8_cancel_48 ?_
      refine lv_topi (fun x5 ex5 => ?_)
      refine lv_icmp_le (tgt := 56) hx hb dX8_cancel_49 (by decide) (fun c6 => ?_) (fun c6 => ?_)
      · refine lv_iconst (v := 0) hx hb dX8_cancel_56 (by decide) ?_
        refine m_putI C hm hW hS 0 (by decide) rfl tw_5_203 dX8_cancel_57 (fun H locs hW hS => ?_)
        rw [upd_same] at hW
        refine lv_aload_n hx hb dX8_cancel_60 rfl (lv_at hl 0 rfl) ?_
        refine m_getI (v := 0) C hm hW 0 (by decide) rfl tw_5_203 rfl dX8_cancel_61 ?_
        refine lv_if_le (tgt := 69) hx hb dX8_cancel_64 (by decide) (fun _ => ?_) (fun c9 => absurd (by decide) c9)
        refine lv_aload_n hx hb dX8_cancel_69 rfl (lv_at hl 0 rfl) ?_
        refine m_getA C hm hW 46 (by decide) rfl tw_6_9 dX8_cancel_70 ?_
        refine lv_iload_n hx hb dX8_cancel_73 rfl (lv_at hl 1 rfl) ?_
        refine lv_iconst (v := 1) hx hb dX8_cancel_74 (by decide) ?_
        refine m_iast (j := i) C hm hW hS 46 (by decide) rfl rfl (vp_in_nI (N := 50) (by omega) (by decide)) (nI_clamp (by omega)) dX8_cancel_75 (fun H locs hW hS => ?_)
        refine lv_aload_n hx hb dX8_cancel_76 rfl (lv_at hl 0 rfl) ?_
        refine m_getA C hm hW 45 (by decide) rfl tw_6_8 dX8_cancel_77 ?_
        refine lv_iload_n hx hb dX8_cancel_80 rfl (lv_at hl 1 rfl) ?_
        refine m_iald (v := (fa 45) i) (j := i) C hm hW 45 (by decide) rfl rfl (vp_in_nI (N := 50) (by omega) (by decide)) (nI_clamp (by omega)) rfl dX8_cancel_81 ?_
        refine lv_topi (fun x7 ex7 => ?_)
        exact g_iret2 C hQ hW hS ⟨_, _, rfl, Or.inr (Or.inr ⟨i, hi, rfl, by grind, rfl, rfl, by first | assumption | grind⟩)⟩ rfl (Nat.zero_le _) (Nat.zero_le _) dX8_cancel_82
      · refine lv_iconst (v := 2) hx hb dX8_cancel_52 (by decide) ?_
        refine lv_goto (tgt := 57) hx hb dX8_cancel_53 (by decide) ?_
        refine m_putI C hm hW hS 0 (by decide) rfl tw_5_203 dX8_cancel_57 (fun H locs hW hS => ?_)
        rw [upd_same] at hW
        refine lv_aload_n hx hb dX8_cancel_60 rfl (lv_at hl 0 rfl) ?_
        refine m_getI (v := 2) C hm hW 0 (by decide) rfl tw_5_203 rfl dX8_cancel_61 ?_
        refine lv_if_le (tgt := 69) hx hb dX8_cancel_64 (by decide) (fun c9 => absurd c9 (by decide)) (fun _ => ?_)
        refine lv_iconst (v := 0) hx hb dX8_cancel_67 (by decide) ?_
        exact g_iret2 C hQ hW hS ⟨_, _, rfl, Or.inr (Or.inl ⟨i, hi, rfl, by grind, rfl, rfl⟩)⟩ rfl (Nat.zero_le _) (Nat.zero_le _) dX8_cancel_68
  · subst e9
    rw [z1, z2] at hW
    refine lv_if_eq (tgt := 13) hx hb dX8_cancel_6 (by decide) (fun _ => ?_) (fun c9 => absurd (by decide) c9)
    refine lv_iconst (v := 1) hx hb dX8_cancel_13 (by decide) ?_
    refine m_putI C hm hW hS 0 (by decide) rfl tw_5_203 dX8_cancel_14 (fun H locs hW hS => ?_)
    refine lv_aload_n hx hb dX8_cancel_17 rfl (lv_at hl 0 rfl) ?_
    refine m_getI (v := 1) C hm hW 0 (by decide) rfl tw_5_203 rfl dX8_cancel_18 ?_
    refine lv_if_le (tgt := 26) hx hb dX8_cancel_21 (by decide) (fun c9 => absurd c9 (by decide)) (fun _ => ?_)
    refine lv_iconst (v := 0) hx hb dX8_cancel_24 (by decide) ?_
    exact g_iret2 C hQ hW hS ⟨_, _, rfl, Or.inl ⟨hq8, rfl, rfl⟩⟩ rfl (Nat.zero_le _) (Nat.zero_le _) dX8_cancel_25

