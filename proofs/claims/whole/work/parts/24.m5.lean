set_option maxHeartbeats 4000000 in
set_option maxRecDepth 100000 in
theorem c_X8_isRight (l : Launch) (X : GX) (L : List ro) (ad : ro → Nat) (st0 : ro → va_E) (fi : Nat → Int32) (fa : Nat → Nat → Int32) (hm : mL L)  (n : Nat) (hn : fi 3 = nI n) (hn60 : n ≤ 60) (h4 : ∀ k, k < 6 → fa 4 k = keyc k) : mM l yX8_isRight cX8_isRight 1 (some .boolean) 5 121 X [] L ad st0 fi fa (fun v fi' fa' => (∀ j, j ≠ 0 → j ≠ 7 → j ≠ 8 → j ≠ 10 → fi' j = fi j) ∧ (∀ a, a ≠ 6 → a ≠ 9 → fa' a = fa a) ∧ fi' 0 = 0 ∧ (((rdR (fa 2) n).1 = 0 ∧ v = 1) ∨ (¬ (rdR (fa 2) n).1 = 0 ∧ v = 0))) := by
  intro sz
  refine gM_of2 (Qc := fun A => va_Qi _ (gB X A) A) (by decide) (Nat.le_of_ble_eq_true rfl) ?_ sz
  intro p e s m args below meth c A R Q hR hQ C hW hS ls hl
  obtain ⟨hR1, hR2, hR3, hR4⟩ := hR
  have hx := C.1.1
  have hb := C.1.2.1
  have hml := C.1.2.2.1
  have hl : lv_has ls 1 [(0, .ref (ad (100, 0)))] := hl
  refine lv_aload_n hx hb dX8_isRight_0 rfl (lv_at hl 0 rfl) ?_
  refine lv_iconst (v := 0) hx hb dX8_isRight_1 (by decide) ?_
  refine m_putI C hm hW hS 0 (by decide) rfl tw_5_203 dX8_isRight_2 (fun H locs hW hS => ?_)
  refine lv_aload_n hx hb dX8_isRight_5 rfl (lv_at hl 0 rfl) ?_
  refine m_callVi (k2 := 0) (As := []) (rest := []) C (c_X8_reads l X L ad st0 (upd fi 0 0) fa hm n hn hn60 h4) tw_6_124 tw_6_126 tw_0_25 tw_1_10 tw_6_127 (by decide +kernel) ⟨by rw [hR1]; exact Nat.le_of_ble_eq_true rfl, by rw [hR2]; exact Nat.le_of_ble_eq_true rfl⟩ hm hW hS rfl hl.1 rfl (Nat.le_of_ble_eq_true rfl) dX8_isRight_6 ⟨Nat.zero_le _, Nat.zero_le _⟩ (fun v9 fi1 fa1 H locs hp hW hS => ?_)
  obtain ⟨fr, fra, hv6, e7, e8, hb9⟩ := hp
  rcases hb9 with ⟨r0, r9⟩ | ⟨r0, r9⟩
  · subst r9
    exact g_iret2 C hQ hW hS ⟨_, _, rfl, (fun j q0 q1 q2 _ => by rw [fr j q1 q2]; simp [upd, q0]), (fun a q1 _ => fra a q1), fr 0 (by decide) (by decide), Or.inl ⟨r0, rfl⟩⟩ (by decide) (Nat.zero_le _) (Nat.zero_le _) dX8_isRight_9
  · subst r9
    exact g_iret2 C hQ hW hS ⟨_, _, rfl, (fun j q0 q1 q2 _ => by rw [fr j q1 q2]; simp [upd, q0]), (fun a q1 _ => fra a q1), fr 0 (by decide) (by decide), Or.inr ⟨r0, rfl⟩⟩ (by decide) (Nat.zero_le _) (Nat.zero_le _) dX8_isRight_9

set_option maxHeartbeats 4000000 in
set_option maxRecDepth 100000 in
theorem c_X8_faultLength (l : Launch) (X : GX) (L : List ro) (ad : ro → Nat) (st0 : ro → va_E) (fi : Nat → Int32) (fa : Nat → Nat → Int32) (hm : mL L)  (n : Nat) (hn : fi 3 = nI n) (hn60 : n ≤ 60) (h4 : ∀ k, k < 6 → fa 4 k = keyc k) (h5 : ∀ k, k < 24 → fa 5 k = wordc k) : mM l yX8_faultLength cX8_faultLength 1 (some .int) 6 144 X [] L ad st0 fi fa (fun v fi' fa' => (∀ j, j ≠ 0 → j ≠ 7 → j ≠ 8 → j ≠ 10 → fi' j = fi j) ∧ (∀ a, a ≠ 6 → a ≠ 9 → fa' a = fa a) ∧ fi' 0 = 0 ∧ v = nI (tlen (rdR (fa 2) n).1)) := by
  intro sz
  refine gM_of2 (Qc := fun A => va_Qi _ (gB X A) A) (by decide) (Nat.le_of_ble_eq_true rfl) ?_ sz
  intro p e s m args below meth c A R Q hR hQ C hW hS ls hl
  obtain ⟨hR1, hR2, hR3, hR4⟩ := hR
  have hx := C.1.1
  have hb := C.1.2.1
  have hml := C.1.2.2.1
  have hl : lv_has ls 1 [(0, .ref (ad (100, 0)))] := hl
  refine lv_aload_n hx hb dX8_faultLength_0 rfl (lv_at hl 0 rfl) ?_
  refine lv_iconst (v := 0) hx hb dX8_faultLength_1 (by decide) ?_
  refine m_putI C hm hW hS 0 (by decide) rfl tw_5_203 dX8_faultLength_2 (fun H locs hW hS => ?_)
  refine lv_aload_n hx hb dX8_faultLength_5 rfl (lv_at hl 0 rfl) ?_
  refine m_callVv (k2 := 0) (As := []) (rest := []) C (c_X8_tells l X L ad st0 (upd fi 0 0) fa hm n hn hn60 h4 h5) tw_6_152 tw_6_154 tw_0_31 tw_1_10 tw_6_155 (by decide +kernel) ⟨by rw [hR1]; exact Nat.le_of_ble_eq_true rfl, by rw [hR2]; exact Nat.le_of_ble_eq_true rfl⟩ hm hW hS rfl hl.1 rfl (Nat.le_of_ble_eq_true rfl) dX8_faultLength_6 ⟨Nat.zero_le _, Nat.zero_le _⟩ (fun fi1 fa1 H locs hp hW hS => ?_)
  obtain ⟨fr, fra, e10, ht9⟩ := hp
  refine lv_aload_n hx hb dX8_faultLength_9 rfl (lv_at hl 0 rfl) ?_
  refine m_getI (v := nI (tlen (rdR (fa 2) n).1)) C hm hW 10 (by decide) rfl tw_5_213 e10 dX8_faultLength_10 ?_
  exact g_iret2 C hQ hW hS ⟨_, _, rfl, (fun j q0 q1 q2 q3 => by rw [fr j q1 q2 q3]; simp [upd, q0]), fra, fr 0 (by decide) (by decide) (by decide), rfl⟩ rfl (Nat.zero_le _) (Nat.zero_le _) dX8_faultLength_13

set_option maxHeartbeats 4000000 in
set_option maxRecDepth 100000 in
theorem c_X8_fault (l : Launch) (X : GX) (L : List ro) (ad : ro → Nat) (st0 : ro → va_E) (fi : Nat → Int32) (fa : Nat → Nat → Int32) (hm : mL L) (a : Int32) (n : Nat) (hn : fi 3 = nI n) (hn60 : n ≤ 60) (h4 : ∀ k, k < 6 → fa 4 k = keyc k) (h5 : ∀ k, k < 24 → fa 5 k = wordc k) : mM l yX8_fault cX8_fault 2 (some .char) 6 144 X [.int a] L ad st0 fi fa (fun v fi' fa' => (∀ j, j ≠ 0 → j ≠ 7 → j ≠ 8 → j ≠ 10 → fi' j = fi j) ∧ (∀ a, a ≠ 6 → a ≠ 9 → fa' a = fa a) ∧ ((vp_in a (tlen (rdR (fa 2) n).1) ∧ fi' 0 = 0 ∧ v = tellc (rdR (fa 2) n).1 (rdR (fa 2) n).2.1 a.toNatClampNeg) ∨ (¬ vp_in a (tlen (rdR (fa 2) n).1) ∧ fi' 0 = 1))) := by
  intro sz
  refine gM_of2 (Qc := fun A => va_Qi _ (gB X A) A) (by decide) (Nat.le_of_ble_eq_true rfl) ?_ sz
  intro p e s m args below meth c A R Q hR hQ C hW hS ls hl
  obtain ⟨hR1, hR2, hR3, hR4⟩ := hR
  have hx := C.1.1
  have hb := C.1.2.1
  have hml := C.1.2.2.1
  have hl : lv_has ls 2 [(0, .ref (ad (100, 0))), (1, .int a)] := hl
  refine lv_aload_n hx hb dX8_fault_0 rfl (lv_at hl 0 rfl) ?_
  refine m_callVv (k2 := 0) (As := []) (rest := []) C (c_X8_tells l X L ad st0 fi fa hm n hn hn60 h4 h5) tw_6_152 tw_6_154 tw_0_31 tw_1_10 tw_6_155 (by decide +kernel) ⟨by rw [hR1]; exact Nat.le_of_ble_eq_true rfl, by rw [hR2]; exact Nat.le_of_ble_eq_true rfl⟩ hm hW hS rfl hl.1 rfl (Nat.le_of_ble_eq_true rfl) dX8_fault_1 ⟨Nat.zero_le _, Nat.zero_le _⟩ (fun fi1 fa1 H locs hp hW hS => ?_)
  obtain ⟨fr, fra, e10, ht9⟩ := hp
  refine lv_aload_n hx hb dX8_fault_4 rfl (lv_at hl 0 rfl) ?_
  refine lv_iload_n hx hb dX8_fault_5 rfl (lv_at hl 1 rfl) ?_
  refine lv_iconst (v := 0) hx hb dX8_fault_6 (by decide) ?_
  refine lv_aload_n hx hb dX8_fault_7 rfl (lv_at hl 0 rfl) ?_
  refine m_getI (v := nI (tlen (rdR (fa 2) n).1)) C hm hW 10 (by decide) rfl tw_5_213 e10 dX8_fault_8 ?_
  refine lv_iconst (v := 1) hx hb dX8_fault_11 (by decide) ?_
  refine lv_isub hx hb dX8_fault_12 ?_
  refine lv_topE (y := nI (tlen (rdR (fa 2) n).1) - 1) rfl ?_
  refine g_callSp (k2 := 3) (As := [.int a, .int 0, .int (nI (tlen (rdR (fa 2) n).1) - 1)]) (rest := [.ref (ad (100, 0))]) C (c_X8_isIn l X L ad _ a 0 (nI (tlen (rdR (fa 2) n).1) - 1)) tw_6_113 tw_6_114 tw_1_10 tw_6_115 (by decide +kernel) ⟨by rw [hR1]; exact Nat.le_of_ble_eq_true rfl, by rw [hR2]; exact Nat.le_of_ble_eq_true rfl⟩ hW hS rfl hl.1 rfl (Nat.le_of_ble_eq_true rfl) dX8_fault_13 ⟨Nat.zero_le _, Nat.zero_le _⟩ (fun v9 H locs hp hW hS => ?_)
  have h1 := hp
  rcases h1 with ⟨h1, e9⟩ | ⟨h1, e9⟩
  · subst e9
    refine lv_if_eq (tgt := 23) hx hb dX8_fault_16 (by decide) (fun c9 => absurd c9 (by decide)) (fun _ => ?_)
    refine lv_iconst (v := 0) hx hb dX8_fault_19 (by decide) ?_
    refine lv_goto (tgt := 24) hx hb dX8_fault_20 (by decide) ?_
    refine m_putI C hm hW hS 0 (by decide) rfl tw_5_203 dX8_fault_24 (fun H locs hW hS => ?_)
    refine lv_aload_n hx hb dX8_fault_27 rfl (lv_at hl 0 rfl) ?_
    refine m_getI (v := 0) C hm hW 0 (by decide) rfl tw_5_203 rfl dX8_fault_28 ?_
    refine lv_if_le (tgt := 38) hx hb dX8_fault_31 (by decide) (fun _ => ?_) (fun c9 => absurd (by decide) c9)
    have hq : vp_in a (tlen (rdR (fa 2) n).1) := (vp_m1 (Nat.le_trans (tlen_le _) (by decide))).mp (by simpa using h1)
    have hz : a.toNatClampNeg < tlen (rdR (fa 2) n).1 := Nat.not_le.mp fun q => hq (Or.inr q)
    have ht := ht9 _ hz
    refine lv_aload_n hx hb dX8_fault_38 rfl (lv_at hl 0 rfl) ?_
    refine m_getA C hm hW 9 (by decide) rfl tw_5_212 dX8_fault_39 ?_
    refine lv_iload_n hx hb dX8_fault_42 rfl (lv_at hl 1 rfl) ?_
    refine m_cald (v := (fa1 9) a.toNatClampNeg) (j := a.toNatClampNeg) C hm hW 9 (by decide) rfl rfl (vp_in_iff.mpr (by have h7 := vp_in_iff.mp hq; have h8 := tlen_le (rdR (fa 2) n).1; show 0 ≤ a.toInt ∧ a.toInt < ((20 : Nat) : Int); omega)) rfl rfl dX8_fault_43 ?_
    refine lv_topi (fun x2 ex2 => ?_)
    exact g_iret2 C hQ hW hS ⟨_, _, rfl, (fun j q0 q1 q2 q3 => by simp only [upd]; rw [if_neg q0]; exact fr j q1 q2 q3), fra, Or.inl ⟨hq, rfl, ex2.trans ht⟩⟩ (nar_nI (by rw [show x2 = _ from ex2, ht]; exact tellc_nI hz)) (Nat.zero_le _) (Nat.zero_le _) dX8_fault_44
  · subst e9
    refine lv_if_eq (tgt := 23) hx hb dX8_fault_16 (by decide) (fun _ => ?_) (fun c9 => absurd (by decide) c9)
    refine lv_iconst (v := 1) hx hb dX8_fault_23 (by decide) ?_
    refine m_putI C hm hW hS 0 (by decide) rfl tw_5_203 dX8_fault_24 (fun H locs hW hS => ?_)
    refine lv_aload_n hx hb dX8_fault_27 rfl (lv_at hl 0 rfl) ?_
    refine m_getI (v := 1) C hm hW 0 (by decide) rfl tw_5_203 rfl dX8_fault_28 ?_
    refine lv_if_le (tgt := 38) hx hb dX8_fault_31 (by decide) (fun c9 => absurd c9 (by decide)) (fun _ => ?_)
    refine lv_iconst (v := 0) hx hb dX8_fault_34 (by decide) ?_
    refine lv_goto (tgt := 44) hx hb dX8_fault_35 (by decide) ?_
    exact g_iret2 C hQ hW hS ⟨_, _, rfl, (fun j q0 q1 q2 q3 => by simp only [upd]; rw [if_neg q0]; exact fr j q1 q2 q3), fra, Or.inr ⟨fun q => h1 (by simpa using (vp_m1 (Nat.le_trans (tlen_le _) (by decide))).mpr q), rfl⟩⟩ (by decide) (Nat.zero_le _) (Nat.zero_le _) dX8_fault_44

