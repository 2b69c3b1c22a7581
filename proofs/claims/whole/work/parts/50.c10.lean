set_option maxHeartbeats 4000000 in
set_option maxRecDepth 100000 in
theorem c_X4_keyIn (l : Launch) (X : GX) (L : List ro) (ad : ro → Nat) (st0 : ro → va_E) (ci : Nat → Nat → Int32) (ca : Nat → Nat → Nat → Int32) (cr : Nat → Nat → Nat) (mA2 : (2, 0) ∈ L) (mA3 : (3, 0) ∈ L) (n : Nat) (hn : ci 2 0 = nI n) (hn60 : n ≤ 60) (hch : ∀ j, ∃ q : Nat, q < 65536 ∧ ca 3 0 j = nI q) (a b : Nat) (hab : a ≤ b) (hbn : b ≤ n) : cM l yX4_keyIn cX4_keyIn 3 (some .int) 4 91 X [.ref (ad (2, 0)), .int (nI a), .int (nI b)] L ad st0 ci ca cr (fun v ci' ca' cr' => ci' = ci ∧ ca' = ca ∧ cr' = cr ∧ v = rdK (ca 3 0) a b) := by
  intro sz
  refine gM_of2 (Qc := fun A => va_Qi _ (gB X A) A) (by decide) (Nat.le_of_ble_eq_true rfl) ?_ sz
  intro p e s m args below meth c A R Q hR hQ C hW hS ls hl
  obtain ⟨hR1, hR2, hR3, hR4⟩ := hR
  have hx := C.1.1
  have hb := C.1.2.1
  have hml := C.1.2.2.1
  have hl : lv_has ls 3 [(0, .ref (ad (2, 0))), (1, .int (nI a)), (2, .int (nI b))] := hl
  refine lv_iload_n hx hb dX4_keyIn_0 rfl (lv_at hl 2 rfl) ?_
  refine lv_iload_n hx hb dX4_keyIn_1 rfl (lv_at hl 1 rfl) ?_
  refine lv_isub hx hb dX4_keyIn_2 ?_
  refine lv_topE (y := nI (b - a)) (pk_sub (by omega)) ?_
  refine lv_iconst (v := 2) hx hb dX4_keyIn_3 (by decide) ?_
  refine lv_icmp_lt (tgt := 19) hx hb dX4_keyIn_4 (by decide) (fun c1 => ?_) (fun c1 => ?_)
  · have c1n := q_lt (a := (b - a)) (b := 2) (by omega) (by omega) c1
    refine lv_iconst (v := (-1)) hx hb dX4_keyIn_19 (by decide) ?_
    exact g_iret2 C hQ hW hS ⟨_, _, _, rfl, rfl, rfl, rfl, by unfold rdK; grind⟩ rfl (Nat.zero_le _) (Nat.zero_le _) dX4_keyIn_20
  · have c1n := q_nlt (a := (b - a)) (b := 2) (by omega) (by omega) c1
    refine lv_aload_n hx hb dX4_keyIn_7 rfl (lv_at hl 0 rfl) ?_
    refine lv_iload_n hx hb dX4_keyIn_8 rfl (lv_at hl 1 rfl) ?_
    refine lv_iconst (v := 1) hx hb dX4_keyIn_9 (by decide) ?_
    refine lv_iadd hx hb dX4_keyIn_10 ?_
    refine lv_topE (y := nI (a + 1)) (nI_1 a) ?_
    refine g_callVi (r := (2, 0)) (T := TX4) (N := 5) (k2 := 1) (As := [.int (nI (a + 1))]) (rest := []) C (c_X4_signAt l X L ad st0 ci ca cr mA2 mA3 (a + 1) (by omega) n hn hn60 hch) tw_2_19 tw_2_21 tw_0_2 tw_1_2 tw_2_22 (by decide +kernel) ⟨by rw [hR1]; exact Nat.le_of_ble_eq_true rfl, by rw [hR2]; exact Nat.le_of_ble_eq_true rfl⟩ hW hS mA2 rfl rfl rfl hl.1 rfl (Nat.le_of_ble_eq_true rfl) dX4_keyIn_11 ⟨Nat.zero_le _, Nat.zero_le _⟩ (fun x2 L9 ad9 st9 H locs hp hW hS => ?_)
    obtain ⟨ci9, ca9, cr9, z0, hp⟩ := hp
    cases z0
    obtain ⟨z1, z2, z3, h3⟩ := hp
    rw [z1, z2, z3] at hW
    refine lv_bipush (v := 61) hx hb dX4_keyIn_14 (by decide) ?_
    refine lv_icmp_eq (tgt := 21) hx hb dX4_keyIn_16 (by decide) (fun c4 => ?_) (fun c4 => ?_)
    · refine va_ldcS hx hb C.1.2.2.2.1 (C.2.2.2.2.2.2.1 ("RateGate$Request", 93, "SCFTWX", 5) (by decide +kernel)) dX4_keyIn_21 ?_
      refine lv_aload_n hx hb dX4_keyIn_23 rfl (lv_at hl 0 rfl) ?_
      refine lv_iload_n hx hb dX4_keyIn_24 rfl (lv_at hl 1 rfl) ?_
      refine g_callVi (r := (2, 0)) (T := TX4) (N := 5) (k2 := 1) (As := [.int (nI a)]) (rest := [.ref (X.2.2 5)]) C (c_X4_signAt l X L ad st0 ci ca cr mA2 mA3 a (by omega) n hn hn60 hch) tw_2_19 tw_2_21 tw_0_2 tw_1_2 tw_2_22 (by decide +kernel) ⟨by rw [hR1]; exact Nat.le_of_ble_eq_true rfl, by rw [hR2]; exact Nat.le_of_ble_eq_true rfl⟩ hW hS mA2 rfl rfl rfl hl.1 rfl (Nat.le_of_ble_eq_true rfl) dX4_keyIn_25 ⟨Nat.zero_le _, Nat.zero_le _⟩ (fun x5 L9 ad9 st9 H locs hp hW hS => ?_)
      obtain ⟨ci9, ca9, cr9, z0, hp⟩ := hp
      cases z0
      obtain ⟨z1, z2, z3, h6⟩ := hp
      rw [z1, z2, z3] at hW
      refine g_callTi (k := 5) (k2 := 1) (As := [.int x5]) (rest := []) (by decide) C (c_J0_indexOf_0f7a4 l X L ad _ x5) tw_2_32 tw_2_33 tw_2_34 tw_1_17 tw_2_35 (by decide +kernel) ⟨by rw [hR1]; exact Nat.le_of_ble_eq_true rfl, by rw [hR2]; exact Nat.le_of_ble_eq_true rfl⟩ hW hS rfl hl.1 rfl (Nat.le_of_ble_eq_true rfl) dX4_keyIn_28 ⟨Nat.zero_le _, Nat.zero_le _⟩ (fun x7 H locs hp hW hS => ?_)
      exact g_iret2 C hQ hW hS ⟨_, _, _, rfl, rfl, rfl, rfl, by unfold rdK; grind⟩ rfl (Nat.zero_le _) (Nat.zero_le _) dX4_keyIn_31
    · refine lv_iconst (v := (-1)) hx hb dX4_keyIn_19 (by decide) ?_
      exact g_iret2 C hQ hW hS ⟨_, _, _, rfl, rfl, rfl, rfl, by unfold rdK; grind⟩ rfl (Nat.zero_le _) (Nat.zero_le _) dX4_keyIn_20

