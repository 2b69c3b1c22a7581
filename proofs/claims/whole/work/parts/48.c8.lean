set_option maxHeartbeats 4000000 in
set_option maxRecDepth 100000 in
theorem c_X4_setFault (l : Launch) (X : GX) (L : List ro) (ad : ro → Nat) (st0 : ro → va_E) (ci : Nat → Nat → Int32) (ca : Nat → Nat → Nat → Int32) (cr : Nat → Nat → Nat) (mA2 : (2, 0) ∈ L) (q : Nat) (a : Int32) (hq1 : narrow .char (.int a) = .int a) (hq2 : fits .char (.int a) = true) : cMv l yX4_setFault cX4_setFault 3 none 0 0 X [.ref (ad (2, 0)), .ref (X.2.2 q), .int a] L ad st0 ci ca cr (fun ci' ca' cr' => ci' = up2 ci 3 0 a ∧ ca' = ca ∧ cr' = ur2 cr 2 0 q) := by
  intro sz
  refine gM_of2 (Qc := fun A => va_Qv _ (gB X A) A) (by decide) (Nat.le_of_ble_eq_true rfl) ?_ sz
  intro p e s m args below meth c A R Q hR hQ C hW hS ls hl
  obtain ⟨hR1, hR2, hR3, hR4⟩ := hR
  have hx := C.1.1
  have hb := C.1.2.1
  have hml := C.1.2.2.1
  have hl : lv_has ls 3 [(0, .ref (ad (2, 0))), (1, .ref (X.2.2 q)), (2, .int a)] := hl
  refine lv_aload_n hx hb dX4_setFault_0 rfl (lv_at hl 0 rfl) ?_
  refine lv_aload_n hx hb dX4_setFault_1 rfl (lv_at hl 1 rfl) ?_
  refine g_put (r := (2, 0)) (Cn := RX4) (T := TX4) (N := 5) (ci := 7) (ty0 := tyX4) C tinX4 tyX4_ok nmX4 hW hS mA2 rfl rfl 3 (by decide) tw_1_51 (fun _ h9 => h9) rfl rfl rfl (Nat.le_of_ble_eq_true rfl) (cU_2_3 0 q) dX4_setFault_2 (fun H locs hW hS => ?_)
  refine lv_aload_n hx hb dX4_setFault_5 rfl (lv_at hl 0 rfl) ?_
  refine lv_iload_n hx hb dX4_setFault_6 rfl (lv_at hl 2 rfl) ?_
  refine g_put (r := (2, 0)) (Cn := RX4) (T := TX4) (N := 5) (ci := 7) (ty0 := tyX4) C tinX4 tyX4_ok nmX4 hW hS mA2 rfl rfl 4 (by decide) tw_1_52 (fun _ h9 => h9) rfl hq1 hq2 (Nat.le_of_ble_eq_true rfl) (cU_2_4 0 _ _ rfl) dX4_setFault_7 (fun H locs hW hS => ?_)
  exact g_vret2 C hQ hW hS ⟨_, _, _, rfl, rfl, rfl, rfl⟩ (Nat.zero_le _) (Nat.zero_le _) dX4_setFault_10

set_option maxHeartbeats 4000000 in
set_option maxRecDepth 100000 in
theorem c_X4_findMissingKey (l : Launch) (X : GX) (L : List ro) (ad : ro → Nat) (st0 : ro → va_E) (ci : Nat → Nat → Int32) (ca : Nat → Nat → Nat → Int32) (cr : Nat → Nat → Nat) (mA2 : (2, 0) ∈ L) (mA4 : (4, 0) ∈ L) (hcr : cr 2 0 = 0) : cMv l yX4_findMissingKey cX4_findMissingKey 2 none 4 85 X [.ref (ad (2, 0))] L ad st0 ci ca cr (fun ci' ca' cr' => ca' = ca ∧ ((rd_mis (ca 4 0)).1 = 0 ∧ ci' = ci ∧ cr' = cr ∨ (rd_mis (ca 4 0)).1 = 4 ∧ ci' = up2 ci 3 0 (keyc (rd_mis (ca 4 0)).2.toNatClampNeg) ∧ cr' = ur2 cr 2 0 4)) := by
  intro sz
  refine gM_of2 (Qc := fun A => va_Qv _ (gB X A) A) (by decide) (Nat.le_of_ble_eq_true rfl) ?_ sz
  intro p e s m args below meth c A R Q hR hQ C hW hS ls hl
  obtain ⟨hR1, hR2, hR3, hR4⟩ := hR
  have hx := C.1.1
  have hb := C.1.2.1
  have hml := C.1.2.2.1
  have hl : lv_has ls 2 [(0, .ref (ad (2, 0)))] := hl
  refine lv_iconst (v := 0) hx hb dX4_findMissingKey_0 (by decide) ?_
  refine lv_istore_n (lv' := [(1, .int 0), (0, .ref (ad (2, 0)))]) hx hb dX4_findMissingKey_1 rfl hl (by decide) rfl (fun ls hl => ?_)
  refine lv_iload_n hx hb dX4_findMissingKey_2 rfl (lv_at hl 0 rfl) ?_
  refine lv_iconst (v := 5) hx hb dX4_findMissingKey_3 (by decide) ?_
  refine lv_icmp_ge (tgt := 44) hx hb dX4_findMissingKey_4 (by decide) (fun c9 => absurd c9 (by decide)) (fun _ => ?_)
  refine lv_aload_n hx hb dX4_findMissingKey_7 rfl (lv_at hl 1 rfl) ?_
  refine g_get (r := (2, 0)) (Cn := RX4) (T := TX4) (N := 5) (ci := 7) (v := .ref (X.2.2 (cr 2 0))) C tinX4 hW mA2 rfl rfl 3 (by decide) tw_1_51 (fun _ h9 => h9) rfl dX4_findMissingKey_8 ?_
  refine g_callTi (k := (cr 2 0)) (k2 := 0) (As := []) (rest := []) (show (cr 2 0) < 6 by rw [show (cr 2 0) = 0 from hcr]; decide) C (c_J0_isEmpty_aae02 l X L ad _ (cr 2 0) (show (cr 2 0) < 6 by rw [show (cr 2 0) = 0 from hcr]; decide)) tw_2_11 tw_2_12 tw_2_13 tw_1_17 tw_2_14 (by decide +kernel) ⟨by rw [hR1]; exact Nat.le_of_ble_eq_true rfl, by rw [hR2]; exact Nat.le_of_ble_eq_true rfl⟩ hW hS rfl hl.1 rfl (Nat.le_of_ble_eq_true rfl) dX4_findMissingKey_11 ⟨Nat.zero_le _, Nat.zero_le _⟩ (fun x1 H locs hp hW hS => ?_)
  rw [show (cr 2 0) = 0 from hcr] at hp
  obtain rfl : x1 = 1 := by rcases hp with ⟨a9, b9⟩ | ⟨a9, b9⟩ <;> first | exact b9 | exact absurd a9 (by decide) | exact absurd (by decide) a9
  refine lv_if_eq (tgt := 44) hx hb dX4_findMissingKey_14 (by decide) (fun c9 => absurd c9 (by decide)) (fun _ => ?_)
  refine lv_aload_n hx hb dX4_findMissingKey_17 rfl (lv_at hl 1 rfl) ?_
  refine lv_iload_n hx hb dX4_findMissingKey_18 rfl (lv_at hl 0 rfl) ?_
  refine g_callVi (r := (2, 0)) (T := TX4) (N := 5) (k2 := 1) (As := [.int 0]) (rest := []) C (c_X4_valueOf l X L ad st0 ci ca cr mA2 mA4 0 (by decide)) tw_2_171 tw_2_172 tw_2_173 tw_1_2 tw_2_174 (by decide +kernel) ⟨by rw [hR1]; exact Nat.le_of_ble_eq_true rfl, by rw [hR2]; exact Nat.le_of_ble_eq_true rfl⟩ hW hS mA2 rfl rfl rfl hl.1 rfl (Nat.le_of_ble_eq_true rfl) dX4_findMissingKey_19 ⟨Nat.zero_le _, Nat.zero_le _⟩ (fun x2 L9 ad9 st9 H locs hp hW hS => ?_)
  obtain ⟨ci9, ca9, cr9, z0, hp⟩ := hp
  cases z0
  obtain ⟨z1, z2, z3, h3⟩ := hp
  rw [z1, z2, z3] at hW
  refine lv_iconst (v := (-1)) hx hb dX4_findMissingKey_22 (by decide) ?_
  refine lv_icmp_ne (tgt := 38) hx hb dX4_findMissingKey_23 (by decide) (fun c4 => ?_) (fun c4 => ?_)
  · refine lv_iinc (v := 1) (lv' := [(1, .int 1), (0, .ref (ad (2, 0)))]) hx hb dX4_findMissingKey_38 hl (k := 0) rfl (by decide) (by decide) rfl (fun ls hl => ?_)
    refine lv_goto (tgt := 2) hx hb dX4_findMissingKey_41 (by decide) ?_
    refine lv_iload_n hx hb dX4_findMissingKey_2 rfl (lv_at hl 0 rfl) ?_
    refine lv_iconst (v := 5) hx hb dX4_findMissingKey_3 (by decide) ?_
    refine lv_icmp_ge (tgt := 44) hx hb dX4_findMissingKey_4 (by decide) (fun c9 => absurd c9 (by decide)) (fun _ => ?_)
    refine lv_aload_n hx hb dX4_findMissingKey_7 rfl (lv_at hl 1 rfl) ?_
    refine g_get (r := (2, 0)) (Cn := RX4) (T := TX4) (N := 5) (ci := 7) (v := .ref (X.2.2 (cr 2 0))) C tinX4 hW mA2 rfl rfl 3 (by decide) tw_1_51 (fun _ h9 => h9) rfl dX4_findMissingKey_8 ?_
    refine g_callTi (k := (cr 2 0)) (k2 := 0) (As := []) (rest := []) (show (cr 2 0) < 6 by rw [show (cr 2 0) = 0 from hcr]; decide) C (c_J0_isEmpty_aae02 l X L ad _ (cr 2 0) (show (cr 2 0) < 6 by rw [show (cr 2 0) = 0 from hcr]; decide)) tw_2_11 tw_2_12 tw_2_13 tw_1_17 tw_2_14 (by decide +kernel) ⟨by rw [hR1]; exact Nat.le_of_ble_eq_true rfl, by rw [hR2]; exact Nat.le_of_ble_eq_true rfl⟩ hW hS rfl hl.1 rfl (Nat.le_of_ble_eq_true rfl) dX4_findMissingKey_11 ⟨Nat.zero_le _, Nat.zero_le _⟩ (fun x6 H locs hp hW hS => ?_)
    rw [show (cr 2 0) = 0 from hcr] at hp
    obtain rfl : x6 = 1 := by rcases hp with ⟨a9, b9⟩ | ⟨a9, b9⟩ <;> first | exact b9 | exact absurd a9 (by decide) | exact absurd (by decide) a9
    refine lv_if_eq (tgt := 44) hx hb dX4_findMissingKey_14 (by decide) (fun c9 => absurd c9 (by decide)) (fun _ => ?_)
    refine lv_aload_n hx hb dX4_findMissingKey_17 rfl (lv_at hl 1 rfl) ?_
    refine lv_iload_n hx hb dX4_findMissingKey_18 rfl (lv_at hl 0 rfl) ?_
    refine g_callVi (r := (2, 0)) (T := TX4) (N := 5) (k2 := 1) (As := [.int 1]) (rest := []) C (c_X4_valueOf l X L ad st0 ci ca cr mA2 mA4 1 (by decide)) tw_2_171 tw_2_172 tw_2_173 tw_1_2 tw_2_174 (by decide +kernel) ⟨by rw [hR1]; exact Nat.le_of_ble_eq_true rfl, by rw [hR2]; exact Nat.le_of_ble_eq_true rfl⟩ hW hS mA2 rfl rfl rfl hl.1 rfl (Nat.le_of_ble_eq_true rfl) dX4_findMissingKey_19 ⟨Nat.zero_le _, Nat.zero_le _⟩ (fun x7 L9 ad9 st9 H locs hp hW hS => ?_)
    obtain ⟨ci9, ca9, cr9, z0, hp⟩ := hp
    cases z0
    obtain ⟨z1, z2, z3, h8⟩ := hp
    rw [z1, z2, z3] at hW
    refine lv_iconst (v := (-1)) hx hb dX4_findMissingKey_22 (by decide) ?_
    refine lv_icmp_ne (tgt := 38) hx hb dX4_findMissingKey_23 (by decide) (fun c9 => ?_) (fun c9 => ?_)
    · refine lv_iinc (v := 2) (lv' := [(1, .int 2), (0, .ref (ad (2, 0)))]) hx hb dX4_findMissingKey_38 hl (k := 0) rfl (by decide) (by decide) rfl (fun ls hl => ?_)
      refine lv_goto (tgt := 2) hx hb dX4_findMissingKey_41 (by decide) ?_
      refine lv_iload_n hx hb dX4_findMissingKey_2 rfl (lv_at hl 0 rfl) ?_
      refine lv_iconst (v := 5) hx hb dX4_findMissingKey_3 (by decide) ?_
      refine lv_icmp_ge (tgt := 44) hx hb dX4_findMissingKey_4 (by decide) (fun c9 => absurd c9 (by decide)) (fun _ => ?_)
      refine lv_aload_n hx hb dX4_findMissingKey_7 rfl (lv_at hl 1 rfl) ?_
      refine g_get (r := (2, 0)) (Cn := RX4) (T := TX4) (N := 5) (ci := 7) (v := .ref (X.2.2 (cr 2 0))) C tinX4 hW mA2 rfl rfl 3 (by decide) tw_1_51 (fun _ h9 => h9) rfl dX4_findMissingKey_8 ?_
      refine g_callTi (k := (cr 2 0)) (k2 := 0) (As := []) (rest := []) (show (cr 2 0) < 6 by rw [show (cr 2 0) = 0 from hcr]; decide) C (c_J0_isEmpty_aae02 l X L ad _ (cr 2 0) (show (cr 2 0) < 6 by rw [show (cr 2 0) = 0 from hcr]; decide)) tw_2_11 tw_2_12 tw_2_13 tw_1_17 tw_2_14 (by decide +kernel) ⟨by rw [hR1]; exact Nat.le_of_ble_eq_true rfl, by rw [hR2]; exact Nat.le_of_ble_eq_true rfl⟩ hW hS rfl hl.1 rfl (Nat.le_of_ble_eq_true rfl) dX4_findMissingKey_11 ⟨Nat.zero_le _, Nat.zero_le _⟩ (fun x11 H locs hp hW hS => ?_)
      rw [show (cr 2 0) = 0 from hcr] at hp
      obtain rfl : x11 = 1 := by rcases hp with ⟨a9, b9⟩ | ⟨a9, b9⟩ <;> first | exact b9 | exact absurd a9 (by decide) | exact absurd (by decide) a9
      refine lv_if_eq (tgt := 44) hx hb dX4_findMissingKey_14 (by decide) (fun c9 => absurd c9 (by decide)) (fun _ => ?_)
      refine lv_aload_n hx hb dX4_findMissingKey_17 rfl (lv_at hl 1 rfl) ?_
      refine lv_iload_n hx hb dX4_findMissingKey_18 rfl (lv_at hl 0 rfl) ?_
      refine g_callVi (r := (2, 0)) (T := TX4) (N := 5) (k2 := 1) (As := [.int 2]) (rest := []) C (c_X4_valueOf l X L ad st0 ci ca cr mA2 mA4 2 (by decide)) tw_2_171 tw_2_172 tw_2_173 tw_1_2 tw_2_174 (by decide +kernel) ⟨by rw [hR1]; exact Nat.le_of_ble_eq_true rfl, by rw [hR2]; exact Nat.le_of_ble_eq_true rfl⟩ hW hS mA2 rfl rfl rfl hl.1 rfl (Nat.le_of_ble_eq_true rfl) dX4_findMissingKey_19 ⟨Nat.zero_le _, Nat.zero_le _⟩ (fun x12 L9 ad9 st9 H locs hp hW hS => ?_)
      obtain ⟨ci9, ca9, cr9, z0, hp⟩ := hp
      cases z0
      obtain ⟨z1, z2, z3, h13⟩ := hp
      rw [z1, z2, z3] at hW
      refine lv_iconst (v := (-1)) hx hb dX4_findMissingKey_22 (by decide) ?_
      refine lv_icmp_ne (tgt := 38) hx hb dX4_findMissingKey_23 (by decide) (fun c14 => ?_) (fun c14 => ?_)
      · refine lv_iinc (v := 3) (lv' := [(1, .int 3), (0, .ref (ad (2, 0)))]) hx hb dX4_findMissingKey_38 hl (k := 0) rfl (by decide) (by decide) rfl (fun ls hl => ?_)
        refine lv_goto (tgt := 2) hx hb dX4_findMissingKey_41 (by decide) ?_
        refine lv_iload_n hx hb dX4_findMissingKey_2 rfl (lv_at hl 0 rfl) ?_
        refine lv_iconst (v := 5) hx hb dX4_findMissingKey_3 (by decide) ?_
        refine lv_icmp_ge (tgt := 44) hx hb dX4_findMissingKey_4 (by decide) (fun c9 => absurd c9 (by decide)) (fun _ => ?_)
        refine lv_aload_n hx hb dX4_findMissingKey_7 rfl (lv_at hl 1 rfl) ?_
        refine g_get (r := (2, 0)) (Cn := RX4) (T := TX4) (N := 5) (ci := 7) (v := .ref (X.2.2 (cr 2 0))) C tinX4 hW mA2 rfl rfl 3 (by decide) tw_1_51 (fun _ h9 => h9) rfl dX4_findMissingKey_8 ?_
        refine g_callTi (k := (cr 2 0)) (k2 := 0) (As := []) (rest := []) (show (cr 2 0) < 6 by rw [show (cr 2 0) = 0 from hcr]; decide) C (c_J0_isEmpty_aae02 l X L ad _ (cr 2 0) (show (cr 2 0) < 6 by rw [show (cr 2 0) = 0 from hcr]; decide)) tw_2_11 tw_2_12 tw_2_13 tw_1_17 tw_2_14 (by decide +kernel) ⟨by rw [hR1]; exact Nat.le_of_ble_eq_true rfl, by rw [hR2]; exact Nat.le_of_ble_eq_true rfl⟩ hW hS rfl hl.1 rfl (Nat.le_of_ble_eq_true rfl) dX4_findMissingKey_11 ⟨Nat.zero_le _, Nat.zero_le _⟩ (fun x16 H locs hp hW hS => ?_)
        rw [show (cr 2 0) = 0 from hcr] at hp
        obtain rfl : x16 = 1 := by rcases hp with ⟨a9, b9⟩ | ⟨a9, b9⟩ <;> first | exact b9 | exact absurd a9 (by decide) | exact absurd (by decide) a9
        refine lv_if_eq (tgt := 44) hx hb dX4_findMissingKey_14 (by decide) (fun c9 => absurd c9 (by decide)) (fun _ => ?_)
        refine lv_aload_n hx hb dX4_findMissingKey_17 rfl (lv_at hl 1 rfl) ?_
        refine lv_iload_n hx hb dX4_findMissingKey_18 rfl (lv_at hl 0 rfl) ?_
        refine g_callVi (r := (2, 0)) (T := TX4) (N := 5) (k2 := 1) (As := [.int 3]) (rest := []) C (c_X4_valueOf l X L ad st0 ci ca cr mA2 mA4 3 (by decide)) tw_2_171 tw_2_172 tw_2_173 tw_1_2 tw_2_174 (by decide +kernel) ⟨by rw [hR1]; exact Nat.le_of_ble_eq_true rfl, by rw [hR2]; exact Nat.le_of_ble_eq_true rfl⟩ hW hS mA2 rfl rfl rfl hl.1 rfl (Nat.le_of_ble_eq_true rfl) dX4_findMissingKey_19 ⟨Nat.zero_le _, Nat.zero_le _⟩ (fun x17 L9 ad9 st9 H locs hp hW hS => ?_)
        obtain ⟨ci9, ca9, cr9, z0, hp⟩ := hp
        cases z0
        obtain ⟨z1, z2, z3, h18⟩ := hp
        rw [z1, z2, z3] at hW
        refine lv_iconst (v := (-1)) hx hb dX4_findMissingKey_22 (by decide) ?_
        refine lv_icmp_ne (tgt := 38) hx hb dX4_findMissingKey_23 (by decide) (fun c19 => ?_) (fun c19 => ?_)
        · refine lv_iinc (v := 4) (lv' := [(1, .int 4), (0, .ref (ad (2, 0)))]) hx hb dX4_findMissingKey_38 hl (k := 0) rfl (by decide) (by decide) rfl (fun ls hl => ?_)
          refine lv_goto (tgt := 2) hx hb dX4_findMissingKey_41 (by decide) ?_
          refine lv_iload_n hx hb dX4_findMissingKey_2 rfl (lv_at hl 0 rfl) ?_
          refine lv_iconst (v := 5) hx hb dX4_findMissingKey_3 (by decide) ?_
          refine lv_icmp_ge (tgt := 44) hx hb dX4_findMissingKey_4 (by decide) (fun c9 => absurd c9 (by decide)) (fun _ => ?_)
          refine lv_aload_n hx hb dX4_findMissingKey_7 rfl (lv_at hl 1 rfl) ?_
          refine g_get (r := (2, 0)) (Cn := RX4) (T := TX4) (N := 5) (ci := 7) (v := .ref (X.2.2 (cr 2 0))) C tinX4 hW mA2 rfl rfl 3 (by decide) tw_1_51 (fun _ h9 => h9) rfl dX4_findMissingKey_8 ?_
          refine g_callTi (k := (cr 2 0)) (k2 := 0) (As := []) (rest := []) (show (cr 2 0) < 6 by rw [show (cr 2 0) = 0 from hcr]; decide) C (c_J0_isEmpty_aae02 l X L ad _ (cr 2 0) (show (cr 2 0) < 6 by rw [show (cr 2 0) = 0 from hcr]; decide)) tw_2_11 tw_2_12 tw_2_13 tw_1_17 tw_2_14 (by decide +kernel) ⟨by rw [hR1]; exact Nat.le_of_ble_eq_true rfl, by rw [hR2]; exact Nat.le_of_ble_eq_true rfl⟩ hW hS rfl hl.1 rfl (Nat.le_of_ble_eq_true rfl) dX4_findMissingKey_11 ⟨Nat.zero_le _, Nat.zero_le _⟩ (fun x21 H locs hp hW hS => ?_)
          rw [show (cr 2 0) = 0 from hcr] at hp
          obtain rfl : x21 = 1 := by rcases hp with ⟨a9, b9⟩ | ⟨a9, b9⟩ <;> first | exact b9 | exact absurd a9 (by decide) | exact absurd (by decide) a9
          refine lv_if_eq (tgt := 44) hx hb dX4_findMissingKey_14 (by decide) (fun c9 => absurd c9 (by decide)) (fun _ => ?_)
          refine lv_aload_n hx hb dX4_findMissingKey_17 rfl (lv_at hl 1 rfl) ?_
          refine lv_iload_n hx hb dX4_findMissingKey_18 rfl (lv_at hl 0 rfl) ?_
          refine g_callVi (r := (2, 0)) (T := TX4) (N := 5) (k2 := 1) (As := [.int 4]) (rest := []) C (c_X4_valueOf l X L ad st0 ci ca cr mA2 mA4 4 (by decide)) tw_2_171 tw_2_172 tw_2_173 tw_1_2 tw_2_174 (by decide +kernel) ⟨by rw [hR1]; exact Nat.le_of_ble_eq_true rfl, by rw [hR2]; exact Nat.le_of_ble_eq_true rfl⟩ hW hS mA2 rfl rfl rfl hl.1 rfl (Nat.le_of_ble_eq_true rfl) dX4_findMissingKey_19 ⟨Nat.zero_le _, Nat.zero_le _⟩ (fun x22 L9 ad9 st9 H locs hp hW hS => ?_)
          obtain ⟨ci9, ca9, cr9, z0, hp⟩ := hp
          cases z0
          obtain ⟨z1, z2, z3, h23⟩ := hp
          rw [z1, z2, z3] at hW
          refine lv_iconst (v := (-1)) hx hb dX4_findMissingKey_22 (by decide) ?_
          refine lv_icmp_ne (tgt := 38) hx hb dX4_findMissingKey_23 (by decide) (fun c24 => ?_) (fun c24 => ?_)
          · refine lv_iinc (v := 5) (lv' := [(1, .int 5), (0, .ref (ad (2, 0)))]) hx hb dX4_findMissingKey_38 hl (k := 0) rfl (by decide) (by decide) rfl (fun ls hl => ?_)
            refine lv_goto (tgt := 2) hx hb dX4_findMissingKey_41 (by decide) ?_
            refine lv_iload_n hx hb dX4_findMissingKey_2 rfl (lv_at hl 0 rfl) ?_
            refine lv_iconst (v := 5) hx hb dX4_findMissingKey_3 (by decide) ?_
            refine lv_icmp_ge (tgt := 44) hx hb dX4_findMissingKey_4 (by decide) (fun _ => ?_) (fun c9 => absurd (by decide) c9)
            exact g_vret2 C hQ hW hS ⟨_, _, _, rfl, rfl, Or.inl ⟨(by unfold rd_mis; grind), rfl, rfl⟩⟩ (Nat.zero_le _) (Nat.zero_le _) dX4_findMissingKey_44
          · refine lv_aload_n hx hb dX4_findMissingKey_26 rfl (lv_at hl 1 rfl) ?_
            refine va_ldcS hx hb C.1.2.2.2.1 (C.2.2.2.2.2.2.1 ("RateGate$Request", 123, "MISSING", 4) (by decide +kernel)) dX4_findMissingKey_27 ?_
            refine va_ldcS hx hb C.1.2.2.2.1 (C.2.2.2.2.2.2.1 ("RateGate$Request", 93, "SCFTWX", 5) (by decide +kernel)) dX4_findMissingKey_29 ?_
            refine lv_iload_n hx hb dX4_findMissingKey_31 rfl (lv_at hl 0 rfl) ?_
            refine g_callTi (k := 5) (k2 := 1) (As := [.int 4]) (rest := [.ref (X.2.2 4), .ref (ad (2, 0))]) (show 5 < 6 by decide) C (c_J0_charAt_5068e l X L ad _ 5 (show 5 < 6 by decide) 4 (by decide)) tw_2_124 tw_2_125 tw_2_126 tw_1_17 tw_2_127 (by decide +kernel) ⟨by rw [hR1]; exact Nat.le_of_ble_eq_true rfl, by rw [hR2]; exact Nat.le_of_ble_eq_true rfl⟩ hW hS rfl hl.1 rfl (Nat.le_of_ble_eq_true rfl) dX4_findMissingKey_32 ⟨Nat.zero_le _, Nat.zero_le _⟩ (fun x26 H locs hp hW hS => ?_)
            refine lv_topE (y := keyc 4) (hp.trans (by decide)) ?_
            refine g_callVv (r := (2, 0)) (T := TX4) (N := 5) (k2 := 2) (As := [.ref (X.2.2 4), .int (keyc 4)]) (rest := []) C (c_X4_setFault l X L ad st0 ci ca cr mA2 4 (keyc 4) (by decide) (by decide)) tw_2_119 tw_2_121 tw_0_5 tw_1_2 tw_2_122 (by decide +kernel) ⟨by rw [hR1]; exact Nat.le_of_ble_eq_true rfl, by rw [hR2]; exact Nat.le_of_ble_eq_true rfl⟩ hW hS mA2 rfl rfl rfl hl.1 rfl (Nat.le_of_ble_eq_true rfl) dX4_findMissingKey_35 ⟨Nat.zero_le _, Nat.zero_le _⟩ (fun L9 ad9 st9 H locs hp hW hS => ?_)
            obtain ⟨ci9, ca9, cr9, z0, hp⟩ := hp
            cases z0
            obtain ⟨z1, z2, z3⟩ := hp
            rw [z1, z2, z3] at hW
            refine lv_iinc (v := 5) (lv' := [(1, .int 5), (0, .ref (ad (2, 0)))]) hx hb dX4_findMissingKey_38 hl (k := 0) rfl (by decide) (by decide) rfl (fun ls hl => ?_)
            refine lv_goto (tgt := 2) hx hb dX4_findMissingKey_41 (by decide) ?_
            refine lv_iload_n hx hb dX4_findMissingKey_2 rfl (lv_at hl 0 rfl) ?_
            refine lv_iconst (v := 5) hx hb dX4_findMissingKey_3 (by decide) ?_
            refine lv_icmp_ge (tgt := 44) hx hb dX4_findMissingKey_4 (by decide) (fun _ => ?_) (fun c9 => absurd (by decide) c9)
            exact g_vret2 C hQ hW hS ⟨_, _, _, rfl, rfl, Or.inr ⟨(by unfold rd_mis; grind), by rw [show (rd_mis (ca 4 0)).2 = 4 from (by unfold rd_mis; grind)]; rfl, rfl⟩⟩ (Nat.zero_le _) (Nat.zero_le _) dX4_findMissingKey_44
        · refine lv_aload_n hx hb dX4_findMissingKey_26 rfl (lv_at hl 1 rfl) ?_
          refine va_ldcS hx hb C.1.2.2.2.1 (C.2.2.2.2.2.2.1 ("RateGate$Request", 123, "MISSING", 4) (by decide +kernel)) dX4_findMissingKey_27 ?_
          refine va_ldcS hx hb C.1.2.2.2.1 (C.2.2.2.2.2.2.1 ("RateGate$Request", 93, "SCFTWX", 5) (by decide +kernel)) dX4_findMissingKey_29 ?_
          refine lv_iload_n hx hb dX4_findMissingKey_31 rfl (lv_at hl 0 rfl) ?_
          refine g_callTi (k := 5) (k2 := 1) (As := [.int 3]) (rest := [.ref (X.2.2 4), .ref (ad (2, 0))]) (show 5 < 6 by decide) C (c_J0_charAt_5068e l X L ad _ 5 (show 5 < 6 by decide) 3 (by decide)) tw_2_124 tw_2_125 tw_2_126 tw_1_17 tw_2_127 (by decide +kernel) ⟨by rw [hR1]; exact Nat.le_of_ble_eq_true rfl, by rw [hR2]; exact Nat.le_of_ble_eq_true rfl⟩ hW hS rfl hl.1 rfl (Nat.le_of_ble_eq_true rfl) dX4_findMissingKey_32 ⟨Nat.zero_le _, Nat.zero_le _⟩ (fun x29 H locs hp hW hS => ?_)
          refine lv_topE (y := keyc 3) (hp.trans (by decide)) ?_
          refine g_callVv (r := (2, 0)) (T := TX4) (N := 5) (k2 := 2) (As := [.ref (X.2.2 4), .int (keyc 3)]) (rest := []) C (c_X4_setFault l X L ad st0 ci ca cr mA2 4 (keyc 3) (by decide) (by decide)) tw_2_119 tw_2_121 tw_0_5 tw_1_2 tw_2_122 (by decide +kernel) ⟨by rw [hR1]; exact Nat.le_of_ble_eq_true rfl, by rw [hR2]; exact Nat.le_of_ble_eq_true rfl⟩ hW hS mA2 rfl rfl rfl hl.1 rfl (Nat.le_of_ble_eq_true rfl) dX4_findMissingKey_35 ⟨Nat.zero_le _, Nat.zero_le _⟩ (fun L9 ad9 st9 H locs hp hW hS => ?_)
          obtain ⟨ci9, ca9, cr9, z0, hp⟩ := hp
          cases z0
          obtain ⟨z1, z2, z3⟩ := hp
          rw [z1, z2, z3] at hW
          refine lv_iinc (v := 4) (lv' := [(1, .int 4), (0, .ref (ad (2, 0)))]) hx hb dX4_findMissingKey_38 hl (k := 0) rfl (by decide) (by decide) rfl (fun ls hl => ?_)
          refine lv_goto (tgt := 2) hx hb dX4_findMissingKey_41 (by decide) ?_
          refine lv_iload_n hx hb dX4_findMissingKey_2 rfl (lv_at hl 0 rfl) ?_
          refine lv_iconst (v := 5) hx hb dX4_findMissingKey_3 (by decide) ?_
          refine lv_icmp_ge (tgt := 44) hx hb dX4_findMissingKey_4 (by decide) (fun c9 => absurd c9 (by decide)) (fun _ => ?_)
          refine lv_aload_n hx hb dX4_findMissingKey_7 rfl (lv_at hl 1 rfl) ?_
          refine g_get (r := (2, 0)) (Cn := RX4) (T := TX4) (N := 5) (ci := 7) (v := .ref (X.2.2 ((ur2 cr 2 0 4) 2 0))) C tinX4 hW mA2 rfl rfl 3 (by decide) tw_1_51 (fun _ h9 => h9) rfl dX4_findMissingKey_8 ?_
          refine g_callTi (k := ((ur2 cr 2 0 4) 2 0)) (k2 := 0) (As := []) (rest := []) (show ((ur2 cr 2 0 4) 2 0) < 6 by rw [show ((ur2 cr 2 0 4) 2 0) = 4 from ur2_at]; decide) C (c_J0_isEmpty_aae02 l X L ad _ ((ur2 cr 2 0 4) 2 0) (show ((ur2 cr 2 0 4) 2 0) < 6 by rw [show ((ur2 cr 2 0 4) 2 0) = 4 from ur2_at]; decide)) tw_2_11 tw_2_12 tw_2_13 tw_1_17 tw_2_14 (by decide +kernel) ⟨by rw [hR1]; exact Nat.le_of_ble_eq_true rfl, by rw [hR2]; exact Nat.le_of_ble_eq_true rfl⟩ hW hS rfl hl.1 rfl (Nat.le_of_ble_eq_true rfl) dX4_findMissingKey_11 ⟨Nat.zero_le _, Nat.zero_le _⟩ (fun x32 H locs hp hW hS => ?_)
          rw [show ((ur2 cr 2 0 4) 2 0) = 4 from ur2_at] at hp
          obtain rfl : x32 = 0 := by rcases hp with ⟨a9, b9⟩ | ⟨a9, b9⟩ <;> first | exact b9 | exact absurd a9 (by decide) | exact absurd (by decide) a9
          refine lv_if_eq (tgt := 44) hx hb dX4_findMissingKey_14 (by decide) (fun _ => ?_) (fun c9 => absurd (by decide) c9)
          exact g_vret2 C hQ hW hS ⟨_, _, _, rfl, rfl, Or.inr ⟨(by unfold rd_mis; grind), by rw [show (rd_mis (ca 4 0)).2 = 3 from (by unfold rd_mis; grind)]; rfl, rfl⟩⟩ (Nat.zero_le _) (Nat.zero_le _) dX4_findMissingKey_44
      · refine lv_aload_n hx hb dX4_findMissingKey_26 rfl (lv_at hl 1 rfl) ?_
        refine va_ldcS hx hb C.1.2.2.2.1 (C.2.2.2.2.2.2.1 ("RateGate$Request", 123, "MISSING", 4) (by decide +kernel)) dX4_findMissingKey_27 ?_
        refine va_ldcS hx hb C.1.2.2.2.1 (C.2.2.2.2.2.2.1 ("RateGate$Request", 93, "SCFTWX", 5) (by decide +kernel)) dX4_findMissingKey_29 ?_
        refine lv_iload_n hx hb dX4_findMissingKey_31 rfl (lv_at hl 0 rfl) ?_
        refine g_callTi (k := 5) (k2 := 1) (As := [.int 2]) (rest := [.ref (X.2.2 4), .ref (ad (2, 0))]) (show 5 < 6 by decide) C (c_J0_charAt_5068e l X L ad _ 5 (show 5 < 6 by decide) 2 (by decide)) tw_2_124 tw_2_125 tw_2_126 tw_1_17 tw_2_127 (by decide +kernel) ⟨by rw [hR1]; exact Nat.le_of_ble_eq_true rfl, by rw [hR2]; exact Nat.le_of_ble_eq_true rfl⟩ hW hS rfl hl.1 rfl (Nat.le_of_ble_eq_true rfl) dX4_findMissingKey_32 ⟨Nat.zero_le _, Nat.zero_le _⟩ (fun x33 H locs hp hW hS => ?_)
        refine lv_topE (y := keyc 2) (hp.trans (by decide)) ?_
        refine g_callVv (r := (2, 0)) (T := TX4) (N := 5) (k2 := 2) (As := [.ref (X.2.2 4), .int (keyc 2)]) (rest := []) C (c_X4_setFault l X L ad st0 ci ca cr mA2 4 (keyc 2) (by decide) (by decide)) tw_2_119 tw_2_121 tw_0_5 tw_1_2 tw_2_122 (by decide +kernel) ⟨by rw [hR1]; exact Nat.le_of_ble_eq_true rfl, by rw [hR2]; exact Nat.le_of_ble_eq_true rfl⟩ hW hS mA2 rfl rfl rfl hl.1 rfl (Nat.le_of_ble_eq_true rfl) dX4_findMissingKey_35 ⟨Nat.zero_le _, Nat.zero_le _⟩ (fun L9 ad9 st9 H locs hp hW hS => ?_)
        obtain ⟨ci9, ca9, cr9, z0, hp⟩ := hp
        cases z0
        obtain ⟨z1, z2, z3⟩ := hp
        rw [z1, z2, z3] at hW
        refine lv_iinc (v := 3) (lv' := [(1, .int 3), (0, .ref (ad (2, 0)))]) hx hb dX4_findMissingKey_38 hl (k := 0) rfl (by decide) (by decide) rfl (fun ls hl => ?_)
        refine lv_goto (tgt := 2) hx hb dX4_findMissingKey_41 (by decide) ?_
        refine lv_iload_n hx hb dX4_findMissingKey_2 rfl (lv_at hl 0 rfl) ?_
        refine lv_iconst (v := 5) hx hb dX4_findMissingKey_3 (by decide) ?_
        refine lv_icmp_ge (tgt := 44) hx hb dX4_findMissingKey_4 (by decide) (fun c9 => absurd c9 (by decide)) (fun _ => ?_)
        refine lv_aload_n hx hb dX4_findMissingKey_7 rfl (lv_at hl 1 rfl) ?_
        refine g_get (r := (2, 0)) (Cn := RX4) (T := TX4) (N := 5) (ci := 7) (v := .ref (X.2.2 ((ur2 cr 2 0 4) 2 0))) C tinX4 hW mA2 rfl rfl 3 (by decide) tw_1_51 (fun _ h9 => h9) rfl dX4_findMissingKey_8 ?_
        refine g_callTi (k := ((ur2 cr 2 0 4) 2 0)) (k2 := 0) (As := []) (rest := []) (show ((ur2 cr 2 0 4) 2 0) < 6 by rw [show ((ur2 cr 2 0 4) 2 0) = 4 from ur2_at]; decide) C (c_J0_isEmpty_aae02 l X L ad _ ((ur2 cr 2 0 4) 2 0) (show ((ur2 cr 2 0 4) 2 0) < 6 by rw [show ((ur2 cr 2 0 4) 2 0) = 4 from ur2_at]; decide)) tw_2_11 tw_2_12 tw_2_13 tw_1_17 tw_2_14 (by decide +kernel) ⟨by rw [hR1]; exact Nat.le_of_ble_eq_true rfl, by rw [hR2]; exact Nat.le_of_ble_eq_true rfl⟩ hW hS rfl hl.1 rfl (Nat.le_of_ble_eq_true rfl) dX4_findMissingKey_11 ⟨Nat.zero_le _, Nat.zero_le _⟩ (fun x36 H locs hp hW hS => ?_)
        rw [show ((ur2 cr 2 0 4) 2 0) = 4 from ur2_at] at hp
        obtain rfl : x36 = 0 := by rcases hp with ⟨a9, b9⟩ | ⟨a9, b9⟩ <;> first | exact b9 | exact absurd a9 (by decide) | exact absurd (by decide) a9
        refine lv_if_eq (tgt := 44) hx hb dX4_findMissingKey_14 (by decide) (fun _ => ?_) (fun c9 => absurd (by decide) c9)
        exact g_vret2 C hQ hW hS ⟨_, _, _, rfl, rfl, Or.inr ⟨(by unfold rd_mis; grind), by rw [show (rd_mis (ca 4 0)).2 = 2 from (by unfold rd_mis; grind)]; rfl, rfl⟩⟩ (Nat.zero_le _) (Nat.zero_le _) dX4_findMissingKey_44
    · refine lv_aload_n hx hb dX4_findMissingKey_26 rfl (lv_at hl 1 rfl) ?_
      refine va_ldcS hx hb C.1.2.2.2.1 (C.2.2.2.2.2.2.1 ("RateGate$Request", 123, "MISSING", 4) (by decide +kernel)) dX4_findMissingKey_27 ?_
      refine va_ldcS hx hb C.1.2.2.2.1 (C.2.2.2.2.2.2.1 ("RateGate$Request", 93, "SCFTWX", 5) (by decide +kernel)) dX4_findMissingKey_29 ?_
      refine lv_iload_n hx hb dX4_findMissingKey_31 rfl (lv_at hl 0 rfl) ?_
      refine g_callTi (k := 5) (k2 := 1) (As := [.int 1]) (rest := [.ref (X.2.2 4), .ref (ad (2, 0))]) (show 5 < 6 by decide) C (c_J0_charAt_5068e l X L ad _ 5 (show 5 < 6 by decide) 1 (by decide)) tw_2_124 tw_2_125 tw_2_126 tw_1_17 tw_2_127 (by decide +kernel) ⟨by rw [hR1]; exact Nat.le_of_ble_eq_true rfl, by rw [hR2]; exact Nat.le_of_ble_eq_true rfl⟩ hW hS rfl hl.1 rfl (Nat.le_of_ble_eq_true rfl) dX4_findMissingKey_32 ⟨Nat.zero_le _, Nat.zero_le _⟩ (fun x37 H locs hp hW hS => ?_)
      refine lv_topE (y := keyc 1) (hp.trans (by decide)) ?_
      refine g_callVv (r := (2, 0)) (T := TX4) (N := 5) (k2 := 2) (As := [.ref (X.2.2 4), .int (keyc 1)]) (rest := []) C (c_X4_setFault l X L ad st0 ci ca cr mA2 4 (keyc 1) (by decide) (by decide)) tw_2_119 tw_2_121 tw_0_5 tw_1_2 tw_2_122 (by decide +kernel) ⟨by rw [hR1]; exact Nat.le_of_ble_eq_true rfl, by rw [hR2]; exact Nat.le_of_ble_eq_true rfl⟩ hW hS mA2 rfl rfl rfl hl.1 rfl (Nat.le_of_ble_eq_true rfl) dX4_findMissingKey_35 ⟨Nat.zero_le _, Nat.zero_le _⟩ (fun L9 ad9 st9 H locs hp hW hS => ?_)
      obtain ⟨ci9, ca9, cr9, z0, hp⟩ := hp
      cases z0
      obtain ⟨z1, z2, z3⟩ := hp
      rw [z1, z2, z3] at hW
      refine lv_iinc (v := 2) (lv' := [(1, .int 2), (0, .ref (ad (2, 0)))]) hx hb dX4_findMissingKey_38 hl (k := 0) rfl (by decide) (by decide) rfl (fun ls hl => ?_)
      refine lv_goto (tgt := 2) hx hb dX4_findMissingKey_41 (by decide) ?_
      refine lv_iload_n hx hb dX4_findMissingKey_2 rfl (lv_at hl 0 rfl) ?_
      refine lv_iconst (v := 5) hx hb dX4_findMissingKey_3 (by decide) ?_
      refine lv_icmp_ge (tgt := 44) hx hb dX4_findMissingKey_4 (by decide) (fun c9 => absurd c9 (by decide)) (fun _ => ?_)
      refine lv_aload_n hx hb dX4_findMissingKey_7 rfl (lv_at hl 1 rfl) ?_
      refine g_get (r := (2, 0)) (Cn := RX4) (T := TX4) (N := 5) (ci := 7) (v := .ref (X.2.2 ((ur2 cr 2 0 4) 2 0))) C tinX4 hW mA2 rfl rfl 3 (by decide) tw_1_51 (fun _ h9 => h9) rfl dX4_findMissingKey_8 ?_
      refine g_callTi (k := ((ur2 cr 2 0 4) 2 0)) (k2 := 0) (As := []) (rest := []) (show ((ur2 cr 2 0 4) 2 0) < 6 by rw [show ((ur2 cr 2 0 4) 2 0) = 4 from ur2_at]; decide) C (c_J0_isEmpty_aae02 l X L ad _ ((ur2 cr 2 0 4) 2 0) (show ((ur2 cr 2 0 4) 2 0) < 6 by rw [show ((ur2 cr 2 0 4) 2 0) = 4 from ur2_at]; decide)) tw_2_11 tw_2_12 tw_2_13 tw_1_17 tw_2_14 (by decide +kernel) ⟨by rw [hR1]; exact Nat.le_of_ble_eq_true rfl, by rw [hR2]; exact Nat.le_of_ble_eq_true rfl⟩ hW hS rfl hl.1 rfl (Nat.le_of_ble_eq_true rfl) dX4_findMissingKey_11 ⟨Nat.zero_le _, Nat.zero_le _⟩ (fun x40 H locs hp hW hS => ?_)
      rw [show ((ur2 cr 2 0 4) 2 0) = 4 from ur2_at] at hp
      obtain rfl : x40 = 0 := by rcases hp with ⟨a9, b9⟩ | ⟨a9, b9⟩ <;> first | exact b9 | exact absurd a9 (by decide) | exact absurd (by decide) a9
      refine lv_if_eq (tgt := 44) hx hb dX4_findMissingKey_14 (by decide) (fun _ => ?_) (fun c9 => absurd (by decide) c9)
      exact g_vret2 C hQ hW hS ⟨_, _, _, rfl, rfl, Or.inr ⟨(by unfold rd_mis; grind), by rw [show (rd_mis (ca 4 0)).2 = 1 from (by unfold rd_mis; grind)]; rfl, rfl⟩⟩ (Nat.zero_le _) (Nat.zero_le _) dX4_findMissingKey_44
  · refine lv_aload_n hx hb dX4_findMissingKey_26 rfl (lv_at hl 1 rfl) ?_
    refine va_ldcS hx hb C.1.2.2.2.1 (C.2.2.2.2.2.2.1 ("RateGate$Request", 123, "MISSING", 4) (by decide +kernel)) dX4_findMissingKey_27 ?_
    refine va_ldcS hx hb C.1.2.2.2.1 (C.2.2.2.2.2.2.1 ("RateGate$Request", 93, "SCFTWX", 5) (by decide +kernel)) dX4_findMissingKey_29 ?_
    refine lv_iload_n hx hb dX4_findMissingKey_31 rfl (lv_at hl 0 rfl) ?_
    refine g_callTi (k := 5) (k2 := 1) (As := [.int 0]) (rest := [.ref (X.2.2 4), .ref (ad (2, 0))]) (show 5 < 6 by decide) C (c_J0_charAt_5068e l X L ad _ 5 (show 5 < 6 by decide) 0 (by decide)) tw_2_124 tw_2_125 tw_2_126 tw_1_17 tw_2_127 (by decide +kernel) ⟨by rw [hR1]; exact Nat.le_of_ble_eq_true rfl, by rw [hR2]; exact Nat.le_of_ble_eq_true rfl⟩ hW hS rfl hl.1 rfl (Nat.le_of_ble_eq_true rfl) dX4_findMissingKey_32 ⟨Nat.zero_le _, Nat.zero_le _⟩ (fun x41 H locs hp hW hS => ?_)
    refine lv_topE (y := keyc 0) (hp.trans (by decide)) ?_
    refine g_callVv (r := (2, 0)) (T := TX4) (N := 5) (k2 := 2) (As := [.ref (X.2.2 4), .int (keyc 0)]) (rest := []) C (c_X4_setFault l X L ad st0 ci ca cr mA2 4 (keyc 0) (by decide) (by decide)) tw_2_119 tw_2_121 tw_0_5 tw_1_2 tw_2_122 (by decide +kernel) ⟨by rw [hR1]; exact Nat.le_of_ble_eq_true rfl, by rw [hR2]; exact Nat.le_of_ble_eq_true rfl⟩ hW hS mA2 rfl rfl rfl hl.1 rfl (Nat.le_of_ble_eq_true rfl) dX4_findMissingKey_35 ⟨Nat.zero_le _, Nat.zero_le _⟩ (fun L9 ad9 st9 H locs hp hW hS => ?_)
    obtain ⟨ci9, ca9, cr9, z0, hp⟩ := hp
    cases z0
    obtain ⟨z1, z2, z3⟩ := hp
    rw [z1, z2, z3] at hW
    refine lv_iinc (v := 1) (lv' := [(1, .int 1), (0, .ref (ad (2, 0)))]) hx hb dX4_findMissingKey_38 hl (k := 0) rfl (by decide) (by decide) rfl (fun ls hl => ?_)
    refine lv_goto (tgt := 2) hx hb dX4_findMissingKey_41 (by decide) ?_
    refine lv_iload_n hx hb dX4_findMissingKey_2 rfl (lv_at hl 0 rfl) ?_
    refine lv_iconst (v := 5) hx hb dX4_findMissingKey_3 (by decide) ?_
    refine lv_icmp_ge (tgt := 44) hx hb dX4_findMissingKey_4 (by decide) (fun c9 => absurd c9 (by decide)) (fun _ => ?_)
    refine lv_aload_n hx hb dX4_findMissingKey_7 rfl (lv_at hl 1 rfl) ?_
    refine g_get (r := (2, 0)) (Cn := RX4) (T := TX4) (N := 5) (ci := 7) (v := .ref (X.2.2 ((ur2 cr 2 0 4) 2 0))) C tinX4 hW mA2 rfl rfl 3 (by decide) tw_1_51 (fun _ h9 => h9) rfl dX4_findMissingKey_8 ?_
    refine g_callTi (k := ((ur2 cr 2 0 4) 2 0)) (k2 := 0) (As := []) (rest := []) (show ((ur2 cr 2 0 4) 2 0) < 6 by rw [show ((ur2 cr 2 0 4) 2 0) = 4 from ur2_at]; decide) C (c_J0_isEmpty_aae02 l X L ad _ ((ur2 cr 2 0 4) 2 0) (show ((ur2 cr 2 0 4) 2 0) < 6 by rw [show ((ur2 cr 2 0 4) 2 0) = 4 from ur2_at]; decide)) tw_2_11 tw_2_12 tw_2_13 tw_1_17 tw_2_14 (by decide +kernel) ⟨by rw [hR1]; exact Nat.le_of_ble_eq_true rfl, by rw [hR2]; exact Nat.le_of_ble_eq_true rfl⟩ hW hS rfl hl.1 rfl (Nat.le_of_ble_eq_true rfl) dX4_findMissingKey_11 ⟨Nat.zero_le _, Nat.zero_le _⟩ (fun x44 H locs hp hW hS => ?_)
    rw [show ((ur2 cr 2 0 4) 2 0) = 4 from ur2_at] at hp
    obtain rfl : x44 = 0 := by rcases hp with ⟨a9, b9⟩ | ⟨a9, b9⟩ <;> first | exact b9 | exact absurd a9 (by decide) | exact absurd (by decide) a9
    refine lv_if_eq (tgt := 44) hx hb dX4_findMissingKey_14 (by decide) (fun _ => ?_) (fun c9 => absurd (by decide) c9)
    exact g_vret2 C hQ hW hS ⟨_, _, _, rfl, rfl, Or.inr ⟨(by unfold rd_mis; grind), by rw [show (rd_mis (ca 4 0)).2 = 0 from (by unfold rd_mis; grind)]; rfl, rfl⟩⟩ (Nat.zero_le _) (Nat.zero_le _) dX4_findMissingKey_44

