theorem nI_2 (k : Nat) : nI k + 2 = nI (k + 2) := by
  rw [show (2 : Int32) = 1 + 1 from rfl, ← Int32.add_assoc, nI_1, nI_1]
theorem rdK_cs {t : Nat → Int32} {a b : Nat} : rdK t a b = -1 ∨ (a + 2 ≤ b ∧ ∃ kk, kk < 6 ∧ rdK t a b = nI kk) := by
  unfold rdK
  split
  · rename_i h
    unfold rd_sgn
    repeat' split
    all_goals first
      | exact Or.inr ⟨h.1, 0, by decide, rfl⟩
      | exact Or.inr ⟨h.1, 1, by decide, rfl⟩
      | exact Or.inr ⟨h.1, 2, by decide, rfl⟩
      | exact Or.inr ⟨h.1, 3, by decide, rfl⟩
      | exact Or.inr ⟨h.1, 4, by decide, rfl⟩
      | exact Or.inr ⟨h.1, 5, by decide, rfl⟩
      | exact Or.inl rfl
  · exact Or.inl rfl
theorem fin61 {P : Nat → Prop} (h : ∀ q : Fin 61, P q.1) {p9 : Nat} (hp : p9 < 61) : P p9 := h ⟨p9, hp⟩
theorem fin6 {P : Nat → Prop} (h : ∀ q : Fin 6, P q.1) {p9 : Nat} (hp : p9 < 6) : P p9 := h ⟨p9, hp⟩
theorem dg_c {p9 : Nat} (hp : p9 < 61) : ((48 + nI p9).toUInt32 % 65536).toInt32 = 48 + nI p9 := fin61 (P := fun p9 => ((48 + nI p9).toUInt32 % 65536).toInt32 = 48 + nI p9) (by decide +kernel) hp
theorem dg_n {p9 : Nat} (hp : p9 < 61) : narrow .char (.int (48 + nI p9)) = .int (48 + nI p9) := fin61 (P := fun p9 => narrow .char (.int (48 + nI p9)) = .int (48 + nI p9)) (by decide +kernel) hp
theorem dg_f {p9 : Nat} (hp : p9 < 61) : fits .char (.int (48 + nI p9)) = true := fin61 (P := fun p9 => fits .char (.int (48 + nI p9)) = true) (by decide +kernel) hp
theorem gs5 {p9 : Nat} (hp : p9 < 6) : (gsByt.getD 5 []).getD p9 0 = keyc p9 := fin6 (P := fun p9 => (gsByt.getD 5 []).getD p9 0 = keyc p9) (by decide +kernel) hp
theorem kc_n {p9 : Nat} (hp : p9 < 6) : narrow .char (.int (keyc p9)) = .int (keyc p9) := fin6 (P := fun p9 => narrow .char (.int (keyc p9)) = .int (keyc p9)) (by decide +kernel) hp
theorem kc_f {p9 : Nat} (hp : p9 < 6) : fits .char (.int (keyc p9)) = true := fin6 (P := fun p9 => fits .char (.int (keyc p9)) = true) (by decide +kernel) hp
theorem nI_nm {k : Nat} (h : k < 6) : ¬ nI k = -1 := fin6 (P := fun k => ¬ nI k = -1) (by decide +kernel) h
set_option maxHeartbeats 4000000 in
set_option maxRecDepth 100000 in
theorem c_X4_readPart (l : Launch) (X : GX) (L : List ro) (ad : ro → Nat) (st0 : ro → va_E) (ci : Nat → Nat → Int32) (ca : Nat → Nat → Nat → Int32) (cr : Nat → Nat → Nat) (mA4 : (4, 0) ∈ L) (mA2 : (2, 0) ∈ L) (mA3 : (3, 0) ∈ L) (n : Nat) (hn : ci 2 0 = nI n) (hn60 : n ≤ 60) (hch : ∀ j, ∃ q : Nat, q < 65536 ∧ ca 3 0 j = nI q) (p9 : Nat) (hp9 : p9 < 61) (a b : Nat) (hab : a ≤ b) (hbn : b ≤ n) : cMv l yX4_readPart cX4_readPart 5 none 5 113 X [.ref (ad (2, 0)), .int (nI p9), .int (nI a), .int (nI b)] L ad st0 ci ca cr (fun ci' ca' cr' => ((rdK (ca 3 0) a b) = -1 ∧ ci' = up2 ci 3 0 (48 + nI p9) ∧ ca' = ca ∧ cr' = ur2 cr 2 0 1) ∨ (¬ (rdK (ca 3 0) a b) = -1 ∧ ¬ ca 4 0 (rdK (ca 3 0) a b).toNatClampNeg = -1 ∧ ci' = up2 ci 3 0 (keyc (rdK (ca 3 0) a b).toNatClampNeg) ∧ ca' = ca ∧ cr' = ur2 cr 2 0 2) ∨ (¬ (rdK (ca 3 0) a b) = -1 ∧ ca 4 0 (rdK (ca 3 0) a b).toNatClampNeg = -1 ∧ (rdvC (ca 3 0) (rdK (ca 3 0) a b).toNatClampNeg (a + 2) b) = -1 ∧ ci' = up2 ci 3 0 (keyc (rdK (ca 3 0) a b).toNatClampNeg) ∧ ca' = ua2 ca 4 0 (upd (ca 4 0) (rdK (ca 3 0) a b).toNatClampNeg (-1)) ∧ cr' = ur2 cr 2 0 3) ∨ (¬ (rdK (ca 3 0) a b) = -1 ∧ ca 4 0 (rdK (ca 3 0) a b).toNatClampNeg = -1 ∧ ¬ (rdvC (ca 3 0) (rdK (ca 3 0) a b).toNatClampNeg (a + 2) b) = -1 ∧ ci' = ci ∧ ca' = ua2 ca 4 0 (upd (ca 4 0) (rdK (ca 3 0) a b).toNatClampNeg (rdvC (ca 3 0) (rdK (ca 3 0) a b).toNatClampNeg (a + 2) b)) ∧ cr' = cr)) := by
  intro sz
  refine gM_of2 (Qc := fun A => va_Qv _ (gB X A) A) (by decide) (Nat.le_of_ble_eq_true rfl) ?_ sz
  intro p e s m args below meth c A R Q hR hQ C hW hS ls hl
  obtain ⟨hR1, hR2, hR3, hR4⟩ := hR
  have hx := C.1.1
  have hb := C.1.2.1
  have hml := C.1.2.2.1
  have hl : lv_has ls 5 [(0, .ref (ad (2, 0))), (1, .int (nI p9)), (2, .int (nI a)), (3, .int (nI b))] := hl
  refine lv_aload_n hx hb dX4_readPart_0 rfl (lv_at hl 0 rfl) ?_
  refine lv_iload_n hx hb dX4_readPart_1 rfl (lv_at hl 2 rfl) ?_
  refine lv_iload_n hx hb dX4_readPart_2 rfl (lv_at hl 3 rfl) ?_
  refine g_callVi (r := (2, 0)) (T := TX4) (N := 5) (k2 := 2) (As := [.int (nI a), .int (nI b)]) (rest := []) C (c_X4_keyIn l X L ad st0 ci ca cr mA2 mA3 n hn hn60 hch a b (by omega) (by omega)) tw_2_27 tw_2_29 tw_0_4 tw_1_2 tw_2_30 (by decide +kernel) ⟨by rw [hR1]; exact Nat.le_of_ble_eq_true rfl, by rw [hR2]; exact Nat.le_of_ble_eq_true rfl⟩ hW hS mA2 rfl rfl rfl hl.1 rfl (Nat.le_of_ble_eq_true rfl) dX4_readPart_3 ⟨Nat.zero_le _, Nat.zero_le _⟩ (fun x1 L9 ad9 st9 H locs hp hW hS => ?_)
  obtain ⟨ci9, ca9, cr9, z0, hp⟩ := hp
  cases z0
  obtain ⟨z1, z2, z3, h2⟩ := hp
  rw [z1, z2, z3] at hW
  rcases rdK_cs (t := ca 3 0) (a := a) (b := b) with hK | ⟨hab9, kk, hkk6, hK⟩
  · refine lv_topE (y := (-1)) (h2.trans hK) ?_
    refine lv_istore (lv' := [(4, .int (-1)), (0, .ref (ad (2, 0))), (1, .int (nI p9)), (2, .int (nI a)), (3, .int (nI b))]) hx hb dX4_readPart_6 hl (by decide) rfl (fun ls hl => ?_)
    refine lv_iload hx hb dX4_readPart_8 (lv_at hl 0 rfl) ?_
    refine lv_if_lt (tgt := 23) hx hb dX4_readPart_10 (by decide) (fun _ => ?_) (fun c9 => absurd (by decide) c9)
    refine lv_aload_n hx hb dX4_readPart_23 rfl (lv_at hl 1 rfl) ?_
    refine va_ldcS hx hb C.1.2.2.2.1 (C.2.2.2.2.2.2.1 ("RateGate$Request", 85, "UNKNOWN", 1) (by decide +kernel)) dX4_readPart_24 ?_
    refine lv_bipush (v := 48) hx hb dX4_readPart_26 (by decide) ?_
    refine lv_iload_n hx hb dX4_readPart_28 rfl (lv_at hl 2 rfl) ?_
    refine lv_iadd hx hb dX4_readPart_29 ?_
    refine lv_topE (y := 48 + nI p9) rfl ?_
    refine lv_i2c hx hb dX4_readPart_30 rfl ?_
    refine lv_topE (y := 48 + nI p9) (dg_c hp9) ?_
    refine g_callVv (r := (2, 0)) (T := TX4) (N := 5) (k2 := 2) (As := [.ref (X.2.2 1), .int (48 + nI p9)]) (rest := []) C (c_X4_setFault l X L ad st0 ci ca cr mA2 1 (48 + nI p9) (dg_n hp9) (dg_f hp9)) tw_2_119 tw_2_121 tw_0_5 tw_1_2 tw_2_122 (by decide +kernel) ⟨by rw [hR1]; exact Nat.le_of_ble_eq_true rfl, by rw [hR2]; exact Nat.le_of_ble_eq_true rfl⟩ hW hS mA2 rfl rfl rfl hl.1 rfl (Nat.le_of_ble_eq_true rfl) dX4_readPart_31 ⟨Nat.zero_le _, Nat.zero_le _⟩ (fun L9 ad9 st9 H locs hp hW hS => ?_)
    obtain ⟨ci9, ca9, cr9, z0, hp⟩ := hp
    cases z0
    obtain ⟨z1, z2, z3⟩ := hp
    rw [z1, z2, z3] at hW
    exact g_vret2 C hQ hW hS ⟨_, _, _, rfl, Or.inl ⟨hK, rfl, rfl, rfl⟩⟩ (Nat.zero_le _) (Nat.zero_le _) dX4_readPart_34
  · refine lv_topE (y := nI kk) (h2.trans hK) ?_
    refine lv_istore (lv' := [(4, .int (nI kk)), (0, .ref (ad (2, 0))), (1, .int (nI p9)), (2, .int (nI a)), (3, .int (nI b))]) hx hb dX4_readPart_6 hl (by decide) rfl (fun ls hl => ?_)
    refine lv_iload hx hb dX4_readPart_8 (lv_at hl 0 rfl) ?_
    refine lv_if_lt (tgt := 23) hx hb dX4_readPart_10 (by decide) (fun c9 => absurd c9 (nI_pos (by omega))) (fun _ => ?_)
    refine lv_iload hx hb dX4_readPart_13 (lv_at hl 0 rfl) ?_
    refine lv_aload_n hx hb dX4_readPart_15 rfl (lv_at hl 1 rfl) ?_
    refine g_get (r := (2, 0)) (Cn := RX4) (T := TX4) (N := 5) (ci := 7) (v := .ref (ad (4, 0))) C tinX4 hW mA2 rfl rfl 1 (by decide) tw_1_49 (fun _ h9 => h9) rfl dX4_readPart_16 ?_
    refine g_alen (r := (4, 0)) (t0 := 2) (v := 6) C hW mA4 rfl rfl rfl dX4_readPart_19 ?_
    refine lv_icmp_lt (tgt := 35) hx hb dX4_readPart_20 (by decide) (fun _ => ?_) (fun c9 => absurd (nI_lt (a := kk) (b := 6) (by omega) (by decide)) c9)
    refine lv_aload_n hx hb dX4_readPart_35 rfl (lv_at hl 1 rfl) ?_
    refine g_get (r := (2, 0)) (Cn := RX4) (T := TX4) (N := 5) (ci := 7) (v := .ref (ad (4, 0))) C tinX4 hW mA2 rfl rfl 1 (by decide) tw_1_49 (fun _ h9 => h9) rfl dX4_readPart_36 ?_
    refine lv_iload hx hb dX4_readPart_39 (lv_at hl 0 rfl) ?_
    refine g_iald (r := (4, 0)) (n := 6) (f := ca 4 0) C hW mA4 rfl (vp_in_nI (N := 6) (by omega) (by decide)) dX4_readPart_41 ?_
    refine lv_topE (y := (ca 4 0) kk) (by rw [nI_clamp (by omega)]) ?_
    refine lv_topi (fun x4 ex4 => ?_)
    refine lv_iconst (v := (-1)) hx hb dX4_readPart_42 (by decide) ?_
    refine lv_icmp_eq (tgt := 60) hx hb dX4_readPart_43 (by decide) (fun c5 => ?_) (fun c5 => ?_)
    · refine lv_aload_n hx hb dX4_readPart_60 rfl (lv_at hl 1 rfl) ?_
      refine g_get (r := (2, 0)) (Cn := RX4) (T := TX4) (N := 5) (ci := 7) (v := .ref (ad (4, 0))) C tinX4 hW mA2 rfl rfl 1 (by decide) tw_1_49 (fun _ h9 => h9) rfl dX4_readPart_61 ?_
      refine lv_iload hx hb dX4_readPart_64 (lv_at hl 0 rfl) ?_
      refine lv_aload_n hx hb dX4_readPart_66 rfl (lv_at hl 1 rfl) ?_
      refine lv_iload hx hb dX4_readPart_67 (lv_at hl 0 rfl) ?_
      refine lv_iload_n hx hb dX4_readPart_69 rfl (lv_at hl 3 rfl) ?_
      refine lv_iconst (v := 2) hx hb dX4_readPart_70 (by decide) ?_
      refine lv_iadd hx hb dX4_readPart_71 ?_
      refine lv_topE (y := nI (a + 2)) (nI_2 a) ?_
      refine lv_iload_n hx hb dX4_readPart_72 rfl (lv_at hl 4 rfl) ?_
      refine g_callVi (r := (2, 0)) (T := TX4) (N := 5) (k2 := 3) (As := [.int (nI kk), .int (nI (a + 2)), .int (nI b)]) (rest := [.int (nI kk), .ref (ad (4, 0))]) C (c_X4_readValue l X L ad st0 ci ca cr mA2 mA3 n hn hn60 hch kk hkk6 (a + 2) b (by omega) (by omega)) tw_2_144 tw_2_146 tw_0_6 tw_1_2 tw_2_147 (by decide +kernel) ⟨by rw [hR1]; exact Nat.le_of_ble_eq_true rfl, by rw [hR2]; exact Nat.le_of_ble_eq_true rfl⟩ hW hS mA2 rfl rfl rfl hl.1 rfl (Nat.le_of_ble_eq_true rfl) dX4_readPart_73 ⟨Nat.zero_le _, Nat.zero_le _⟩ (fun x6 L9 ad9 st9 H locs hp hW hS => ?_)
      obtain ⟨ci9, ca9, cr9, z0, hp⟩ := hp
      cases z0
      obtain ⟨z1, z2, z3, h7⟩ := hp
      rw [z1, z2, z3] at hW
      refine g_iast (r := (4, 0)) (n := 6) (f := ca 4 0) (st2 := cSt X ad st0 ci (ua2 ca 4 0 (upd (ca 4 0) kk x6)) cr) C hW hS mA4 rfl (vp_in_nI (N := 6) (by omega) (by decide)) (by rw [nI_clamp (by omega)]; exact cR_4 0 _) dX4_readPart_76 (fun H locs hW hS => ?_)
      refine lv_aload_n hx hb dX4_readPart_77 rfl (lv_at hl 1 rfl) ?_
      refine g_get (r := (2, 0)) (Cn := RX4) (T := TX4) (N := 5) (ci := 7) (v := .ref (ad (4, 0))) C tinX4 hW mA2 rfl rfl 1 (by decide) tw_1_49 (fun _ h9 => h9) rfl dX4_readPart_78 ?_
      refine lv_iload hx hb dX4_readPart_81 (lv_at hl 0 rfl) ?_
      refine g_iald (r := (4, 0)) (n := 6) (f := (ua2 ca 4 0 (upd (ca 4 0) kk x6)) 4 0) C hW mA4 rfl (vp_in_nI (N := 6) (by omega) (by decide)) dX4_readPart_83 ?_
      refine lv_topE (y := x6) (by rw [nI_clamp (by omega)]; exact (congrFun ua2_at _).trans pk_us) ?_
      refine lv_iconst (v := (-1)) hx hb dX4_readPart_84 (by decide) ?_
      refine lv_icmp_ne (tgt := 101) hx hb dX4_readPart_85 (by decide) (fun c8 => ?_) (fun c8 => ?_)
      · exact g_vret2 C hQ hW hS ⟨_, _, _, rfl, Or.inr (Or.inr (Or.inr ⟨(by rw [hK]; exact nI_nm (by omega)), by rw [(show (rdK (ca 3 0) a b).toNatClampNeg = kk by rw [hK]; exact nI_clamp (by omega))]; grind, by rw [(show (rdK (ca 3 0) a b).toNatClampNeg = kk by rw [hK]; exact nI_clamp (by omega))]; grind, rfl, by rw [(show (rdK (ca 3 0) a b).toNatClampNeg = kk by rw [hK]; exact nI_clamp (by omega))]; congr 2, rfl⟩))⟩ (Nat.zero_le _) (Nat.zero_le _) dX4_readPart_101
      · refine lv_aload_n hx hb dX4_readPart_88 rfl (lv_at hl 1 rfl) ?_
        refine va_ldcS hx hb C.1.2.2.2.1 (C.2.2.2.2.2.2.1 ("RateGate$Request", 102, "BAD", 3) (by decide +kernel)) dX4_readPart_89 ?_
        refine va_ldcS hx hb C.1.2.2.2.1 (C.2.2.2.2.2.2.1 ("RateGate$Request", 93, "SCFTWX", 5) (by decide +kernel)) dX4_readPart_91 ?_
        refine lv_iload hx hb dX4_readPart_93 (lv_at hl 0 rfl) ?_
        refine g_callTi (k := 5) (k2 := 1) (As := [.int (nI kk)]) (rest := [.ref (X.2.2 3), .ref (ad (2, 0))]) (show 5 < 6 by decide) C (c_J0_charAt_5068e l X L ad _ 5 (show 5 < 6 by decide) kk hkk6) tw_2_124 tw_2_125 tw_2_126 tw_1_17 tw_2_127 (by decide +kernel) ⟨by rw [hR1]; exact Nat.le_of_ble_eq_true rfl, by rw [hR2]; exact Nat.le_of_ble_eq_true rfl⟩ hW hS rfl hl.1 rfl (Nat.le_of_ble_eq_true rfl) dX4_readPart_95 ⟨Nat.zero_le _, Nat.zero_le _⟩ (fun x9 H locs hp hW hS => ?_)
        refine lv_topE (y := keyc kk) (hp.trans (gs5 hkk6)) ?_
        refine g_callVv (r := (2, 0)) (T := TX4) (N := 5) (k2 := 2) (As := [.ref (X.2.2 3), .int (keyc kk)]) (rest := []) C (c_X4_setFault l X L ad st0 ci (ua2 ca 4 0 (upd (ca 4 0) kk x6)) cr mA2 3 (keyc kk) (kc_n hkk6) (kc_f hkk6)) tw_2_119 tw_2_121 tw_0_5 tw_1_2 tw_2_122 (by decide +kernel) ⟨by rw [hR1]; exact Nat.le_of_ble_eq_true rfl, by rw [hR2]; exact Nat.le_of_ble_eq_true rfl⟩ hW hS mA2 rfl rfl rfl hl.1 rfl (Nat.le_of_ble_eq_true rfl) dX4_readPart_98 ⟨Nat.zero_le _, Nat.zero_le _⟩ (fun L9 ad9 st9 H locs hp hW hS => ?_)
        obtain ⟨ci9, ca9, cr9, z0, hp⟩ := hp
        cases z0
        obtain ⟨z1, z2, z3⟩ := hp
        rw [z1, z2, z3] at hW
        exact g_vret2 C hQ hW hS ⟨_, _, _, rfl, Or.inr (Or.inr (Or.inl ⟨(by rw [hK]; exact nI_nm (by omega)), by rw [(show (rdK (ca 3 0) a b).toNatClampNeg = kk by rw [hK]; exact nI_clamp (by omega))]; grind, by rw [(show (rdK (ca 3 0) a b).toNatClampNeg = kk by rw [hK]; exact nI_clamp (by omega))]; grind, by rw [(show (rdK (ca 3 0) a b).toNatClampNeg = kk by rw [hK]; exact nI_clamp (by omega))], by rw [(show (rdK (ca 3 0) a b).toNatClampNeg = kk by rw [hK]; exact nI_clamp (by omega))]; congr 2 <;> grind, rfl⟩))⟩ (Nat.zero_le _) (Nat.zero_le _) dX4_readPart_101
    · refine lv_aload_n hx hb dX4_readPart_46 rfl (lv_at hl 1 rfl) ?_
      refine va_ldcS hx hb C.1.2.2.2.1 (C.2.2.2.2.2.2.1 ("RateGate$Request", 91, "DOUBLED", 2) (by decide +kernel)) dX4_readPart_47 ?_
      refine va_ldcS hx hb C.1.2.2.2.1 (C.2.2.2.2.2.2.1 ("RateGate$Request", 93, "SCFTWX", 5) (by decide +kernel)) dX4_readPart_49 ?_
      refine lv_iload hx hb dX4_readPart_51 (lv_at hl 0 rfl) ?_
      refine g_callTi (k := 5) (k2 := 1) (As := [.int (nI kk)]) (rest := [.ref (X.2.2 2), .ref (ad (2, 0))]) (show 5 < 6 by decide) C (c_J0_charAt_5068e l X L ad _ 5 (show 5 < 6 by decide) kk hkk6) tw_2_124 tw_2_125 tw_2_126 tw_1_17 tw_2_127 (by decide +kernel) ⟨by rw [hR1]; exact Nat.le_of_ble_eq_true rfl, by rw [hR2]; exact Nat.le_of_ble_eq_true rfl⟩ hW hS rfl hl.1 rfl (Nat.le_of_ble_eq_true rfl) dX4_readPart_53 ⟨Nat.zero_le _, Nat.zero_le _⟩ (fun x11 H locs hp hW hS => ?_)
      refine lv_topE (y := keyc kk) (hp.trans (gs5 hkk6)) ?_
      refine g_callVv (r := (2, 0)) (T := TX4) (N := 5) (k2 := 2) (As := [.ref (X.2.2 2), .int (keyc kk)]) (rest := []) C (c_X4_setFault l X L ad st0 ci ca cr mA2 2 (keyc kk) (kc_n hkk6) (kc_f hkk6)) tw_2_119 tw_2_121 tw_0_5 tw_1_2 tw_2_122 (by decide +kernel) ⟨by rw [hR1]; exact Nat.le_of_ble_eq_true rfl, by rw [hR2]; exact Nat.le_of_ble_eq_true rfl⟩ hW hS mA2 rfl rfl rfl hl.1 rfl (Nat.le_of_ble_eq_true rfl) dX4_readPart_56 ⟨Nat.zero_le _, Nat.zero_le _⟩ (fun L9 ad9 st9 H locs hp hW hS => ?_)
      obtain ⟨ci9, ca9, cr9, z0, hp⟩ := hp
      cases z0
      obtain ⟨z1, z2, z3⟩ := hp
      rw [z1, z2, z3] at hW
      exact g_vret2 C hQ hW hS ⟨_, _, _, rfl, Or.inr (Or.inl ⟨(by rw [hK]; exact nI_nm (by omega)), by rw [(show (rdK (ca 3 0) a b).toNatClampNeg = kk by rw [hK]; exact nI_clamp (by omega))]; grind, by rw [(show (rdK (ca 3 0) a b).toNatClampNeg = kk by rw [hK]; exact nI_clamp (by omega))], rfl, rfl⟩)⟩ (Nat.zero_le _) (Nat.zero_le _) dX4_readPart_59

