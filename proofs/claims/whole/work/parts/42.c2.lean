def prcC (b z w d gr ex : Int32) : Int32 := if ex = 0 then b + z * (if 0 ≤ d then d else 0 - d) + w * ((gr + 99) / 100) else (b + z * (if 0 ≤ d then d else 0 - d) + w * ((gr + 99) / 100)) * 3 / 2
def cntL (f : Nat → Int32) (m : Int32) : Nat → Int32
  | 0 => 0
  | k + 1 => if m < f k then cntL f m k + 1 else cntL f m k
def lftC (q c : Int32) : Int32 := if 0 < q - c then q - c else 0
set_option maxHeartbeats 4000000 in
set_option maxRecDepth 100000 in
theorem c_X3_priceBy (l : Launch) (X : GX) (L : List ro) (ad : ro → Nat) (st0 : ro → va_E) (ci : Nat → Nat → Int32) (ca : Nat → Nat → Nat → Int32) (cr : Nat → Nat → Nat) (i : Nat) (hr : (40, i) ∈ L) (t9 : Nat) (ht : (31, t9) ∈ L) (gr : Int32) : cM l yX3_priceBy cX3_priceBy 5 (some .int) 1 15 X [.ref (ad (40, i)), .ref (ad (31, t9)), .int gr] L ad st0 ci ca cr (fun v ci' ca' cr' => ci' = ci ∧ ca' = ca ∧ cr' = cr ∧ v = prcC (ci 36 t9) (ci 37 t9) (ci 38 t9) (ci 42 i - ci 43 i) gr (ci 45 i)) := by
  intro sz
  refine gM_of2 (Qc := fun A => va_Qi _ (gB X A) A) (by decide) (Nat.le_of_ble_eq_true rfl) ?_ sz
  intro p e s m args below meth c A R Q hR hQ C hW hS ls hl
  obtain ⟨hR1, hR2, hR3, hR4⟩ := hR
  have hx := C.1.1
  have hb := C.1.2.1
  have hml := C.1.2.2.1
  have hl : lv_has ls 5 [(0, .ref (ad (40, i))), (1, .ref (ad (31, t9))), (2, .int gr)] := hl
  refine lv_iload_n hx hb dX3_priceBy_0 rfl (lv_at hl 2 rfl) ?_
  refine lv_bipush (v := 99) hx hb dX3_priceBy_1 (by decide) ?_
  refine lv_iadd hx hb dX3_priceBy_3 ?_
  refine lv_topi (fun x1 ex1 => ?_)
  refine lv_bipush (v := 100) hx hb dX3_priceBy_4 (by decide) ?_
  refine lv_idiv hx hb dX3_priceBy_6 (by decide) ?_
  refine lv_topi (fun x2 ex2 => ?_)
  refine lv_istore_n (lv' := [(3, .int x2), (0, .ref (ad (40, i))), (1, .ref (ad (31, t9))), (2, .int gr)]) hx hb dX3_priceBy_7 rfl hl (by decide) rfl (fun ls hl => ?_)
  refine lv_aload_n hx hb dX3_priceBy_8 rfl (lv_at hl 2 rfl) ?_
  refine g_get (r := (31, t9)) (Cn := RX6) (T := TX6) (N := 3) (ci := 9) (v := .int (ci 36 t9)) C tinX6 hW ht rfl rfl 0 (by decide) tw_1_167 (fun _ h9 => h9) rfl dX3_priceBy_9 ?_
  refine lv_aload_n hx hb dX3_priceBy_12 rfl (lv_at hl 2 rfl) ?_
  refine g_get (r := (31, t9)) (Cn := RX6) (T := TX6) (N := 3) (ci := 9) (v := .int (ci 37 t9)) C tinX6 hW ht rfl rfl 1 (by decide) tw_1_170 (fun _ h9 => h9) rfl dX3_priceBy_13 ?_
  refine lv_aload_n hx hb dX3_priceBy_16 rfl (lv_at hl 1 rfl) ?_
  refine g_get (r := (40, i)) (Cn := RX3) (T := TX3) (N := 8) (ci := 6) (v := .int (ci 42 i)) C tinX3 hW hr rfl rfl 2 (by decide) tw_4_177 (fun _ h9 => h9) rfl dX3_priceBy_17 ?_
  refine lv_aload_n hx hb dX3_priceBy_20 rfl (lv_at hl 1 rfl) ?_
  refine g_get (r := (40, i)) (Cn := RX3) (T := TX3) (N := 8) (ci := 6) (v := .int (ci 43 i)) C tinX3 hW hr rfl rfl 3 (by decide) tw_4_178 (fun _ h9 => h9) rfl dX3_priceBy_21 ?_
  refine lv_isub hx hb dX3_priceBy_24 ?_
  refine lv_topi (fun x3 ex3 => ?_)
  refine va_mabs hx hb (hml.trans hl.1.symm) C.1.2.2.2.1 (C.1.2.2.2.2 _ tw_5_49) (C.1.2.2.2.2 _ tw_5_50) (C.1.2.2.2.2 _ tw_1_19) (C.1.2.2.2.2 _ tw_5_51) (by rw [hR1]; exact Nat.le_of_ble_eq_true rfl) (by rw [hR2]; exact Nat.le_of_ble_eq_true rfl) (by rw [hR3]; exact Nat.zero_le _) (by rw [hR4]; exact Nat.zero_le _) dX3_priceBy_25 ?_
  refine lv_topi (fun x4 ex4 => ?_)
  refine lv_imul hx hb dX3_priceBy_28 ?_
  refine lv_topi (fun x5 ex5 => ?_)
  refine lv_iadd hx hb dX3_priceBy_29 ?_
  refine lv_topi (fun x6 ex6 => ?_)
  refine lv_aload_n hx hb dX3_priceBy_30 rfl (lv_at hl 2 rfl) ?_
  refine g_get (r := (31, t9)) (Cn := RX6) (T := TX6) (N := 3) (ci := 9) (v := .int (ci 38 t9)) C tinX6 hW ht rfl rfl 2 (by decide) tw_1_172 (fun _ h9 => h9) rfl dX3_priceBy_31 ?_
  refine lv_iload_n hx hb dX3_priceBy_34 rfl (lv_at hl 0 rfl) ?_
  refine lv_imul hx hb dX3_priceBy_35 ?_
  refine lv_topi (fun x7 ex7 => ?_)
  refine lv_iadd hx hb dX3_priceBy_36 ?_
  refine lv_topi (fun x8 ex8 => ?_)
  refine lv_istore (lv' := [(4, .int x8), (3, .int x2), (0, .ref (ad (40, i))), (1, .ref (ad (31, t9))), (2, .int gr)]) hx hb dX3_priceBy_37 hl (by decide) rfl (fun ls hl => ?_)
  refine lv_aload_n hx hb dX3_priceBy_39 rfl (lv_at hl 2 rfl) ?_
  refine g_get (r := (40, i)) (Cn := RX3) (T := TX3) (N := 8) (ci := 6) (v := .int (ci 45 i)) C tinX3 hW hr rfl rfl 5 (by decide) tw_4_181 (fun _ h9 => h9) rfl dX3_priceBy_40 ?_
  refine lv_if_eq (tgt := 55) hx hb dX3_priceBy_43 (by decide) (fun c9 => ?_) (fun c9 => ?_)
  · refine lv_iload hx hb dX3_priceBy_55 (lv_at hl 0 rfl) ?_
    exact g_iret2 C hQ hW hS ⟨_, _, _, rfl, rfl, rfl, rfl, by unfold prcC; subst_vars; grind⟩ rfl (Nat.zero_le _) (Nat.zero_le _) dX3_priceBy_57
  · refine lv_iload hx hb dX3_priceBy_46 (lv_at hl 0 rfl) ?_
    refine lv_iconst (v := 3) hx hb dX3_priceBy_48 (by decide) ?_
    refine lv_imul hx hb dX3_priceBy_49 ?_
    refine lv_topi (fun x10 ex10 => ?_)
    refine lv_iconst (v := 2) hx hb dX3_priceBy_50 (by decide) ?_
    refine lv_idiv hx hb dX3_priceBy_51 (by decide) ?_
    refine lv_topi (fun x11 ex11 => ?_)
    refine lv_goto (tgt := 57) hx hb dX3_priceBy_52 (by decide) ?_
    exact g_iret2 C hQ hW hS ⟨_, _, _, rfl, rfl, rfl, rfl, by unfold prcC; subst_vars; grind⟩ rfl (Nat.zero_le _) (Nat.zero_le _) dX3_priceBy_57

set_option maxHeartbeats 4000000 in
set_option maxRecDepth 100000 in
theorem c_X3_isOnLaneOf (l : Launch) (X : GX) (L : List ro) (ad : ro → Nat) (st0 : ro → va_E) (ci : Nat → Nat → Int32) (ca : Nat → Nat → Nat → Int32) (cr : Nat → Nat → Nat) (i : Nat) (hr : (40, i) ∈ L) (mA2 : (2, 0) ∈ L) (mA4 : (4, 0) ∈ L) : cM l yX3_isOnLaneOf cX3_isOnLaneOf 2 (some .boolean) 1 21 X [.ref (ad (40, i)), .ref (ad (2, 0))] L ad st0 ci ca cr (fun v ci' ca' cr' => ci' = ci ∧ ca' = ca ∧ cr' = cr ∧ (((ci 40 i = ca 4 0 0 ∧ ci 41 i = ca 4 0 1 ∧ ci 42 i = ca 4 0 2 ∧ ci 43 i = ca 4 0 3) ∧ v = 1) ∨ (¬ (ci 40 i = ca 4 0 0 ∧ ci 41 i = ca 4 0 1 ∧ ci 42 i = ca 4 0 2 ∧ ci 43 i = ca 4 0 3) ∧ v = 0))) := by
  intro sz
  refine gM_of2 (Qc := fun A => va_Qi _ (gB X A) A) (by decide) (Nat.le_of_ble_eq_true rfl) ?_ sz
  intro p e s m args below meth c A R Q hR hQ C hW hS ls hl
  obtain ⟨hR1, hR2, hR3, hR4⟩ := hR
  have hx := C.1.1
  have hb := C.1.2.1
  have hml := C.1.2.2.1
  have hl : lv_has ls 2 [(0, .ref (ad (40, i))), (1, .ref (ad (2, 0)))] := hl
  refine lv_aload_n hx hb dX3_isOnLaneOf_0 rfl (lv_at hl 0 rfl) ?_
  refine g_get (r := (40, i)) (Cn := RX3) (T := TX3) (N := 8) (ci := 6) (v := .int (ci 40 i)) C tinX3 hW hr rfl rfl 0 (by decide) tw_4_173 (fun _ h9 => h9) rfl dX3_isOnLaneOf_1 ?_
  refine lv_aload_n hx hb dX3_isOnLaneOf_4 rfl (lv_at hl 1 rfl) ?_
  refine lv_iconst (v := 0) hx hb dX3_isOnLaneOf_5 (by decide) ?_
  refine g_callVi (r := (2, 0)) (T := TX4) (N := 5) (k2 := 1) (As := [.int 0]) (rest := [.int (ci 40 i)]) C (c_X4_valueOf l X L ad st0 ci ca cr mA2 mA4 0 (by decide)) tw_4_163 tw_2_172 tw_2_173 tw_1_2 tw_2_174 (by decide +kernel) ⟨by rw [hR1]; exact Nat.le_of_ble_eq_true rfl, by rw [hR2]; exact Nat.le_of_ble_eq_true rfl⟩ hW hS mA2 rfl rfl rfl hl.1 rfl (Nat.le_of_ble_eq_true rfl) dX3_isOnLaneOf_6 ⟨Nat.zero_le _, Nat.zero_le _⟩ (fun x1 L9 ad9 st9 H locs hp hW hS => ?_)
  obtain ⟨ci9, ca9, cr9, z0, hp⟩ := hp
  cases z0
  obtain ⟨z1, z2, z3, h2⟩ := hp
  rw [z1, z2, z3] at hW
  refine lv_icmp_ne (tgt := 52) hx hb dX3_isOnLaneOf_9 (by decide) (fun c3 => ?_) (fun c3 => ?_)
  · refine lv_iconst (v := 0) hx hb dX3_isOnLaneOf_52 (by decide) ?_
    exact g_iret2 C hQ hW hS ⟨_, _, _, rfl, rfl, rfl, rfl, by grind⟩ (by decide) (Nat.zero_le _) (Nat.zero_le _) dX3_isOnLaneOf_53
  · refine lv_aload_n hx hb dX3_isOnLaneOf_12 rfl (lv_at hl 0 rfl) ?_
    refine g_get (r := (40, i)) (Cn := RX3) (T := TX3) (N := 8) (ci := 6) (v := .int (ci 41 i)) C tinX3 hW hr rfl rfl 1 (by decide) tw_4_175 (fun _ h9 => h9) rfl dX3_isOnLaneOf_13 ?_
    refine lv_aload_n hx hb dX3_isOnLaneOf_16 rfl (lv_at hl 1 rfl) ?_
    refine lv_iconst (v := 1) hx hb dX3_isOnLaneOf_17 (by decide) ?_
    refine g_callVi (r := (2, 0)) (T := TX4) (N := 5) (k2 := 1) (As := [.int 1]) (rest := [.int (ci 41 i)]) C (c_X4_valueOf l X L ad st0 ci ca cr mA2 mA4 1 (by decide)) tw_4_163 tw_2_172 tw_2_173 tw_1_2 tw_2_174 (by decide +kernel) ⟨by rw [hR1]; exact Nat.le_of_ble_eq_true rfl, by rw [hR2]; exact Nat.le_of_ble_eq_true rfl⟩ hW hS mA2 rfl rfl rfl hl.1 rfl (Nat.le_of_ble_eq_true rfl) dX3_isOnLaneOf_18 ⟨Nat.zero_le _, Nat.zero_le _⟩ (fun x4 L9 ad9 st9 H locs hp hW hS => ?_)
    obtain ⟨ci9, ca9, cr9, z0, hp⟩ := hp
    cases z0
    obtain ⟨z1, z2, z3, h5⟩ := hp
    rw [z1, z2, z3] at hW
    refine lv_icmp_ne (tgt := 52) hx hb dX3_isOnLaneOf_21 (by decide) (fun c6 => ?_) (fun c6 => ?_)
    · refine lv_iconst (v := 0) hx hb dX3_isOnLaneOf_52 (by decide) ?_
      exact g_iret2 C hQ hW hS ⟨_, _, _, rfl, rfl, rfl, rfl, by grind⟩ (by decide) (Nat.zero_le _) (Nat.zero_le _) dX3_isOnLaneOf_53
    · refine lv_aload_n hx hb dX3_isOnLaneOf_24 rfl (lv_at hl 0 rfl) ?_
      refine g_get (r := (40, i)) (Cn := RX3) (T := TX3) (N := 8) (ci := 6) (v := .int (ci 42 i)) C tinX3 hW hr rfl rfl 2 (by decide) tw_4_177 (fun _ h9 => h9) rfl dX3_isOnLaneOf_25 ?_
      refine lv_aload_n hx hb dX3_isOnLaneOf_28 rfl (lv_at hl 1 rfl) ?_
      refine lv_iconst (v := 2) hx hb dX3_isOnLaneOf_29 (by decide) ?_
      refine g_callVi (r := (2, 0)) (T := TX4) (N := 5) (k2 := 1) (As := [.int 2]) (rest := [.int (ci 42 i)]) C (c_X4_valueOf l X L ad st0 ci ca cr mA2 mA4 2 (by decide)) tw_4_163 tw_2_172 tw_2_173 tw_1_2 tw_2_174 (by decide +kernel) ⟨by rw [hR1]; exact Nat.le_of_ble_eq_true rfl, by rw [hR2]; exact Nat.le_of_ble_eq_true rfl⟩ hW hS mA2 rfl rfl rfl hl.1 rfl (Nat.le_of_ble_eq_true rfl) dX3_isOnLaneOf_30 ⟨Nat.zero_le _, Nat.zero_le _⟩ (fun x7 L9 ad9 st9 H locs hp hW hS => ?_)
      obtain ⟨ci9, ca9, cr9, z0, hp⟩ := hp
      cases z0
      obtain ⟨z1, z2, z3, h8⟩ := hp
      rw [z1, z2, z3] at hW
      refine lv_icmp_ne (tgt := 52) hx hb dX3_isOnLaneOf_33 (by decide) (fun c9 => ?_) (fun c9 => ?_)
      · refine lv_iconst (v := 0) hx hb dX3_isOnLaneOf_52 (by decide) ?_
        exact g_iret2 C hQ hW hS ⟨_, _, _, rfl, rfl, rfl, rfl, by grind⟩ (by decide) (Nat.zero_le _) (Nat.zero_le _) dX3_isOnLaneOf_53
      · refine lv_aload_n hx hb dX3_isOnLaneOf_36 rfl (lv_at hl 0 rfl) ?_
        refine g_get (r := (40, i)) (Cn := RX3) (T := TX3) (N := 8) (ci := 6) (v := .int (ci 43 i)) C tinX3 hW hr rfl rfl 3 (by decide) tw_4_178 (fun _ h9 => h9) rfl dX3_isOnLaneOf_37 ?_
        refine lv_aload_n hx hb dX3_isOnLaneOf_40 rfl (lv_at hl 1 rfl) ?_
        refine lv_iconst (v := 3) hx hb dX3_isOnLaneOf_41 (by decide) ?_
        refine g_callVi (r := (2, 0)) (T := TX4) (N := 5) (k2 := 1) (As := [.int 3]) (rest := [.int (ci 43 i)]) C (c_X4_valueOf l X L ad st0 ci ca cr mA2 mA4 3 (by decide)) tw_4_163 tw_2_172 tw_2_173 tw_1_2 tw_2_174 (by decide +kernel) ⟨by rw [hR1]; exact Nat.le_of_ble_eq_true rfl, by rw [hR2]; exact Nat.le_of_ble_eq_true rfl⟩ hW hS mA2 rfl rfl rfl hl.1 rfl (Nat.le_of_ble_eq_true rfl) dX3_isOnLaneOf_42 ⟨Nat.zero_le _, Nat.zero_le _⟩ (fun x10 L9 ad9 st9 H locs hp hW hS => ?_)
        obtain ⟨ci9, ca9, cr9, z0, hp⟩ := hp
        cases z0
        obtain ⟨z1, z2, z3, h11⟩ := hp
        rw [z1, z2, z3] at hW
        refine lv_icmp_ne (tgt := 52) hx hb dX3_isOnLaneOf_45 (by decide) (fun c12 => ?_) (fun c12 => ?_)
        · refine lv_iconst (v := 0) hx hb dX3_isOnLaneOf_52 (by decide) ?_
          exact g_iret2 C hQ hW hS ⟨_, _, _, rfl, rfl, rfl, rfl, by grind⟩ (by decide) (Nat.zero_le _) (Nat.zero_le _) dX3_isOnLaneOf_53
        · refine lv_iconst (v := 1) hx hb dX3_isOnLaneOf_48 (by decide) ?_
          refine lv_goto (tgt := 53) hx hb dX3_isOnLaneOf_49 (by decide) ?_
          exact g_iret2 C hQ hW hS ⟨_, _, _, rfl, rfl, rfl, rfl, by grind⟩ (by decide) (Nat.zero_le _) (Nat.zero_le _) dX3_isOnLaneOf_53

set_option maxHeartbeats 4000000 in
set_option maxRecDepth 100000 in
theorem c_X5_callsLeft (l : Launch) (X : GX) (L : List ro) (ad : ro → Nat) (st0 : ro → va_E) (ci : Nat → Nat → Int32) (ca : Nat → Nat → Nat → Int32) (cr : Nat → Nat → Nat) (i : Nat) (hr : (20, i) ∈ L) (hr2 : (21, i) ∈ L) (mn : Int32) (kp : Nat) (hkp : ci 24 i = nI kp) (hkp2 : kp ≤ 50) : cM l yX5_callsLeft cX5_callsLeft 4 (some .int) 1 13 X [.ref (ad (20, i)), .int mn] L ad st0 ci ca cr (fun v ci' ca' cr' => ci' = ci ∧ ca' = ca ∧ cr' = cr ∧ v = lftC (ci 20 i) (cntL (ca 21 i) (mn - ci 21 i) kp)) := by
  intro sz
  refine gM_of2 (Qc := fun A => va_Qi _ (gB X A) A) (by decide) (Nat.le_of_ble_eq_true rfl) ?_ sz
  intro p e s m args below meth c A R Q hR hQ C hW hS ls hl
  obtain ⟨hR1, hR2, hR3, hR4⟩ := hR
  have hx := C.1.1
  have hb := C.1.2.1
  have hml := C.1.2.2.1
  have hl : lv_has ls 4 [(0, .ref (ad (20, i))), (1, .int mn)] := hl
  have loop : ∀ (f : Nat) (k : Nat) (md : Int32), (kp - k < f) → (k ≤ kp) → (md = cntL (ca 21 i) (mn - ci 21 i) k) → ∀ (H : Heap) (locs : List Loc), gW X A L ad (cSt X ad st0 ci ca cr) s H → va_S A s.heap H locs → ∀ ls : Array Slot, lv_has ls 4 [(0, .ref (ad (20, i))), (1, .int mn), (2, .int md), (3, .int (nI k))] → W p l e R s m args below meth c H locs 0 0 Q (F0 m 4 ls []) := by
    intro f
    induction f with
    | zero =>
      intro k md hf9
      exact absurd hf9 (Nat.not_lt_zero _)
    | succ f ih =>
      intro k md hf hk hmd H locs hW hS ls hl
      refine lv_iload_n hx hb dX5_callsLeft_4 rfl (lv_at hl 3 rfl) ?_
      refine lv_aload_n hx hb dX5_callsLeft_5 rfl (lv_at hl 0 rfl) ?_
      refine g_get (r := (20, i)) (Cn := RX5) (T := TX5) (N := 7) (ci := 8) (v := .int (ci 24 i)) C tinX5 hW hr rfl rfl 5 (by decide) tw_1_138 (fun _ h9 => h9) rfl dX5_callsLeft_6 ?_
      refine lv_topE (y := nI kp) (by show ci 24 i = nI kp; exact hkp) ?_
      refine lv_icmp_ge (tgt := 45) hx hb dX5_callsLeft_9 (by decide) (fun c1 => ?_) (fun c1 => ?_)
      · have c1n := q_le (a := kp) (b := k) (by omega) (by omega) c1
        refine lv_iconst (v := 0) hx hb dX5_callsLeft_45 (by decide) ?_
        refine lv_aload_n hx hb dX5_callsLeft_46 rfl (lv_at hl 0 rfl) ?_
        refine g_get (r := (20, i)) (Cn := RX5) (T := TX5) (N := 7) (ci := 8) (v := .int (ci 20 i)) C tinX5 hW hr rfl rfl 0 (by decide) tw_1_129 (fun _ h9 => h9) rfl dX5_callsLeft_47 ?_
        refine lv_iload_n hx hb dX5_callsLeft_50 rfl (lv_at hl 2 rfl) ?_
        refine lv_isub hx hb dX5_callsLeft_51 ?_
        refine lv_topi (fun x2 ex2 => ?_)
        refine va_mmax hx hb (hml.trans hl.1.symm) C.1.2.2.2.1 (C.1.2.2.2.2 _ tw_4_128) (C.1.2.2.2.2 _ tw_2_61) (C.1.2.2.2.2 _ tw_1_19) (C.1.2.2.2.2 _ tw_2_62) (by rw [hR1]; exact Nat.le_of_ble_eq_true rfl) (by rw [hR2]; exact Nat.le_of_ble_eq_true rfl) (by rw [hR3]; exact Nat.zero_le _) (by rw [hR4]; exact Nat.zero_le _) dX5_callsLeft_52 ?_
        refine lv_topi (fun x3 ex3 => ?_)
        exact g_iret2 C hQ hW hS ⟨_, _, _, rfl, rfl, rfl, rfl, by rw [show kp = k by omega, ← hmd]; unfold lftC; subst_vars; rfl⟩ rfl (Nat.zero_le _) (Nat.zero_le _) dX5_callsLeft_55
      · have c1n := q_nle (a := kp) (b := k) (by omega) (by omega) c1
        refine lv_iload_n hx hb dX5_callsLeft_12 rfl (lv_at hl 3 rfl) ?_
        refine lv_aload_n hx hb dX5_callsLeft_13 rfl (lv_at hl 0 rfl) ?_
        refine g_get (r := (20, i)) (Cn := RX5) (T := TX5) (N := 7) (ci := 8) (v := .ref (ad (21, i))) C tinX5 hW hr rfl rfl 4 (by decide) tw_1_137 (fun _ h9 => h9) rfl dX5_callsLeft_14 ?_
        refine g_alen (r := (21, i)) (t0 := 2) (v := 50) C hW hr2 rfl rfl rfl dX5_callsLeft_17 ?_
        refine lv_icmp_ge (tgt := 45) hx hb dX5_callsLeft_18 (by decide) (fun c4 => ?_) (fun c4 => ?_)
        · have c4n := q_le (a := 50) (b := k) (by omega) (by omega) c4
          refine lv_iconst (v := 0) hx hb dX5_callsLeft_45 (by decide) ?_
          refine lv_aload_n hx hb dX5_callsLeft_46 rfl (lv_at hl 0 rfl) ?_
          refine g_get (r := (20, i)) (Cn := RX5) (T := TX5) (N := 7) (ci := 8) (v := .int (ci 20 i)) C tinX5 hW hr rfl rfl 0 (by decide) tw_1_129 (fun _ h9 => h9) rfl dX5_callsLeft_47 ?_
          refine lv_iload_n hx hb dX5_callsLeft_50 rfl (lv_at hl 2 rfl) ?_
          refine lv_isub hx hb dX5_callsLeft_51 ?_
          refine lv_topi (fun x5 ex5 => ?_)
          refine va_mmax hx hb (hml.trans hl.1.symm) C.1.2.2.2.1 (C.1.2.2.2.2 _ tw_4_128) (C.1.2.2.2.2 _ tw_2_61) (C.1.2.2.2.2 _ tw_1_19) (C.1.2.2.2.2 _ tw_2_62) (by rw [hR1]; exact Nat.le_of_ble_eq_true rfl) (by rw [hR2]; exact Nat.le_of_ble_eq_true rfl) (by rw [hR3]; exact Nat.zero_le _) (by rw [hR4]; exact Nat.zero_le _) dX5_callsLeft_52 ?_
          refine lv_topi (fun x6 ex6 => ?_)
          exact g_iret2 C hQ hW hS ⟨_, _, _, rfl, rfl, rfl, rfl, by rw [show kp = k by omega, ← hmd]; unfold lftC; subst_vars; rfl⟩ rfl (Nat.zero_le _) (Nat.zero_le _) dX5_callsLeft_55
        · have c4n := q_nle (a := 50) (b := k) (by omega) (by omega) c4
          refine lv_aload_n hx hb dX5_callsLeft_21 rfl (lv_at hl 0 rfl) ?_
          refine g_get (r := (20, i)) (Cn := RX5) (T := TX5) (N := 7) (ci := 8) (v := .ref (ad (21, i))) C tinX5 hW hr rfl rfl 4 (by decide) tw_1_137 (fun _ h9 => h9) rfl dX5_callsLeft_22 ?_
          refine lv_iload_n hx hb dX5_callsLeft_25 rfl (lv_at hl 3 rfl) ?_
          refine g_iald (r := (21, i)) (n := 50) (f := ca 21 i) C hW hr2 rfl (vp_in_nI (N := 50) (by omega) (by decide)) dX5_callsLeft_26 ?_
          refine lv_topE (y := (ca 21 i) k) (by rw [nI_clamp (by omega)]) ?_
          refine lv_topi (fun x7 ex7 => ?_)
          refine lv_iload_n hx hb dX5_callsLeft_27 rfl (lv_at hl 1 rfl) ?_
          refine lv_aload_n hx hb dX5_callsLeft_28 rfl (lv_at hl 0 rfl) ?_
          refine g_get (r := (20, i)) (Cn := RX5) (T := TX5) (N := 7) (ci := 8) (v := .int (ci 21 i)) C tinX5 hW hr rfl rfl 1 (by decide) tw_1_131 (fun _ h9 => h9) rfl dX5_callsLeft_29 ?_
          refine lv_isub hx hb dX5_callsLeft_32 ?_
          refine lv_topi (fun x8 ex8 => ?_)
          refine lv_icmp_le (tgt := 39) hx hb dX5_callsLeft_33 (by decide) (fun c9 => ?_) (fun c9 => ?_)
          · refine lv_iinc (v := nI (k + 1)) (lv' := [(3, .int (nI (k + 1))), (0, .ref (ad (20, i))), (1, .int mn), (2, .int md)]) hx hb dX5_callsLeft_39 hl (k := 3) rfl (nI_1 k) (by decide) rfl (fun ls hl => ?_)
            refine lv_goto (tgt := 4) hx hb dX5_callsLeft_42 (by decide) ?_
            exact ih (k + 1) md (by omega) (by omega) (by rw [cntL]; grind) _ _ hW hS _ (lv_sub hl [1, 2, 3, 0] rfl)
          · obtain ⟨x11, ex11⟩ : ∃ z : Int32, z = md + 1 := ⟨_, rfl⟩
            refine lv_iinc (v := x11) (lv' := [(2, .int x11), (0, .ref (ad (20, i))), (1, .int mn), (3, .int (nI k))]) hx hb dX5_callsLeft_36 hl (k := 2) rfl (by rw [ex11]; rfl) (by decide) rfl (fun ls hl => ?_)
            refine lv_iinc (v := nI (k + 1)) (lv' := [(3, .int (nI (k + 1))), (2, .int x11), (0, .ref (ad (20, i))), (1, .int mn)]) hx hb dX5_callsLeft_39 hl (k := 3) rfl (nI_1 k) (by decide) rfl (fun ls hl => ?_)
            refine lv_goto (tgt := 4) hx hb dX5_callsLeft_42 (by decide) ?_
            exact ih (k + 1) x11 (by omega) (by omega) (by rw [cntL]; grind) _ _ hW hS _ (lv_sub hl [2, 3, 1, 0] rfl)
  refine lv_iconst (v := 0) hx hb dX5_callsLeft_0 (by decide) ?_
  refine lv_istore_n (lv' := [(2, .int 0), (0, .ref (ad (20, i))), (1, .int mn)]) hx hb dX5_callsLeft_1 rfl hl (by decide) rfl (fun ls hl => ?_)
  refine lv_iconst (v := 0) hx hb dX5_callsLeft_2 (by decide) ?_
  refine lv_istore_n (lv' := [(3, .int 0), (2, .int 0), (0, .ref (ad (20, i))), (1, .int mn)]) hx hb dX5_callsLeft_3 rfl hl (by decide) rfl (fun ls hl => ?_)
  exact loop _ 0 0 (Nat.lt_succ_self _) (by omega) rfl _ _ hW hS _ (lv_sub hl [2, 3, 1, 0] rfl)

