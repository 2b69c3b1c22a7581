theorem ft_sub (L : List ro) : List.Sublist (L ++ [(62, 0)] ++ [(63, 0)]) (L ++ [(64, 0)] ++ [(61, 0)] ++ [(62, 0)] ++ [(63, 0)]) :=
  List.Sublist.append (List.Sublist.append (((List.sublist_append_left L [(64, 0)]).trans (List.sublist_append_left _ [(61, 0)]))) (List.Sublist.refl _)) (List.Sublist.refl _)
set_option maxHeartbeats 4000000 in
set_option maxRecDepth 100000 in
theorem c_X4_faultText (l : Launch) (X : GX) (L : List ro) (ad : ro → Nat) (st0 : ro → va_E) (ci : Nat → Nat → Int32) (ca : Nat → Nat → Nat → Int32) (cr : Nat → Nat → Nat) (mA4 : (4, 0) ∈ L) (mA2 : (2, 0) ∈ L) (mA3 : (3, 0) ∈ L) (n : Nat) (hn : ci 2 0 = nI n) (hn60 : n ≤ 60) (hch : ∀ j, ∃ q : Nat, q < 65536 ∧ ca 3 0 j = nI q) (n64 : (64, 0) ∉ L) (n61 : (61, 0) ∉ L) (n62 : (62, 0) ∉ L) (n63 : (63, 0) ∉ L) : gMq l yX4_faultText cX4_faultText 2 (some (.object "java/lang/String")) 7 171 4 40 X [.ref (ad (2, 0))] L ad (cSt X ad st0 ci ca cr) (fun v u => ∃ fk vals w, rdT (ca 3 0) n fk vals w ∧ ((w = 0 ∧ v = some (X.2.2 0) ∧ u = (L, ad, cSt X ad st0 (up2 ci 3 0 fk) (ua2 ca 4 0 vals) (ur2 cr 2 0 0))) ∨ (¬ w = 0 ∧ ∃ ad' st', v = some (ad' (62, 0)) ∧ u = (L ++ [(62, 0)] ++ [(63, 0)], ad', st') ∧ (∀ x : ro, x ≠ (64, 0) → x ≠ (61, 0) → x ≠ (62, 0) → x ≠ (63, 0) → ad' x = ad x) ∧ (∀ x : ro, x ≠ (64, 0) → x ≠ (61, 0) → x ≠ (62, 0) → x ≠ (63, 0) → st' x = cSt X ad st0 (up2 ci 3 0 fk) (ua2 ca 4 0 vals) (ur2 cr 2 0 w) x) ∧ st' (62, 0) = .inr (0, [.ref (ad' (63, 0)), .int 0, .int 0, .int 0]) ∧ st' (63, 0) = .inl (X.2.1 0, 0 + gsLen.getD w 0 + 1 + 1, .inl (ftB w fk))))) := by
  intro sz
  refine gM_of2 (Qc := fun A => va_Qq _ (gB X A) A) (by decide) (Nat.le_of_ble_eq_true rfl) ?_ sz
  intro p e s m args below meth c A R Q hR hQ C hW hS ls hl
  obtain ⟨hR1, hR2, hR3, hR4⟩ := hR
  have hx := C.1.1
  have hb := C.1.2.1
  have hml := C.1.2.2.1
  have hl : lv_has ls 2 [(0, .ref (ad (2, 0)))] := hl
  refine lv_aload_n hx hb dX4_faultText_0 rfl (lv_at hl 0 rfl) ?_
  refine g_callVv (r := (2, 0)) (T := TX4) (N := 5) (k2 := 0) (As := []) (rest := []) C (c_X4_readText l X L ad st0 ci ca cr mA4 mA2 mA3 n hn hn60 hch) tw_2_4 tw_2_6 tw_0_0 tw_1_2 tw_2_7 (by decide +kernel) ⟨by rw [hR1]; exact Nat.le_of_ble_eq_true rfl, by rw [hR2]; exact Nat.le_of_ble_eq_true rfl⟩ hW hS mA2 rfl rfl rfl hl.1 rfl (Nat.le_of_ble_eq_true rfl) dX4_faultText_1 ⟨Nat.zero_le _, Nat.zero_le _⟩ (fun L9 ad9 st9 H locs hp hW hS => ?_)
  obtain ⟨ci9, ca9, cr9, z0, hp⟩ := hp
  cases z0
  obtain ⟨fk, vals, w, z1, z2, z3, hT⟩ := hp
  rw [z1, z2, z3] at hW
  have hw5 := hT.1
  rcases (show w = 0 ∨ w = 1 ∨ w = 2 ∨ w = 3 ∨ w = 4 by omega) with hw | hw | hw | hw | hw
  · subst hw
    refine lv_aload_n hx hb dX4_faultText_4 rfl (lv_at hl 0 rfl) ?_
    refine g_get (r := (2, 0)) (Cn := RX4) (T := TX4) (N := 5) (ci := 7) (v := .ref (X.2.2 ((ur2 cr 2 0 0) 2 0))) C tinX4 hW mA2 rfl rfl 3 (by decide) tw_1_51 (fun _ h9 => h9) rfl dX4_faultText_5 ?_
    refine g_callTi (k := ((ur2 cr 2 0 0) 2 0)) (k2 := 0) (As := []) (rest := []) (show ((ur2 cr 2 0 0) 2 0) < 6 by rw [show ((ur2 cr 2 0 0) 2 0) = 0 from ur2_at]; decide) C (c_J0_isEmpty_aae02 l X L ad _ ((ur2 cr 2 0 0) 2 0) (show ((ur2 cr 2 0 0) 2 0) < 6 by rw [show ((ur2 cr 2 0 0) 2 0) = 0 from ur2_at]; decide)) tw_2_11 tw_2_12 tw_2_13 tw_1_17 tw_2_14 (by decide +kernel) ⟨by rw [hR1]; exact Nat.le_of_ble_eq_true rfl, by rw [hR2]; exact Nat.le_of_ble_eq_true rfl⟩ hW hS rfl hl.1 rfl (Nat.le_of_ble_eq_true rfl) dX4_faultText_8 ⟨Nat.zero_le _, Nat.zero_le _⟩ (fun x1 H locs hp hW hS => ?_)
    rw [show ((ur2 cr 2 0 0) 2 0) = 0 from ur2_at] at hp
    obtain rfl : x1 = 1 := by rcases hp with ⟨a9, b9⟩ | ⟨a9, b9⟩ <;> first | exact b9 | exact absurd a9 (by decide) | exact absurd (by decide) a9
    refine lv_if_eq (tgt := 17) hx hb dX4_faultText_11 (by decide) (fun c9 => absurd c9 (by decide)) (fun _ => ?_)
    refine va_ldcS hx hb C.1.2.2.2.1 (C.2.2.2.2.2.2.1 ("RateGate$Request", 23, "", 0) (by decide +kernel)) dX4_faultText_14 ?_
    exact g_qret2 (v := some (X.2.2 0)) C (Or.inl ⟨_, rfl⟩) hQ hW hS ⟨_, _, 0, hT, Or.inl ⟨rfl, rfl, rfl⟩⟩ (Nat.zero_le _) (Nat.zero_le _) dX4_faultText_16
  · subst hw
    refine lv_aload_n hx hb dX4_faultText_4 rfl (lv_at hl 0 rfl) ?_
    refine g_get (r := (2, 0)) (Cn := RX4) (T := TX4) (N := 5) (ci := 7) (v := .ref (X.2.2 ((ur2 cr 2 0 1) 2 0))) C tinX4 hW mA2 rfl rfl 3 (by decide) tw_1_51 (fun _ h9 => h9) rfl dX4_faultText_5 ?_
    refine g_callTi (k := ((ur2 cr 2 0 1) 2 0)) (k2 := 0) (As := []) (rest := []) (show ((ur2 cr 2 0 1) 2 0) < 6 by rw [show ((ur2 cr 2 0 1) 2 0) = 1 from ur2_at]; decide) C (c_J0_isEmpty_aae02 l X L ad _ ((ur2 cr 2 0 1) 2 0) (show ((ur2 cr 2 0 1) 2 0) < 6 by rw [show ((ur2 cr 2 0 1) 2 0) = 1 from ur2_at]; decide)) tw_2_11 tw_2_12 tw_2_13 tw_1_17 tw_2_14 (by decide +kernel) ⟨by rw [hR1]; exact Nat.le_of_ble_eq_true rfl, by rw [hR2]; exact Nat.le_of_ble_eq_true rfl⟩ hW hS rfl hl.1 rfl (Nat.le_of_ble_eq_true rfl) dX4_faultText_8 ⟨Nat.zero_le _, Nat.zero_le _⟩ (fun x2 H locs hp hW hS => ?_)
    rw [show ((ur2 cr 2 0 1) 2 0) = 1 from ur2_at] at hp
    obtain rfl : x2 = 0 := by rcases hp with ⟨a9, b9⟩ | ⟨a9, b9⟩ <;> first | exact b9 | exact absurd a9 (by decide) | exact absurd (by decide) a9
    refine lv_if_eq (tgt := 17) hx hb dX4_faultText_11 (by decide) (fun _ => ?_) (fun c9 => absurd (by decide) c9)
    obtain ⟨stc, hstc, hW⟩ : ∃ z, z = cSt X ad st0 (up2 ci 3 0 fk) (ua2 ca 4 0 vals) (ur2 cr 2 0 1) ∧ gW X A L ad z s H := ⟨_, rfl, hW⟩
    obtain ⟨c9, hc9, hc9e⟩ := rdT_fk hT (by decide)
    have e20 : stc (2, 0) = .inr (7, [.ref (ad (3, 0)), .ref (ad (4, 0)), .int (nI n), .ref (X.2.2 1), .int fk]) := by rw [hstc]; simp [cSt, cE, up2, ur2, hn]
    refine g_newo (r := (64, 0)) (Cn := RJ4) (T := TJ4) (N := 4) (ci := 1) (ty0 := tyJ4) (fs := [.null, .int 0, .int 0, .int 0]) C tinJ4 tyJ4_ok hW hS n64 rfl tw_2_176 tw_2_177 tw_1_24 (by intro j hj; rcases (show j = 0 ∨ j = 1 ∨ j = 2 ∨ j = 3 by omega) with rfl | rfl | rfl | rfl <;> rfl) (by rw [hR3]; exact Nat.le_of_ble_eq_true rfl) (by rw [hR4]; exact Nat.le_of_ble_eq_true rfl) dX4_faultText_17 (fun ad1001 st1002 H ha1003 fk1004 hs1005 hW hS => ?_)
    have hl : lv_has ls 2 [(0, .ref (ad1001 (2, 0)))] := by rw [ha1003 (2, 0) (by decide)]; exact hl
    have fk1006 : st1002 (2, 0) = .inr (7, [.ref (ad1001 (3, 0)), .ref (ad1001 (4, 0)), .int (nI n), .ref (X.2.2 1), .int fk]) := ((hs1005 (2, 0) (by decide)).trans e20).trans (by rw [ha1003 (3, 0) (by decide), ha1003 (4, 0) (by decide)])
    have af1007 : ∀ x : ro, x ≠ (64, 0) → ad1001 x = ad x := fun x a0 => ha1003 x a0
    have sf1008 : ∀ x : ro, x ≠ (64, 0) → st1002 x = stc x := fun x a0 => hs1005 x a0
    refine lv_dup hx hb dX4_faultText_20 rfl ?_
    refine g_callIv (k2 := 0) (As := []) (rest := [.ref (ad1001 (64, 0))]) C (c_J4_init_da8c8 l X (L ++ [(64, 0)]) ad1001 st1002 (List.mem_append_right _ (List.mem_singleton.mpr rfl)) (nmem_app n61 (by decide)) fk1004) tw_2_178 tw_2_179 tw_1_24 tw_2_180 (by decide +kernel) ⟨by rw [hR1]; exact Nat.le_of_ble_eq_true rfl, by rw [hR2]; exact Nat.le_of_ble_eq_true rfl⟩ hW hS rfl hl.1 rfl (Nat.le_of_ble_eq_true rfl) dX4_faultText_21 ⟨by rw [hR3]; exact Nat.le_of_ble_eq_true rfl, by rw [hR4]; exact Nat.le_of_ble_eq_true rfl⟩ (fun  L9 ad1009 st1010 H locs hp hW hS => ?_)
    obtain ⟨adq, stq, z0, ha1011, hs1012, fk1013, fk1014⟩ := hp
    cases z0
    have hl : lv_has ls 2 [(0, .ref (ad1009 (2, 0)))] := by rw [ha1011 (2, 0) (by decide)]; exact hl
    refine W.eq (g2 := F0 m 24 ls [.ref (ad1009 (64, 0))]) (by rw [ha1011 (64, 0) (by decide)] <;> rfl) ?_
    have fk1015 : st1010 (2, 0) = .inr (7, [.ref (ad1009 (3, 0)), .ref (ad1009 (4, 0)), .int (nI n), .ref (X.2.2 1), .int fk]) := ((hs1012 (2, 0) (by decide) (by decide)).trans fk1006).trans (by rw [ha1011 (3, 0) (by decide), ha1011 (4, 0) (by decide)])
    have af1016 : ∀ x : ro, x ≠ (64, 0) → x ≠ (61, 0) → ad1009 x = ad x := fun x a0 a1 => (ha1011 x a1).trans (af1007 x a0)
    have sf1017 : ∀ x : ro, x ≠ (64, 0) → x ≠ (61, 0) → st1010 x = stc x := fun x a0 a1 => (hs1012 x a1 a0).trans (sf1008 x a0)
    refine lv_astore_n (lv' := [(1, .ref (ad1009 (64, 0))), (0, .ref (ad1009 (2, 0)))]) hx hb dX4_faultText_24 rfl hl (by decide) rfl (fun ls hl => ?_)
    refine lv_aload_n hx hb dX4_faultText_25 rfl (lv_at hl 0 rfl) ?_
    refine lv_aload_n hx hb dX4_faultText_26 rfl (lv_at hl 1 rfl) ?_
    refine g_get (r := (2, 0)) (Cn := RX4) (T := TX4) (N := 5) (ci := 7) (v := .ref (X.2.2 1)) C tinX4 hW (List.mem_append_left _ (List.mem_append_left _ mA2)) fk1015 rfl 3 (by decide) tw_1_51 (fun _ h9 => h9) rfl dX4_faultText_27 ?_
    refine g_callVq (r := (64, 0)) (T := TJ4) (N := 4) (k2 := 1) (As := [.ref (X.2.2 1)]) (rest := []) C (c_J4_append_15ec4 l X (L ++ [(64, 0)] ++ [(61, 0)]) ad1009 st1010 0 (fun _ => 0) 1 (List.mem_append_left _ (List.mem_append_right _ (List.mem_singleton.mpr rfl))) (List.mem_append_right _ (List.mem_singleton.mpr rfl)) fk1013 fk1014 (by decide) (by decide)) tw_2_206 tw_2_207 tw_2_208 tw_1_24 tw_2_209 (by decide +kernel) ⟨by rw [hR1]; exact Nat.le_of_ble_eq_true rfl, by rw [hR2]; exact Nat.le_of_ble_eq_true rfl⟩ hW hS (List.mem_append_left _ (List.mem_append_right _ (List.mem_singleton.mpr rfl))) fk1013 rfl rfl hl.1 rfl (Nat.le_of_ble_eq_true rfl) dX4_faultText_30 ⟨by rw [hR3]; exact Nat.le_of_ble_eq_true rfl, by rw [hR4]; exact Nat.le_of_ble_eq_true rfl⟩ (fun v1018 L9 ad1019 st1020 H locs hp hW hS => ?_)
    obtain ⟨stq, z0, hs1021, fk1022, fk1023, h1024⟩ := hp
    cases z0
    subst h1024
    have fk1025 : st1020 (2, 0) = .inr (7, [.ref (ad1009 (3, 0)), .ref (ad1009 (4, 0)), .int (nI n), .ref (X.2.2 1), .int fk]) := (hs1021 (2, 0) (by decide) (by decide)).trans fk1015
    have sf1026 : ∀ x : ro, x ≠ (64, 0) → x ≠ (61, 0) → st1020 x = stc x := fun x a0 a1 => (hs1021 x a1 a0).trans (sf1017 x a0 a1)
    refine lv_topV (y := .ref (ad1009 (64, 0))) rfl ?_
    refine lv_pop hx hb dX4_faultText_33 rfl ?_
    refine lv_aload_n hx hb dX4_faultText_34 rfl (lv_at hl 0 rfl) ?_
    refine lv_bipush (v := 32) hx hb dX4_faultText_35 (by decide) ?_
    refine g_callVq (r := (64, 0)) (T := TJ4) (N := 4) (k2 := 1) (As := [.int 32]) (rest := []) C (c_J4_append_cf468 l X (L ++ [(64, 0)] ++ [(61, 0)]) ad1009 st1020 (0 + (gsLen.getD 1 0)) (va_cpy (fun j => (gsByt.getD 1 []).getD j 0) (fun _ => 0) 0 0 (gsLen.getD 1 0)) 32 (List.mem_append_left _ (List.mem_append_right _ (List.mem_singleton.mpr rfl))) (List.mem_append_right _ (List.mem_singleton.mpr rfl)) fk1023 fk1022 (by decide) (by decide) (by decide)) tw_3_54 tw_3_55 tw_3_56 tw_1_24 tw_3_57 (by decide +kernel) ⟨by rw [hR1]; exact Nat.le_of_ble_eq_true rfl, by rw [hR2]; exact Nat.le_of_ble_eq_true rfl⟩ hW hS (List.mem_append_left _ (List.mem_append_right _ (List.mem_singleton.mpr rfl))) fk1023 rfl rfl hl.1 rfl (Nat.le_of_ble_eq_true rfl) dX4_faultText_37 ⟨by rw [hR3]; exact Nat.le_of_ble_eq_true rfl, by rw [hR4]; exact Nat.le_of_ble_eq_true rfl⟩ (fun v1027 L9 ad1028 st1029 H locs hp hW hS => ?_)
    obtain ⟨stq, z0, hs1030, fk1031, fk1032, h1033⟩ := hp
    cases z0
    subst h1033
    have fk1034 : st1029 (2, 0) = .inr (7, [.ref (ad1009 (3, 0)), .ref (ad1009 (4, 0)), .int (nI n), .ref (X.2.2 1), .int fk]) := (hs1030 (2, 0) (by decide) (by decide)).trans fk1025
    have sf1035 : ∀ x : ro, x ≠ (64, 0) → x ≠ (61, 0) → st1029 x = stc x := fun x a0 a1 => (hs1030 x a1 a0).trans (sf1026 x a0 a1)
    refine lv_topV (y := .ref (ad1009 (64, 0))) rfl ?_
    refine lv_pop hx hb dX4_faultText_40 rfl ?_
    refine lv_aload_n hx hb dX4_faultText_41 rfl (lv_at hl 0 rfl) ?_
    refine lv_aload_n hx hb dX4_faultText_42 rfl (lv_at hl 1 rfl) ?_
    refine g_get (r := (2, 0)) (Cn := RX4) (T := TX4) (N := 5) (ci := 7) (v := .int fk) C tinX4 hW (List.mem_append_left _ (List.mem_append_left _ mA2)) fk1034 rfl 4 (by decide) tw_1_52 (fun _ h9 => h9) rfl dX4_faultText_43 ?_
    refine g_callVq (r := (64, 0)) (T := TJ4) (N := 4) (k2 := 1) (As := [.int fk]) (rest := []) C (c_J4_append_cf468 l X (L ++ [(64, 0)] ++ [(61, 0)]) ad1009 st1029 ((0 + (gsLen.getD 1 0)) + 1) (upd (va_cpy (fun j => (gsByt.getD 1 []).getD j 0) (fun _ => 0) 0 0 (gsLen.getD 1 0)) (0 + (gsLen.getD 1 0)) (vp_nar .byte 32)) fk (List.mem_append_left _ (List.mem_append_right _ (List.mem_singleton.mpr rfl))) (List.mem_append_right _ (List.mem_singleton.mpr rfl)) fk1032 fk1031 (by rw [hc9e]; exact ch_le hc9) (by rw [hc9e]; exact ch_i8 hc9) (by decide)) tw_3_54 tw_3_55 tw_3_56 tw_1_24 tw_3_57 (by decide +kernel) ⟨by rw [hR1]; exact Nat.le_of_ble_eq_true rfl, by rw [hR2]; exact Nat.le_of_ble_eq_true rfl⟩ hW hS (List.mem_append_left _ (List.mem_append_right _ (List.mem_singleton.mpr rfl))) fk1032 rfl rfl hl.1 rfl (Nat.le_of_ble_eq_true rfl) dX4_faultText_46 ⟨by rw [hR3]; exact Nat.le_of_ble_eq_true rfl, by rw [hR4]; exact Nat.le_of_ble_eq_true rfl⟩ (fun v1036 L9 ad1037 st1038 H locs hp hW hS => ?_)
    obtain ⟨stq, z0, hs1039, fk1040, fk1041, h1042⟩ := hp
    cases z0
    subst h1042
    have fk1043 : st1038 (2, 0) = .inr (7, [.ref (ad1009 (3, 0)), .ref (ad1009 (4, 0)), .int (nI n), .ref (X.2.2 1), .int fk]) := (hs1039 (2, 0) (by decide) (by decide)).trans fk1034
    have sf1044 : ∀ x : ro, x ≠ (64, 0) → x ≠ (61, 0) → st1038 x = stc x := fun x a0 a1 => (hs1039 x a1 a0).trans (sf1035 x a0 a1)
    refine lv_topV (y := .ref (ad1009 (64, 0))) rfl ?_
    refine lv_pop hx hb dX4_faultText_49 rfl ?_
    refine lv_aload_n hx hb dX4_faultText_50 rfl (lv_at hl 0 rfl) ?_
    refine g_callVq (r := (64, 0)) (T := TJ4) (N := 4) (k2 := 0) (As := []) (rest := []) C (c_J4_toString_0e30d l X (L ++ [(64, 0)] ++ [(61, 0)]) ad1009 st1038 (0 + gsLen.getD 1 0 + 1 + 1) (upd (upd (va_cpy (fun j => (gsByt.getD 1 []).getD j 0) (fun _ => 0) 0 0 (gsLen.getD 1 0)) (0 + (gsLen.getD 1 0)) (vp_nar .byte 32)) ((0 + (gsLen.getD 1 0)) + 1) (vp_nar .byte fk)) (List.mem_append_left _ (List.mem_append_right _ (List.mem_singleton.mpr rfl))) (List.mem_append_right _ (List.mem_singleton.mpr rfl)) (nmem_app (nmem_app n62 (by decide)) (by decide)) (nmem_app (nmem_app n63 (by decide)) (by decide)) fk1041 fk1040 (fun j => by obtain ⟨c8, q1, q2⟩ := ftG_128 (w := 1) ⟨c9, hc9, hc9e⟩ j; show fits .byte (.int (ftG _ _ j)) = true; rw [q2]; exact ch_fb q1) (by decide)) tw_3_67 tw_3_68 tw_3_69 tw_1_24 tw_3_70 (by decide +kernel) ⟨by rw [hR1]; exact Nat.le_of_ble_eq_true rfl, by rw [hR2]; exact Nat.le_of_ble_eq_true rfl⟩ hW hS (List.mem_append_left _ (List.mem_append_right _ (List.mem_singleton.mpr rfl))) fk1041 rfl rfl hl.1 rfl (Nat.le_of_ble_eq_true rfl) dX4_faultText_51 ⟨by rw [hR3]; exact Nat.le_of_ble_eq_true rfl, by rw [hR4]; exact Nat.le_of_ble_eq_true rfl⟩ (fun v1045 L9 ad1046 st1047 H locs hp hW hS => ?_)
    obtain ⟨adq, stq, z0, ha1048, hs1049, fk1050, fk1051, h1052⟩ := hp
    cases z0
    subst h1052
    have hl : lv_has ls 2 [(1, .ref (ad1046 (64, 0))), (0, .ref (ad1046 (2, 0)))] := by rw [ha1048 (64, 0) (by decide) (by decide), ha1048 (2, 0) (by decide) (by decide)]; exact hl
    have fk1053 : st1047 (2, 0) = .inr (7, [.ref (ad1046 (3, 0)), .ref (ad1046 (4, 0)), .int (nI n), .ref (X.2.2 1), .int fk]) := ((hs1049 (2, 0) (by decide) (by decide)).trans fk1043).trans (by rw [ha1048 (3, 0) (by decide) (by decide), ha1048 (4, 0) (by decide) (by decide)])
    have fk1054 : st1047 (61, 0) = .inl (X.2.1 0, 16, .inl (upd (upd (va_cpy (fun j => (gsByt.getD 1 []).getD j 0) (fun _ => 0) 0 0 (gsLen.getD 1 0)) (0 + (gsLen.getD 1 0)) (vp_nar .byte 32)) ((0 + (gsLen.getD 1 0)) + 1) (vp_nar .byte fk))) := (hs1049 (61, 0) (by decide) (by decide)).trans fk1040
    have fk1055 : st1047 (64, 0) = .inr (1, [.ref (ad1046 (61, 0)), .int 0, .int 0, .int (nI (((0 + (gsLen.getD 1 0)) + 1) + 1))]) := ((hs1049 (64, 0) (by decide) (by decide)).trans fk1041).trans (by rw [ha1048 (61, 0) (by decide) (by decide)])
    have af1056 : ∀ x : ro, x ≠ (64, 0) → x ≠ (61, 0) → x ≠ (62, 0) → x ≠ (63, 0) → ad1046 x = ad x := fun x a0 a1 a2 a3 => (ha1048 x a2 a3).trans (af1016 x a0 a1)
    have sf1057 : ∀ x : ro, x ≠ (64, 0) → x ≠ (61, 0) → x ≠ (62, 0) → x ≠ (63, 0) → st1047 x = stc x := fun x a0 a1 a2 a3 => (hs1049 x a2 a3).trans (sf1044 x a0 a1)
    refine lv_topV (y := .ref (ad1046 (62, 0))) rfl ?_
    have hW9 : gW X A (L ++ [(62, 0)] ++ [(63, 0)]) ad1046 st1047 s H := gW_sub (fun r h => by simp only [List.mem_append, List.mem_singleton] at h ⊢; grind) ((gW_nodup hW).sublist (ft_sub L)) (fun _ _ => rfl) (fun _ _ => rfl) hW
    exact g_qret2 (L := L ++ [(62, 0)] ++ [(63, 0)]) (v := some (ad1046 (62, 0))) C (Or.inl ⟨_, rfl⟩) hQ hW9 hS ⟨fk, vals, 1, hT, Or.inr ⟨by decide, ad1046, st1047, rfl, rfl, (fun x b0 b1 b2 b3 => af1056 x b0 b1 b2 b3), (fun x b0 b1 b2 b3 => (sf1057 x b0 b1 b2 b3).trans (by rw [hstc])), fk1050, fk1051⟩⟩ (Nat.le_of_ble_eq_true rfl) (Nat.le_of_ble_eq_true rfl) dX4_faultText_54
  · subst hw
    refine lv_aload_n hx hb dX4_faultText_4 rfl (lv_at hl 0 rfl) ?_
    refine g_get (r := (2, 0)) (Cn := RX4) (T := TX4) (N := 5) (ci := 7) (v := .ref (X.2.2 ((ur2 cr 2 0 2) 2 0))) C tinX4 hW mA2 rfl rfl 3 (by decide) tw_1_51 (fun _ h9 => h9) rfl dX4_faultText_5 ?_
    refine g_callTi (k := ((ur2 cr 2 0 2) 2 0)) (k2 := 0) (As := []) (rest := []) (show ((ur2 cr 2 0 2) 2 0) < 6 by rw [show ((ur2 cr 2 0 2) 2 0) = 2 from ur2_at]; decide) C (c_J0_isEmpty_aae02 l X L ad _ ((ur2 cr 2 0 2) 2 0) (show ((ur2 cr 2 0 2) 2 0) < 6 by rw [show ((ur2 cr 2 0 2) 2 0) = 2 from ur2_at]; decide)) tw_2_11 tw_2_12 tw_2_13 tw_1_17 tw_2_14 (by decide +kernel) ⟨by rw [hR1]; exact Nat.le_of_ble_eq_true rfl, by rw [hR2]; exact Nat.le_of_ble_eq_true rfl⟩ hW hS rfl hl.1 rfl (Nat.le_of_ble_eq_true rfl) dX4_faultText_8 ⟨Nat.zero_le _, Nat.zero_le _⟩ (fun x3 H locs hp hW hS => ?_)
    rw [show ((ur2 cr 2 0 2) 2 0) = 2 from ur2_at] at hp
    obtain rfl : x3 = 0 := by rcases hp with ⟨a9, b9⟩ | ⟨a9, b9⟩ <;> first | exact b9 | exact absurd a9 (by decide) | exact absurd (by decide) a9
    refine lv_if_eq (tgt := 17) hx hb dX4_faultText_11 (by decide) (fun _ => ?_) (fun c9 => absurd (by decide) c9)
    obtain ⟨stc, hstc, hW⟩ : ∃ z, z = cSt X ad st0 (up2 ci 3 0 fk) (ua2 ca 4 0 vals) (ur2 cr 2 0 2) ∧ gW X A L ad z s H := ⟨_, rfl, hW⟩
    obtain ⟨c9, hc9, hc9e⟩ := rdT_fk hT (by decide)
    have e20 : stc (2, 0) = .inr (7, [.ref (ad (3, 0)), .ref (ad (4, 0)), .int (nI n), .ref (X.2.2 2), .int fk]) := by rw [hstc]; simp [cSt, cE, up2, ur2, hn]
    refine g_newo (r := (64, 0)) (Cn := RJ4) (T := TJ4) (N := 4) (ci := 1) (ty0 := tyJ4) (fs := [.null, .int 0, .int 0, .int 0]) C tinJ4 tyJ4_ok hW hS n64 rfl tw_2_176 tw_2_177 tw_1_24 (by intro j hj; rcases (show j = 0 ∨ j = 1 ∨ j = 2 ∨ j = 3 by omega) with rfl | rfl | rfl | rfl <;> rfl) (by rw [hR3]; exact Nat.le_of_ble_eq_true rfl) (by rw [hR4]; exact Nat.le_of_ble_eq_true rfl) dX4_faultText_17 (fun ad1058 st1059 H ha1060 fk1061 hs1062 hW hS => ?_)
    have hl : lv_has ls 2 [(0, .ref (ad1058 (2, 0)))] := by rw [ha1060 (2, 0) (by decide)]; exact hl
    have fk1063 : st1059 (2, 0) = .inr (7, [.ref (ad1058 (3, 0)), .ref (ad1058 (4, 0)), .int (nI n), .ref (X.2.2 2), .int fk]) := ((hs1062 (2, 0) (by decide)).trans e20).trans (by rw [ha1060 (3, 0) (by decide), ha1060 (4, 0) (by decide)])
    have af1064 : ∀ x : ro, x ≠ (64, 0) → ad1058 x = ad x := fun x a0 => ha1060 x a0
    have sf1065 : ∀ x : ro, x ≠ (64, 0) → st1059 x = stc x := fun x a0 => hs1062 x a0
    refine lv_dup hx hb dX4_faultText_20 rfl ?_
    refine g_callIv (k2 := 0) (As := []) (rest := [.ref (ad1058 (64, 0))]) C (c_J4_init_da8c8 l X (L ++ [(64, 0)]) ad1058 st1059 (List.mem_append_right _ (List.mem_singleton.mpr rfl)) (nmem_app n61 (by decide)) fk1061) tw_2_178 tw_2_179 tw_1_24 tw_2_180 (by decide +kernel) ⟨by rw [hR1]; exact Nat.le_of_ble_eq_true rfl, by rw [hR2]; exact Nat.le_of_ble_eq_true rfl⟩ hW hS rfl hl.1 rfl (Nat.le_of_ble_eq_true rfl) dX4_faultText_21 ⟨by rw [hR3]; exact Nat.le_of_ble_eq_true rfl, by rw [hR4]; exact Nat.le_of_ble_eq_true rfl⟩ (fun  L9 ad1066 st1067 H locs hp hW hS => ?_)
    obtain ⟨adq, stq, z0, ha1068, hs1069, fk1070, fk1071⟩ := hp
    cases z0
    have hl : lv_has ls 2 [(0, .ref (ad1066 (2, 0)))] := by rw [ha1068 (2, 0) (by decide)]; exact hl
    refine W.eq (g2 := F0 m 24 ls [.ref (ad1066 (64, 0))]) (by rw [ha1068 (64, 0) (by decide)] <;> rfl) ?_
    have fk1072 : st1067 (2, 0) = .inr (7, [.ref (ad1066 (3, 0)), .ref (ad1066 (4, 0)), .int (nI n), .ref (X.2.2 2), .int fk]) := ((hs1069 (2, 0) (by decide) (by decide)).trans fk1063).trans (by rw [ha1068 (3, 0) (by decide), ha1068 (4, 0) (by decide)])
    have af1073 : ∀ x : ro, x ≠ (64, 0) → x ≠ (61, 0) → ad1066 x = ad x := fun x a0 a1 => (ha1068 x a1).trans (af1064 x a0)
    have sf1074 : ∀ x : ro, x ≠ (64, 0) → x ≠ (61, 0) → st1067 x = stc x := fun x a0 a1 => (hs1069 x a1 a0).trans (sf1065 x a0)
    refine lv_astore_n (lv' := [(1, .ref (ad1066 (64, 0))), (0, .ref (ad1066 (2, 0)))]) hx hb dX4_faultText_24 rfl hl (by decide) rfl (fun ls hl => ?_)
    refine lv_aload_n hx hb dX4_faultText_25 rfl (lv_at hl 0 rfl) ?_
    refine lv_aload_n hx hb dX4_faultText_26 rfl (lv_at hl 1 rfl) ?_
    refine g_get (r := (2, 0)) (Cn := RX4) (T := TX4) (N := 5) (ci := 7) (v := .ref (X.2.2 2)) C tinX4 hW (List.mem_append_left _ (List.mem_append_left _ mA2)) fk1072 rfl 3 (by decide) tw_1_51 (fun _ h9 => h9) rfl dX4_faultText_27 ?_
    refine g_callVq (r := (64, 0)) (T := TJ4) (N := 4) (k2 := 1) (As := [.ref (X.2.2 2)]) (rest := []) C (c_J4_append_15ec4 l X (L ++ [(64, 0)] ++ [(61, 0)]) ad1066 st1067 0 (fun _ => 0) 2 (List.mem_append_left _ (List.mem_append_right _ (List.mem_singleton.mpr rfl))) (List.mem_append_right _ (List.mem_singleton.mpr rfl)) fk1070 fk1071 (by decide) (by decide)) tw_2_206 tw_2_207 tw_2_208 tw_1_24 tw_2_209 (by decide +kernel) ⟨by rw [hR1]; exact Nat.le_of_ble_eq_true rfl, by rw [hR2]; exact Nat.le_of_ble_eq_true rfl⟩ hW hS (List.mem_append_left _ (List.mem_append_right _ (List.mem_singleton.mpr rfl))) fk1070 rfl rfl hl.1 rfl (Nat.le_of_ble_eq_true rfl) dX4_faultText_30 ⟨by rw [hR3]; exact Nat.le_of_ble_eq_true rfl, by rw [hR4]; exact Nat.le_of_ble_eq_true rfl⟩ (fun v1075 L9 ad1076 st1077 H locs hp hW hS => ?_)
    obtain ⟨stq, z0, hs1078, fk1079, fk1080, h1081⟩ := hp
    cases z0
    subst h1081
    have fk1082 : st1077 (2, 0) = .inr (7, [.ref (ad1066 (3, 0)), .ref (ad1066 (4, 0)), .int (nI n), .ref (X.2.2 2), .int fk]) := (hs1078 (2, 0) (by decide) (by decide)).trans fk1072
    have sf1083 : ∀ x : ro, x ≠ (64, 0) → x ≠ (61, 0) → st1077 x = stc x := fun x a0 a1 => (hs1078 x a1 a0).trans (sf1074 x a0 a1)
    refine lv_topV (y := .ref (ad1066 (64, 0))) rfl ?_
    refine lv_pop hx hb dX4_faultText_33 rfl ?_
    refine lv_aload_n hx hb dX4_faultText_34 rfl (lv_at hl 0 rfl) ?_
    refine lv_bipush (v := 32) hx hb dX4_faultText_35 (by decide) ?_
    refine g_callVq (r := (64, 0)) (T := TJ4) (N := 4) (k2 := 1) (As := [.int 32]) (rest := []) C (c_J4_append_cf468 l X (L ++ [(64, 0)] ++ [(61, 0)]) ad1066 st1077 (0 + (gsLen.getD 2 0)) (va_cpy (fun j => (gsByt.getD 2 []).getD j 0) (fun _ => 0) 0 0 (gsLen.getD 2 0)) 32 (List.mem_append_left _ (List.mem_append_right _ (List.mem_singleton.mpr rfl))) (List.mem_append_right _ (List.mem_singleton.mpr rfl)) fk1080 fk1079 (by decide) (by decide) (by decide)) tw_3_54 tw_3_55 tw_3_56 tw_1_24 tw_3_57 (by decide +kernel) ⟨by rw [hR1]; exact Nat.le_of_ble_eq_true rfl, by rw [hR2]; exact Nat.le_of_ble_eq_true rfl⟩ hW hS (List.mem_append_left _ (List.mem_append_right _ (List.mem_singleton.mpr rfl))) fk1080 rfl rfl hl.1 rfl (Nat.le_of_ble_eq_true rfl) dX4_faultText_37 ⟨by rw [hR3]; exact Nat.le_of_ble_eq_true rfl, by rw [hR4]; exact Nat.le_of_ble_eq_true rfl⟩ (fun v1084 L9 ad1085 st1086 H locs hp hW hS => ?_)
    obtain ⟨stq, z0, hs1087, fk1088, fk1089, h1090⟩ := hp
    cases z0
    subst h1090
    have fk1091 : st1086 (2, 0) = .inr (7, [.ref (ad1066 (3, 0)), .ref (ad1066 (4, 0)), .int (nI n), .ref (X.2.2 2), .int fk]) := (hs1087 (2, 0) (by decide) (by decide)).trans fk1082
    have sf1092 : ∀ x : ro, x ≠ (64, 0) → x ≠ (61, 0) → st1086 x = stc x := fun x a0 a1 => (hs1087 x a1 a0).trans (sf1083 x a0 a1)
    refine lv_topV (y := .ref (ad1066 (64, 0))) rfl ?_
    refine lv_pop hx hb dX4_faultText_40 rfl ?_
    refine lv_aload_n hx hb dX4_faultText_41 rfl (lv_at hl 0 rfl) ?_
    refine lv_aload_n hx hb dX4_faultText_42 rfl (lv_at hl 1 rfl) ?_
    refine g_get (r := (2, 0)) (Cn := RX4) (T := TX4) (N := 5) (ci := 7) (v := .int fk) C tinX4 hW (List.mem_append_left _ (List.mem_append_left _ mA2)) fk1091 rfl 4 (by decide) tw_1_52 (fun _ h9 => h9) rfl dX4_faultText_43 ?_
    refine g_callVq (r := (64, 0)) (T := TJ4) (N := 4) (k2 := 1) (As := [.int fk]) (rest := []) C (c_J4_append_cf468 l X (L ++ [(64, 0)] ++ [(61, 0)]) ad1066 st1086 ((0 + (gsLen.getD 2 0)) + 1) (upd (va_cpy (fun j => (gsByt.getD 2 []).getD j 0) (fun _ => 0) 0 0 (gsLen.getD 2 0)) (0 + (gsLen.getD 2 0)) (vp_nar .byte 32)) fk (List.mem_append_left _ (List.mem_append_right _ (List.mem_singleton.mpr rfl))) (List.mem_append_right _ (List.mem_singleton.mpr rfl)) fk1089 fk1088 (by rw [hc9e]; exact ch_le hc9) (by rw [hc9e]; exact ch_i8 hc9) (by decide)) tw_3_54 tw_3_55 tw_3_56 tw_1_24 tw_3_57 (by decide +kernel) ⟨by rw [hR1]; exact Nat.le_of_ble_eq_true rfl, by rw [hR2]; exact Nat.le_of_ble_eq_true rfl⟩ hW hS (List.mem_append_left _ (List.mem_append_right _ (List.mem_singleton.mpr rfl))) fk1089 rfl rfl hl.1 rfl (Nat.le_of_ble_eq_true rfl) dX4_faultText_46 ⟨by rw [hR3]; exact Nat.le_of_ble_eq_true rfl, by rw [hR4]; exact Nat.le_of_ble_eq_true rfl⟩ (fun v1093 L9 ad1094 st1095 H locs hp hW hS => ?_)
    obtain ⟨stq, z0, hs1096, fk1097, fk1098, h1099⟩ := hp
    cases z0
    subst h1099
    have fk1100 : st1095 (2, 0) = .inr (7, [.ref (ad1066 (3, 0)), .ref (ad1066 (4, 0)), .int (nI n), .ref (X.2.2 2), .int fk]) := (hs1096 (2, 0) (by decide) (by decide)).trans fk1091
    have sf1101 : ∀ x : ro, x ≠ (64, 0) → x ≠ (61, 0) → st1095 x = stc x := fun x a0 a1 => (hs1096 x a1 a0).trans (sf1092 x a0 a1)
    refine lv_topV (y := .ref (ad1066 (64, 0))) rfl ?_
    refine lv_pop hx hb dX4_faultText_49 rfl ?_
    refine lv_aload_n hx hb dX4_faultText_50 rfl (lv_at hl 0 rfl) ?_
    refine g_callVq (r := (64, 0)) (T := TJ4) (N := 4) (k2 := 0) (As := []) (rest := []) C (c_J4_toString_0e30d l X (L ++ [(64, 0)] ++ [(61, 0)]) ad1066 st1095 (0 + gsLen.getD 2 0 + 1 + 1) (upd (upd (va_cpy (fun j => (gsByt.getD 2 []).getD j 0) (fun _ => 0) 0 0 (gsLen.getD 2 0)) (0 + (gsLen.getD 2 0)) (vp_nar .byte 32)) ((0 + (gsLen.getD 2 0)) + 1) (vp_nar .byte fk)) (List.mem_append_left _ (List.mem_append_right _ (List.mem_singleton.mpr rfl))) (List.mem_append_right _ (List.mem_singleton.mpr rfl)) (nmem_app (nmem_app n62 (by decide)) (by decide)) (nmem_app (nmem_app n63 (by decide)) (by decide)) fk1098 fk1097 (fun j => by obtain ⟨c8, q1, q2⟩ := ftG_128 (w := 2) ⟨c9, hc9, hc9e⟩ j; show fits .byte (.int (ftG _ _ j)) = true; rw [q2]; exact ch_fb q1) (by decide)) tw_3_67 tw_3_68 tw_3_69 tw_1_24 tw_3_70 (by decide +kernel) ⟨by rw [hR1]; exact Nat.le_of_ble_eq_true rfl, by rw [hR2]; exact Nat.le_of_ble_eq_true rfl⟩ hW hS (List.mem_append_left _ (List.mem_append_right _ (List.mem_singleton.mpr rfl))) fk1098 rfl rfl hl.1 rfl (Nat.le_of_ble_eq_true rfl) dX4_faultText_51 ⟨by rw [hR3]; exact Nat.le_of_ble_eq_true rfl, by rw [hR4]; exact Nat.le_of_ble_eq_true rfl⟩ (fun v1102 L9 ad1103 st1104 H locs hp hW hS => ?_)
    obtain ⟨adq, stq, z0, ha1105, hs1106, fk1107, fk1108, h1109⟩ := hp
    cases z0
    subst h1109
    have hl : lv_has ls 2 [(1, .ref (ad1103 (64, 0))), (0, .ref (ad1103 (2, 0)))] := by rw [ha1105 (64, 0) (by decide) (by decide), ha1105 (2, 0) (by decide) (by decide)]; exact hl
    have fk1110 : st1104 (2, 0) = .inr (7, [.ref (ad1103 (3, 0)), .ref (ad1103 (4, 0)), .int (nI n), .ref (X.2.2 2), .int fk]) := ((hs1106 (2, 0) (by decide) (by decide)).trans fk1100).trans (by rw [ha1105 (3, 0) (by decide) (by decide), ha1105 (4, 0) (by decide) (by decide)])
    have fk1111 : st1104 (61, 0) = .inl (X.2.1 0, 16, .inl (upd (upd (va_cpy (fun j => (gsByt.getD 2 []).getD j 0) (fun _ => 0) 0 0 (gsLen.getD 2 0)) (0 + (gsLen.getD 2 0)) (vp_nar .byte 32)) ((0 + (gsLen.getD 2 0)) + 1) (vp_nar .byte fk))) := (hs1106 (61, 0) (by decide) (by decide)).trans fk1097
    have fk1112 : st1104 (64, 0) = .inr (1, [.ref (ad1103 (61, 0)), .int 0, .int 0, .int (nI (((0 + (gsLen.getD 2 0)) + 1) + 1))]) := ((hs1106 (64, 0) (by decide) (by decide)).trans fk1098).trans (by rw [ha1105 (61, 0) (by decide) (by decide)])
    have af1113 : ∀ x : ro, x ≠ (64, 0) → x ≠ (61, 0) → x ≠ (62, 0) → x ≠ (63, 0) → ad1103 x = ad x := fun x a0 a1 a2 a3 => (ha1105 x a2 a3).trans (af1073 x a0 a1)
    have sf1114 : ∀ x : ro, x ≠ (64, 0) → x ≠ (61, 0) → x ≠ (62, 0) → x ≠ (63, 0) → st1104 x = stc x := fun x a0 a1 a2 a3 => (hs1106 x a2 a3).trans (sf1101 x a0 a1)
    refine lv_topV (y := .ref (ad1103 (62, 0))) rfl ?_
    have hW9 : gW X A (L ++ [(62, 0)] ++ [(63, 0)]) ad1103 st1104 s H := gW_sub (fun r h => by simp only [List.mem_append, List.mem_singleton] at h ⊢; grind) ((gW_nodup hW).sublist (ft_sub L)) (fun _ _ => rfl) (fun _ _ => rfl) hW
    exact g_qret2 (L := L ++ [(62, 0)] ++ [(63, 0)]) (v := some (ad1103 (62, 0))) C (Or.inl ⟨_, rfl⟩) hQ hW9 hS ⟨fk, vals, 2, hT, Or.inr ⟨by decide, ad1103, st1104, rfl, rfl, (fun x b0 b1 b2 b3 => af1113 x b0 b1 b2 b3), (fun x b0 b1 b2 b3 => (sf1114 x b0 b1 b2 b3).trans (by rw [hstc])), fk1107, fk1108⟩⟩ (Nat.le_of_ble_eq_true rfl) (Nat.le_of_ble_eq_true rfl) dX4_faultText_54
  · subst hw
    refine lv_aload_n hx hb dX4_faultText_4 rfl (lv_at hl 0 rfl) ?_
    refine g_get (r := (2, 0)) (Cn := RX4) (T := TX4) (N := 5) (ci := 7) (v := .ref (X.2.2 ((ur2 cr 2 0 3) 2 0))) C tinX4 hW mA2 rfl rfl 3 (by decide) tw_1_51 (fun _ h9 => h9) rfl dX4_faultText_5 ?_
    refine g_callTi (k := ((ur2 cr 2 0 3) 2 0)) (k2 := 0) (As := []) (rest := []) (show ((ur2 cr 2 0 3) 2 0) < 6 by rw [show ((ur2 cr 2 0 3) 2 0) = 3 from ur2_at]; decide) C (c_J0_isEmpty_aae02 l X L ad _ ((ur2 cr 2 0 3) 2 0) (show ((ur2 cr 2 0 3) 2 0) < 6 by rw [show ((ur2 cr 2 0 3) 2 0) = 3 from ur2_at]; decide)) tw_2_11 tw_2_12 tw_2_13 tw_1_17 tw_2_14 (by decide +kernel) ⟨by rw [hR1]; exact Nat.le_of_ble_eq_true rfl, by rw [hR2]; exact Nat.le_of_ble_eq_true rfl⟩ hW hS rfl hl.1 rfl (Nat.le_of_ble_eq_true rfl) dX4_faultText_8 ⟨Nat.zero_le _, Nat.zero_le _⟩ (fun x4 H locs hp hW hS => ?_)
    rw [show ((ur2 cr 2 0 3) 2 0) = 3 from ur2_at] at hp
    obtain rfl : x4 = 0 := by rcases hp with ⟨a9, b9⟩ | ⟨a9, b9⟩ <;> first | exact b9 | exact absurd a9 (by decide) | exact absurd (by decide) a9
    refine lv_if_eq (tgt := 17) hx hb dX4_faultText_11 (by decide) (fun _ => ?_) (fun c9 => absurd (by decide) c9)
    obtain ⟨stc, hstc, hW⟩ : ∃ z, z = cSt X ad st0 (up2 ci 3 0 fk) (ua2 ca 4 0 vals) (ur2 cr 2 0 3) ∧ gW X A L ad z s H := ⟨_, rfl, hW⟩
    obtain ⟨c9, hc9, hc9e⟩ := rdT_fk hT (by decide)
    have e20 : stc (2, 0) = .inr (7, [.ref (ad (3, 0)), .ref (ad (4, 0)), .int (nI n), .ref (X.2.2 3), .int fk]) := by rw [hstc]; simp [cSt, cE, up2, ur2, hn]
    refine g_newo (r := (64, 0)) (Cn := RJ4) (T := TJ4) (N := 4) (ci := 1) (ty0 := tyJ4) (fs := [.null, .int 0, .int 0, .int 0]) C tinJ4 tyJ4_ok hW hS n64 rfl tw_2_176 tw_2_177 tw_1_24 (by intro j hj; rcases (show j = 0 ∨ j = 1 ∨ j = 2 ∨ j = 3 by omega) with rfl | rfl | rfl | rfl <;> rfl) (by rw [hR3]; exact Nat.le_of_ble_eq_true rfl) (by rw [hR4]; exact Nat.le_of_ble_eq_true rfl) dX4_faultText_17 (fun ad1115 st1116 H ha1117 fk1118 hs1119 hW hS => ?_)
    have hl : lv_has ls 2 [(0, .ref (ad1115 (2, 0)))] := by rw [ha1117 (2, 0) (by decide)]; exact hl
    have fk1120 : st1116 (2, 0) = .inr (7, [.ref (ad1115 (3, 0)), .ref (ad1115 (4, 0)), .int (nI n), .ref (X.2.2 3), .int fk]) := ((hs1119 (2, 0) (by decide)).trans e20).trans (by rw [ha1117 (3, 0) (by decide), ha1117 (4, 0) (by decide)])
    have af1121 : ∀ x : ro, x ≠ (64, 0) → ad1115 x = ad x := fun x a0 => ha1117 x a0
    have sf1122 : ∀ x : ro, x ≠ (64, 0) → st1116 x = stc x := fun x a0 => hs1119 x a0
    refine lv_dup hx hb dX4_faultText_20 rfl ?_
    refine g_callIv (k2 := 0) (As := []) (rest := [.ref (ad1115 (64, 0))]) C (c_J4_init_da8c8 l X (L ++ [(64, 0)]) ad1115 st1116 (List.mem_append_right _ (List.mem_singleton.mpr rfl)) (nmem_app n61 (by decide)) fk1118) tw_2_178 tw_2_179 tw_1_24 tw_2_180 (by decide +kernel) ⟨by rw [hR1]; exact Nat.le_of_ble_eq_true rfl, by rw [hR2]; exact Nat.le_of_ble_eq_true rfl⟩ hW hS rfl hl.1 rfl (Nat.le_of_ble_eq_true rfl) dX4_faultText_21 ⟨by rw [hR3]; exact Nat.le_of_ble_eq_true rfl, by rw [hR4]; exact Nat.le_of_ble_eq_true rfl⟩ (fun  L9 ad1123 st1124 H locs hp hW hS => ?_)
    obtain ⟨adq, stq, z0, ha1125, hs1126, fk1127, fk1128⟩ := hp
    cases z0
    have hl : lv_has ls 2 [(0, .ref (ad1123 (2, 0)))] := by rw [ha1125 (2, 0) (by decide)]; exact hl
    refine W.eq (g2 := F0 m 24 ls [.ref (ad1123 (64, 0))]) (by rw [ha1125 (64, 0) (by decide)] <;> rfl) ?_
    have fk1129 : st1124 (2, 0) = .inr (7, [.ref (ad1123 (3, 0)), .ref (ad1123 (4, 0)), .int (nI n), .ref (X.2.2 3), .int fk]) := ((hs1126 (2, 0) (by decide) (by decide)).trans fk1120).trans (by rw [ha1125 (3, 0) (by decide), ha1125 (4, 0) (by decide)])
    have af1130 : ∀ x : ro, x ≠ (64, 0) → x ≠ (61, 0) → ad1123 x = ad x := fun x a0 a1 => (ha1125 x a1).trans (af1121 x a0)
    have sf1131 : ∀ x : ro, x ≠ (64, 0) → x ≠ (61, 0) → st1124 x = stc x := fun x a0 a1 => (hs1126 x a1 a0).trans (sf1122 x a0)
    refine lv_astore_n (lv' := [(1, .ref (ad1123 (64, 0))), (0, .ref (ad1123 (2, 0)))]) hx hb dX4_faultText_24 rfl hl (by decide) rfl (fun ls hl => ?_)
    refine lv_aload_n hx hb dX4_faultText_25 rfl (lv_at hl 0 rfl) ?_
    refine lv_aload_n hx hb dX4_faultText_26 rfl (lv_at hl 1 rfl) ?_
    refine g_get (r := (2, 0)) (Cn := RX4) (T := TX4) (N := 5) (ci := 7) (v := .ref (X.2.2 3)) C tinX4 hW (List.mem_append_left _ (List.mem_append_left _ mA2)) fk1129 rfl 3 (by decide) tw_1_51 (fun _ h9 => h9) rfl dX4_faultText_27 ?_
    refine g_callVq (r := (64, 0)) (T := TJ4) (N := 4) (k2 := 1) (As := [.ref (X.2.2 3)]) (rest := []) C (c_J4_append_15ec4 l X (L ++ [(64, 0)] ++ [(61, 0)]) ad1123 st1124 0 (fun _ => 0) 3 (List.mem_append_left _ (List.mem_append_right _ (List.mem_singleton.mpr rfl))) (List.mem_append_right _ (List.mem_singleton.mpr rfl)) fk1127 fk1128 (by decide) (by decide)) tw_2_206 tw_2_207 tw_2_208 tw_1_24 tw_2_209 (by decide +kernel) ⟨by rw [hR1]; exact Nat.le_of_ble_eq_true rfl, by rw [hR2]; exact Nat.le_of_ble_eq_true rfl⟩ hW hS (List.mem_append_left _ (List.mem_append_right _ (List.mem_singleton.mpr rfl))) fk1127 rfl rfl hl.1 rfl (Nat.le_of_ble_eq_true rfl) dX4_faultText_30 ⟨by rw [hR3]; exact Nat.le_of_ble_eq_true rfl, by rw [hR4]; exact Nat.le_of_ble_eq_true rfl⟩ (fun v1132 L9 ad1133 st1134 H locs hp hW hS => ?_)
    obtain ⟨stq, z0, hs1135, fk1136, fk1137, h1138⟩ := hp
    cases z0
    subst h1138
    have fk1139 : st1134 (2, 0) = .inr (7, [.ref (ad1123 (3, 0)), .ref (ad1123 (4, 0)), .int (nI n), .ref (X.2.2 3), .int fk]) := (hs1135 (2, 0) (by decide) (by decide)).trans fk1129
    have sf1140 : ∀ x : ro, x ≠ (64, 0) → x ≠ (61, 0) → st1134 x = stc x := fun x a0 a1 => (hs1135 x a1 a0).trans (sf1131 x a0 a1)
    refine lv_topV (y := .ref (ad1123 (64, 0))) rfl ?_
    refine lv_pop hx hb dX4_faultText_33 rfl ?_
    refine lv_aload_n hx hb dX4_faultText_34 rfl (lv_at hl 0 rfl) ?_
    refine lv_bipush (v := 32) hx hb dX4_faultText_35 (by decide) ?_
    refine g_callVq (r := (64, 0)) (T := TJ4) (N := 4) (k2 := 1) (As := [.int 32]) (rest := []) C (c_J4_append_cf468 l X (L ++ [(64, 0)] ++ [(61, 0)]) ad1123 st1134 (0 + (gsLen.getD 3 0)) (va_cpy (fun j => (gsByt.getD 3 []).getD j 0) (fun _ => 0) 0 0 (gsLen.getD 3 0)) 32 (List.mem_append_left _ (List.mem_append_right _ (List.mem_singleton.mpr rfl))) (List.mem_append_right _ (List.mem_singleton.mpr rfl)) fk1137 fk1136 (by decide) (by decide) (by decide)) tw_3_54 tw_3_55 tw_3_56 tw_1_24 tw_3_57 (by decide +kernel) ⟨by rw [hR1]; exact Nat.le_of_ble_eq_true rfl, by rw [hR2]; exact Nat.le_of_ble_eq_true rfl⟩ hW hS (List.mem_append_left _ (List.mem_append_right _ (List.mem_singleton.mpr rfl))) fk1137 rfl rfl hl.1 rfl (Nat.le_of_ble_eq_true rfl) dX4_faultText_37 ⟨by rw [hR3]; exact Nat.le_of_ble_eq_true rfl, by rw [hR4]; exact Nat.le_of_ble_eq_true rfl⟩ (fun v1141 L9 ad1142 st1143 H locs hp hW hS => ?_)
    obtain ⟨stq, z0, hs1144, fk1145, fk1146, h1147⟩ := hp
    cases z0
    subst h1147
    have fk1148 : st1143 (2, 0) = .inr (7, [.ref (ad1123 (3, 0)), .ref (ad1123 (4, 0)), .int (nI n), .ref (X.2.2 3), .int fk]) := (hs1144 (2, 0) (by decide) (by decide)).trans fk1139
    have sf1149 : ∀ x : ro, x ≠ (64, 0) → x ≠ (61, 0) → st1143 x = stc x := fun x a0 a1 => (hs1144 x a1 a0).trans (sf1140 x a0 a1)
    refine lv_topV (y := .ref (ad1123 (64, 0))) rfl ?_
    refine lv_pop hx hb dX4_faultText_40 rfl ?_
    refine lv_aload_n hx hb dX4_faultText_41 rfl (lv_at hl 0 rfl) ?_
    refine lv_aload_n hx hb dX4_faultText_42 rfl (lv_at hl 1 rfl) ?_
    refine g_get (r := (2, 0)) (Cn := RX4) (T := TX4) (N := 5) (ci := 7) (v := .int fk) C tinX4 hW (List.mem_append_left _ (List.mem_append_left _ mA2)) fk1148 rfl 4 (by decide) tw_1_52 (fun _ h9 => h9) rfl dX4_faultText_43 ?_
    refine g_callVq (r := (64, 0)) (T := TJ4) (N := 4) (k2 := 1) (As := [.int fk]) (rest := []) C (c_J4_append_cf468 l X (L ++ [(64, 0)] ++ [(61, 0)]) ad1123 st1143 ((0 + (gsLen.getD 3 0)) + 1) (upd (va_cpy (fun j => (gsByt.getD 3 []).getD j 0) (fun _ => 0) 0 0 (gsLen.getD 3 0)) (0 + (gsLen.getD 3 0)) (vp_nar .byte 32)) fk (List.mem_append_left _ (List.mem_append_right _ (List.mem_singleton.mpr rfl))) (List.mem_append_right _ (List.mem_singleton.mpr rfl)) fk1146 fk1145 (by rw [hc9e]; exact ch_le hc9) (by rw [hc9e]; exact ch_i8 hc9) (by decide)) tw_3_54 tw_3_55 tw_3_56 tw_1_24 tw_3_57 (by decide +kernel) ⟨by rw [hR1]; exact Nat.le_of_ble_eq_true rfl, by rw [hR2]; exact Nat.le_of_ble_eq_true rfl⟩ hW hS (List.mem_append_left _ (List.mem_append_right _ (List.mem_singleton.mpr rfl))) fk1146 rfl rfl hl.1 rfl (Nat.le_of_ble_eq_true rfl) dX4_faultText_46 ⟨by rw [hR3]; exact Nat.le_of_ble_eq_true rfl, by rw [hR4]; exact Nat.le_of_ble_eq_true rfl⟩ (fun v1150 L9 ad1151 st1152 H locs hp hW hS => ?_)
    obtain ⟨stq, z0, hs1153, fk1154, fk1155, h1156⟩ := hp
    cases z0
    subst h1156
    have fk1157 : st1152 (2, 0) = .inr (7, [.ref (ad1123 (3, 0)), .ref (ad1123 (4, 0)), .int (nI n), .ref (X.2.2 3), .int fk]) := (hs1153 (2, 0) (by decide) (by decide)).trans fk1148
    have sf1158 : ∀ x : ro, x ≠ (64, 0) → x ≠ (61, 0) → st1152 x = stc x := fun x a0 a1 => (hs1153 x a1 a0).trans (sf1149 x a0 a1)
    refine lv_topV (y := .ref (ad1123 (64, 0))) rfl ?_
    refine lv_pop hx hb dX4_faultText_49 rfl ?_
    refine lv_aload_n hx hb dX4_faultText_50 rfl (lv_at hl 0 rfl) ?_
    refine g_callVq (r := (64, 0)) (T := TJ4) (N := 4) (k2 := 0) (As := []) (rest := []) C (c_J4_toString_0e30d l X (L ++ [(64, 0)] ++ [(61, 0)]) ad1123 st1152 (0 + gsLen.getD 3 0 + 1 + 1) (upd (upd (va_cpy (fun j => (gsByt.getD 3 []).getD j 0) (fun _ => 0) 0 0 (gsLen.getD 3 0)) (0 + (gsLen.getD 3 0)) (vp_nar .byte 32)) ((0 + (gsLen.getD 3 0)) + 1) (vp_nar .byte fk)) (List.mem_append_left _ (List.mem_append_right _ (List.mem_singleton.mpr rfl))) (List.mem_append_right _ (List.mem_singleton.mpr rfl)) (nmem_app (nmem_app n62 (by decide)) (by decide)) (nmem_app (nmem_app n63 (by decide)) (by decide)) fk1155 fk1154 (fun j => by obtain ⟨c8, q1, q2⟩ := ftG_128 (w := 3) ⟨c9, hc9, hc9e⟩ j; show fits .byte (.int (ftG _ _ j)) = true; rw [q2]; exact ch_fb q1) (by decide)) tw_3_67 tw_3_68 tw_3_69 tw_1_24 tw_3_70 (by decide +kernel) ⟨by rw [hR1]; exact Nat.le_of_ble_eq_true rfl, by rw [hR2]; exact Nat.le_of_ble_eq_true rfl⟩ hW hS (List.mem_append_left _ (List.mem_append_right _ (List.mem_singleton.mpr rfl))) fk1155 rfl rfl hl.1 rfl (Nat.le_of_ble_eq_true rfl) dX4_faultText_51 ⟨by rw [hR3]; exact Nat.le_of_ble_eq_true rfl, by rw [hR4]; exact Nat.le_of_ble_eq_true rfl⟩ (fun v1159 L9 ad1160 st1161 H locs hp hW hS => ?_)
    obtain ⟨adq, stq, z0, ha1162, hs1163, fk1164, fk1165, h1166⟩ := hp
    cases z0
    subst h1166
    have hl : lv_has ls 2 [(1, .ref (ad1160 (64, 0))), (0, .ref (ad1160 (2, 0)))] := by rw [ha1162 (64, 0) (by decide) (by decide), ha1162 (2, 0) (by decide) (by decide)]; exact hl
    have fk1167 : st1161 (2, 0) = .inr (7, [.ref (ad1160 (3, 0)), .ref (ad1160 (4, 0)), .int (nI n), .ref (X.2.2 3), .int fk]) := ((hs1163 (2, 0) (by decide) (by decide)).trans fk1157).trans (by rw [ha1162 (3, 0) (by decide) (by decide), ha1162 (4, 0) (by decide) (by decide)])
    have fk1168 : st1161 (61, 0) = .inl (X.2.1 0, 16, .inl (upd (upd (va_cpy (fun j => (gsByt.getD 3 []).getD j 0) (fun _ => 0) 0 0 (gsLen.getD 3 0)) (0 + (gsLen.getD 3 0)) (vp_nar .byte 32)) ((0 + (gsLen.getD 3 0)) + 1) (vp_nar .byte fk))) := (hs1163 (61, 0) (by decide) (by decide)).trans fk1154
    have fk1169 : st1161 (64, 0) = .inr (1, [.ref (ad1160 (61, 0)), .int 0, .int 0, .int (nI (((0 + (gsLen.getD 3 0)) + 1) + 1))]) := ((hs1163 (64, 0) (by decide) (by decide)).trans fk1155).trans (by rw [ha1162 (61, 0) (by decide) (by decide)])
    have af1170 : ∀ x : ro, x ≠ (64, 0) → x ≠ (61, 0) → x ≠ (62, 0) → x ≠ (63, 0) → ad1160 x = ad x := fun x a0 a1 a2 a3 => (ha1162 x a2 a3).trans (af1130 x a0 a1)
    have sf1171 : ∀ x : ro, x ≠ (64, 0) → x ≠ (61, 0) → x ≠ (62, 0) → x ≠ (63, 0) → st1161 x = stc x := fun x a0 a1 a2 a3 => (hs1163 x a2 a3).trans (sf1158 x a0 a1)
    refine lv_topV (y := .ref (ad1160 (62, 0))) rfl ?_
    have hW9 : gW X A (L ++ [(62, 0)] ++ [(63, 0)]) ad1160 st1161 s H := gW_sub (fun r h => by simp only [List.mem_append, List.mem_singleton] at h ⊢; grind) ((gW_nodup hW).sublist (ft_sub L)) (fun _ _ => rfl) (fun _ _ => rfl) hW
    exact g_qret2 (L := L ++ [(62, 0)] ++ [(63, 0)]) (v := some (ad1160 (62, 0))) C (Or.inl ⟨_, rfl⟩) hQ hW9 hS ⟨fk, vals, 3, hT, Or.inr ⟨by decide, ad1160, st1161, rfl, rfl, (fun x b0 b1 b2 b3 => af1170 x b0 b1 b2 b3), (fun x b0 b1 b2 b3 => (sf1171 x b0 b1 b2 b3).trans (by rw [hstc])), fk1164, fk1165⟩⟩ (Nat.le_of_ble_eq_true rfl) (Nat.le_of_ble_eq_true rfl) dX4_faultText_54
  · subst hw
    refine lv_aload_n hx hb dX4_faultText_4 rfl (lv_at hl 0 rfl) ?_
    refine g_get (r := (2, 0)) (Cn := RX4) (T := TX4) (N := 5) (ci := 7) (v := .ref (X.2.2 ((ur2 cr 2 0 4) 2 0))) C tinX4 hW mA2 rfl rfl 3 (by decide) tw_1_51 (fun _ h9 => h9) rfl dX4_faultText_5 ?_
    refine g_callTi (k := ((ur2 cr 2 0 4) 2 0)) (k2 := 0) (As := []) (rest := []) (show ((ur2 cr 2 0 4) 2 0) < 6 by rw [show ((ur2 cr 2 0 4) 2 0) = 4 from ur2_at]; decide) C (c_J0_isEmpty_aae02 l X L ad _ ((ur2 cr 2 0 4) 2 0) (show ((ur2 cr 2 0 4) 2 0) < 6 by rw [show ((ur2 cr 2 0 4) 2 0) = 4 from ur2_at]; decide)) tw_2_11 tw_2_12 tw_2_13 tw_1_17 tw_2_14 (by decide +kernel) ⟨by rw [hR1]; exact Nat.le_of_ble_eq_true rfl, by rw [hR2]; exact Nat.le_of_ble_eq_true rfl⟩ hW hS rfl hl.1 rfl (Nat.le_of_ble_eq_true rfl) dX4_faultText_8 ⟨Nat.zero_le _, Nat.zero_le _⟩ (fun x5 H locs hp hW hS => ?_)
    rw [show ((ur2 cr 2 0 4) 2 0) = 4 from ur2_at] at hp
    obtain rfl : x5 = 0 := by rcases hp with ⟨a9, b9⟩ | ⟨a9, b9⟩ <;> first | exact b9 | exact absurd a9 (by decide) | exact absurd (by decide) a9
    refine lv_if_eq (tgt := 17) hx hb dX4_faultText_11 (by decide) (fun _ => ?_) (fun c9 => absurd (by decide) c9)
    obtain ⟨stc, hstc, hW⟩ : ∃ z, z = cSt X ad st0 (up2 ci 3 0 fk) (ua2 ca 4 0 vals) (ur2 cr 2 0 4) ∧ gW X A L ad z s H := ⟨_, rfl, hW⟩
    obtain ⟨c9, hc9, hc9e⟩ := rdT_fk hT (by decide)
    have e20 : stc (2, 0) = .inr (7, [.ref (ad (3, 0)), .ref (ad (4, 0)), .int (nI n), .ref (X.2.2 4), .int fk]) := by rw [hstc]; simp [cSt, cE, up2, ur2, hn]
    refine g_newo (r := (64, 0)) (Cn := RJ4) (T := TJ4) (N := 4) (ci := 1) (ty0 := tyJ4) (fs := [.null, .int 0, .int 0, .int 0]) C tinJ4 tyJ4_ok hW hS n64 rfl tw_2_176 tw_2_177 tw_1_24 (by intro j hj; rcases (show j = 0 ∨ j = 1 ∨ j = 2 ∨ j = 3 by omega) with rfl | rfl | rfl | rfl <;> rfl) (by rw [hR3]; exact Nat.le_of_ble_eq_true rfl) (by rw [hR4]; exact Nat.le_of_ble_eq_true rfl) dX4_faultText_17 (fun ad1172 st1173 H ha1174 fk1175 hs1176 hW hS => ?_)
    have hl : lv_has ls 2 [(0, .ref (ad1172 (2, 0)))] := by rw [ha1174 (2, 0) (by decide)]; exact hl
    have fk1177 : st1173 (2, 0) = .inr (7, [.ref (ad1172 (3, 0)), .ref (ad1172 (4, 0)), .int (nI n), .ref (X.2.2 4), .int fk]) := ((hs1176 (2, 0) (by decide)).trans e20).trans (by rw [ha1174 (3, 0) (by decide), ha1174 (4, 0) (by decide)])
    have af1178 : ∀ x : ro, x ≠ (64, 0) → ad1172 x = ad x := fun x a0 => ha1174 x a0
    have sf1179 : ∀ x : ro, x ≠ (64, 0) → st1173 x = stc x := fun x a0 => hs1176 x a0
    refine lv_dup hx hb dX4_faultText_20 rfl ?_
    refine g_callIv (k2 := 0) (As := []) (rest := [.ref (ad1172 (64, 0))]) C (c_J4_init_da8c8 l X (L ++ [(64, 0)]) ad1172 st1173 (List.mem_append_right _ (List.mem_singleton.mpr rfl)) (nmem_app n61 (by decide)) fk1175) tw_2_178 tw_2_179 tw_1_24 tw_2_180 (by decide +kernel) ⟨by rw [hR1]; exact Nat.le_of_ble_eq_true rfl, by rw [hR2]; exact Nat.le_of_ble_eq_true rfl⟩ hW hS rfl hl.1 rfl (Nat.le_of_ble_eq_true rfl) dX4_faultText_21 ⟨by rw [hR3]; exact Nat.le_of_ble_eq_true rfl, by rw [hR4]; exact Nat.le_of_ble_eq_true rfl⟩ (fun  L9 ad1180 st1181 H locs hp hW hS => ?_)
    obtain ⟨adq, stq, z0, ha1182, hs1183, fk1184, fk1185⟩ := hp
    cases z0
    have hl : lv_has ls 2 [(0, .ref (ad1180 (2, 0)))] := by rw [ha1182 (2, 0) (by decide)]; exact hl
    refine W.eq (g2 := F0 m 24 ls [.ref (ad1180 (64, 0))]) (by rw [ha1182 (64, 0) (by decide)] <;> rfl) ?_
    have fk1186 : st1181 (2, 0) = .inr (7, [.ref (ad1180 (3, 0)), .ref (ad1180 (4, 0)), .int (nI n), .ref (X.2.2 4), .int fk]) := ((hs1183 (2, 0) (by decide) (by decide)).trans fk1177).trans (by rw [ha1182 (3, 0) (by decide), ha1182 (4, 0) (by decide)])
    have af1187 : ∀ x : ro, x ≠ (64, 0) → x ≠ (61, 0) → ad1180 x = ad x := fun x a0 a1 => (ha1182 x a1).trans (af1178 x a0)
    have sf1188 : ∀ x : ro, x ≠ (64, 0) → x ≠ (61, 0) → st1181 x = stc x := fun x a0 a1 => (hs1183 x a1 a0).trans (sf1179 x a0)
    refine lv_astore_n (lv' := [(1, .ref (ad1180 (64, 0))), (0, .ref (ad1180 (2, 0)))]) hx hb dX4_faultText_24 rfl hl (by decide) rfl (fun ls hl => ?_)
    refine lv_aload_n hx hb dX4_faultText_25 rfl (lv_at hl 0 rfl) ?_
    refine lv_aload_n hx hb dX4_faultText_26 rfl (lv_at hl 1 rfl) ?_
    refine g_get (r := (2, 0)) (Cn := RX4) (T := TX4) (N := 5) (ci := 7) (v := .ref (X.2.2 4)) C tinX4 hW (List.mem_append_left _ (List.mem_append_left _ mA2)) fk1186 rfl 3 (by decide) tw_1_51 (fun _ h9 => h9) rfl dX4_faultText_27 ?_
    refine g_callVq (r := (64, 0)) (T := TJ4) (N := 4) (k2 := 1) (As := [.ref (X.2.2 4)]) (rest := []) C (c_J4_append_15ec4 l X (L ++ [(64, 0)] ++ [(61, 0)]) ad1180 st1181 0 (fun _ => 0) 4 (List.mem_append_left _ (List.mem_append_right _ (List.mem_singleton.mpr rfl))) (List.mem_append_right _ (List.mem_singleton.mpr rfl)) fk1184 fk1185 (by decide) (by decide)) tw_2_206 tw_2_207 tw_2_208 tw_1_24 tw_2_209 (by decide +kernel) ⟨by rw [hR1]; exact Nat.le_of_ble_eq_true rfl, by rw [hR2]; exact Nat.le_of_ble_eq_true rfl⟩ hW hS (List.mem_append_left _ (List.mem_append_right _ (List.mem_singleton.mpr rfl))) fk1184 rfl rfl hl.1 rfl (Nat.le_of_ble_eq_true rfl) dX4_faultText_30 ⟨by rw [hR3]; exact Nat.le_of_ble_eq_true rfl, by rw [hR4]; exact Nat.le_of_ble_eq_true rfl⟩ (fun v1189 L9 ad1190 st1191 H locs hp hW hS => ?_)
    obtain ⟨stq, z0, hs1192, fk1193, fk1194, h1195⟩ := hp
    cases z0
    subst h1195
    have fk1196 : st1191 (2, 0) = .inr (7, [.ref (ad1180 (3, 0)), .ref (ad1180 (4, 0)), .int (nI n), .ref (X.2.2 4), .int fk]) := (hs1192 (2, 0) (by decide) (by decide)).trans fk1186
    have sf1197 : ∀ x : ro, x ≠ (64, 0) → x ≠ (61, 0) → st1191 x = stc x := fun x a0 a1 => (hs1192 x a1 a0).trans (sf1188 x a0 a1)
    refine lv_topV (y := .ref (ad1180 (64, 0))) rfl ?_
    refine lv_pop hx hb dX4_faultText_33 rfl ?_
    refine lv_aload_n hx hb dX4_faultText_34 rfl (lv_at hl 0 rfl) ?_
    refine lv_bipush (v := 32) hx hb dX4_faultText_35 (by decide) ?_
    refine g_callVq (r := (64, 0)) (T := TJ4) (N := 4) (k2 := 1) (As := [.int 32]) (rest := []) C (c_J4_append_cf468 l X (L ++ [(64, 0)] ++ [(61, 0)]) ad1180 st1191 (0 + (gsLen.getD 4 0)) (va_cpy (fun j => (gsByt.getD 4 []).getD j 0) (fun _ => 0) 0 0 (gsLen.getD 4 0)) 32 (List.mem_append_left _ (List.mem_append_right _ (List.mem_singleton.mpr rfl))) (List.mem_append_right _ (List.mem_singleton.mpr rfl)) fk1194 fk1193 (by decide) (by decide) (by decide)) tw_3_54 tw_3_55 tw_3_56 tw_1_24 tw_3_57 (by decide +kernel) ⟨by rw [hR1]; exact Nat.le_of_ble_eq_true rfl, by rw [hR2]; exact Nat.le_of_ble_eq_true rfl⟩ hW hS (List.mem_append_left _ (List.mem_append_right _ (List.mem_singleton.mpr rfl))) fk1194 rfl rfl hl.1 rfl (Nat.le_of_ble_eq_true rfl) dX4_faultText_37 ⟨by rw [hR3]; exact Nat.le_of_ble_eq_true rfl, by rw [hR4]; exact Nat.le_of_ble_eq_true rfl⟩ (fun v1198 L9 ad1199 st1200 H locs hp hW hS => ?_)
    obtain ⟨stq, z0, hs1201, fk1202, fk1203, h1204⟩ := hp
    cases z0
    subst h1204
    have fk1205 : st1200 (2, 0) = .inr (7, [.ref (ad1180 (3, 0)), .ref (ad1180 (4, 0)), .int (nI n), .ref (X.2.2 4), .int fk]) := (hs1201 (2, 0) (by decide) (by decide)).trans fk1196
    have sf1206 : ∀ x : ro, x ≠ (64, 0) → x ≠ (61, 0) → st1200 x = stc x := fun x a0 a1 => (hs1201 x a1 a0).trans (sf1197 x a0 a1)
    refine lv_topV (y := .ref (ad1180 (64, 0))) rfl ?_
    refine lv_pop hx hb dX4_faultText_40 rfl ?_
    refine lv_aload_n hx hb dX4_faultText_41 rfl (lv_at hl 0 rfl) ?_
    refine lv_aload_n hx hb dX4_faultText_42 rfl (lv_at hl 1 rfl) ?_
    refine g_get (r := (2, 0)) (Cn := RX4) (T := TX4) (N := 5) (ci := 7) (v := .int fk) C tinX4 hW (List.mem_append_left _ (List.mem_append_left _ mA2)) fk1205 rfl 4 (by decide) tw_1_52 (fun _ h9 => h9) rfl dX4_faultText_43 ?_
    refine g_callVq (r := (64, 0)) (T := TJ4) (N := 4) (k2 := 1) (As := [.int fk]) (rest := []) C (c_J4_append_cf468 l X (L ++ [(64, 0)] ++ [(61, 0)]) ad1180 st1200 ((0 + (gsLen.getD 4 0)) + 1) (upd (va_cpy (fun j => (gsByt.getD 4 []).getD j 0) (fun _ => 0) 0 0 (gsLen.getD 4 0)) (0 + (gsLen.getD 4 0)) (vp_nar .byte 32)) fk (List.mem_append_left _ (List.mem_append_right _ (List.mem_singleton.mpr rfl))) (List.mem_append_right _ (List.mem_singleton.mpr rfl)) fk1203 fk1202 (by rw [hc9e]; exact ch_le hc9) (by rw [hc9e]; exact ch_i8 hc9) (by decide)) tw_3_54 tw_3_55 tw_3_56 tw_1_24 tw_3_57 (by decide +kernel) ⟨by rw [hR1]; exact Nat.le_of_ble_eq_true rfl, by rw [hR2]; exact Nat.le_of_ble_eq_true rfl⟩ hW hS (List.mem_append_left _ (List.mem_append_right _ (List.mem_singleton.mpr rfl))) fk1203 rfl rfl hl.1 rfl (Nat.le_of_ble_eq_true rfl) dX4_faultText_46 ⟨by rw [hR3]; exact Nat.le_of_ble_eq_true rfl, by rw [hR4]; exact Nat.le_of_ble_eq_true rfl⟩ (fun v1207 L9 ad1208 st1209 H locs hp hW hS => ?_)
    obtain ⟨stq, z0, hs1210, fk1211, fk1212, h1213⟩ := hp
    cases z0
    subst h1213
    have fk1214 : st1209 (2, 0) = .inr (7, [.ref (ad1180 (3, 0)), .ref (ad1180 (4, 0)), .int (nI n), .ref (X.2.2 4), .int fk]) := (hs1210 (2, 0) (by decide) (by decide)).trans fk1205
    have sf1215 : ∀ x : ro, x ≠ (64, 0) → x ≠ (61, 0) → st1209 x = stc x := fun x a0 a1 => (hs1210 x a1 a0).trans (sf1206 x a0 a1)
    refine lv_topV (y := .ref (ad1180 (64, 0))) rfl ?_
    refine lv_pop hx hb dX4_faultText_49 rfl ?_
    refine lv_aload_n hx hb dX4_faultText_50 rfl (lv_at hl 0 rfl) ?_
    refine g_callVq (r := (64, 0)) (T := TJ4) (N := 4) (k2 := 0) (As := []) (rest := []) C (c_J4_toString_0e30d l X (L ++ [(64, 0)] ++ [(61, 0)]) ad1180 st1209 (0 + gsLen.getD 4 0 + 1 + 1) (upd (upd (va_cpy (fun j => (gsByt.getD 4 []).getD j 0) (fun _ => 0) 0 0 (gsLen.getD 4 0)) (0 + (gsLen.getD 4 0)) (vp_nar .byte 32)) ((0 + (gsLen.getD 4 0)) + 1) (vp_nar .byte fk)) (List.mem_append_left _ (List.mem_append_right _ (List.mem_singleton.mpr rfl))) (List.mem_append_right _ (List.mem_singleton.mpr rfl)) (nmem_app (nmem_app n62 (by decide)) (by decide)) (nmem_app (nmem_app n63 (by decide)) (by decide)) fk1212 fk1211 (fun j => by obtain ⟨c8, q1, q2⟩ := ftG_128 (w := 4) ⟨c9, hc9, hc9e⟩ j; show fits .byte (.int (ftG _ _ j)) = true; rw [q2]; exact ch_fb q1) (by decide)) tw_3_67 tw_3_68 tw_3_69 tw_1_24 tw_3_70 (by decide +kernel) ⟨by rw [hR1]; exact Nat.le_of_ble_eq_true rfl, by rw [hR2]; exact Nat.le_of_ble_eq_true rfl⟩ hW hS (List.mem_append_left _ (List.mem_append_right _ (List.mem_singleton.mpr rfl))) fk1212 rfl rfl hl.1 rfl (Nat.le_of_ble_eq_true rfl) dX4_faultText_51 ⟨by rw [hR3]; exact Nat.le_of_ble_eq_true rfl, by rw [hR4]; exact Nat.le_of_ble_eq_true rfl⟩ (fun v1216 L9 ad1217 st1218 H locs hp hW hS => ?_)
    obtain ⟨adq, stq, z0, ha1219, hs1220, fk1221, fk1222, h1223⟩ := hp
    cases z0
    subst h1223
    have hl : lv_has ls 2 [(1, .ref (ad1217 (64, 0))), (0, .ref (ad1217 (2, 0)))] := by rw [ha1219 (64, 0) (by decide) (by decide), ha1219 (2, 0) (by decide) (by decide)]; exact hl
    have fk1224 : st1218 (2, 0) = .inr (7, [.ref (ad1217 (3, 0)), .ref (ad1217 (4, 0)), .int (nI n), .ref (X.2.2 4), .int fk]) := ((hs1220 (2, 0) (by decide) (by decide)).trans fk1214).trans (by rw [ha1219 (3, 0) (by decide) (by decide), ha1219 (4, 0) (by decide) (by decide)])
    have fk1225 : st1218 (61, 0) = .inl (X.2.1 0, 16, .inl (upd (upd (va_cpy (fun j => (gsByt.getD 4 []).getD j 0) (fun _ => 0) 0 0 (gsLen.getD 4 0)) (0 + (gsLen.getD 4 0)) (vp_nar .byte 32)) ((0 + (gsLen.getD 4 0)) + 1) (vp_nar .byte fk))) := (hs1220 (61, 0) (by decide) (by decide)).trans fk1211
    have fk1226 : st1218 (64, 0) = .inr (1, [.ref (ad1217 (61, 0)), .int 0, .int 0, .int (nI (((0 + (gsLen.getD 4 0)) + 1) + 1))]) := ((hs1220 (64, 0) (by decide) (by decide)).trans fk1212).trans (by rw [ha1219 (61, 0) (by decide) (by decide)])
    have af1227 : ∀ x : ro, x ≠ (64, 0) → x ≠ (61, 0) → x ≠ (62, 0) → x ≠ (63, 0) → ad1217 x = ad x := fun x a0 a1 a2 a3 => (ha1219 x a2 a3).trans (af1187 x a0 a1)
    have sf1228 : ∀ x : ro, x ≠ (64, 0) → x ≠ (61, 0) → x ≠ (62, 0) → x ≠ (63, 0) → st1218 x = stc x := fun x a0 a1 a2 a3 => (hs1220 x a2 a3).trans (sf1215 x a0 a1)
    refine lv_topV (y := .ref (ad1217 (62, 0))) rfl ?_
    have hW9 : gW X A (L ++ [(62, 0)] ++ [(63, 0)]) ad1217 st1218 s H := gW_sub (fun r h => by simp only [List.mem_append, List.mem_singleton] at h ⊢; grind) ((gW_nodup hW).sublist (ft_sub L)) (fun _ _ => rfl) (fun _ _ => rfl) hW
    exact g_qret2 (L := L ++ [(62, 0)] ++ [(63, 0)]) (v := some (ad1217 (62, 0))) C (Or.inl ⟨_, rfl⟩) hQ hW9 hS ⟨fk, vals, 4, hT, Or.inr ⟨by decide, ad1217, st1218, rfl, rfl, (fun x b0 b1 b2 b3 => af1227 x b0 b1 b2 b3), (fun x b0 b1 b2 b3 => (sf1228 x b0 b1 b2 b3).trans (by rw [hstc])), fk1221, fk1222⟩⟩ (Nat.le_of_ble_eq_true rfl) (Nat.le_of_ble_eq_true rfl) dX4_faultText_54

