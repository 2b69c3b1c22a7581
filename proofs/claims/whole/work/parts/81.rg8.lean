def logI (ci : Nat → Nat → Int32) (tot : Nat) : Nat → Nat → Int32 := up2 (up2 (up2 ci 7 0 (nI (tot + 1))) 6 0 (nI (if tot < tot + 1 then tot + 1 else tot))) 5 0 (ci 5 0 + 1)
def logA (ca : Nat → Nat → Nat → Int32) (tot s w : Nat) (li : Int32) : Nat → Nat → Nat → Int32 := ua2 (ua2 (ua2 ca 6 0 (upd (ca 6 0) tot (nI s))) 7 0 (upd (ca 7 0) tot (nI w))) 8 0 (upd (ca 8 0) tot (vp_nar .boolean li))
theorem ansP_keeps {L : List ro} {ci : Nat → Nat → Int32} {ca : Nat → Nat → Nat → Int32} {cr : Nat → Nat → Nat} {w i j kp nx : Nat} {v : Int32} {L' : List ro} {ci' : Nat → Nat → Int32} {ca' : Nat → Nat → Nat → Int32} {cr' : Nat → Nat → Nat} (h : ansP L ci ca cr w i j kp nx v L' ci' ca' cr') : (∀ r, r ∈ L → r ∈ L') ∧ ci' 1 0 = ci 1 0 ∧ ci' 2 0 = ci 2 0 ∧ ci' 5 0 = ci 5 0 ∧ ci' 6 0 = ci 6 0 ∧ ci' 7 0 = ci 7 0 := by
  rcases h with ⟨-, rfl, rfl, -⟩ | ⟨-, ⟨k, -, -, cap, -, -, -, hL, rfl, -⟩ | ⟨-, ⟨-, rfl, rfl, -⟩ | ⟨-, -, rfl, rfl, -⟩ | ⟨-, -, cap, -, -, -, hL, rfl, -⟩⟩⟩
  · exact ⟨fun _ h => h, rfl, rfl, rfl, rfl, rfl⟩
  · exact ⟨fun r hr => (hL r).mpr (Or.inl hr), rfl, rfl, rfl, rfl, rfl⟩
  · exact ⟨fun _ h => h, rfl, rfl, rfl, rfl, rfl⟩
  · exact ⟨fun _ h => h, rfl, rfl, rfl, rfl, rfl⟩
  · exact ⟨fun r hr => (hL r).mpr (Or.inl hr), rfl, rfl, rfl, rfl, rfl⟩
theorem rdT_sc {t : Nat → Int32} {n : Nat} {fk : Int32} {vals : Nat → Int32} (h : rdT t n fk vals 0) : (∃ s, s < 6 ∧ vals 0 = nI s) ∧ ∃ c, c < 4 ∧ vals 1 = nI c := by
  obtain ⟨-, h1, h2, -⟩ := h
  have hr := (rdR_right h1).1
  obtain ⟨s, hs, hs2⟩ := hr 0 (by decide)
  obtain ⟨c, hc, hc2⟩ := hr 1 (by decide)
  exact ⟨⟨s, hs2, (h2 0 (by decide)).trans hs⟩, c, hc2, (h2 1 (by decide)).trans hc⟩
set_option maxHeartbeats 4000000 in
set_option maxRecDepth 100000 in
theorem c_X7_call (l : Launch) (X : GX) (L : List ro) (ad : ro → Nat) (st0 : ro → va_E) (ci : Nat → Nat → Int32) (ca : Nat → Nat → Nat → Int32) (cr : Nat → Nat → Nat) (n w tot nt : Nat) (kp nx : Nat → Nat) (hV : cV L ci ca cr n w tot nt kp nx) (hl0 : l.stackTraces = false) (hto : tot < 512) : gXi l yX7_call cX7_call 3 (some .int) 9 236 10 300 X [.ref (ad (1, 0))] L ad (cSt X ad st0 ci ca cr) (fun v u => ∃ fk vals s c L' ad' ci' ca' cr', rdT (ca 3 0) n fk vals 0 ∧ cr 13 0 < 100 ∧ s < 6 ∧ vals 0 = nI s ∧ c < 4 ∧ vals 1 = nI c ∧ ansP L (up2 ci 3 0 fk) (ua2 ca 4 0 vals) (ur2 cr 2 0 0) w s c (kp s) (nx s) v L' ci' ca' cr' ∧ (∀ x : ro, x ≠ (40, cr 13 0) → x ≠ (12, 0) → ad' x = ad x) ∧ u = (L', ad', cSt X ad' st0 (up2 (logI ci' tot) 2 0 0) (logA ca' tot s w (if v = -2 then 1 else 0)) cr')) (fun E u => ∃ fk vals w9, rdT (ca 3 0) n fk vals w9 ∧ u = (L, ad, cSt X ad st0 (up2 ci 3 0 fk) (ua2 ca 4 0 vals) (ur2 cr 2 0 w9)) ∧ ((E = "java/lang/IllegalArgumentException" ∧ ¬ w9 = 0) ∨ (E = "java/lang/IllegalStateException" ∧ w9 = 0 ∧ cr 13 0 = 100))) := by
  intro sz
  refine gX_of2 (Qc := fun A => va_Qi _ (gB X A) A) (XC := fun A => gXC X A _) (by decide) (Nat.le_of_ble_eq_true rfl) ?_ sz
  intro p e s m args below meth c A R Q hR hQ hnx C hW hS ls hl
  obtain ⟨hR1, hR2, hR3, hR4⟩ := hR
  have hx := C.1.1
  have hb := C.1.2.1
  have hml := C.1.2.2.1
  have hl : lv_has ls 3 [(0, .ref (ad (1, 0)))] := hl
  obtain ⟨vR, vA, vN, vq, vp, vt, vQ, vP, vC, vX, vT, vW, vG, vS⟩ := id hV
  obtain ⟨vT1, vT2, vT3⟩ := vT
  obtain ⟨vW1, vW2⟩ := vW
  obtain ⟨vG1, vG2, vG3⟩ := vG
  obtain ⟨vN1, vN2⟩ := vN
  refine lv_aload_n hx hb dX7_call_0 rfl (lv_at hl 0 rfl) ?_
  refine g_get (r := (1, 0)) (Cn := RX7) (T := TX7) (N := 7) (ci := 10) (v := .ref (ad (2, 0))) C tinX7 hW (hV.r (by decide)) rfl rfl 0 (by decide) tw_1_206 (fun _ h9 => h9) rfl dX7_call_1 ?_
  refine g_callVq (r := (2, 0)) (T := TX4) (N := 5) (k2 := 0) (As := []) (rest := []) C (c_X4_faultText l X L ad st0 ci ca cr (hV.r (by decide)) (hV.r (by decide)) (hV.r (by decide)) n vT1 vT2 vT3 (vX 64 (by decide) (by decide)) (vX 61 (by decide) (by decide)) (vX 62 (by decide) (by decide)) (vX 63 (by decide) (by decide))) tw_2_0 tw_2_1 tw_2_2 tw_1_2 tw_2_3 (by decide +kernel) ⟨by rw [hR1]; exact Nat.le_of_ble_eq_true rfl, by rw [hR2]; exact Nat.le_of_ble_eq_true rfl⟩ hW hS (hV.r (by decide)) rfl rfl rfl hl.1 rfl (Nat.le_of_ble_eq_true rfl) dX7_call_4 ⟨by rw [hR3]; exact Nat.le_of_ble_eq_true rfl, by rw [hR4]; exact Nat.le_of_ble_eq_true rfl⟩ (fun v1 L9 ad9 st9 H locs hp hW hS => ?_)
  obtain ⟨fk, vals, w9, hT, hp⟩ := hp
  rcases hp with ⟨hw9, hv9, z0⟩ | ⟨hw9, adq, stq, hv9, z0, ha9, hs9, e62, e63⟩
  · cases z0
    subst hv9
    subst hw9
    have ht9 : tlen (rdR (ca 3 0) n).1 = 0 := by rw [hT.2.1]; rfl
    refine lv_topV (y := .ref (X.2.2 0)) rfl ?_
    refine g_callTi (k := 0) (k2 := 0) (As := []) (rest := []) (by decide) C (c_J0_isEmpty_aae02 l X L ad _ 0 (by decide)) tw_3_220 tw_2_12 tw_2_13 tw_1_17 tw_2_14 (by decide +kernel) ⟨by rw [hR1]; exact Nat.le_of_ble_eq_true rfl, by rw [hR2]; exact Nat.le_of_ble_eq_true rfl⟩ hW hS rfl hl.1 rfl (Nat.le_of_ble_eq_true rfl) dX7_call_7 ⟨by rw [hR3]; exact Nat.le_of_ble_eq_true rfl, by rw [hR4]; exact Nat.le_of_ble_eq_true rfl⟩ (fun v9 H locs hp hW hS => ?_)
    replace hp := hp.elim And.right (fun q => absurd rfl q.1)
    subst hp
    refine lv_if_ne (tgt := 23) hx hb dX7_call_10 (by decide) (fun _ => ?_) (fun c9 => absurd c9 (by decide))
    refine lv_aload_n hx hb dX7_call_23 rfl (lv_at hl 0 rfl) ?_
    refine g_get (r := (1, 0)) (Cn := RX7) (T := TX7) (N := 7) (ci := 10) (v := .ref (ad (11, 0))) C tinX7 hW (hV.r (by decide)) rfl rfl 4 (by decide) tw_1_210 (fun _ h9 => h9) rfl dX7_call_24 ?_
    refine g_callFi (r := (11, 0)) (T := TJx4a65c) (N := 3) (x := ⟨"java/util/List", "size", "()I"⟩) (k2 := 0) (As := []) (rest := []) C (c_lsize l X L ad st0 (up2 ci 3 0 fk) (ua2 ca 4 0 vals) (ur2 cr 2 0 0) 0 (cr 13 0) (hV.r (by decide)) (hV.2.1 0 (by decide)).1) tw_4_109 tw_4_113 tw_4_115 tw_1_6 (by decide +kernel) tw_4_117 (by decide +kernel) ⟨by rw [hR1]; exact Nat.le_of_ble_eq_true rfl, by rw [hR2]; exact Nat.le_of_ble_eq_true rfl⟩ hW hS (hV.r (by decide)) rfl rfl rfl hl.1 rfl (Nat.le_of_ble_eq_true rfl) dX7_call_27 ⟨by rw [hR3]; exact Nat.le_of_ble_eq_true rfl, by rw [hR4]; exact Nat.le_of_ble_eq_true rfl⟩ (fun x3 L9 ad9 st9 H locs hp hW hS => ?_)
    obtain ⟨z0, z1⟩ := hp
    cases z0
    subst z1
    refine lv_bipush (v := 100) hx hb dX7_call_32 (by decide) ?_
    refine lv_icmp_lt (tgt := 47) hx hb dX7_call_34 (by decide) (fun c4 => ?_) (fun c4 => ?_)
    · have c4n := q_lt (a := (cr 13 0)) (b := 100) (by omega) (by omega) c4
      obtain ⟨⟨s9, hs9, hs9v⟩, c9, hc9, hc9v⟩ := rdT_sc hT
      refine lv_aload_n hx hb dX7_call_47 rfl (lv_at hl 0 rfl) ?_
      refine g_get (r := (1, 0)) (Cn := RX7) (T := TX7) (N := 7) (ci := 10) (v := .ref (ad (2, 0))) C tinX7 hW (hV.r (by decide)) rfl rfl 0 (by decide) tw_1_206 (fun _ h9 => h9) rfl dX7_call_48 ?_
      refine lv_iconst (v := 0) hx hb dX7_call_51 (by decide) ?_
      refine g_callVi (r := (2, 0)) (T := TX4) (N := 5) (k2 := 1) (As := [.int 0]) (rest := []) C (c_X4_valueOf l X L ad st0 (up2 ci 3 0 fk) (ua2 ca 4 0 vals) (ur2 cr 2 0 0) (hV.r (by decide)) (hV.r (by decide)) 0 (by decide)) tw_4_119 tw_2_172 tw_2_173 tw_1_2 tw_2_174 (by decide +kernel) ⟨by rw [hR1]; exact Nat.le_of_ble_eq_true rfl, by rw [hR2]; exact Nat.le_of_ble_eq_true rfl⟩ hW hS (hV.r (by decide)) rfl rfl rfl hl.1 rfl (Nat.le_of_ble_eq_true rfl) dX7_call_52 ⟨by rw [hR3]; exact Nat.le_of_ble_eq_true rfl, by rw [hR4]; exact Nat.le_of_ble_eq_true rfl⟩ (fun x5 L9 ad9 st9 H locs hp hW hS => ?_)
      obtain ⟨ci9, ca9, cr9, z0, hp⟩ := hp
      cases z0
      obtain ⟨z1, z2, z3, h6⟩ := hp
      rw [z1, z2, z3] at hW
      subst h6
      refine lv_topE (y := nI s9) (show vals 0 = nI s9 from hs9v) ?_
      refine lv_istore_n (lv' := [(1, .int (nI s9)), (0, .ref (ad (1, 0)))]) hx hb dX7_call_55 rfl hl (by decide) rfl (fun ls hl => ?_)
      refine lv_aload_n hx hb dX7_call_56 rfl (lv_at hl 1 rfl) ?_
      refine lv_aload_n hx hb dX7_call_57 rfl (lv_at hl 1 rfl) ?_
      refine lv_iload_n hx hb dX7_call_58 rfl (lv_at hl 0 rfl) ?_
      refine g_callXq (r := (1, 0)) (T := TX7) (N := 7) (k2 := 1) (As := [.int (nI s9)]) (rest := [.ref (ad (1, 0))]) C hnx hQ (c_X7_shipperAt l X L ad st0 (up2 ci 3 0 fk) (ua2 ca 4 0 vals) (ur2 cr 2 0 0) n w tot nt kp nx (cV_c hV fk vals 0) hl0 (nI s9)) (fun E u h => absurd (vp_in_nI (n := s9) (N := 6) hs9 (by decide)) h.2.2) tw_4_71 tw_4_73 tw_0_12 tw_1_1 tw_4_74 (by decide +kernel) ⟨by rw [hR1]; exact Nat.le_of_ble_eq_true rfl, by rw [hR2]; exact Nat.le_of_ble_eq_true rfl⟩ hW hS (hV.r (by decide)) rfl rfl rfl hl.1 rfl (Nat.le_of_ble_eq_true rfl) dX7_call_59 ⟨by rw [hR3]; exact Nat.le_of_ble_eq_true rfl, by rw [hR4]; exact Nat.le_of_ble_eq_true rfl⟩ ⟨Nat.le_of_ble_eq_true rfl, Nat.le_of_ble_eq_true rfl⟩ (fun v7 L9 ad9 st9 H locs hp hW hS => ?_)
      obtain ⟨z0, k8, hk8, hak8, hv9⟩ := hp
      cases z0
      have ek8 := (nI_eq (by omega) (by omega)).mp hak8
      subst ek8
      subst hv9
      refine lv_topV (y := .ref (ad (20, s9))) rfl ?_
      refine lv_aload_n hx hb dX7_call_62 rfl (lv_at hl 1 rfl) ?_
      refine lv_aload_n hx hb dX7_call_63 rfl (lv_at hl 1 rfl) ?_
      refine g_get (r := (1, 0)) (Cn := RX7) (T := TX7) (N := 7) (ci := 10) (v := .ref (ad (2, 0))) C tinX7 hW (hV.r (by decide)) rfl rfl 0 (by decide) tw_1_206 (fun _ h9 => h9) rfl dX7_call_64 ?_
      refine lv_iconst (v := 1) hx hb dX7_call_67 (by decide) ?_
      refine g_callVi (r := (2, 0)) (T := TX4) (N := 5) (k2 := 1) (As := [.int 1]) (rest := [.ref (ad (1, 0)), .ref (ad (20, s9)), .ref (ad (1, 0))]) C (c_X4_valueOf l X L ad st0 (up2 ci 3 0 fk) (ua2 ca 4 0 vals) (ur2 cr 2 0 0) (hV.r (by decide)) (hV.r (by decide)) 1 (by decide)) tw_4_119 tw_2_172 tw_2_173 tw_1_2 tw_2_174 (by decide +kernel) ⟨by rw [hR1]; exact Nat.le_of_ble_eq_true rfl, by rw [hR2]; exact Nat.le_of_ble_eq_true rfl⟩ hW hS (hV.r (by decide)) rfl rfl rfl hl.1 rfl (Nat.le_of_ble_eq_true rfl) dX7_call_68 ⟨by rw [hR3]; exact Nat.le_of_ble_eq_true rfl, by rw [hR4]; exact Nat.le_of_ble_eq_true rfl⟩ (fun x9 L9 ad9 st9 H locs hp hW hS => ?_)
      obtain ⟨ci9, ca9, cr9, z0, hp⟩ := hp
      cases z0
      obtain ⟨z1, z2, z3, h10⟩ := hp
      rw [z1, z2, z3] at hW
      subst h10
      refine lv_topE (y := nI c9) (show vals 1 = nI c9 from hc9v) ?_
      refine g_callXq (r := (1, 0)) (T := TX7) (N := 7) (k2 := 1) (As := [.int (nI c9)]) (rest := [.ref (ad (20, s9)), .ref (ad (1, 0))]) C hnx hQ (c_X7_carrierAt l X L ad st0 (up2 ci 3 0 fk) (ua2 ca 4 0 vals) (ur2 cr 2 0 0) n w tot nt kp nx (cV_c hV fk vals 0) hl0 (nI c9)) (fun E u h => absurd (vp_in_nI (n := c9) (N := 4) hc9 (by decide)) h.2.2) tw_4_84 tw_4_86 tw_0_13 tw_1_1 tw_4_87 (by decide +kernel) ⟨by rw [hR1]; exact Nat.le_of_ble_eq_true rfl, by rw [hR2]; exact Nat.le_of_ble_eq_true rfl⟩ hW hS (hV.r (by decide)) rfl rfl rfl hl.1 rfl (Nat.le_of_ble_eq_true rfl) dX7_call_71 ⟨by rw [hR3]; exact Nat.le_of_ble_eq_true rfl, by rw [hR4]; exact Nat.le_of_ble_eq_true rfl⟩ ⟨Nat.le_of_ble_eq_true rfl, Nat.le_of_ble_eq_true rfl⟩ (fun v11 L9 ad9 st9 H locs hp hW hS => ?_)
      obtain ⟨z0, k12, hk12, hak12, hv9⟩ := hp
      cases z0
      have ek12 := (nI_eq (by omega) (by omega)).mp hak12
      subst ek12
      subst hv9
      refine lv_topV (y := .ref (ad (30, c9))) rfl ?_
      refine g_callVi (r := (1, 0)) (T := TX7) (N := 7) (k2 := 2) (As := [.ref (ad (20, s9)), .ref (ad (30, c9))]) (rest := []) C (c_X7_answerTo l X L ad st0 (up2 ci 3 0 fk) (ua2 ca 4 0 vals) (ur2 cr 2 0 0) n w tot nt kp nx (cV_c hV fk vals 0) s9 c9 hs9 hc9) tw_4_120 tw_4_122 tw_0_14 tw_1_1 tw_4_123 (by decide +kernel) ⟨by rw [hR1]; exact Nat.le_of_ble_eq_true rfl, by rw [hR2]; exact Nat.le_of_ble_eq_true rfl⟩ hW hS (hV.r (by decide)) rfl rfl rfl hl.1 rfl (Nat.le_of_ble_eq_true rfl) dX7_call_74 ⟨by rw [hR3]; exact Nat.le_of_ble_eq_true rfl, by rw [hR4]; exact Nat.le_of_ble_eq_true rfl⟩ (fun x14 L9 ad9 st9 H locs hp hW hS => ?_)
      obtain ⟨L8, ad8, ci8, ca8, cr8, z0, had8, hA8⟩ := hp
      cases z0
      obtain ⟨hL8, k1, k2, k5, k6, k7⟩ := ansP_keeps hA8
      have hl : lv_has ls 3 [(1, .int (nI s9)), (0, .ref (ad9 (1, 0)))] := by rw [had8 (1, 0) (rne (by omega)) (rne (by omega))]; exact hl
      refine lv_istore_n (lv' := [(2, .int x14), (1, .int (nI s9)), (0, .ref (ad9 (1, 0)))]) hx hb dX7_call_77 rfl hl (by decide) rfl (fun ls hl => ?_)
      refine lv_aload_n hx hb dX7_call_78 rfl (lv_at hl 2 rfl) ?_
      refine g_get (r := (1, 0)) (Cn := RX7) (T := TX7) (N := 7) (ci := 10) (v := .ref (ad9 (5, 0))) C tinX7 hW (hL8 _ (hV.r (by decide))) rfl rfl 1 (by decide) tw_1_207 (fun _ h9 => h9) rfl dX7_call_79 ?_
      refine lv_iload_n hx hb dX7_call_82 rfl (lv_at hl 1 rfl) ?_
      refine lv_aload_n hx hb dX7_call_83 rfl (lv_at hl 2 rfl) ?_
      refine g_get (r := (1, 0)) (Cn := RX7) (T := TX7) (N := 7) (ci := 10) (v := .int (ci8 1 0)) C tinX7 hW (hL8 _ (hV.r (by decide))) rfl rfl 6 (by decide) tw_1_212 (fun _ h9 => h9) rfl dX7_call_84 ?_
      refine lv_topE (y := nI w) (by show ci8 1 0 = nI w; exact (k1.trans vW1)) ?_
      refine lv_iload_n hx hb dX7_call_87 rfl (lv_at hl 0 rfl) ?_
      refine lv_bipush (v := (-2)) hx hb dX7_call_88 (by decide) ?_
      refine lv_icmp_ne (tgt := 97) hx hb dX7_call_90 (by decide) (fun c15 => ?_) (fun c15 => ?_)
      · refine lv_iconst (v := 0) hx hb dX7_call_97 (by decide) ?_
        refine g_callVv (r := (5, 0)) (T := TX0) (N := 6) (k2 := 3) (As := [.int (nI s9), .int (nI w), .int 0]) (rest := []) C (c_X0_add l X L9 ad9 st0 ci8 ca8 cr8 (hL8 _ (hV.r (by decide))) (hL8 _ (hV.r (by decide))) (hL8 _ (hV.r (by decide))) (hL8 _ (hV.r (by decide))) (nI s9) (nI w) 0 tot tot (k6.trans vG1) (by omega) (k7.trans vG2) hto) tw_5_28 tw_5_29 tw_5_30 tw_1_3 tw_5_31 (by decide +kernel) ⟨by rw [hR1]; exact Nat.le_of_ble_eq_true rfl, by rw [hR2]; exact Nat.le_of_ble_eq_true rfl⟩ hW hS (hL8 _ (hV.r (by decide))) rfl rfl rfl hl.1 rfl (Nat.le_of_ble_eq_true rfl) dX7_call_98 ⟨by rw [hR3]; exact Nat.le_of_ble_eq_true rfl, by rw [hR4]; exact Nat.le_of_ble_eq_true rfl⟩ (fun L9 ad9 st9 H locs hp hW hS => ?_)
        obtain ⟨ci9, ca9, cr9, z0, hp⟩ := hp
        cases z0
        obtain ⟨z1, z2, z3⟩ := hp
        rw [z1, z2, z3] at hW
        refine lv_aload_n hx hb dX7_call_101 rfl (lv_at hl 2 rfl) ?_
        refine g_get (r := (1, 0)) (Cn := RX7) (T := TX7) (N := 7) (ci := 10) (v := .ref (ad9 (2, 0))) C tinX7 hW (hL8 _ (hV.r (by decide))) rfl rfl 0 (by decide) tw_1_206 (fun _ h9 => h9) rfl dX7_call_102 ?_
        refine g_callVi (r := (2, 0)) (T := TX4) (N := 5) (k2 := 0) (As := []) (rest := []) C (c_X4_empty l X L9 ad9 st0 (logI ci8 tot) (logA ca8 tot s9 w 0) cr8 (hL8 _ (hV.r (by decide)))) tw_1_232 tw_1_233 tw_1_234 tw_1_2 tw_1_235 (by decide +kernel) ⟨by rw [hR1]; exact Nat.le_of_ble_eq_true rfl, by rw [hR2]; exact Nat.le_of_ble_eq_true rfl⟩ hW hS (hL8 _ (hV.r (by decide))) rfl rfl rfl hl.1 rfl (Nat.le_of_ble_eq_true rfl) dX7_call_105 ⟨by rw [hR3]; exact Nat.le_of_ble_eq_true rfl, by rw [hR4]; exact Nat.le_of_ble_eq_true rfl⟩ (fun x17 L9 ad9 st9 H locs hp hW hS => ?_)
        obtain ⟨ci9, ca9, cr9, z0, hp⟩ := hp
        cases z0
        obtain ⟨z1, z2, z3, h18⟩ := hp
        rw [z1, z2, z3] at hW
        refine lv_pop hx hb dX7_call_108 rfl ?_
        refine lv_iload_n hx hb dX7_call_109 rfl (lv_at hl 0 rfl) ?_
        exact g_iretX C hQ hW hS ⟨fk, vals, s9, c9, _, _, _, _, _, hT, by omega, hs9, hs9v, hc9, hc9v, hA8, had8, by rw [if_neg (by assumption)]⟩ rfl (Nat.le_of_ble_eq_true rfl) (Nat.le_of_ble_eq_true rfl) dX7_call_110
      · refine lv_iconst (v := 1) hx hb dX7_call_93 (by decide) ?_
        refine lv_goto (tgt := 98) hx hb dX7_call_94 (by decide) ?_
        refine g_callVv (r := (5, 0)) (T := TX0) (N := 6) (k2 := 3) (As := [.int (nI s9), .int (nI w), .int 1]) (rest := []) C (c_X0_add l X L9 ad9 st0 ci8 ca8 cr8 (hL8 _ (hV.r (by decide))) (hL8 _ (hV.r (by decide))) (hL8 _ (hV.r (by decide))) (hL8 _ (hV.r (by decide))) (nI s9) (nI w) 1 tot tot (k6.trans vG1) (by omega) (k7.trans vG2) hto) tw_5_28 tw_5_29 tw_5_30 tw_1_3 tw_5_31 (by decide +kernel) ⟨by rw [hR1]; exact Nat.le_of_ble_eq_true rfl, by rw [hR2]; exact Nat.le_of_ble_eq_true rfl⟩ hW hS (hL8 _ (hV.r (by decide))) rfl rfl rfl hl.1 rfl (Nat.le_of_ble_eq_true rfl) dX7_call_98 ⟨by rw [hR3]; exact Nat.le_of_ble_eq_true rfl, by rw [hR4]; exact Nat.le_of_ble_eq_true rfl⟩ (fun L9 ad9 st9 H locs hp hW hS => ?_)
        obtain ⟨ci9, ca9, cr9, z0, hp⟩ := hp
        cases z0
        obtain ⟨z1, z2, z3⟩ := hp
        rw [z1, z2, z3] at hW
        refine lv_aload_n hx hb dX7_call_101 rfl (lv_at hl 2 rfl) ?_
        refine g_get (r := (1, 0)) (Cn := RX7) (T := TX7) (N := 7) (ci := 10) (v := .ref (ad9 (2, 0))) C tinX7 hW (hL8 _ (hV.r (by decide))) rfl rfl 0 (by decide) tw_1_206 (fun _ h9 => h9) rfl dX7_call_102 ?_
        refine g_callVi (r := (2, 0)) (T := TX4) (N := 5) (k2 := 0) (As := []) (rest := []) C (c_X4_empty l X L9 ad9 st0 (logI ci8 tot) (logA ca8 tot s9 w 1) cr8 (hL8 _ (hV.r (by decide)))) tw_1_232 tw_1_233 tw_1_234 tw_1_2 tw_1_235 (by decide +kernel) ⟨by rw [hR1]; exact Nat.le_of_ble_eq_true rfl, by rw [hR2]; exact Nat.le_of_ble_eq_true rfl⟩ hW hS (hL8 _ (hV.r (by decide))) rfl rfl rfl hl.1 rfl (Nat.le_of_ble_eq_true rfl) dX7_call_105 ⟨by rw [hR3]; exact Nat.le_of_ble_eq_true rfl, by rw [hR4]; exact Nat.le_of_ble_eq_true rfl⟩ (fun x20 L9 ad9 st9 H locs hp hW hS => ?_)
        obtain ⟨ci9, ca9, cr9, z0, hp⟩ := hp
        cases z0
        obtain ⟨z1, z2, z3, h21⟩ := hp
        rw [z1, z2, z3] at hW
        refine lv_pop hx hb dX7_call_108 rfl ?_
        refine lv_iload_n hx hb dX7_call_109 rfl (lv_at hl 0 rfl) ?_
        exact g_iretX C hQ hW hS ⟨fk, vals, s9, c9, _, _, _, _, _, hT, by omega, hs9, hs9v, hc9, hc9v, hA8, had8, by rw [if_pos (by assumption)]⟩ rfl (Nat.le_of_ble_eq_true rfl) (Nat.le_of_ble_eq_true rfl) dX7_call_110
    · have c4n := q_nlt (a := (cr 13 0)) (b := 100) (by omega) (by omega) c4
      exact g_throw (cls := "java/lang/IllegalStateException") (text := "no more quotes") (sa := 112) C hl0 hnx hQ hW hS hl.1 gE_IS (by decide +kernel) dX7_call_37 dX7_call_40 dX7_call_41 dX7_call_43 dX7_call_46 (by rw [hR1]; exact Nat.le_of_ble_eq_true rfl) (by rw [hR2]; exact Nat.le_of_ble_eq_true rfl) (by rw [hR3]; exact Nat.le_of_ble_eq_true rfl) (by rw [hR4]; exact Nat.le_of_ble_eq_true rfl) ⟨fk, vals, _, hT, rfl, Or.inr ⟨rfl, rfl, by omega⟩⟩ (Nat.le_of_ble_eq_true rfl) (Nat.le_of_ble_eq_true rfl)
  · cases z0
    subst hv9
    obtain ⟨ht9, hc9⟩ := ftB_ok hT hw9
    have hw5 := hT.1
    have hg9 : gsLen.getD w9 0 ≤ 7 := gs_le9 w9
    have hm62 : ((62, 0) : ro) ∈ L ++ [(62, 0)] ++ [(63, 0)] := List.mem_append_left _ (List.mem_append_right _ (List.mem_singleton.mpr rfl))
    have hm63 : ((63, 0) : ro) ∈ L ++ [(62, 0)] ++ [(63, 0)] := List.mem_append_right _ (List.mem_singleton.mpr rfl)
    refine lv_topV (y := .ref (ad9 (62, 0))) rfl ?_
    refine g_callVi (r := (62, 0)) (T := TJ0) (N := 4) (k2 := 0) (As := []) (rest := []) C (c_S_isEmpty l X (L ++ [(62, 0)] ++ [(63, 0)]) ad9 st9 _ _ hm62 hm63 e62 e63 (by omega) (by omega)) tw_3_220 tw_2_12 tw_2_13 tw_1_17 tw_2_14 (by decide +kernel) ⟨by rw [hR1]; exact Nat.le_of_ble_eq_true rfl, by rw [hR2]; exact Nat.le_of_ble_eq_true rfl⟩ hW hS hm62 e62 rfl rfl hl.1 rfl (Nat.le_of_ble_eq_true rfl) dX7_call_7 ⟨by rw [hR3]; exact Nat.le_of_ble_eq_true rfl, by rw [hR4]; exact Nat.le_of_ble_eq_true rfl⟩ (fun v9 L9 ad9 st9 H locs hp hW hS => ?_)
    obtain ⟨z0, z1⟩ := hp
    cases z0
    subst z1
    replace hW := ft_drop vX ha9 hs9 hW
    refine lv_if_ne (tgt := 23) hx hb dX7_call_10 (by decide) (fun c9 => absurd c9 (by decide)) (fun _ => ?_)
    exact g_throw (cls := "java/lang/IllegalArgumentException") (text := "the request is not right") (sa := 111) C hl0 hnx hQ hW hS hl.1 gE_IA (by decide +kernel) dX7_call_13 dX7_call_16 dX7_call_17 dX7_call_19 dX7_call_22 (by rw [hR1]; exact Nat.le_of_ble_eq_true rfl) (by rw [hR2]; exact Nat.le_of_ble_eq_true rfl) (by rw [hR3]; exact Nat.le_of_ble_eq_true rfl) (by rw [hR4]; exact Nat.le_of_ble_eq_true rfl) ⟨fk, vals, _, hT, rfl, Or.inl ⟨rfl, hw9⟩⟩ (Nat.le_of_ble_eq_true rfl) (Nat.le_of_ble_eq_true rfl)

