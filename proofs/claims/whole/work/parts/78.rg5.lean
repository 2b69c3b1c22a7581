theorem nI_p1 (n : Nat) : nI (n + 1) - 1 = nI n := by
  rw [← nI_1 n]
  exact Int32.add_sub_cancel _ _
theorem g_frm {L L' : List ro} {a b : ro} (h : ∀ x : ro, x ∈ L' ↔ x ∈ L ++ [a] ∨ x = b) : ∀ x : ro, x ∈ L' ↔ x ∈ L ∨ x = a ∨ x = b := by
  intro x
  rw [h x, List.mem_append, List.mem_singleton, or_assoc]
set_option maxHeartbeats 4000000 in
set_option maxRecDepth 100000 in
theorem c_X7_addQuote (l : Launch) (X : GX) (L : List ro) (ad : ro → Nat) (st0 : ro → va_E) (ci : Nat → Nat → Int32) (ca : Nat → Nat → Nat → Int32) (cr : Nat → Nat → Nat) (n w tot nt : Nat) (kp nx : Nat → Nat) (hV : cV L ci ca cr n w tot nt kp nx) (t : Nat) (ht : (31, t) ∈ L) (z9 : Int32) : gMi l yX7_addQuote cX7_addQuote 3 (some .int) 7 191 2 158 X [.ref (ad (1, 0)), .ref (ad (31, t)), .int z9] L ad (cSt X ad st0 ci ca cr) (fun v u => ∃ L' ad' cap, u = (L', ad', cSt X ad' st0 (ciL (qtC ci (cr 13 0) (ca 4 0) z9) 0 (cr 13 0)) ca (crL (ur2 cr 40 (cr 13 0) t) 0 (cr 13 0) cap)) ∧ (∀ x : ro, x ∈ L' ↔ x ∈ L ∨ x = (40, cr 13 0) ∨ x = (12, 0)) ∧ (∀ x : ro, x ≠ (40, cr 13 0) → x ≠ (12, 0) → ad' x = ad x) ∧ cr 13 0 + 1 ≤ cap ∧ 10 ≤ cap ∧ cap ≤ 150 ∧ v = nI (cr 13 0)) := by
  intro sz
  refine gM_of2 (Qc := fun A => va_Qi _ (gB X A) A) (by decide) (Nat.le_of_ble_eq_true rfl) ?_ sz
  intro p e s m args below meth c A R Q hR hQ C hW hS ls hl
  obtain ⟨hR1, hR2, hR3, hR4⟩ := hR
  have hx := C.1.1
  have hb := C.1.2.1
  have hml := C.1.2.2.1
  have hl : lv_has ls 3 [(0, .ref (ad (1, 0))), (1, .ref (ad (31, t))), (2, .int z9)] := hl
  obtain ⟨vR, vA, vN, vq, vp, vt, vQ, vP, vC, vX, vT, vW, vG, vS⟩ := id hV
  obtain ⟨vT1, vT2, vT3⟩ := vT
  obtain ⟨vW1, vW2⟩ := vW
  obtain ⟨vG1, vG2, vG3⟩ := vG
  obtain ⟨vN1, vN2⟩ := vN
  refine lv_aload_n hx hb dX7_addQuote_0 rfl (lv_at hl 0 rfl) ?_
  refine g_get (r := (1, 0)) (Cn := RX7) (T := TX7) (N := 7) (ci := 10) (v := .ref (ad (11, 0))) C tinX7 hW (hV.r (by decide)) rfl rfl 4 (by decide) tw_1_210 (fun _ h9 => h9) rfl dX7_addQuote_1 ?_
  refine g_newo (r := (40, (cr 13 0))) (Cn := RX3) (T := TX3) (N := 8) (ci := 6) (ty0 := tyX3) (fs := [.int 0, .int 0, .int 0, .int 0, .int 0, .int 0, .null, .int 0]) C tinX3 tyX3_ok hW hS (fun h9 => Nat.lt_irrefl _ ((hV.2.2.2.1 _).mp h9)) rfl tw_4_154 tw_4_168 tw_1_31 (by intro j hj; rcases (show j = 0 ∨ j = 1 ∨ j = 2 ∨ j = 3 ∨ j = 4 ∨ j = 5 ∨ j = 6 ∨ j = 7 by omega) with rfl | rfl | rfl | rfl | rfl | rfl | rfl | rfl <;> rfl) (by rw [hR3]; exact Nat.le_of_ble_eq_true rfl) (by rw [hR4]; exact Nat.le_of_ble_eq_true rfl) dX7_addQuote_4 (fun ad1 st2 H ha3 fk4 hs5 hW hS => ?_)
  replace hW := cN_new (r0 := (40, (cr 13 0))) (fun h9 => Nat.lt_irrefl _ ((hV.2.2.2.1 _).mp h9)) hW ha3 fk4 hs5 (fun k9 i9 h9 => cE_new hV (Or.inr (Or.inl rfl)) ha3 h9)
  have hl : lv_has ls 3 [(0, .ref (ad1 (1, 0))), (1, .ref (ad1 (31, t))), (2, .int z9)] := by rw [ha3 (1, 0) (rne (by omega)), ha3 (31, t) (rne (by omega))]; exact hl
  refine W.eq (g2 := F0 m 7 ls [.ref (ad1 (40, (cr 13 0))), .ref (ad1 (11, 0))]) (by rw [ha3 (11, 0) (rne (by omega))] <;> rfl) ?_
  refine lv_dup hx hb dX7_addQuote_7 rfl ?_
  refine lv_aload_n hx hb dX7_addQuote_8 rfl (lv_at hl 0 rfl) ?_
  refine g_get (r := (1, 0)) (Cn := RX7) (T := TX7) (N := 7) (ci := 10) (v := .ref (ad1 (2, 0))) C tinX7 hW (List.mem_append_left _ (hV.r (by decide))) ((sup_ne (rne (by omega))).trans rfl) rfl 0 (by decide) tw_1_206 (fun _ h9 => h9) rfl dX7_addQuote_9 ?_
  refine lv_aload_n hx hb dX7_addQuote_12 rfl (lv_at hl 1 rfl) ?_
  refine lv_iload_n hx hb dX7_addQuote_13 rfl (lv_at hl 2 rfl) ?_
  refine g_callIv (k2 := 3) (As := [.ref (ad1 (2, 0)), .ref (ad1 (31, t)), .int z9]) (rest := [.ref (ad1 (40, (cr 13 0))), .ref (ad1 (11, 0))]) C (c_X3_init l X (L ++ [(40, (cr 13 0))]) ad1 (sup (cSt X ad1 st0 ci ca cr) (40, (cr 13 0)) (.inr (6, [.int 0, .int 0, .int 0, .int 0, .int 0, .int 0, .null, .int 0]))) (cr 13 0) t z9 (ci 2 0) (ci 3 0) (X.2.2 (cr 2 0)) (ca 4 0) (List.mem_append_right _ (List.mem_singleton.mpr rfl)) (List.mem_append_left _ (hV.r (by decide))) (List.mem_append_left _ (hV.r (by decide))) sup_at ((sup_ne (rne (by omega))).trans rfl) ((sup_ne (rne (by omega))).trans rfl)) tw_4_169 tw_4_170 tw_1_31 tw_4_171 (by decide +kernel) ⟨by rw [hR1]; exact Nat.le_of_ble_eq_true rfl, by rw [hR2]; exact Nat.le_of_ble_eq_true rfl⟩ hW hS rfl hl.1 rfl (Nat.le_of_ble_eq_true rfl) dX7_addQuote_14 ⟨by rw [hR3]; exact Nat.le_of_ble_eq_true rfl, by rw [hR4]; exact Nat.le_of_ble_eq_true rfl⟩ (fun L9 ad9 st9 H locs hp hW hS => ?_)
  obtain ⟨stq, z0, hs9, hk9⟩ := hp
  cases z0
  replace hW := cN_end cN_40 hW hs9 hk9
  refine g_callFi (r := (11, 0)) (T := TJx4a65c) (N := 3) (x := ⟨"java/util/List", "add", "(Ljava/lang/Object;)Z"⟩) (k2 := 1) (As := [.ref (ad1 (40, (cr 13 0)))]) (rest := []) C (c_ladd l X (L ++ [(40, (cr 13 0))]) ad1 st0 (qtC ci (cr 13 0) (ca 4 0) z9) ca (ur2 cr 40 (cr 13 0) t) 0 (cr 13 0) (by decide) rfl (List.mem_append_left _ (hV.r (by decide))) (hV.2.1 0 (by decide)).1 (fun q => have q9 : cr 12 0 = 0 := q; ⟨nmem_app ((hV.2.1 0 (by decide)).2.1 q9).1 (rne (by omega)), ((hV.2.1 0 (by decide)).2.1 q9).2⟩) (fun q => have q9 : ¬ cr 12 0 = 0 := q; ⟨List.mem_append_left _ ((hV.2.1 0 (by decide)).2.2 q9).1, ((hV.2.1 0 (by decide)).2.2 q9).2⟩) (by omega) (nmem_app (vX 65 (by decide) (by decide)) (rne (by omega))) (fun k9 h9 => by rcases Nat.lt_succ_iff_lt_or_eq.mp h9 with h9 | h9; exact ⟨List.mem_append_left _ ((hV.2.2.2.1 k9).mpr h9), _, rfl⟩; subst h9; exact ⟨List.mem_append_right _ (List.mem_singleton.mpr rfl), _, rfl⟩)) tw_4_204 tw_4_207 tw_4_209 tw_1_6 (by decide +kernel) tw_4_211 (by decide +kernel) ⟨by rw [hR1]; exact Nat.le_of_ble_eq_true rfl, by rw [hR2]; exact Nat.le_of_ble_eq_true rfl⟩ hW hS (List.mem_append_left _ (hV.r (by decide))) rfl rfl rfl hl.1 rfl (Nat.le_of_ble_eq_true rfl) dX7_addQuote_17 ⟨by rw [hR3]; exact Nat.le_of_ble_eq_true rfl, by rw [hR4]; exact Nat.le_of_ble_eq_true rfl⟩ (fun x6 L3 ad3 st3 H locs hp hW hS => ?_)
  obtain ⟨_, _, _, z0, hp⟩ := hp
  cases z0
  obtain ⟨cap, hcap1, hcap2, hcap3, hW⟩ := alP_c (by decide) rfl hW hp
  have hL3 := fun x hx => (hp.1 x).mpr (Or.inl hx)
  have hl : lv_has ls 3 [(0, .ref (ad3 (1, 0))), (1, .ref (ad3 (31, t))), (2, .int z9)] := by rw [hp.2.1 (1, 0) (rne (by omega)), hp.2.1 (31, t) (rne (by omega))]; exact hl
  refine lv_pop hx hb dX7_addQuote_22 rfl ?_
  refine lv_aload_n hx hb dX7_addQuote_23 rfl (lv_at hl 0 rfl) ?_
  refine g_get (r := (1, 0)) (Cn := RX7) (T := TX7) (N := 7) (ci := 10) (v := .ref (ad3 (11, 0))) C tinX7 hW (hL3 _ (List.mem_append_left _ (hV.r (by decide)))) rfl rfl 4 (by decide) tw_1_210 (fun _ h9 => h9) rfl dX7_addQuote_24 ?_
  refine g_callFi (r := (11, 0)) (T := TJx4a65c) (N := 3) (x := ⟨"java/util/List", "size", "()I"⟩) (k2 := 0) (As := []) (rest := []) C (c_lsize l X L3 ad3 st0 (ciL (qtC ci (cr 13 0) (ca 4 0) z9) 0 (cr 13 0)) ca (crL (ur2 cr 40 (cr 13 0) t) 0 (cr 13 0) cap) 0 (cr 13 0 + 1) (hL3 _ (List.mem_append_left _ (hV.r (by decide)))) up2_at) tw_4_109 tw_4_113 tw_4_115 tw_1_6 (by decide +kernel) tw_4_117 (by decide +kernel) ⟨by rw [hR1]; exact Nat.le_of_ble_eq_true rfl, by rw [hR2]; exact Nat.le_of_ble_eq_true rfl⟩ hW hS (hL3 _ (List.mem_append_left _ (hV.r (by decide)))) rfl rfl rfl hl.1 rfl (Nat.le_of_ble_eq_true rfl) dX7_addQuote_27 ⟨by rw [hR3]; exact Nat.le_of_ble_eq_true rfl, by rw [hR4]; exact Nat.le_of_ble_eq_true rfl⟩ (fun x7 L9 ad9 st9 H locs hp hW hS => ?_)
  obtain ⟨z0, z1⟩ := hp
  cases z0
  subst z1
  refine lv_iconst (v := 1) hx hb dX7_addQuote_32 (by decide) ?_
  refine lv_isub hx hb dX7_addQuote_33 ?_
  refine lv_topE (y := nI (cr 13 0)) (nI_p1 _) ?_
  exact g_iret2 C hQ hW hS ⟨_, _, cap, rfl, g_frm hp.1, (fun x h1 h2 => (hp.2.1 x h2).trans (ha3 x h1)), hcap1, hcap2, hcap3, rfl⟩ rfl (Nat.le_of_ble_eq_true rfl) (Nat.le_of_ble_eq_true rfl) dX7_addQuote_34

set_option maxHeartbeats 4000000 in
set_option maxRecDepth 100000 in
theorem c_X7_book (l : Launch) (X : GX) (L : List ro) (ad : ro → Nat) (st0 : ro → va_E) (ci : Nat → Nat → Int32) (ca : Nat → Nat → Nat → Int32) (cr : Nat → Nat → Nat) (n w tot nt : Nat) (kp nx : Nat → Nat) (hV : cV L ci ca cr n w tot nt kp nx) (hl0 : l.stackTraces = false) (a : Int32) : gXi l yX7_book cX7_book 5 (some .int) 7 191 10 300 X [.ref (ad (1, 0)), .int a] L ad (cSt X ad st0 ci ca cr) (fun v u => ∃ k, k < cr 13 0 ∧ a = nI k ∧ ∃ c9, c9 < 4 ∧ ci 41 k = nI c9 ∧ ¬ (¬ nI w < ci 46 k ∧ ¬ prcC (ci 36 (cr 30 c9)) (ci 37 (cr 30 c9)) (ci 38 (cr 30 c9)) (ci 42 k - ci 43 k) (ci 44 k) (ci 45 k) = prcC (ci 36 (cr 40 k)) (ci 37 (cr 40 k)) (ci 38 (cr 40 k)) (ci 42 k - ci 43 k) (ci 44 k) (ci 45 k)) ∧ cr 13 1 < 50 ∧ ∃ L' ad' cap, u = (L', ad', cSt X ad' st0 (ciL (up2 (up2 (up2 ci 50 (cr 13 1) (nI w)) 51 (cr 13 1) (prcC (ci 36 (cr 40 k)) (ci 37 (cr 40 k)) (ci 38 (cr 40 k)) (ci 42 k - ci 43 k) (ci 44 k) (ci 45 k))) 52 (cr 13 1) 0) 1 (cr 13 1)) ca (crL (ur2 cr 50 (cr 13 1) k) 1 (cr 13 1) cap)) ∧ (∀ x : ro, x ∈ L' ↔ x ∈ L ∨ x = (50, cr 13 1) ∨ x = (12, 1)) ∧ (∀ x : ro, x ≠ (50, cr 13 1) → x ≠ (12, 1) → ad' x = ad x) ∧ cr 13 1 + 1 ≤ cap ∧ 10 ≤ cap ∧ cap ≤ 150 ∧ v = nI (cr 13 1)) (fun E u => u = (L, ad, cSt X ad st0 ci ca cr) ∧ ((E = "java/lang/IndexOutOfBoundsException" ∧ ¬ vp_in a (cr 13 0)) ∨ (E = "java/lang/IllegalStateException" ∧ ∃ k, k < cr 13 0 ∧ a = nI k ∧ ∃ c9, c9 < 4 ∧ ci 41 k = nI c9 ∧ ((¬ nI w < ci 46 k ∧ ¬ prcC (ci 36 (cr 30 c9)) (ci 37 (cr 30 c9)) (ci 38 (cr 30 c9)) (ci 42 k - ci 43 k) (ci 44 k) (ci 45 k) = prcC (ci 36 (cr 40 k)) (ci 37 (cr 40 k)) (ci 38 (cr 40 k)) (ci 42 k - ci 43 k) (ci 44 k) (ci 45 k)) ∨ cr 13 1 = 50)))) := by
  intro sz
  refine gX_of2 (Qc := fun A => va_Qi _ (gB X A) A) (XC := fun A => gXC X A _) (by decide) (Nat.le_of_ble_eq_true rfl) ?_ sz
  intro p e s m args below meth c A R Q hR hQ hnx C hW hS ls hl
  obtain ⟨hR1, hR2, hR3, hR4⟩ := hR
  have hx := C.1.1
  have hb := C.1.2.1
  have hml := C.1.2.2.1
  have hl : lv_has ls 5 [(0, .ref (ad (1, 0))), (1, .int a)] := hl
  obtain ⟨vR, vA, vN, vq, vp, vt, vQ, vP, vC, vX, vT, vW, vG, vS⟩ := id hV
  obtain ⟨vT1, vT2, vT3⟩ := vT
  obtain ⟨vW1, vW2⟩ := vW
  obtain ⟨vG1, vG2, vG3⟩ := vG
  obtain ⟨vN1, vN2⟩ := vN
  refine lv_aload_n hx hb dX7_book_0 rfl (lv_at hl 0 rfl) ?_
  refine lv_iload_n hx hb dX7_book_1 rfl (lv_at hl 1 rfl) ?_
  refine g_callXq (r := (1, 0)) (T := TX7) (N := 7) (k2 := 1) (As := [.int a]) (rest := []) C hnx hQ (c_X7_quoteAt l X L ad st0 ci ca cr n w tot nt kp nx hV hl0 a) (fun E u h => ⟨h.1, Or.inl h.2⟩) tw_5_40 tw_5_42 tw_0_21 tw_1_1 tw_5_43 (by decide +kernel) ⟨by rw [hR1]; exact Nat.le_of_ble_eq_true rfl, by rw [hR2]; exact Nat.le_of_ble_eq_true rfl⟩ hW hS (hV.r (by decide)) rfl rfl rfl hl.1 rfl (Nat.le_of_ble_eq_true rfl) dX7_book_2 ⟨by rw [hR3]; exact Nat.le_of_ble_eq_true rfl, by rw [hR4]; exact Nat.le_of_ble_eq_true rfl⟩ ⟨Nat.le_of_ble_eq_true rfl, Nat.le_of_ble_eq_true rfl⟩ (fun v1 L9 ad9 st9 H locs hp hW hS => ?_)
  obtain ⟨z0, k2, hk2, hak2, hv9⟩ := hp
  cases z0
  subst hv9
  refine lv_topV (y := .ref (ad (40, k2))) rfl ?_
  subst hak2
  refine lv_astore_n (lv' := [(2, .ref (ad (40, k2))), (0, .ref (ad (1, 0))), (1, .int (nI k2))]) hx hb dX7_book_5 rfl hl (by decide) rfl (fun ls hl => ?_)
  refine lv_aload_n hx hb dX7_book_6 rfl (lv_at hl 0 rfl) ?_
  refine lv_aload_n hx hb dX7_book_7 rfl (lv_at hl 0 rfl) ?_
  refine g_get (r := (40, k2)) (Cn := RX3) (T := TX3) (N := 8) (ci := 6) (v := .ref (ad (31, cr 40 k2))) C tinX3 hW (hV.qt (by first | omega | exact (hV.pc (by omega)).2)).1 rfl rfl 6 (by decide) tw_4_183 (fun _ h9 => h9) rfl dX7_book_8 ?_
  refine lv_aload_n hx hb dX7_book_11 rfl (lv_at hl 0 rfl) ?_
  refine g_get (r := (40, k2)) (Cn := RX3) (T := TX3) (N := 8) (ci := 6) (v := .int (ci 44 k2)) C tinX3 hW (hV.qt (by first | omega | exact (hV.pc (by omega)).2)).1 rfl rfl 4 (by decide) tw_4_180 (fun _ h9 => h9) rfl dX7_book_12 ?_
  refine g_callVi (r := (40, k2)) (T := TX3) (N := 8) (k2 := 2) (As := [.ref (ad (31, cr 40 k2)), .int (ci 44 k2)]) (rest := []) C (c_X3_priceBy l X L ad st0 ci ca cr k2 (hV.qt (by first | omega | exact (hV.pc (by omega)).2)).1 (cr 40 k2) (hV.qt (by first | omega | exact (hV.pc (by omega)).2)).2 (ci 44 k2)) tw_5_45 tw_5_46 tw_5_47 tw_1_31 tw_5_48 (by decide +kernel) ⟨by rw [hR1]; exact Nat.le_of_ble_eq_true rfl, by rw [hR2]; exact Nat.le_of_ble_eq_true rfl⟩ hW hS (hV.qt (by first | omega | exact (hV.pc (by omega)).2)).1 rfl rfl rfl hl.1 rfl (Nat.le_of_ble_eq_true rfl) dX7_book_15 ⟨by rw [hR3]; exact Nat.le_of_ble_eq_true rfl, by rw [hR4]; exact Nat.le_of_ble_eq_true rfl⟩ (fun x3 L9 ad9 st9 H locs hp hW hS => ?_)
  obtain ⟨ci9, ca9, cr9, z0, hp⟩ := hp
  cases z0
  obtain ⟨z1, z2, z3, h4⟩ := hp
  rw [z1, z2, z3] at hW
  subst h4
  refine lv_istore_n (lv' := [(3, .int (prcC (ci 36 (cr 40 k2)) (ci 37 (cr 40 k2)) (ci 38 (cr 40 k2)) (ci 42 k2 - ci 43 k2) (ci 44 k2) (ci 45 k2))), (2, .ref (ad (40, k2))), (0, .ref (ad (1, 0))), (1, .int (nI k2))]) hx hb dX7_book_18 rfl hl (by decide) rfl (fun ls hl => ?_)
  refine lv_aload_n hx hb dX7_book_19 rfl (lv_at hl 1 rfl) ?_
  refine lv_aload_n hx hb dX7_book_20 rfl (lv_at hl 2 rfl) ?_
  refine lv_aload_n hx hb dX7_book_21 rfl (lv_at hl 1 rfl) ?_
  obtain ⟨c9, hc9, hc9e⟩ := (vQ k2 hk2).2
  refine g_get (r := (40, k2)) (Cn := RX3) (T := TX3) (N := 8) (ci := 6) (v := .int (ci 41 k2)) C tinX3 hW (hV.qt (by first | omega | exact (hV.pc (by omega)).2)).1 rfl rfl 1 (by decide) tw_4_176 (fun _ h9 => h9) rfl dX7_book_22 ?_
  refine lv_topE (y := nI c9) (by show ci 41 k2 = nI c9; exact hc9e) ?_
  refine g_callXq (r := (1, 0)) (T := TX7) (N := 7) (k2 := 1) (As := [.int (nI c9)]) (rest := [.ref (ad (40, k2))]) C hnx hQ (c_X7_carrierAt l X L ad st0 ci ca cr n w tot nt kp nx hV hl0 (nI c9)) (fun E u h => absurd (vp_in_nI (n := c9) (N := 4) hc9 (by decide)) h.2.2) tw_4_84 tw_4_86 tw_0_13 tw_1_1 tw_4_87 (by decide +kernel) ⟨by rw [hR1]; exact Nat.le_of_ble_eq_true rfl, by rw [hR2]; exact Nat.le_of_ble_eq_true rfl⟩ hW hS (hV.r (by decide)) rfl rfl rfl hl.1 rfl (Nat.le_of_ble_eq_true rfl) dX7_book_25 ⟨by rw [hR3]; exact Nat.le_of_ble_eq_true rfl, by rw [hR4]; exact Nat.le_of_ble_eq_true rfl⟩ ⟨Nat.le_of_ble_eq_true rfl, Nat.le_of_ble_eq_true rfl⟩ (fun v5 L9 ad9 st9 H locs hp hW hS => ?_)
  obtain ⟨z0, k6, hk6, hak6, hv9⟩ := hp
  cases z0
  have ek6 := (nI_eq (by omega) (by omega)).mp hak6
  subst ek6
  subst hv9
  refine lv_topV (y := .ref (ad (30, c9))) rfl ?_
  refine g_get (r := (30, c9)) (Cn := RX1) (T := TX1) (N := 7) (ci := 4) (v := .ref (ad (31, cr 30 c9))) C tinX1 hW (hV.carr (by first | omega | exact (hV.pc (by omega)).2)) rfl rfl 3 (by decide) tw_1_187 (fun _ h9 => h9) rfl dX7_book_28 ?_
  refine lv_aload_n hx hb dX7_book_31 rfl (lv_at hl 1 rfl) ?_
  refine g_get (r := (40, k2)) (Cn := RX3) (T := TX3) (N := 8) (ci := 6) (v := .int (ci 44 k2)) C tinX3 hW (hV.qt (by first | omega | exact (hV.pc (by omega)).2)).1 rfl rfl 4 (by decide) tw_4_180 (fun _ h9 => h9) rfl dX7_book_32 ?_
  refine g_callVi (r := (40, k2)) (T := TX3) (N := 8) (k2 := 2) (As := [.ref (ad (31, cr 30 c9)), .int (ci 44 k2)]) (rest := []) C (c_X3_priceBy l X L ad st0 ci ca cr k2 (hV.qt (by first | omega | exact (hV.pc (by omega)).2)).1 (cr 30 c9) (hV.ct _) (ci 44 k2)) tw_5_45 tw_5_46 tw_5_47 tw_1_31 tw_5_48 (by decide +kernel) ⟨by rw [hR1]; exact Nat.le_of_ble_eq_true rfl, by rw [hR2]; exact Nat.le_of_ble_eq_true rfl⟩ hW hS (hV.qt (by first | omega | exact (hV.pc (by omega)).2)).1 rfl rfl rfl hl.1 rfl (Nat.le_of_ble_eq_true rfl) dX7_book_35 ⟨by rw [hR3]; exact Nat.le_of_ble_eq_true rfl, by rw [hR4]; exact Nat.le_of_ble_eq_true rfl⟩ (fun x7 L9 ad9 st9 H locs hp hW hS => ?_)
  obtain ⟨ci9, ca9, cr9, z0, hp⟩ := hp
  cases z0
  obtain ⟨z1, z2, z3, h8⟩ := hp
  rw [z1, z2, z3] at hW
  subst h8
  refine lv_istore (lv' := [(4, .int (prcC (ci 36 (cr 30 c9)) (ci 37 (cr 30 c9)) (ci 38 (cr 30 c9)) (ci 42 k2 - ci 43 k2) (ci 44 k2) (ci 45 k2))), (3, .int (prcC (ci 36 (cr 40 k2)) (ci 37 (cr 40 k2)) (ci 38 (cr 40 k2)) (ci 42 k2 - ci 43 k2) (ci 44 k2) (ci 45 k2))), (2, .ref (ad (40, k2))), (0, .ref (ad (1, 0))), (1, .int (nI k2))]) hx hb dX7_book_38 hl (by decide) rfl (fun ls hl => ?_)
  refine lv_aload_n hx hb dX7_book_40 rfl (lv_at hl 2 rfl) ?_
  refine lv_aload_n hx hb dX7_book_41 rfl (lv_at hl 3 rfl) ?_
  refine g_get (r := (1, 0)) (Cn := RX7) (T := TX7) (N := 7) (ci := 10) (v := .int (ci 1 0)) C tinX7 hW (hV.r (by decide)) rfl rfl 6 (by decide) tw_1_212 (fun _ h9 => h9) rfl dX7_book_42 ?_
  refine lv_topE (y := nI w) (by show ci 1 0 = nI w; exact hV.2.2.2.2.2.2.2.2.2.2.2.1.1) ?_
  refine g_callVi (r := (40, k2)) (T := TX3) (N := 8) (k2 := 1) (As := [.int (nI w)]) (rest := []) C (c_X3_isFixedAt l X L ad st0 ci ca cr k2 (hV.qt (by first | omega | exact (hV.pc (by omega)).2)).1 (nI w)) tw_4_155 tw_4_156 tw_4_157 tw_1_31 tw_4_158 (by decide +kernel) ⟨by rw [hR1]; exact Nat.le_of_ble_eq_true rfl, by rw [hR2]; exact Nat.le_of_ble_eq_true rfl⟩ hW hS (hV.qt (by first | omega | exact (hV.pc (by omega)).2)).1 rfl rfl rfl hl.1 rfl (Nat.le_of_ble_eq_true rfl) dX7_book_45 ⟨by rw [hR3]; exact Nat.le_of_ble_eq_true rfl, by rw [hR4]; exact Nat.le_of_ble_eq_true rfl⟩ (fun v9 L9 ad9 st9 H locs hp hW hS => ?_)
  obtain ⟨ci9, ca9, cr9, z0, hp⟩ := hp
  cases z0
  obtain ⟨z1, z2, z3, h9⟩ := hp
  rw [z1, z2, z3] at hW
  rcases h9 with ⟨h9, e9⟩ | ⟨h9, e9⟩
  · subst e9
    refine lv_if_ne (tgt := 67) hx hb dX7_book_48 (by decide) (fun _ => ?_) (fun c9 => absurd c9 (by decide))
    refine lv_aload_n hx hb dX7_book_67 rfl (lv_at hl 3 rfl) ?_
    refine g_get (r := (1, 0)) (Cn := RX7) (T := TX7) (N := 7) (ci := 10) (v := .ref (ad (11, 1))) C tinX7 hW (hV.r (by decide)) rfl rfl 5 (by decide) tw_1_211 (fun _ h9 => h9) rfl dX7_book_68 ?_
    refine g_callFi (r := (11, 1)) (T := TJx4a65c) (N := 3) (x := ⟨"java/util/List", "size", "()I"⟩) (k2 := 0) (As := []) (rest := []) C (c_lsize l X L ad st0 ci ca cr 1 (cr 13 1) (hV.r (by decide)) (hV.2.1 1 (by decide)).1) tw_4_109 tw_4_113 tw_4_115 tw_1_6 (by decide +kernel) tw_4_117 (by decide +kernel) ⟨by rw [hR1]; exact Nat.le_of_ble_eq_true rfl, by rw [hR2]; exact Nat.le_of_ble_eq_true rfl⟩ hW hS (hV.r (by decide)) rfl rfl rfl hl.1 rfl (Nat.le_of_ble_eq_true rfl) dX7_book_71 ⟨by rw [hR3]; exact Nat.le_of_ble_eq_true rfl, by rw [hR4]; exact Nat.le_of_ble_eq_true rfl⟩ (fun x10 L9 ad9 st9 H locs hp hW hS => ?_)
    obtain ⟨z0, z1⟩ := hp
    cases z0
    subst z1
    refine lv_bipush (v := 50) hx hb dX7_book_76 (by decide) ?_
    refine lv_icmp_lt (tgt := 91) hx hb dX7_book_78 (by decide) (fun c11 => ?_) (fun c11 => ?_)
    · have c11n := q_lt (a := (cr 13 1)) (b := 50) (by omega) (by omega) c11
      refine lv_aload_n hx hb dX7_book_91 rfl (lv_at hl 3 rfl) ?_
      refine g_get (r := (1, 0)) (Cn := RX7) (T := TX7) (N := 7) (ci := 10) (v := .ref (ad (11, 1))) C tinX7 hW (hV.r (by decide)) rfl rfl 5 (by decide) tw_1_211 (fun _ h9 => h9) rfl dX7_book_92 ?_
      refine g_newo (r := (50, (cr 13 1))) (Cn := RX2) (T := TX2) (N := 4) (ci := 5) (ty0 := tyX2) (fs := [.null, .int 0, .int 0, .int 0]) C tinX2 tyX2_ok hW hS (fun h9 => Nat.lt_irrefl _ ((hV.2.2.2.2.1 _).mp h9)) rfl tw_5_101 tw_5_102 tw_1_32 (by intro j hj; rcases (show j = 0 ∨ j = 1 ∨ j = 2 ∨ j = 3 by omega) with rfl | rfl | rfl | rfl <;> rfl) (by rw [hR3]; exact Nat.le_of_ble_eq_true rfl) (by rw [hR4]; exact Nat.le_of_ble_eq_true rfl) dX7_book_95 (fun ad12 st13 H ha14 fk15 hs16 hW hS => ?_)
      replace hW := cN_new (r0 := (50, (cr 13 1))) (fun h9 => Nat.lt_irrefl _ ((hV.2.2.2.2.1 _).mp h9)) hW ha14 fk15 hs16 (fun k9 i9 h9 => cE_new hV (Or.inr (Or.inr rfl)) ha14 h9)
      have hl : lv_has ls 5 [(4, .int (prcC (ci 36 (cr 30 c9)) (ci 37 (cr 30 c9)) (ci 38 (cr 30 c9)) (ci 42 k2 - ci 43 k2) (ci 44 k2) (ci 45 k2))), (3, .int (prcC (ci 36 (cr 40 k2)) (ci 37 (cr 40 k2)) (ci 38 (cr 40 k2)) (ci 42 k2 - ci 43 k2) (ci 44 k2) (ci 45 k2))), (2, .ref (ad12 (40, k2))), (0, .ref (ad12 (1, 0))), (1, .int (nI k2))] := by rw [ha14 (40, k2) (rne (by omega)), ha14 (1, 0) (rne (by omega))]; exact hl
      refine W.eq (g2 := F0 m 98 ls [.ref (ad12 (50, (cr 13 1))), .ref (ad12 (11, 1))]) (by rw [ha14 (11, 1) (rne (by omega))] <;> rfl) ?_
      refine lv_dup hx hb dX7_book_98 rfl ?_
      refine lv_aload_n hx hb dX7_book_99 rfl (lv_at hl 2 rfl) ?_
      refine lv_iload_n hx hb dX7_book_100 rfl (lv_at hl 1 rfl) ?_
      refine lv_aload_n hx hb dX7_book_101 rfl (lv_at hl 3 rfl) ?_
      refine g_get (r := (1, 0)) (Cn := RX7) (T := TX7) (N := 7) (ci := 10) (v := .int (ci 1 0)) C tinX7 hW (List.mem_append_left _ (hV.r (by decide))) ((sup_ne (rne (by omega))).trans rfl) rfl 6 (by decide) tw_1_212 (fun _ h9 => h9) rfl dX7_book_102 ?_
      refine lv_topE (y := nI w) (by show ci 1 0 = nI w; exact hV.2.2.2.2.2.2.2.2.2.2.2.1.1) ?_
      refine g_callIv (k2 := 3) (As := [.ref (ad12 (40, k2)), .int (prcC (ci 36 (cr 40 k2)) (ci 37 (cr 40 k2)) (ci 38 (cr 40 k2)) (ci 42 k2 - ci 43 k2) (ci 44 k2) (ci 45 k2)), .int (nI w)]) (rest := [.ref (ad12 (50, (cr 13 1))), .ref (ad12 (11, 1))]) C (c_X2_init l X (L ++ [(50, (cr 13 1))]) ad12 (sup (cSt X ad12 st0 ci ca cr) (50, (cr 13 1)) (.inr (5, [.null, .int 0, .int 0, .int 0]))) (cr 13 1) k2 (prcC (ci 36 (cr 40 k2)) (ci 37 (cr 40 k2)) (ci 38 (cr 40 k2)) (ci 42 k2 - ci 43 k2) (ci 44 k2) (ci 45 k2)) (nI w) (List.mem_append_right _ (List.mem_singleton.mpr rfl)) sup_at) tw_5_103 tw_5_104 tw_1_32 tw_5_105 (by decide +kernel) ⟨by rw [hR1]; exact Nat.le_of_ble_eq_true rfl, by rw [hR2]; exact Nat.le_of_ble_eq_true rfl⟩ hW hS rfl hl.1 rfl (Nat.le_of_ble_eq_true rfl) dX7_book_105 ⟨by rw [hR3]; exact Nat.le_of_ble_eq_true rfl, by rw [hR4]; exact Nat.le_of_ble_eq_true rfl⟩ (fun L9 ad9 st9 H locs hp hW hS => ?_)
      obtain ⟨stq, z0, hs9, hk9⟩ := hp
      cases z0
      replace hW := cN_end cN_50 hW hs9 hk9
      refine g_callFi (r := (11, 1)) (T := TJx4a65c) (N := 3) (x := ⟨"java/util/List", "add", "(Ljava/lang/Object;)Z"⟩) (k2 := 1) (As := [.ref (ad12 (50, (cr 13 1)))]) (rest := []) C (c_ladd l X (L ++ [(50, (cr 13 1))]) ad12 st0 (up2 (up2 (up2 ci 50 (cr 13 1) (nI w)) 51 (cr 13 1) (prcC (ci 36 (cr 40 k2)) (ci 37 (cr 40 k2)) (ci 38 (cr 40 k2)) (ci 42 k2 - ci 43 k2) (ci 44 k2) (ci 45 k2))) 52 (cr 13 1) 0) ca (ur2 cr 50 (cr 13 1) k2) 1 (cr 13 1) (by decide) rfl (List.mem_append_left _ (hV.r (by decide))) (hV.2.1 1 (by decide)).1 (fun q => have q9 : cr 12 1 = 0 := q; ⟨nmem_app ((hV.2.1 1 (by decide)).2.1 q9).1 (rne (by omega)), ((hV.2.1 1 (by decide)).2.1 q9).2⟩) (fun q => have q9 : ¬ cr 12 1 = 0 := q; ⟨List.mem_append_left _ ((hV.2.1 1 (by decide)).2.2 q9).1, ((hV.2.1 1 (by decide)).2.2 q9).2⟩) (by omega) (nmem_app (vX 65 (by decide) (by decide)) (rne (by omega))) (fun k9 h9 => by rcases Nat.lt_succ_iff_lt_or_eq.mp h9 with h9 | h9; exact ⟨List.mem_append_left _ ((hV.2.2.2.2.1 k9).mpr h9), _, rfl⟩; subst h9; exact ⟨List.mem_append_right _ (List.mem_singleton.mpr rfl), _, rfl⟩)) tw_4_204 tw_4_207 tw_4_209 tw_1_6 (by decide +kernel) tw_4_211 (by decide +kernel) ⟨by rw [hR1]; exact Nat.le_of_ble_eq_true rfl, by rw [hR2]; exact Nat.le_of_ble_eq_true rfl⟩ hW hS (List.mem_append_left _ (hV.r (by decide))) rfl rfl rfl hl.1 rfl (Nat.le_of_ble_eq_true rfl) dX7_book_108 ⟨by rw [hR3]; exact Nat.le_of_ble_eq_true rfl, by rw [hR4]; exact Nat.le_of_ble_eq_true rfl⟩ (fun x17 L3 ad3 st3 H locs hp hW hS => ?_)
      obtain ⟨_, _, _, z0, hp⟩ := hp
      cases z0
      obtain ⟨cap, hcap1, hcap2, hcap3, hW⟩ := alP_c (by decide) rfl hW hp
      have hL3 := fun x hx => (hp.1 x).mpr (Or.inl hx)
      have hl : lv_has ls 5 [(4, .int (prcC (ci 36 (cr 30 c9)) (ci 37 (cr 30 c9)) (ci 38 (cr 30 c9)) (ci 42 k2 - ci 43 k2) (ci 44 k2) (ci 45 k2))), (3, .int (prcC (ci 36 (cr 40 k2)) (ci 37 (cr 40 k2)) (ci 38 (cr 40 k2)) (ci 42 k2 - ci 43 k2) (ci 44 k2) (ci 45 k2))), (2, .ref (ad3 (40, k2))), (0, .ref (ad3 (1, 0))), (1, .int (nI k2))] := by rw [hp.2.1 (40, k2) (rne (by omega)), hp.2.1 (1, 0) (rne (by omega))]; exact hl
      refine lv_pop hx hb dX7_book_113 rfl ?_
      refine lv_aload_n hx hb dX7_book_114 rfl (lv_at hl 3 rfl) ?_
      refine g_get (r := (1, 0)) (Cn := RX7) (T := TX7) (N := 7) (ci := 10) (v := .ref (ad3 (11, 1))) C tinX7 hW (hL3 _ (List.mem_append_left _ (hV.r (by decide)))) rfl rfl 5 (by decide) tw_1_211 (fun _ h9 => h9) rfl dX7_book_115 ?_
      refine g_callFi (r := (11, 1)) (T := TJx4a65c) (N := 3) (x := ⟨"java/util/List", "size", "()I"⟩) (k2 := 0) (As := []) (rest := []) C (c_lsize l X L3 ad3 st0 (ciL (up2 (up2 (up2 ci 50 (cr 13 1) (nI w)) 51 (cr 13 1) (prcC (ci 36 (cr 40 k2)) (ci 37 (cr 40 k2)) (ci 38 (cr 40 k2)) (ci 42 k2 - ci 43 k2) (ci 44 k2) (ci 45 k2))) 52 (cr 13 1) 0) 1 (cr 13 1)) ca (crL (ur2 cr 50 (cr 13 1) k2) 1 (cr 13 1) cap) 1 (cr 13 1 + 1) (hL3 _ (List.mem_append_left _ (hV.r (by decide)))) up2_at) tw_4_109 tw_4_113 tw_4_115 tw_1_6 (by decide +kernel) tw_4_117 (by decide +kernel) ⟨by rw [hR1]; exact Nat.le_of_ble_eq_true rfl, by rw [hR2]; exact Nat.le_of_ble_eq_true rfl⟩ hW hS (hL3 _ (List.mem_append_left _ (hV.r (by decide)))) rfl rfl rfl hl.1 rfl (Nat.le_of_ble_eq_true rfl) dX7_book_118 ⟨by rw [hR3]; exact Nat.le_of_ble_eq_true rfl, by rw [hR4]; exact Nat.le_of_ble_eq_true rfl⟩ (fun x18 L9 ad9 st9 H locs hp hW hS => ?_)
      obtain ⟨z0, z1⟩ := hp
      cases z0
      subst z1
      refine lv_iconst (v := 1) hx hb dX7_book_123 (by decide) ?_
      refine lv_isub hx hb dX7_book_124 ?_
      refine lv_topE (y := nI (cr 13 1)) (nI_p1 _) ?_
      exact g_iretX C hQ hW hS ⟨k2, hk2, rfl, c9, hc9, hc9e, (by grind), (by omega), _, _, cap, rfl, g_frm hp.1, (fun x h1 h2 => (hp.2.1 x h2).trans (ha14 x h1)), hcap1, hcap2, hcap3, rfl⟩ rfl (Nat.le_of_ble_eq_true rfl) (Nat.le_of_ble_eq_true rfl) dX7_book_125
    · have c11n := q_nlt (a := (cr 13 1)) (b := 50) (by omega) (by omega) c11
      exact g_throw (cls := "java/lang/IllegalStateException") (text := "no more parcels") (sa := 115) C hl0 hnx hQ hW hS hl.1 gE_IS (by decide +kernel) dX7_book_81 dX7_book_84 dX7_book_85 dX7_book_87 dX7_book_90 (by rw [hR1]; exact Nat.le_of_ble_eq_true rfl) (by rw [hR2]; exact Nat.le_of_ble_eq_true rfl) (by rw [hR3]; exact Nat.le_of_ble_eq_true rfl) (by rw [hR4]; exact Nat.le_of_ble_eq_true rfl) ⟨rfl, Or.inr ⟨rfl, k2, hk2, rfl, c9, hc9, hc9e, (by first | exact Or.inr (by omega) | exact Or.inl ⟨by grind, by grind⟩)⟩⟩ (Nat.le_of_ble_eq_true rfl) (Nat.le_of_ble_eq_true rfl)
  · subst e9
    refine lv_if_ne (tgt := 67) hx hb dX7_book_48 (by decide) (fun c9 => absurd c9 (by decide)) (fun _ => ?_)
    refine lv_iload hx hb dX7_book_51 (lv_at hl 0 rfl) ?_
    refine lv_iload_n hx hb dX7_book_53 rfl (lv_at hl 1 rfl) ?_
    refine lv_icmp_eq (tgt := 67) hx hb dX7_book_54 (by decide) (fun c19 => ?_) (fun c19 => ?_)
    · refine lv_aload_n hx hb dX7_book_67 rfl (lv_at hl 3 rfl) ?_
      refine g_get (r := (1, 0)) (Cn := RX7) (T := TX7) (N := 7) (ci := 10) (v := .ref (ad (11, 1))) C tinX7 hW (hV.r (by decide)) rfl rfl 5 (by decide) tw_1_211 (fun _ h9 => h9) rfl dX7_book_68 ?_
      refine g_callFi (r := (11, 1)) (T := TJx4a65c) (N := 3) (x := ⟨"java/util/List", "size", "()I"⟩) (k2 := 0) (As := []) (rest := []) C (c_lsize l X L ad st0 ci ca cr 1 (cr 13 1) (hV.r (by decide)) (hV.2.1 1 (by decide)).1) tw_4_109 tw_4_113 tw_4_115 tw_1_6 (by decide +kernel) tw_4_117 (by decide +kernel) ⟨by rw [hR1]; exact Nat.le_of_ble_eq_true rfl, by rw [hR2]; exact Nat.le_of_ble_eq_true rfl⟩ hW hS (hV.r (by decide)) rfl rfl rfl hl.1 rfl (Nat.le_of_ble_eq_true rfl) dX7_book_71 ⟨by rw [hR3]; exact Nat.le_of_ble_eq_true rfl, by rw [hR4]; exact Nat.le_of_ble_eq_true rfl⟩ (fun x20 L9 ad9 st9 H locs hp hW hS => ?_)
      obtain ⟨z0, z1⟩ := hp
      cases z0
      subst z1
      refine lv_bipush (v := 50) hx hb dX7_book_76 (by decide) ?_
      refine lv_icmp_lt (tgt := 91) hx hb dX7_book_78 (by decide) (fun c21 => ?_) (fun c21 => ?_)
      · have c21n := q_lt (a := (cr 13 1)) (b := 50) (by omega) (by omega) c21
        refine lv_aload_n hx hb dX7_book_91 rfl (lv_at hl 3 rfl) ?_
        refine g_get (r := (1, 0)) (Cn := RX7) (T := TX7) (N := 7) (ci := 10) (v := .ref (ad (11, 1))) C tinX7 hW (hV.r (by decide)) rfl rfl 5 (by decide) tw_1_211 (fun _ h9 => h9) rfl dX7_book_92 ?_
        refine g_newo (r := (50, (cr 13 1))) (Cn := RX2) (T := TX2) (N := 4) (ci := 5) (ty0 := tyX2) (fs := [.null, .int 0, .int 0, .int 0]) C tinX2 tyX2_ok hW hS (fun h9 => Nat.lt_irrefl _ ((hV.2.2.2.2.1 _).mp h9)) rfl tw_5_101 tw_5_102 tw_1_32 (by intro j hj; rcases (show j = 0 ∨ j = 1 ∨ j = 2 ∨ j = 3 by omega) with rfl | rfl | rfl | rfl <;> rfl) (by rw [hR3]; exact Nat.le_of_ble_eq_true rfl) (by rw [hR4]; exact Nat.le_of_ble_eq_true rfl) dX7_book_95 (fun ad22 st23 H ha24 fk25 hs26 hW hS => ?_)
        replace hW := cN_new (r0 := (50, (cr 13 1))) (fun h9 => Nat.lt_irrefl _ ((hV.2.2.2.2.1 _).mp h9)) hW ha24 fk25 hs26 (fun k9 i9 h9 => cE_new hV (Or.inr (Or.inr rfl)) ha24 h9)
        have hl : lv_has ls 5 [(4, .int (prcC (ci 36 (cr 30 c9)) (ci 37 (cr 30 c9)) (ci 38 (cr 30 c9)) (ci 42 k2 - ci 43 k2) (ci 44 k2) (ci 45 k2))), (3, .int (prcC (ci 36 (cr 40 k2)) (ci 37 (cr 40 k2)) (ci 38 (cr 40 k2)) (ci 42 k2 - ci 43 k2) (ci 44 k2) (ci 45 k2))), (2, .ref (ad22 (40, k2))), (0, .ref (ad22 (1, 0))), (1, .int (nI k2))] := by rw [ha24 (40, k2) (rne (by omega)), ha24 (1, 0) (rne (by omega))]; exact hl
        refine W.eq (g2 := F0 m 98 ls [.ref (ad22 (50, (cr 13 1))), .ref (ad22 (11, 1))]) (by rw [ha24 (11, 1) (rne (by omega))] <;> rfl) ?_
        refine lv_dup hx hb dX7_book_98 rfl ?_
        refine lv_aload_n hx hb dX7_book_99 rfl (lv_at hl 2 rfl) ?_
        refine lv_iload_n hx hb dX7_book_100 rfl (lv_at hl 1 rfl) ?_
        refine lv_aload_n hx hb dX7_book_101 rfl (lv_at hl 3 rfl) ?_
        refine g_get (r := (1, 0)) (Cn := RX7) (T := TX7) (N := 7) (ci := 10) (v := .int (ci 1 0)) C tinX7 hW (List.mem_append_left _ (hV.r (by decide))) ((sup_ne (rne (by omega))).trans rfl) rfl 6 (by decide) tw_1_212 (fun _ h9 => h9) rfl dX7_book_102 ?_
        refine lv_topE (y := nI w) (by show ci 1 0 = nI w; exact hV.2.2.2.2.2.2.2.2.2.2.2.1.1) ?_
        refine g_callIv (k2 := 3) (As := [.ref (ad22 (40, k2)), .int (prcC (ci 36 (cr 40 k2)) (ci 37 (cr 40 k2)) (ci 38 (cr 40 k2)) (ci 42 k2 - ci 43 k2) (ci 44 k2) (ci 45 k2)), .int (nI w)]) (rest := [.ref (ad22 (50, (cr 13 1))), .ref (ad22 (11, 1))]) C (c_X2_init l X (L ++ [(50, (cr 13 1))]) ad22 (sup (cSt X ad22 st0 ci ca cr) (50, (cr 13 1)) (.inr (5, [.null, .int 0, .int 0, .int 0]))) (cr 13 1) k2 (prcC (ci 36 (cr 40 k2)) (ci 37 (cr 40 k2)) (ci 38 (cr 40 k2)) (ci 42 k2 - ci 43 k2) (ci 44 k2) (ci 45 k2)) (nI w) (List.mem_append_right _ (List.mem_singleton.mpr rfl)) sup_at) tw_5_103 tw_5_104 tw_1_32 tw_5_105 (by decide +kernel) ⟨by rw [hR1]; exact Nat.le_of_ble_eq_true rfl, by rw [hR2]; exact Nat.le_of_ble_eq_true rfl⟩ hW hS rfl hl.1 rfl (Nat.le_of_ble_eq_true rfl) dX7_book_105 ⟨by rw [hR3]; exact Nat.le_of_ble_eq_true rfl, by rw [hR4]; exact Nat.le_of_ble_eq_true rfl⟩ (fun L9 ad9 st9 H locs hp hW hS => ?_)
        obtain ⟨stq, z0, hs9, hk9⟩ := hp
        cases z0
        replace hW := cN_end cN_50 hW hs9 hk9
        refine g_callFi (r := (11, 1)) (T := TJx4a65c) (N := 3) (x := ⟨"java/util/List", "add", "(Ljava/lang/Object;)Z"⟩) (k2 := 1) (As := [.ref (ad22 (50, (cr 13 1)))]) (rest := []) C (c_ladd l X (L ++ [(50, (cr 13 1))]) ad22 st0 (up2 (up2 (up2 ci 50 (cr 13 1) (nI w)) 51 (cr 13 1) (prcC (ci 36 (cr 40 k2)) (ci 37 (cr 40 k2)) (ci 38 (cr 40 k2)) (ci 42 k2 - ci 43 k2) (ci 44 k2) (ci 45 k2))) 52 (cr 13 1) 0) ca (ur2 cr 50 (cr 13 1) k2) 1 (cr 13 1) (by decide) rfl (List.mem_append_left _ (hV.r (by decide))) (hV.2.1 1 (by decide)).1 (fun q => have q9 : cr 12 1 = 0 := q; ⟨nmem_app ((hV.2.1 1 (by decide)).2.1 q9).1 (rne (by omega)), ((hV.2.1 1 (by decide)).2.1 q9).2⟩) (fun q => have q9 : ¬ cr 12 1 = 0 := q; ⟨List.mem_append_left _ ((hV.2.1 1 (by decide)).2.2 q9).1, ((hV.2.1 1 (by decide)).2.2 q9).2⟩) (by omega) (nmem_app (vX 65 (by decide) (by decide)) (rne (by omega))) (fun k9 h9 => by rcases Nat.lt_succ_iff_lt_or_eq.mp h9 with h9 | h9; exact ⟨List.mem_append_left _ ((hV.2.2.2.2.1 k9).mpr h9), _, rfl⟩; subst h9; exact ⟨List.mem_append_right _ (List.mem_singleton.mpr rfl), _, rfl⟩)) tw_4_204 tw_4_207 tw_4_209 tw_1_6 (by decide +kernel) tw_4_211 (by decide +kernel) ⟨by rw [hR1]; exact Nat.le_of_ble_eq_true rfl, by rw [hR2]; exact Nat.le_of_ble_eq_true rfl⟩ hW hS (List.mem_append_left _ (hV.r (by decide))) rfl rfl rfl hl.1 rfl (Nat.le_of_ble_eq_true rfl) dX7_book_108 ⟨by rw [hR3]; exact Nat.le_of_ble_eq_true rfl, by rw [hR4]; exact Nat.le_of_ble_eq_true rfl⟩ (fun x27 L3 ad3 st3 H locs hp hW hS => ?_)
        obtain ⟨_, _, _, z0, hp⟩ := hp
        cases z0
        obtain ⟨cap, hcap1, hcap2, hcap3, hW⟩ := alP_c (by decide) rfl hW hp
        have hL3 := fun x hx => (hp.1 x).mpr (Or.inl hx)
        have hl : lv_has ls 5 [(4, .int (prcC (ci 36 (cr 30 c9)) (ci 37 (cr 30 c9)) (ci 38 (cr 30 c9)) (ci 42 k2 - ci 43 k2) (ci 44 k2) (ci 45 k2))), (3, .int (prcC (ci 36 (cr 40 k2)) (ci 37 (cr 40 k2)) (ci 38 (cr 40 k2)) (ci 42 k2 - ci 43 k2) (ci 44 k2) (ci 45 k2))), (2, .ref (ad3 (40, k2))), (0, .ref (ad3 (1, 0))), (1, .int (nI k2))] := by rw [hp.2.1 (40, k2) (rne (by omega)), hp.2.1 (1, 0) (rne (by omega))]; exact hl
        refine lv_pop hx hb dX7_book_113 rfl ?_
        refine lv_aload_n hx hb dX7_book_114 rfl (lv_at hl 3 rfl) ?_
        refine g_get (r := (1, 0)) (Cn := RX7) (T := TX7) (N := 7) (ci := 10) (v := .ref (ad3 (11, 1))) C tinX7 hW (hL3 _ (List.mem_append_left _ (hV.r (by decide)))) rfl rfl 5 (by decide) tw_1_211 (fun _ h9 => h9) rfl dX7_book_115 ?_
        refine g_callFi (r := (11, 1)) (T := TJx4a65c) (N := 3) (x := ⟨"java/util/List", "size", "()I"⟩) (k2 := 0) (As := []) (rest := []) C (c_lsize l X L3 ad3 st0 (ciL (up2 (up2 (up2 ci 50 (cr 13 1) (nI w)) 51 (cr 13 1) (prcC (ci 36 (cr 40 k2)) (ci 37 (cr 40 k2)) (ci 38 (cr 40 k2)) (ci 42 k2 - ci 43 k2) (ci 44 k2) (ci 45 k2))) 52 (cr 13 1) 0) 1 (cr 13 1)) ca (crL (ur2 cr 50 (cr 13 1) k2) 1 (cr 13 1) cap) 1 (cr 13 1 + 1) (hL3 _ (List.mem_append_left _ (hV.r (by decide)))) up2_at) tw_4_109 tw_4_113 tw_4_115 tw_1_6 (by decide +kernel) tw_4_117 (by decide +kernel) ⟨by rw [hR1]; exact Nat.le_of_ble_eq_true rfl, by rw [hR2]; exact Nat.le_of_ble_eq_true rfl⟩ hW hS (hL3 _ (List.mem_append_left _ (hV.r (by decide)))) rfl rfl rfl hl.1 rfl (Nat.le_of_ble_eq_true rfl) dX7_book_118 ⟨by rw [hR3]; exact Nat.le_of_ble_eq_true rfl, by rw [hR4]; exact Nat.le_of_ble_eq_true rfl⟩ (fun x28 L9 ad9 st9 H locs hp hW hS => ?_)
        obtain ⟨z0, z1⟩ := hp
        cases z0
        subst z1
        refine lv_iconst (v := 1) hx hb dX7_book_123 (by decide) ?_
        refine lv_isub hx hb dX7_book_124 ?_
        refine lv_topE (y := nI (cr 13 1)) (nI_p1 _) ?_
        exact g_iretX C hQ hW hS ⟨k2, hk2, rfl, c9, hc9, hc9e, (by grind), (by omega), _, _, cap, rfl, g_frm hp.1, (fun x h1 h2 => (hp.2.1 x h2).trans (ha24 x h1)), hcap1, hcap2, hcap3, rfl⟩ rfl (Nat.le_of_ble_eq_true rfl) (Nat.le_of_ble_eq_true rfl) dX7_book_125
      · have c21n := q_nlt (a := (cr 13 1)) (b := 50) (by omega) (by omega) c21
        exact g_throw (cls := "java/lang/IllegalStateException") (text := "no more parcels") (sa := 115) C hl0 hnx hQ hW hS hl.1 gE_IS (by decide +kernel) dX7_book_81 dX7_book_84 dX7_book_85 dX7_book_87 dX7_book_90 (by rw [hR1]; exact Nat.le_of_ble_eq_true rfl) (by rw [hR2]; exact Nat.le_of_ble_eq_true rfl) (by rw [hR3]; exact Nat.le_of_ble_eq_true rfl) (by rw [hR4]; exact Nat.le_of_ble_eq_true rfl) ⟨rfl, Or.inr ⟨rfl, k2, hk2, rfl, c9, hc9, hc9e, (by first | exact Or.inr (by omega) | exact Or.inl ⟨by grind, by grind⟩)⟩⟩ (Nat.le_of_ble_eq_true rfl) (Nat.le_of_ble_eq_true rfl)
    · exact g_throw (cls := "java/lang/IllegalStateException") (text := "the rate is fixed no more, and the price is another one") (sa := 114) C hl0 hnx hQ hW hS hl.1 gE_IS (by decide +kernel) dX7_book_57 dX7_book_60 dX7_book_61 dX7_book_63 dX7_book_66 (by rw [hR1]; exact Nat.le_of_ble_eq_true rfl) (by rw [hR2]; exact Nat.le_of_ble_eq_true rfl) (by rw [hR3]; exact Nat.le_of_ble_eq_true rfl) (by rw [hR4]; exact Nat.le_of_ble_eq_true rfl) ⟨rfl, Or.inr ⟨rfl, k2, hk2, rfl, c9, hc9, hc9e, (by first | exact Or.inr (by omega) | exact Or.inl ⟨by grind, by grind⟩)⟩⟩ (Nat.le_of_ble_eq_true rfl) (Nat.le_of_ble_eq_true rfl)

