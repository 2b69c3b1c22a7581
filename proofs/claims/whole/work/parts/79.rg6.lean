theorem ft_drop {X : GX} {A : Nat → Prop} {L : List ro} {ad ad' : ro → Nat} {st st' : ro → va_E} {s : State} {H : Heap} (hn : ∀ k, 61 ≤ k → k ≤ 65 → ((k, 0) : ro) ∉ L) (ha : ∀ x : ro, x ≠ (64, 0) → x ≠ (61, 0) → x ≠ (62, 0) → x ≠ (63, 0) → ad' x = ad x) (hs : ∀ x : ro, x ≠ (64, 0) → x ≠ (61, 0) → x ≠ (62, 0) → x ≠ (63, 0) → st' x = st x) (hW : gW X A (L ++ [(62, 0)] ++ [(63, 0)]) ad' st' s H) : gW X A L ad st s H := by
  have h : ∀ r, r ∈ L → r ≠ (64, 0) ∧ r ≠ (61, 0) ∧ r ≠ (62, 0) ∧ r ≠ (63, 0) := fun r hr => ⟨fun q => hn 64 (by decide) (by decide) (q ▸ hr), fun q => hn 61 (by decide) (by decide) (q ▸ hr), fun q => hn 62 (by decide) (by decide) (q ▸ hr), fun q => hn 63 (by decide) (by decide) (q ▸ hr)⟩
  have h1 : gW X A L ad' st' s H := gW_drop (fun _ _ => rfl) (fun _ _ => rfl) (gW_drop (fun _ _ => rfl) (fun _ _ => rfl) hW)
  exact gW_drop (M := []) (fun r hr => (ha r (h r hr).1 (h r hr).2.1 (h r hr).2.2.1 (h r hr).2.2.2).symm) (fun r hr => (hs r (h r hr).1 (h r hr).2.1 (h r hr).2.2.1 (h r hr).2.2.2).symm) (by rw [List.append_nil]; exact h1)
theorem gs_le9 (w : Nat) : gsLen.getD w 0 ≤ 7 := by
  match w with
  | 0 => decide
  | 1 => decide
  | 2 => decide
  | 3 => decide
  | 4 => decide
  | 5 => decide
  | w + 6 => exact Nat.zero_le _
theorem vp_no0 (a : Int32) : ¬ vp_in a 0 := by
  rw [vp_in_iff]
  omega
theorem z0_no {a : Int32} (h1 : ¬ a < 0) (h2 : a < 0) : False := h1 h2
theorem cV_c {L : List ro} {ci : Nat → Nat → Int32} {ca : Nat → Nat → Nat → Int32} {cr : Nat → Nat → Nat} {n w tot nt : Nat} {kp nx : Nat → Nat} (h : cV L ci ca cr n w tot nt kp nx) (x : Int32) (g : Nat → Int32) (q : Nat) : cV L (up2 ci 3 0 x) (ua2 ca 4 0 g) (ur2 cr 2 0 q) n w tot nt kp nx := h
set_option maxHeartbeats 4000000 in
set_option maxRecDepth 100000 in
theorem c_X7_isRight (l : Launch) (X : GX) (L : List ro) (ad : ro → Nat) (st0 : ro → va_E) (ci : Nat → Nat → Int32) (ca : Nat → Nat → Nat → Int32) (cr : Nat → Nat → Nat) (n w tot nt : Nat) (kp nx : Nat → Nat) (hV : cV L ci ca cr n w tot nt kp nx) : gMi l yX7_isRight cX7_isRight 1 (some .boolean) 8 192 10 300 X [.ref (ad (1, 0))] L ad (cSt X ad st0 ci ca cr) (fun v u => ∃ fk vals w9, rdT (ca 3 0) n fk vals w9 ∧ u = (L, ad, cSt X ad st0 (up2 ci 3 0 fk) (ua2 ca 4 0 vals) (ur2 cr 2 0 w9)) ∧ ((w9 = 0 ∧ v = 1) ∨ (¬ w9 = 0 ∧ v = 0))) := by
  intro sz
  refine gM_of2 (Qc := fun A => va_Qi _ (gB X A) A) (by decide) (Nat.le_of_ble_eq_true rfl) ?_ sz
  intro p e s m args below meth c A R Q hR hQ C hW hS ls hl
  obtain ⟨hR1, hR2, hR3, hR4⟩ := hR
  have hx := C.1.1
  have hb := C.1.2.1
  have hml := C.1.2.2.1
  have hl : lv_has ls 1 [(0, .ref (ad (1, 0)))] := hl
  obtain ⟨vR, vA, vN, vq, vp, vt, vQ, vP, vC, vX, vT, vW, vG, vS⟩ := id hV
  obtain ⟨vT1, vT2, vT3⟩ := vT
  obtain ⟨vW1, vW2⟩ := vW
  obtain ⟨vG1, vG2, vG3⟩ := vG
  obtain ⟨vN1, vN2⟩ := vN
  refine lv_aload_n hx hb dX7_isRight_0 rfl (lv_at hl 0 rfl) ?_
  refine g_get (r := (1, 0)) (Cn := RX7) (T := TX7) (N := 7) (ci := 10) (v := .ref (ad (2, 0))) C tinX7 hW (hV.r (by decide)) rfl rfl 0 (by decide) tw_1_206 (fun _ h9 => h9) rfl dX7_isRight_1 ?_
  refine g_callVq (r := (2, 0)) (T := TX4) (N := 5) (k2 := 0) (As := []) (rest := []) C (c_X4_faultText l X L ad st0 ci ca cr (hV.r (by decide)) (hV.r (by decide)) (hV.r (by decide)) n vT1 vT2 vT3 (vX 64 (by decide) (by decide)) (vX 61 (by decide) (by decide)) (vX 62 (by decide) (by decide)) (vX 63 (by decide) (by decide))) tw_2_0 tw_2_1 tw_2_2 tw_1_2 tw_2_3 (by decide +kernel) ⟨by rw [hR1]; exact Nat.le_of_ble_eq_true rfl, by rw [hR2]; exact Nat.le_of_ble_eq_true rfl⟩ hW hS (hV.r (by decide)) rfl rfl rfl hl.1 rfl (Nat.le_of_ble_eq_true rfl) dX7_isRight_4 ⟨by rw [hR3]; exact Nat.le_of_ble_eq_true rfl, by rw [hR4]; exact Nat.le_of_ble_eq_true rfl⟩ (fun v1 L9 ad9 st9 H locs hp hW hS => ?_)
  obtain ⟨fk, vals, w9, hT, hp⟩ := hp
  rcases hp with ⟨hw9, hv9, z0⟩ | ⟨hw9, adq, stq, hv9, z0, ha9, hs9, e62, e63⟩
  · cases z0
    subst hv9
    subst hw9
    have ht9 : tlen (rdR (ca 3 0) n).1 = 0 := by rw [hT.2.1]; rfl
    refine lv_topV (y := .ref (X.2.2 0)) rfl ?_
    refine g_callTi (k := 0) (k2 := 0) (As := []) (rest := []) (by decide) C (c_J0_isEmpty_aae02 l X L ad _ 0 (by decide)) tw_3_220 tw_2_12 tw_2_13 tw_1_17 tw_2_14 (by decide +kernel) ⟨by rw [hR1]; exact Nat.le_of_ble_eq_true rfl, by rw [hR2]; exact Nat.le_of_ble_eq_true rfl⟩ hW hS rfl hl.1 rfl (Nat.le_of_ble_eq_true rfl) dX7_isRight_7 ⟨by rw [hR3]; exact Nat.le_of_ble_eq_true rfl, by rw [hR4]; exact Nat.le_of_ble_eq_true rfl⟩ (fun v9 H locs hp hW hS => ?_)
    replace hp := hp.elim And.right (fun q => absurd rfl q.1)
    subst hp
    exact g_iret2 C hQ hW hS ⟨fk, vals, _, hT, rfl, Or.inl ⟨rfl, rfl⟩⟩ (by decide) (Nat.le_of_ble_eq_true rfl) (Nat.le_of_ble_eq_true rfl) dX7_isRight_10
  · cases z0
    subst hv9
    obtain ⟨ht9, hc9⟩ := ftB_ok hT hw9
    have hw5 := hT.1
    have hg9 : gsLen.getD w9 0 ≤ 7 := gs_le9 w9
    have hm62 : ((62, 0) : ro) ∈ L ++ [(62, 0)] ++ [(63, 0)] := List.mem_append_left _ (List.mem_append_right _ (List.mem_singleton.mpr rfl))
    have hm63 : ((63, 0) : ro) ∈ L ++ [(62, 0)] ++ [(63, 0)] := List.mem_append_right _ (List.mem_singleton.mpr rfl)
    refine lv_topV (y := .ref (ad9 (62, 0))) rfl ?_
    refine g_callVi (r := (62, 0)) (T := TJ0) (N := 4) (k2 := 0) (As := []) (rest := []) C (c_S_isEmpty l X (L ++ [(62, 0)] ++ [(63, 0)]) ad9 st9 _ _ hm62 hm63 e62 e63 (by omega) (by omega)) tw_3_220 tw_2_12 tw_2_13 tw_1_17 tw_2_14 (by decide +kernel) ⟨by rw [hR1]; exact Nat.le_of_ble_eq_true rfl, by rw [hR2]; exact Nat.le_of_ble_eq_true rfl⟩ hW hS hm62 e62 rfl rfl hl.1 rfl (Nat.le_of_ble_eq_true rfl) dX7_isRight_7 ⟨by rw [hR3]; exact Nat.le_of_ble_eq_true rfl, by rw [hR4]; exact Nat.le_of_ble_eq_true rfl⟩ (fun v9 L9 ad9 st9 H locs hp hW hS => ?_)
    obtain ⟨z0, z1⟩ := hp
    cases z0
    subst z1
    replace hW := ft_drop vX ha9 hs9 hW
    exact g_iret2 C hQ hW hS ⟨fk, vals, _, hT, rfl, Or.inr ⟨hw9, rfl⟩⟩ (by decide) (Nat.le_of_ble_eq_true rfl) (Nat.le_of_ble_eq_true rfl) dX7_isRight_10

set_option maxHeartbeats 4000000 in
set_option maxRecDepth 100000 in
theorem c_X7_faultLength (l : Launch) (X : GX) (L : List ro) (ad : ro → Nat) (st0 : ro → va_E) (ci : Nat → Nat → Int32) (ca : Nat → Nat → Nat → Int32) (cr : Nat → Nat → Nat) (n w tot nt : Nat) (kp nx : Nat → Nat) (hV : cV L ci ca cr n w tot nt kp nx) : gMi l yX7_faultLength cX7_faultLength 1 (some .int) 8 192 10 300 X [.ref (ad (1, 0))] L ad (cSt X ad st0 ci ca cr) (fun v u => ∃ fk vals w9, rdT (ca 3 0) n fk vals w9 ∧ u = (L, ad, cSt X ad st0 (up2 ci 3 0 fk) (ua2 ca 4 0 vals) (ur2 cr 2 0 w9)) ∧ v = nI (tlen (rdR (ca 3 0) n).1)) := by
  intro sz
  refine gM_of2 (Qc := fun A => va_Qi _ (gB X A) A) (by decide) (Nat.le_of_ble_eq_true rfl) ?_ sz
  intro p e s m args below meth c A R Q hR hQ C hW hS ls hl
  obtain ⟨hR1, hR2, hR3, hR4⟩ := hR
  have hx := C.1.1
  have hb := C.1.2.1
  have hml := C.1.2.2.1
  have hl : lv_has ls 1 [(0, .ref (ad (1, 0)))] := hl
  obtain ⟨vR, vA, vN, vq, vp, vt, vQ, vP, vC, vX, vT, vW, vG, vS⟩ := id hV
  obtain ⟨vT1, vT2, vT3⟩ := vT
  obtain ⟨vW1, vW2⟩ := vW
  obtain ⟨vG1, vG2, vG3⟩ := vG
  obtain ⟨vN1, vN2⟩ := vN
  refine lv_aload_n hx hb dX7_faultLength_0 rfl (lv_at hl 0 rfl) ?_
  refine g_get (r := (1, 0)) (Cn := RX7) (T := TX7) (N := 7) (ci := 10) (v := .ref (ad (2, 0))) C tinX7 hW (hV.r (by decide)) rfl rfl 0 (by decide) tw_1_206 (fun _ h9 => h9) rfl dX7_faultLength_1 ?_
  refine g_callVq (r := (2, 0)) (T := TX4) (N := 5) (k2 := 0) (As := []) (rest := []) C (c_X4_faultText l X L ad st0 ci ca cr (hV.r (by decide)) (hV.r (by decide)) (hV.r (by decide)) n vT1 vT2 vT3 (vX 64 (by decide) (by decide)) (vX 61 (by decide) (by decide)) (vX 62 (by decide) (by decide)) (vX 63 (by decide) (by decide))) tw_2_0 tw_2_1 tw_2_2 tw_1_2 tw_2_3 (by decide +kernel) ⟨by rw [hR1]; exact Nat.le_of_ble_eq_true rfl, by rw [hR2]; exact Nat.le_of_ble_eq_true rfl⟩ hW hS (hV.r (by decide)) rfl rfl rfl hl.1 rfl (Nat.le_of_ble_eq_true rfl) dX7_faultLength_4 ⟨by rw [hR3]; exact Nat.le_of_ble_eq_true rfl, by rw [hR4]; exact Nat.le_of_ble_eq_true rfl⟩ (fun v1 L9 ad9 st9 H locs hp hW hS => ?_)
  obtain ⟨fk, vals, w9, hT, hp⟩ := hp
  rcases hp with ⟨hw9, hv9, z0⟩ | ⟨hw9, adq, stq, hv9, z0, ha9, hs9, e62, e63⟩
  · cases z0
    subst hv9
    subst hw9
    have ht9 : tlen (rdR (ca 3 0) n).1 = 0 := by rw [hT.2.1]; rfl
    refine lv_topV (y := .ref (X.2.2 0)) rfl ?_
    refine g_callTi (k := 0) (k2 := 0) (As := []) (rest := []) (by decide) C (c_J0_length_8abf5 l X L ad _ 0 (by decide)) tw_3_225 tw_2_47 tw_2_48 tw_1_17 tw_2_49 (by decide +kernel) ⟨by rw [hR1]; exact Nat.le_of_ble_eq_true rfl, by rw [hR2]; exact Nat.le_of_ble_eq_true rfl⟩ hW hS rfl hl.1 rfl (Nat.le_of_ble_eq_true rfl) dX7_faultLength_7 ⟨by rw [hR3]; exact Nat.le_of_ble_eq_true rfl, by rw [hR4]; exact Nat.le_of_ble_eq_true rfl⟩ (fun v9 H locs hp hW hS => ?_)
    subst hp
    refine lv_topE (y := 0) (by decide) ?_
    exact g_iret2 C hQ hW hS ⟨fk, vals, _, hT, rfl, by rw [ht9]; rfl⟩ rfl (Nat.le_of_ble_eq_true rfl) (Nat.le_of_ble_eq_true rfl) dX7_faultLength_10
  · cases z0
    subst hv9
    obtain ⟨ht9, hc9⟩ := ftB_ok hT hw9
    have hw5 := hT.1
    have hg9 : gsLen.getD w9 0 ≤ 7 := gs_le9 w9
    have hm62 : ((62, 0) : ro) ∈ L ++ [(62, 0)] ++ [(63, 0)] := List.mem_append_left _ (List.mem_append_right _ (List.mem_singleton.mpr rfl))
    have hm63 : ((63, 0) : ro) ∈ L ++ [(62, 0)] ++ [(63, 0)] := List.mem_append_right _ (List.mem_singleton.mpr rfl)
    refine lv_topV (y := .ref (ad9 (62, 0))) rfl ?_
    refine g_callVi (r := (62, 0)) (T := TJ0) (N := 4) (k2 := 0) (As := []) (rest := []) C (c_S_length l X (L ++ [(62, 0)] ++ [(63, 0)]) ad9 st9 _ _ hm62 hm63 e62 e63) tw_3_225 tw_2_47 tw_2_48 tw_1_17 tw_2_49 (by decide +kernel) ⟨by rw [hR1]; exact Nat.le_of_ble_eq_true rfl, by rw [hR2]; exact Nat.le_of_ble_eq_true rfl⟩ hW hS hm62 e62 rfl rfl hl.1 rfl (Nat.le_of_ble_eq_true rfl) dX7_faultLength_7 ⟨by rw [hR3]; exact Nat.le_of_ble_eq_true rfl, by rw [hR4]; exact Nat.le_of_ble_eq_true rfl⟩ (fun v9 L9 ad9 st9 H locs hp hW hS => ?_)
    obtain ⟨z0, z1⟩ := hp
    cases z0
    subst z1
    replace hW := ft_drop vX ha9 hs9 hW
    exact g_iret2 C hQ hW hS ⟨fk, vals, _, hT, rfl, by rw [ht9]⟩ rfl (Nat.le_of_ble_eq_true rfl) (Nat.le_of_ble_eq_true rfl) dX7_faultLength_10

set_option maxHeartbeats 4000000 in
set_option maxRecDepth 100000 in
theorem c_X7_fault (l : Launch) (X : GX) (L : List ro) (ad : ro → Nat) (st0 : ro → va_E) (ci : Nat → Nat → Int32) (ca : Nat → Nat → Nat → Int32) (cr : Nat → Nat → Nat) (n w tot nt : Nat) (kp nx : Nat → Nat) (hV : cV L ci ca cr n w tot nt kp nx) (hl0 : l.stackTraces = false) (a : Int32) : gXi l yX7_fault cX7_fault 3 (some .char) 8 192 10 300 X [.ref (ad (1, 0)), .int a] L ad (cSt X ad st0 ci ca cr) (fun v u => ∃ fk vals w9, rdT (ca 3 0) n fk vals w9 ∧ u = (L, ad, cSt X ad st0 (up2 ci 3 0 fk) (ua2 ca 4 0 vals) (ur2 cr 2 0 w9)) ∧ ∃ j, j < tlen (rdR (ca 3 0) n).1 ∧ a = nI j ∧ v = tellc (rdR (ca 3 0) n).1 (rdR (ca 3 0) n).2.1 j) (fun E u => ∃ fk vals w9, rdT (ca 3 0) n fk vals w9 ∧ u = (L, ad, cSt X ad st0 (up2 ci 3 0 fk) (ua2 ca 4 0 vals) (ur2 cr 2 0 w9)) ∧ E = "java/lang/IndexOutOfBoundsException" ∧ ¬ vp_in a (tlen (rdR (ca 3 0) n).1)) := by
  intro sz
  refine gX_of2 (Qc := fun A => va_Qi _ (gB X A) A) (XC := fun A => gXC X A _) (by decide) (Nat.le_of_ble_eq_true rfl) ?_ sz
  intro p e s m args below meth c A R Q hR hQ hnx C hW hS ls hl
  obtain ⟨hR1, hR2, hR3, hR4⟩ := hR
  have hx := C.1.1
  have hb := C.1.2.1
  have hml := C.1.2.2.1
  have hl : lv_has ls 3 [(0, .ref (ad (1, 0))), (1, .int a)] := hl
  obtain ⟨vR, vA, vN, vq, vp, vt, vQ, vP, vC, vX, vT, vW, vG, vS⟩ := id hV
  obtain ⟨vT1, vT2, vT3⟩ := vT
  obtain ⟨vW1, vW2⟩ := vW
  obtain ⟨vG1, vG2, vG3⟩ := vG
  obtain ⟨vN1, vN2⟩ := vN
  refine lv_aload_n hx hb dX7_fault_0 rfl (lv_at hl 0 rfl) ?_
  refine g_get (r := (1, 0)) (Cn := RX7) (T := TX7) (N := 7) (ci := 10) (v := .ref (ad (2, 0))) C tinX7 hW (hV.r (by decide)) rfl rfl 0 (by decide) tw_1_206 (fun _ h9 => h9) rfl dX7_fault_1 ?_
  refine g_callVq (r := (2, 0)) (T := TX4) (N := 5) (k2 := 0) (As := []) (rest := []) C (c_X4_faultText l X L ad st0 ci ca cr (hV.r (by decide)) (hV.r (by decide)) (hV.r (by decide)) n vT1 vT2 vT3 (vX 64 (by decide) (by decide)) (vX 61 (by decide) (by decide)) (vX 62 (by decide) (by decide)) (vX 63 (by decide) (by decide))) tw_2_0 tw_2_1 tw_2_2 tw_1_2 tw_2_3 (by decide +kernel) ⟨by rw [hR1]; exact Nat.le_of_ble_eq_true rfl, by rw [hR2]; exact Nat.le_of_ble_eq_true rfl⟩ hW hS (hV.r (by decide)) rfl rfl rfl hl.1 rfl (Nat.le_of_ble_eq_true rfl) dX7_fault_4 ⟨by rw [hR3]; exact Nat.le_of_ble_eq_true rfl, by rw [hR4]; exact Nat.le_of_ble_eq_true rfl⟩ (fun v1 L9 ad9 st9 H locs hp hW hS => ?_)
  obtain ⟨fk, vals, w9, hT, hp⟩ := hp
  rcases hp with ⟨hw9, hv9, z0⟩ | ⟨hw9, adq, stq, hv9, z0, ha9, hs9, e62, e63⟩
  · cases z0
    subst hv9
    subst hw9
    have ht9 : tlen (rdR (ca 3 0) n).1 = 0 := by rw [hT.2.1]; rfl
    refine lv_topV (y := .ref (X.2.2 0)) rfl ?_
    refine lv_astore_n (lv' := [(2, .ref (X.2.2 0)), (0, .ref (ad (1, 0))), (1, .int a)]) hx hb dX7_fault_7 rfl hl (by decide) rfl (fun ls hl => ?_)
    refine lv_iload_n hx hb dX7_fault_8 rfl (lv_at hl 2 rfl) ?_
    refine lv_if_lt (tgt := 20) hx hb dX7_fault_9 (by decide) (fun c3 => ?_) (fun c3 => ?_)
    · exact g_throw (cls := "java/lang/IndexOutOfBoundsException") (text := "no such place") (sa := 103) C hl0 hnx hQ hW hS hl.1 gE_IO (by decide +kernel) dX7_fault_20 dX7_fault_23 dX7_fault_24 dX7_fault_26 dX7_fault_29 (by rw [hR1]; exact Nat.le_of_ble_eq_true rfl) (by rw [hR2]; exact Nat.le_of_ble_eq_true rfl) (by rw [hR3]; exact Nat.le_of_ble_eq_true rfl) (by rw [hR4]; exact Nat.le_of_ble_eq_true rfl) ⟨fk, vals, _, hT, rfl, rfl, by rw [ht9]; exact vp_no0 a⟩ (Nat.le_of_ble_eq_true rfl) (Nat.le_of_ble_eq_true rfl)
    · refine lv_iload_n hx hb dX7_fault_12 rfl (lv_at hl 2 rfl) ?_
      refine lv_aload_n hx hb dX7_fault_13 rfl (lv_at hl 0 rfl) ?_
      refine g_callTi (k := 0) (k2 := 0) (As := []) (rest := [.int a]) (by decide) C (c_J0_length_8abf5 l X L ad _ 0 (by decide)) tw_3_225 tw_2_47 tw_2_48 tw_1_17 tw_2_49 (by decide +kernel) ⟨by rw [hR1]; exact Nat.le_of_ble_eq_true rfl, by rw [hR2]; exact Nat.le_of_ble_eq_true rfl⟩ hW hS rfl hl.1 rfl (Nat.le_of_ble_eq_true rfl) dX7_fault_14 ⟨by rw [hR3]; exact Nat.le_of_ble_eq_true rfl, by rw [hR4]; exact Nat.le_of_ble_eq_true rfl⟩ (fun v9 H locs hp hW hS => ?_)
      subst hp
      refine lv_topE (y := 0) (by decide) ?_
      refine lv_icmp_lt (tgt := 30) hx hb dX7_fault_17 (by decide) (fun c4 => ?_) (fun c4 => ?_)
      · exact (z0_no (by assumption) (by assumption)).elim
      · exact g_throw (cls := "java/lang/IndexOutOfBoundsException") (text := "no such place") (sa := 103) C hl0 hnx hQ hW hS hl.1 gE_IO (by decide +kernel) dX7_fault_20 dX7_fault_23 dX7_fault_24 dX7_fault_26 dX7_fault_29 (by rw [hR1]; exact Nat.le_of_ble_eq_true rfl) (by rw [hR2]; exact Nat.le_of_ble_eq_true rfl) (by rw [hR3]; exact Nat.le_of_ble_eq_true rfl) (by rw [hR4]; exact Nat.le_of_ble_eq_true rfl) ⟨fk, vals, _, hT, rfl, rfl, by rw [ht9]; exact vp_no0 a⟩ (Nat.le_of_ble_eq_true rfl) (Nat.le_of_ble_eq_true rfl)
  · cases z0
    subst hv9
    obtain ⟨ht9, hc9⟩ := ftB_ok hT hw9
    have hw5 := hT.1
    have hg9 : gsLen.getD w9 0 ≤ 7 := gs_le9 w9
    have hm62 : ((62, 0) : ro) ∈ L ++ [(62, 0)] ++ [(63, 0)] := List.mem_append_left _ (List.mem_append_right _ (List.mem_singleton.mpr rfl))
    have hm63 : ((63, 0) : ro) ∈ L ++ [(62, 0)] ++ [(63, 0)] := List.mem_append_right _ (List.mem_singleton.mpr rfl)
    refine lv_topV (y := .ref (ad9 (62, 0))) rfl ?_
    refine lv_astore_n (lv' := [(2, .ref (ad9 (62, 0))), (0, .ref (ad (1, 0))), (1, .int a)]) hx hb dX7_fault_7 rfl hl (by decide) rfl (fun ls hl => ?_)
    refine lv_iload_n hx hb dX7_fault_8 rfl (lv_at hl 2 rfl) ?_
    refine lv_if_lt (tgt := 20) hx hb dX7_fault_9 (by decide) (fun c5 => ?_) (fun c5 => ?_)
    · replace hW := ft_drop vX ha9 hs9 hW
      exact g_throw (cls := "java/lang/IndexOutOfBoundsException") (text := "no such place") (sa := 103) C hl0 hnx hQ hW hS hl.1 gE_IO (by decide +kernel) dX7_fault_20 dX7_fault_23 dX7_fault_24 dX7_fault_26 dX7_fault_29 (by rw [hR1]; exact Nat.le_of_ble_eq_true rfl) (by rw [hR2]; exact Nat.le_of_ble_eq_true rfl) (by rw [hR3]; exact Nat.le_of_ble_eq_true rfl) (by rw [hR4]; exact Nat.le_of_ble_eq_true rfl) ⟨fk, vals, _, hT, rfl, rfl, by rw [ht9]; first | exact vout_of (by omega) (Or.inl (by assumption)) | exact vout_of (by omega) (Or.inr (Int32.not_lt.mp (by assumption)))⟩ (Nat.le_of_ble_eq_true rfl) (Nat.le_of_ble_eq_true rfl)
    · refine lv_iload_n hx hb dX7_fault_12 rfl (lv_at hl 2 rfl) ?_
      refine lv_aload_n hx hb dX7_fault_13 rfl (lv_at hl 0 rfl) ?_
      refine g_callVi (r := (62, 0)) (T := TJ0) (N := 4) (k2 := 0) (As := []) (rest := [.int a]) C (c_S_length l X (L ++ [(62, 0)] ++ [(63, 0)]) ad9 st9 _ _ hm62 hm63 e62 e63) tw_3_225 tw_2_47 tw_2_48 tw_1_17 tw_2_49 (by decide +kernel) ⟨by rw [hR1]; exact Nat.le_of_ble_eq_true rfl, by rw [hR2]; exact Nat.le_of_ble_eq_true rfl⟩ hW hS hm62 e62 rfl rfl hl.1 rfl (Nat.le_of_ble_eq_true rfl) dX7_fault_14 ⟨by rw [hR3]; exact Nat.le_of_ble_eq_true rfl, by rw [hR4]; exact Nat.le_of_ble_eq_true rfl⟩ (fun v9 L9 ad9 st9 H locs hp hW hS => ?_)
      obtain ⟨z0, z1⟩ := hp
      cases z0
      subst z1
      refine lv_icmp_lt (tgt := 30) hx hb dX7_fault_17 (by decide) (fun c6 => ?_) (fun c6 => ?_)
      · obtain ⟨k, hk, hak⟩ := vin_of (a := a) (N := 0 + gsLen.getD w9 0 + 1 + 1) (by omega) (by assumption) (by first | assumption | exact Int32.not_le.mpr (by assumption))
        subst hak
        refine lv_aload_n hx hb dX7_fault_30 rfl (lv_at hl 0 rfl) ?_
        refine lv_iload_n hx hb dX7_fault_31 rfl (lv_at hl 2 rfl) ?_
        refine g_callVi (r := (62, 0)) (T := TJ0) (N := 4) (k2 := 1) (As := [.int (nI k)]) (rest := []) C (c_S_charAt l X (L ++ [(62, 0)] ++ [(63, 0)]) ad9 st9 _ _ k hm62 hm63 e62 e63 (by omega) (by omega) (by obtain ⟨c8, q1, q2⟩ := ftB_128 (w := w9) (rdT_fk hT hw9) k; rw [q2]; exact ch_255 q1) (by obtain ⟨c8, q1, q2⟩ := ftB_128 (w := w9) (rdT_fk hT hw9) k; rw [q2]; exact ch_nc q1)) tw_4_53 tw_2_125 tw_2_126 tw_1_17 tw_2_127 (by decide +kernel) ⟨by rw [hR1]; exact Nat.le_of_ble_eq_true rfl, by rw [hR2]; exact Nat.le_of_ble_eq_true rfl⟩ hW hS hm62 e62 rfl rfl hl.1 rfl (Nat.le_of_ble_eq_true rfl) dX7_fault_32 ⟨by rw [hR3]; exact Nat.le_of_ble_eq_true rfl, by rw [hR4]; exact Nat.le_of_ble_eq_true rfl⟩ (fun v9 L9 ad9 st9 H locs hp hW hS => ?_)
        obtain ⟨z0, z1⟩ := hp
        cases z0
        subst z1
        replace hW := ft_drop vX ha9 hs9 hW
        exact g_iretX C hQ hW hS ⟨fk, vals, _, hT, rfl, k, by rw [ht9]; exact hk, rfl, hc9 k hk⟩ (by obtain ⟨c8, q1, q2⟩ := ftB_128 (w := w9) (rdT_fk hT hw9) k; rw [q2]; exact ch_nc q1) (Nat.le_of_ble_eq_true rfl) (Nat.le_of_ble_eq_true rfl) dX7_fault_35
      · replace hW := ft_drop vX ha9 hs9 hW
        exact g_throw (cls := "java/lang/IndexOutOfBoundsException") (text := "no such place") (sa := 103) C hl0 hnx hQ hW hS hl.1 gE_IO (by decide +kernel) dX7_fault_20 dX7_fault_23 dX7_fault_24 dX7_fault_26 dX7_fault_29 (by rw [hR1]; exact Nat.le_of_ble_eq_true rfl) (by rw [hR2]; exact Nat.le_of_ble_eq_true rfl) (by rw [hR3]; exact Nat.le_of_ble_eq_true rfl) (by rw [hR4]; exact Nat.le_of_ble_eq_true rfl) ⟨fk, vals, _, hT, rfl, rfl, by rw [ht9]; first | exact vout_of (by omega) (Or.inl (by assumption)) | exact vout_of (by omega) (Or.inr (Int32.not_lt.mp (by assumption)))⟩ (Nat.le_of_ble_eq_true rfl) (Nat.le_of_ble_eq_true rfl)

