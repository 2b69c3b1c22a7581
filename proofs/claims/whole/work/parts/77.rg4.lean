section CN
variable {X : GX} {A : Nat → Prop} {L : List ro} {ad ad2 : ro → Nat} {st0 st2 st3 : ro → va_E} {ci : Nat → Nat → Int32} {ca : Nat → Nat → Nat → Int32} {cr : Nat → Nat → Nat} {n w tot nt : Nat} {kp nx : Nat → Nat} {s : State} {H : Heap} {r0 : ro} {e : va_E}
theorem cN_new (hr0 : r0 ∉ L) (hW : gW X A (L ++ [r0]) ad2 st2 s H) (_ : ∀ x, x ≠ r0 → ad2 x = ad x) (hr : st2 r0 = e) (hs : ∀ x, x ≠ r0 → st2 x = cSt X ad st0 ci ca cr x) (hd : ∀ k i : Nat, (k, i) ∈ L → cE X ad2 st0 ci ca cr k i = cE X ad st0 ci ca cr k i) : gW X A (L ++ [r0]) ad2 (sup (cSt X ad2 st0 ci ca cr) r0 e) s H := by
  refine gW_congr (fun r h => ?_) hW
  by_cases h0 : r = r0
  · rw [h0, hr, sup_at]
  · rw [sup_ne h0, hs r h0]
    have hL : r ∈ L := by
      rcases List.mem_append.mp h with h | h
      · exact h
      · exact absurd (List.mem_singleton.mp h) h0
    exact (hd r.1 r.2 hL).symm
theorem cE_new (hV : cV L ci ca cr n w tot nt kp nx) (h0 : r0 = (31, nt) ∨ r0 = (40, cr 13 0) ∨ r0 = (50, cr 13 1)) (ha : ∀ x, x ≠ r0 → ad2 x = ad x) {k i : Nat} (hL : (k, i) ∈ L) : cE X ad2 st0 ci ca cr k i = cE X ad st0 ci ca cr k i := by
  obtain ⟨vR, vA, vN, vq, vp, vt, vQ, vP, vC, vX, vT, vW, vG, vS⟩ := id hV
  have hk : ∀ r : ro, ¬ (r.1 = 31 ∧ r.2 = nt) → ¬ (r.1 = 40 ∧ r.2 = cr 13 0) → ¬ (r.1 = 50 ∧ r.2 = cr 13 1) → ad2 r = ad r := by
    intro r h1 h2 h3
    refine ha r (fun e9 => ?_)
    rcases h0 with h | h | h <;> rw [h] at e9 <;> subst e9
    · exact h1 ⟨rfl, rfl⟩
    · exact h2 ⟨rfl, rfl⟩
    · exact h3 ⟨rfl, rfl⟩
  refine cE_ad (fun r => ⟨?_, ?_, ?_, ?_, ?_, ?_, ?_, ?_, ?_, ?_, ?_⟩)
  · intro _ q; exact hk r (by omega) (by omega) (by omega)
  · intro _ q; exact hk r (by omega) (by omega) (by omega)
  · intro _ q; exact hk r (by omega) (by omega) (by omega)
  · intro _ q _; exact hk r (by omega) (by omega) (by omega)
  · intro _ q _; exact hk r (by omega) (by omega) (by omega)
  · intro _ q; subst q; exact hk _ (fun q => absurd q.1 (by simp)) (fun q => absurd q.1 (by simp)) (fun q => absurd q.1 (by simp))
  · intro _ q1 q2
    refine hk r (by omega) (fun q => ?_) (fun q => ?_)
    · have hi : i = 0 := by omega
      subst hi; omega
    · have hi : i = 1 := by omega
      subst hi; omega
  · intro _ q; exact hk r (by omega) (by omega) (by omega)
  · intro _ q; subst q; exact hk _ (fun q => absurd q.2 (Nat.ne_of_lt (vC i))) (fun q => absurd q.1 (by simp)) (fun q => absurd q.1 (by simp))
  · intro q0 q; subst q; subst q0; exact hk _ (fun q => absurd q.2 (Nat.ne_of_lt (vQ i ((vq i).mp hL)).1)) (fun q => absurd q.1 (by simp)) (fun q => absurd q.1 (by simp))
  · intro q0 q; subst q; subst q0; exact hk _ (fun q => absurd q.1 (by simp)) (fun q => absurd q.2 (Nat.ne_of_lt (vP i ((vp i).mp hL)))) (fun q => absurd q.1 (by simp))
theorem cN_end {ci2 : Nat → Nat → Int32} {ca2 : Nat → Nat → Nat → Int32} {cr2 : Nat → Nat → Nat} {e3 : va_E} (h9 : sup (cSt X ad2 st0 ci ca cr) r0 e3 = cSt X ad2 st0 ci2 ca2 cr2) (hW : gW X A L ad2 st3 s H) (hs : ∀ x, x ≠ r0 → st3 x = sup (cSt X ad2 st0 ci ca cr) r0 e x) (hr : st3 r0 = e3) : gW X A L ad2 (cSt X ad2 st0 ci2 ca2 cr2) s H := by
  rw [← h9]
  refine gW_congr (fun r _ => ?_) hW
  by_cases h0 : r = r0
  · rw [h0, hr, sup_at]
  · rw [hs r h0, sup_ne h0, sup_ne h0]
theorem cN_31 {i : Nat} {a b c : Int32} : sup (cSt X ad st0 ci ca cr) (31, i) (.inr (9, [.int a, .int b, .int c])) = cSt X ad st0 (up2 (up2 (up2 ci 36 i a) 37 i b) 38 i c) ca cr := by
  refine cSt_up ?_ ?_
  · simp [cE, up2]
  · intro x y h
    by_cases hx : x = 31
    · subst hx
      have hb : y ≠ i := fun e => h ⟨rfl, e⟩
      simp [cE, up2, hb]
    · unfold cE
      split <;> first | rfl | exact absurd rfl hx
theorem cN_50 {i j : Nat} {a b c : Int32} : sup (cSt X ad st0 ci ca cr) (50, i) (.inr (5, [.ref (ad (40, j)), .int a, .int b, .int c])) = cSt X ad st0 (up2 (up2 (up2 ci 50 i a) 51 i b) 52 i c) ca (ur2 cr 50 i j) := by
  refine cSt_up ?_ ?_
  · simp [cE, up2, ur2]
  · intro x y h
    by_cases hx : x = 50
    · subst hx
      have hb : y ≠ i := fun e => h ⟨rfl, e⟩
      simp [cE, up2, ur2, hb]
    · unfold cE
      split <;> first | rfl | exact absurd rfl hx
/-- the fields of a new quote -/
def qtC (ci : Nat → Nat → Int32) (i : Nat) (f : Nat → Int32) (e : Int32) : Nat → Nat → Int32 := up2 (up2 (up2 (up2 (up2 (up2 (up2 ci 40 i (f 0)) 41 i (f 1)) 42 i (f 2)) 43 i (f 3)) 44 i (f 4)) 45 i (if f 5 = 1 then 1 else 0)) 46 i e
theorem cN_40 {i t : Nat} {f : Nat → Int32} {z : Int32} : sup (cSt X ad st0 ci ca cr) (40, i) (.inr (6, [.int (f 0), .int (f 1), .int (f 2), .int (f 3), .int (f 4), .int (if f 5 = 1 then 1 else 0), .ref (ad (31, t)), .int z])) = cSt X ad st0 (qtC ci i f z) ca (ur2 cr 40 i t) := by
  refine cSt_up ?_ ?_
  · simp [cE, qtC, up2, ur2]
  · intro x y h
    by_cases hx : x = 40
    · subst hx
      have hb : y ≠ i := fun e => h ⟨rfl, e⟩
      simp [cE, qtC, up2, ur2, hb]
    · unfold cE
      split <;> first | rfl | exact absurd rfl hx
end CN
/-- what a call may do to the roles -/
def cF (L L' : List ro) (ad ad' : ro → Nat) : Prop := (∀ r, r ∈ L → r ∈ L') ∧ (∀ r, r ∈ L' → r ∈ L ∨ r.1 < 100) ∧ ∀ r : ro, 100 ≤ r.1 → ad' r = ad r
set_option maxHeartbeats 4000000 in
set_option maxRecDepth 100000 in
theorem c_X7_tariff (l : Launch) (X : GX) (L : List ro) (ad : ro → Nat) (st0 : ro → va_E) (ci : Nat → Nat → Int32) (ca : Nat → Nat → Nat → Int32) (cr : Nat → Nat → Nat) (n w tot nt : Nat) (kp nx : Nat → Nat) (hV : cV L ci ca cr n w tot nt kp nx) (hl0 : l.stackTraces = false) (a b c8 d8 : Int32) : gXi l yX7_tariff cX7_tariff 7 (some .int) 7 103 10 300 X [.ref (ad (1, 0)), .int a, .int b, .int c8, .int d8] L ad (cSt X ad st0 ci ca cr) (fun v u => ∃ k, k < 4 ∧ a = nI k ∧ (((0 ≤ b ∧ b ≤ 10000) ∧ (0 ≤ c8 ∧ c8 ≤ 1000)) ∧ (0 ≤ d8 ∧ d8 ≤ 1000)) ∧ ∃ ad', u = (L ++ [(31, nt)], ad', cSt X ad' st0 (up2 (up2 (up2 ci 36 nt b) 37 nt c8) 38 nt d8) ca (ur2 cr 30 k nt)) ∧ (∀ x, x ≠ (31, nt) → ad' x = ad x) ∧ v = ci 36 (cr 30 k)) (fun E u => u = (L, ad, cSt X ad st0 ci ca cr) ∧ ((E = "java/lang/IndexOutOfBoundsException" ∧ ¬ vp_in a (4)) ∨ (E = "java/lang/IllegalArgumentException" ∧ ∃ k, k < 4 ∧ a = nI k ∧ ¬ (((0 ≤ b ∧ b ≤ 10000) ∧ (0 ≤ c8 ∧ c8 ≤ 1000)) ∧ (0 ≤ d8 ∧ d8 ≤ 1000))))) := by
  intro sz
  refine gX_of2 (Qc := fun A => va_Qi _ (gB X A) A) (XC := fun A => gXC X A _) (by decide) (Nat.le_of_ble_eq_true rfl) ?_ sz
  intro p e s m args below meth c A R Q hR hQ hnx C hW hS ls hl
  obtain ⟨hR1, hR2, hR3, hR4⟩ := hR
  have hx := C.1.1
  have hb := C.1.2.1
  have hml := C.1.2.2.1
  have hl : lv_has ls 7 [(0, .ref (ad (1, 0))), (1, .int a), (2, .int b), (3, .int c8), (4, .int d8)] := hl
  obtain ⟨vR, vA, vN, vq, vp, vt, vQ, vP, vC, vX, vT, vW, vG, vS⟩ := id hV
  obtain ⟨vT1, vT2, vT3⟩ := vT
  obtain ⟨vW1, vW2⟩ := vW
  obtain ⟨vG1, vG2, vG3⟩ := vG
  obtain ⟨vN1, vN2⟩ := vN
  refine lv_aload_n hx hb dX7_tariff_0 rfl (lv_at hl 0 rfl) ?_
  refine lv_iload_n hx hb dX7_tariff_1 rfl (lv_at hl 1 rfl) ?_
  refine g_callXq (r := (1, 0)) (T := TX7) (N := 7) (k2 := 1) (As := [.int a]) (rest := []) C hnx hQ (c_X7_carrierAt l X L ad st0 ci ca cr n w tot nt kp nx hV hl0 a) (fun E u h => ⟨h.1, Or.inl h.2⟩) tw_4_84 tw_4_86 tw_0_13 tw_1_1 tw_4_87 (by decide +kernel) ⟨by rw [hR1]; exact Nat.le_of_ble_eq_true rfl, by rw [hR2]; exact Nat.le_of_ble_eq_true rfl⟩ hW hS (hV.r (by decide)) rfl rfl rfl hl.1 rfl (Nat.le_of_ble_eq_true rfl) dX7_tariff_2 ⟨by rw [hR3]; exact Nat.le_of_ble_eq_true rfl, by rw [hR4]; exact Nat.le_of_ble_eq_true rfl⟩ ⟨Nat.le_of_ble_eq_true rfl, Nat.le_of_ble_eq_true rfl⟩ (fun v1 L9 ad9 st9 H locs hp hW hS => ?_)
  obtain ⟨z0, k2, hk2, hak2, hv9⟩ := hp
  cases z0
  subst hv9
  refine lv_topV (y := .ref (ad (30, k2))) rfl ?_
  subst hak2
  refine lv_astore (lv' := [(5, .ref (ad (30, k2))), (0, .ref (ad (1, 0))), (1, .int (nI k2)), (2, .int b), (3, .int c8), (4, .int d8)]) hx hb dX7_tariff_5 hl (by decide) rfl (fun ls hl => ?_)
  refine lv_iload_n hx hb dX7_tariff_7 rfl (lv_at hl 3 rfl) ?_
  refine lv_iconst (v := 0) hx hb dX7_tariff_8 (by decide) ?_
  refine lv_sipush (v := 10000) hx hb dX7_tariff_9 (by decide) ?_
  refine g_callSp (k2 := 3) (As := [.int b, .int 0, .int 10000]) (rest := []) C (c_X7_isWithin l X L ad _ b 0 10000) tw_4_61 tw_2_160 tw_1_1 tw_2_161 (by decide +kernel) ⟨by rw [hR1]; exact Nat.le_of_ble_eq_true rfl, by rw [hR2]; exact Nat.le_of_ble_eq_true rfl⟩ hW hS rfl hl.1 rfl (Nat.le_of_ble_eq_true rfl) dX7_tariff_12 ⟨by rw [hR3]; exact Nat.le_of_ble_eq_true rfl, by rw [hR4]; exact Nat.le_of_ble_eq_true rfl⟩ (fun v9 H locs hp hW hS => ?_)
  have h3 := hp
  rcases h3 with ⟨h3, e9⟩ | ⟨h3, e9⟩
  · subst e9
    refine lv_if_eq (tgt := 41) hx hb dX7_tariff_15 (by decide) (fun c9 => absurd c9 (by decide)) (fun _ => ?_)
    refine lv_iload_n hx hb dX7_tariff_18 rfl (lv_at hl 4 rfl) ?_
    refine lv_iconst (v := 0) hx hb dX7_tariff_19 (by decide) ?_
    refine lv_sipush (v := 1000) hx hb dX7_tariff_20 (by decide) ?_
    refine g_callSp (k2 := 3) (As := [.int c8, .int 0, .int 1000]) (rest := []) C (c_X7_isWithin l X L ad _ c8 0 1000) tw_4_61 tw_2_160 tw_1_1 tw_2_161 (by decide +kernel) ⟨by rw [hR1]; exact Nat.le_of_ble_eq_true rfl, by rw [hR2]; exact Nat.le_of_ble_eq_true rfl⟩ hW hS rfl hl.1 rfl (Nat.le_of_ble_eq_true rfl) dX7_tariff_23 ⟨by rw [hR3]; exact Nat.le_of_ble_eq_true rfl, by rw [hR4]; exact Nat.le_of_ble_eq_true rfl⟩ (fun v9 H locs hp hW hS => ?_)
    have h4 := hp
    rcases h4 with ⟨h4, e9⟩ | ⟨h4, e9⟩
    · subst e9
      refine lv_if_eq (tgt := 41) hx hb dX7_tariff_26 (by decide) (fun c9 => absurd c9 (by decide)) (fun _ => ?_)
      refine lv_iload hx hb dX7_tariff_29 (lv_at hl 5 rfl) ?_
      refine lv_iconst (v := 0) hx hb dX7_tariff_31 (by decide) ?_
      refine lv_sipush (v := 1000) hx hb dX7_tariff_32 (by decide) ?_
      refine g_callSp (k2 := 3) (As := [.int d8, .int 0, .int 1000]) (rest := []) C (c_X7_isWithin l X L ad _ d8 0 1000) tw_4_61 tw_2_160 tw_1_1 tw_2_161 (by decide +kernel) ⟨by rw [hR1]; exact Nat.le_of_ble_eq_true rfl, by rw [hR2]; exact Nat.le_of_ble_eq_true rfl⟩ hW hS rfl hl.1 rfl (Nat.le_of_ble_eq_true rfl) dX7_tariff_35 ⟨by rw [hR3]; exact Nat.le_of_ble_eq_true rfl, by rw [hR4]; exact Nat.le_of_ble_eq_true rfl⟩ (fun v9 H locs hp hW hS => ?_)
      have h5 := hp
      rcases h5 with ⟨h5, e9⟩ | ⟨h5, e9⟩
      · subst e9
        refine lv_if_ne (tgt := 51) hx hb dX7_tariff_38 (by decide) (fun _ => ?_) (fun c9 => absurd c9 (by decide))
        refine lv_aload hx hb dX7_tariff_51 (lv_at hl 0 rfl) ?_
        refine g_get (r := (30, k2)) (Cn := RX1) (T := TX1) (N := 7) (ci := 4) (v := .ref (ad (31, cr 30 k2))) C tinX1 hW (hV.carr (by first | omega | exact (hV.pc (by omega)).2)) rfl rfl 3 (by decide) tw_1_187 (fun _ h9 => h9) rfl dX7_tariff_53 ?_
        refine g_get (r := (31, cr 30 k2)) (Cn := RX6) (T := TX6) (N := 3) (ci := 9) (v := .int (ci 36 (cr 30 k2))) C tinX6 hW (hV.ct _) rfl rfl 0 (by decide) tw_1_168 (fun _ h9 => h9) rfl dX7_tariff_56 ?_
        refine lv_istore (lv' := [(6, .int (ci 36 (cr 30 k2))), (5, .ref (ad (30, k2))), (0, .ref (ad (1, 0))), (1, .int (nI k2)), (2, .int b), (3, .int c8), (4, .int d8)]) hx hb dX7_tariff_59 hl (by decide) rfl (fun ls hl => ?_)
        refine lv_aload hx hb dX7_tariff_61 (lv_at hl 1 rfl) ?_
        refine g_newo (r := (31, nt)) (Cn := RX6) (T := TX6) (N := 3) (ci := 9) (ty0 := tyX6) (fs := [.int 0, .int 0, .int 0]) C tinX6 tyX6_ok hW hS (fun h9 => Nat.lt_irrefl _ ((hV.2.2.2.2.2.1 _).mp h9)) rfl tw_4_98 tw_1_161 tw_1_9 (by intro j hj; rcases (show j = 0 ∨ j = 1 ∨ j = 2 by omega) with rfl | rfl | rfl <;> rfl) (by rw [hR3]; exact Nat.le_of_ble_eq_true rfl) (by rw [hR4]; exact Nat.le_of_ble_eq_true rfl) dX7_tariff_63 (fun ad6 st7 H ha8 fk9 hs10 hW hS => ?_)
        replace hW := cN_new (r0 := (31, nt)) (fun h9 => Nat.lt_irrefl _ ((hV.2.2.2.2.2.1 _).mp h9)) hW ha8 fk9 hs10 (fun k9 i9 h9 => cE_new hV (Or.inl rfl) ha8 h9)
        have hl : lv_has ls 7 [(6, .int (ci 36 (cr 30 k2))), (5, .ref (ad6 (30, k2))), (0, .ref (ad6 (1, 0))), (1, .int (nI k2)), (2, .int b), (3, .int c8), (4, .int d8)] := by rw [ha8 (30, k2) (rne (by omega)), ha8 (1, 0) (rne (by omega))]; exact hl
        refine W.eq (g2 := F0 m 66 ls [.ref (ad6 (31, nt)), .ref (ad6 (30, k2))]) (by rw [ha8 (30, k2) (rne (by omega))] <;> rfl) ?_
        refine lv_dup hx hb dX7_tariff_66 rfl ?_
        refine lv_iload_n hx hb dX7_tariff_67 rfl (lv_at hl 4 rfl) ?_
        refine lv_iload_n hx hb dX7_tariff_68 rfl (lv_at hl 5 rfl) ?_
        refine lv_iload hx hb dX7_tariff_69 (lv_at hl 6 rfl) ?_
        refine g_callIv (k2 := 3) (As := [.int b, .int c8, .int d8]) (rest := [.ref (ad6 (31, nt)), .ref (ad6 (30, k2))]) C (c_X6_init l X (L ++ [(31, nt)]) ad6 (sup (cSt X ad6 st0 ci ca cr) (31, nt) (.inr (9, [.int 0, .int 0, .int 0]))) nt b c8 d8 (List.mem_append_right _ (List.mem_singleton.mpr rfl)) sup_at) tw_4_99 tw_1_163 tw_1_9 tw_1_164 (by decide +kernel) ⟨by rw [hR1]; exact Nat.le_of_ble_eq_true rfl, by rw [hR2]; exact Nat.le_of_ble_eq_true rfl⟩ hW hS rfl hl.1 rfl (Nat.le_of_ble_eq_true rfl) dX7_tariff_71 ⟨by rw [hR3]; exact Nat.le_of_ble_eq_true rfl, by rw [hR4]; exact Nat.le_of_ble_eq_true rfl⟩ (fun L9 ad9 st9 H locs hp hW hS => ?_)
        obtain ⟨stq, z0, hs9, hk9⟩ := hp
        cases z0
        replace hW := cN_end cN_31 hW hs9 hk9
        refine g_put (r := (30, k2)) (Cn := RX1) (T := TX1) (N := 7) (ci := 4) (ty0 := tyX1) C tinX1 tyX1_ok nmX1 hW hS (List.mem_append_left _ (hV.carr (by first | omega | exact (hV.pc (by omega)).2))) rfl rfl 3 (by decide) tw_1_187 (fun _ h9 => h9) rfl rfl rfl (Nat.le_of_ble_eq_true rfl) (cU_30_3 k2 nt) dX7_tariff_74 (fun H locs hW hS => ?_)
        refine lv_iload hx hb dX7_tariff_77 (lv_at hl 0 rfl) ?_
        exact g_iretX C hQ hW hS ⟨k2, hk2, rfl, ⟨⟨h3, h4⟩, h5⟩, _, rfl, ha8, rfl⟩ rfl (Nat.le_of_ble_eq_true rfl) (Nat.le_of_ble_eq_true rfl) dX7_tariff_79
      · subst e9
        refine lv_if_ne (tgt := 51) hx hb dX7_tariff_38 (by decide) (fun c9 => absurd c9 (by decide)) (fun _ => ?_)
        exact g_throw (cls := "java/lang/IllegalArgumentException") (text := "base, zone or weight out of range") (sa := 110) C hl0 hnx hQ hW hS hl.1 gE_IA (by decide +kernel) dX7_tariff_41 dX7_tariff_44 dX7_tariff_45 dX7_tariff_47 dX7_tariff_50 (by rw [hR1]; exact Nat.le_of_ble_eq_true rfl) (by rw [hR2]; exact Nat.le_of_ble_eq_true rfl) (by rw [hR3]; exact Nat.le_of_ble_eq_true rfl) (by rw [hR4]; exact Nat.le_of_ble_eq_true rfl) ⟨rfl, Or.inr ⟨rfl, k2, hk2, rfl, fun q => h5 q.2⟩⟩ (Nat.le_of_ble_eq_true rfl) (Nat.le_of_ble_eq_true rfl)
    · subst e9
      refine lv_if_eq (tgt := 41) hx hb dX7_tariff_26 (by decide) (fun _ => ?_) (fun c9 => absurd (by decide) c9)
      exact g_throw (cls := "java/lang/IllegalArgumentException") (text := "base, zone or weight out of range") (sa := 110) C hl0 hnx hQ hW hS hl.1 gE_IA (by decide +kernel) dX7_tariff_41 dX7_tariff_44 dX7_tariff_45 dX7_tariff_47 dX7_tariff_50 (by rw [hR1]; exact Nat.le_of_ble_eq_true rfl) (by rw [hR2]; exact Nat.le_of_ble_eq_true rfl) (by rw [hR3]; exact Nat.le_of_ble_eq_true rfl) (by rw [hR4]; exact Nat.le_of_ble_eq_true rfl) ⟨rfl, Or.inr ⟨rfl, k2, hk2, rfl, fun q => h4 q.1.2⟩⟩ (Nat.le_of_ble_eq_true rfl) (Nat.le_of_ble_eq_true rfl)
  · subst e9
    refine lv_if_eq (tgt := 41) hx hb dX7_tariff_15 (by decide) (fun _ => ?_) (fun c9 => absurd (by decide) c9)
    exact g_throw (cls := "java/lang/IllegalArgumentException") (text := "base, zone or weight out of range") (sa := 110) C hl0 hnx hQ hW hS hl.1 gE_IA (by decide +kernel) dX7_tariff_41 dX7_tariff_44 dX7_tariff_45 dX7_tariff_47 dX7_tariff_50 (by rw [hR1]; exact Nat.le_of_ble_eq_true rfl) (by rw [hR2]; exact Nat.le_of_ble_eq_true rfl) (by rw [hR3]; exact Nat.le_of_ble_eq_true rfl) (by rw [hR4]; exact Nat.le_of_ble_eq_true rfl) ⟨rfl, Or.inr ⟨rfl, k2, hk2, rfl, fun q => h3 q.1.1⟩⟩ (Nat.le_of_ble_eq_true rfl) (Nat.le_of_ble_eq_true rfl)

