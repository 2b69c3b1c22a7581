def sumC (ci : Nat → Nat → Int32) (cr : Nat → Nat → Nat) (sh mn : Int32) : Nat → Int32
  | 0 => 0
  | k + 1 => if ci 52 k = 0 ∧ ci 40 (cr 50 k) = sh ∧ ci 50 k + 30 < mn then sumC ci cr sh mn k + ci 51 k else sumC ci cr sh mn k
def mrkC (ci : Nat → Nat → Int32) (cr : Nat → Nat → Nat) (sh mn : Int32) (K : Nat) : Nat → Nat → Int32 := fun a b => if a = 52 ∧ b < K ∧ (ci 52 b = 0 ∧ ci 40 (cr 50 b) = sh ∧ ci 50 b + 30 < mn) then 2 else ci a b
theorem mrk_0 (ci : Nat → Nat → Int32) (cr : Nat → Nat → Nat) (sh mn : Int32) : mrkC ci cr sh mn 0 = ci := by
  funext a b
  unfold mrkC
  rw [if_neg (fun q => absurd q.2.1 (Nat.not_lt_zero _))]
theorem mrk_at {ci : Nat → Nat → Int32} {cr : Nat → Nat → Nat} {sh mn : Int32} {K : Nat} : mrkC ci cr sh mn K 52 K = ci 52 K := if_neg (fun q => absurd q.2.1 (Nat.lt_irrefl _))
theorem mrk_pos {ci : Nat → Nat → Int32} {cr : Nat → Nat → Nat} {sh mn : Int32} {K : Nat} (h : mrkC ci cr sh mn K 52 K = 0 ∧ mrkC ci cr sh mn K 40 (cr 50 K) = sh ∧ mrkC ci cr sh mn K 50 K + 30 < mn) : up2 (mrkC ci cr sh mn K) 52 K 2 = mrkC ci cr sh mn (K + 1) := by
  rw [mrk_at] at h
  have h2 : ci 52 K = 0 ∧ ci 40 (cr 50 K) = sh ∧ ci 50 K + 30 < mn := h
  funext a b
  by_cases ha : a = 52
  · by_cases hb : b = K
    · subst ha; subst hb
      rw [up2_at]
      exact (if_pos ⟨rfl, Nat.lt_succ_self _, h2⟩).symm
    · unfold up2 mrkC
      simp [ha, hb]
      simp only [show b < K + 1 ↔ b < K by omega]
  · unfold up2 mrkC
    simp [ha]
theorem mrk_neg {ci : Nat → Nat → Int32} {cr : Nat → Nat → Nat} {sh mn : Int32} {K : Nat} (h : ¬ (mrkC ci cr sh mn K 52 K = 0 ∧ mrkC ci cr sh mn K 40 (cr 50 K) = sh ∧ mrkC ci cr sh mn K 50 K + 30 < mn)) : mrkC ci cr sh mn K = mrkC ci cr sh mn (K + 1) := by
  rw [mrk_at] at h
  have h2 : ¬ (ci 52 K = 0 ∧ ci 40 (cr 50 K) = sh ∧ ci 50 K + 30 < mn) := h
  funext a b
  unfold mrkC
  by_cases hb : b = K
  · subst hb
    rw [if_neg (fun q => absurd q.2.1 (Nat.lt_irrefl _)), if_neg (fun q => h2 q.2.2)]
  · simp only [show b < K + 1 ↔ b < K by omega]
set_option maxHeartbeats 4000000 in
set_option maxRecDepth 100000 in
theorem c_X7_dueParcelCosts (l : Launch) (X : GX) (L : List ro) (ad : ro → Nat) (st0 : ro → va_E) (ci : Nat → Nat → Int32) (ca : Nat → Nat → Nat → Int32) (cr : Nat → Nat → Nat) (n w tot nt : Nat) (kp nx : Nat → Nat) (hV : cV L ci ca cr n w tot nt kp nx) (a : Int32) : gMi l yX7_dueParcelCosts cX7_dueParcelCosts 5 (some .int) 3 64 0 0 X [.ref (ad (1, 0)), .int a] L ad (cSt X ad st0 ci ca cr) (fun v u => u = (L, ad, cSt X ad st0 ci ca cr) ∧ v = sumC ci cr a (nI w) (cr 13 1)) := by
  intro sz
  refine gM_of2 (Qc := fun A => va_Qi _ (gB X A) A) (by decide) (Nat.le_of_ble_eq_true rfl) ?_ sz
  intro p e s m args below meth c A R Q hR hQ C hW hS ls hl
  obtain ⟨hR1, hR2, hR3, hR4⟩ := hR
  have hx := C.1.1
  have hb := C.1.2.1
  have hml := C.1.2.2.1
  have hl : lv_has ls 5 [(0, .ref (ad (1, 0))), (1, .int a)] := hl
  obtain ⟨vR, vA, vN, vq, vp, vt, vQ, vP, vC, vX, vT, vW, vG, vS⟩ := id hV
  obtain ⟨vT1, vT2, vT3⟩ := vT
  obtain ⟨vW1, vW2⟩ := vW
  obtain ⟨vG1, vG2, vG3⟩ := vG
  obtain ⟨vN1, vN2⟩ := vN
  have loop : ∀ (f : Nat) (k : Nat) (md : Int32), (cr 13 1 - k < f) → (k ≤ cr 13 1) → (md = sumC ci cr a (nI w) k) → ∀ (H : Heap) (locs : List Loc), gW X A L ad (cSt X ad st0 ci ca cr) s H → va_S A s.heap H locs → ∀ ls : Array Slot, lv_has ls 5 [(0, .ref (ad (1, 0))), (1, .int a), (2, .int md), (3, .int (nI k))] → W p l e R s m args below meth c H locs 0 0 Q (F0 m 4 ls []) := by
    intro f
    induction f with
    | zero =>
      intro k md hf9
      exact absurd hf9 (Nat.not_lt_zero _)
    | succ f ih =>
      intro k md hf hk hmd H locs hW hS ls hl
      refine lv_iload_n hx hb dX7_dueParcelCosts_4 rfl (lv_at hl 3 rfl) ?_
      refine lv_aload_n hx hb dX7_dueParcelCosts_5 rfl (lv_at hl 0 rfl) ?_
      refine g_get (r := (1, 0)) (Cn := RX7) (T := TX7) (N := 7) (ci := 10) (v := .ref (ad (11, 1))) C tinX7 hW (hV.r (by decide)) rfl rfl 5 (by decide) tw_1_211 (fun _ h9 => h9) rfl dX7_dueParcelCosts_6 ?_
      refine g_callFi (r := (11, 1)) (T := TJx4a65c) (N := 3) (x := ⟨"java/util/List", "size", "()I"⟩) (k2 := 0) (As := []) (rest := [.int (nI k)]) C (c_lsize l X L ad st0 ci ca cr 1 (cr 13 1) (hV.r (by decide)) (hV.2.1 1 (by decide)).1) tw_4_109 tw_4_113 tw_4_115 tw_1_6 (by decide +kernel) tw_4_117 (by decide +kernel) ⟨by rw [hR1]; exact Nat.le_of_ble_eq_true rfl, by rw [hR2]; exact Nat.le_of_ble_eq_true rfl⟩ hW hS (hV.r (by decide)) rfl rfl rfl hl.1 rfl (Nat.le_of_ble_eq_true rfl) dX7_dueParcelCosts_9 ⟨by rw [hR3]; exact Nat.le_of_ble_eq_true rfl, by rw [hR4]; exact Nat.le_of_ble_eq_true rfl⟩ (fun x1 L9 ad9 st9 H locs hp hW hS => ?_)
      obtain ⟨z0, z1⟩ := hp
      cases z0
      subst z1
      refine lv_icmp_ge (tgt := 59) hx hb dX7_dueParcelCosts_14 (by decide) (fun c2 => ?_) (fun c2 => ?_)
      · have c2n := q_le (a := (cr 13 1)) (b := k) (by omega) (by omega) c2
        refine lv_iload_n hx hb dX7_dueParcelCosts_59 rfl (lv_at hl 2 rfl) ?_
        exact g_iret2 C hQ hW hS ⟨rfl, by rw [show cr 13 1 = k by omega]; exact hmd⟩ rfl (Nat.le_of_ble_eq_true rfl) (Nat.le_of_ble_eq_true rfl) dX7_dueParcelCosts_60
      · have c2n := q_nle (a := (cr 13 1)) (b := k) (by omega) (by omega) c2
        refine lv_aload_n hx hb dX7_dueParcelCosts_17 rfl (lv_at hl 0 rfl) ?_
        refine g_get (r := (1, 0)) (Cn := RX7) (T := TX7) (N := 7) (ci := 10) (v := .ref (ad (11, 1))) C tinX7 hW (hV.r (by decide)) rfl rfl 5 (by decide) tw_1_211 (fun _ h9 => h9) rfl dX7_dueParcelCosts_18 ?_
        refine lv_iload_n hx hb dX7_dueParcelCosts_21 rfl (lv_at hl 3 rfl) ?_
        refine g_callFq (r := (11, 1)) (T := TJx4a65c) (N := 3) (x := ⟨"java/util/List", "get", "(I)Ljava/lang/Object;"⟩) (k2 := 1) (As := [.int (nI k)]) (rest := []) C (c_lget l X L ad st0 ci ca cr 1 k (hV.r (by decide)) (hV.lst (i := 1) (j := k) (by decide) (by first | omega | exact (hV.pc (by omega)).2)).1 (hV.2.1 1 (by decide)).1 (hV.lst (i := 1) (j := k) (by decide) (by first | omega | exact (hV.pc (by omega)).2)).2.1 (by first | omega | exact (hV.pc (by omega)).2) (hV.lst (i := 1) (j := k) (by decide) (by first | omega | exact (hV.pc (by omega)).2)).2.2.1 (by have h8 := (hV.lst (i := 1) (j := k) (by decide) (by first | omega | exact (hV.pc (by omega)).2)).2.2.2; omega)) tw_4_138 tw_4_141 tw_4_143 tw_1_6 (by decide +kernel) tw_4_145 (by decide +kernel) ⟨by rw [hR1]; exact Nat.le_of_ble_eq_true rfl, by rw [hR2]; exact Nat.le_of_ble_eq_true rfl⟩ hW hS (hV.r (by decide)) rfl rfl rfl hl.1 rfl (Nat.le_of_ble_eq_true rfl) dX7_dueParcelCosts_22 ⟨by rw [hR3]; exact Nat.le_of_ble_eq_true rfl, by rw [hR4]; exact Nat.le_of_ble_eq_true rfl⟩ (fun v3 L9 ad9 st9 H locs hp hW hS => ?_)
        obtain ⟨z0, z1⟩ := hp
        cases z0
        subst z1
        refine lv_topV (y := .ref (ad (50, k))) (congrArg va_rf (if_pos (by first | omega | exact (hV.pc (by omega)).2))) ?_
        refine g_cst (r := (50, k)) (Cn := RX2) (T := TX2) (N := 4) (ci := 5) C hW (hV.pc (by first | omega | exact (hV.pc (by omega)).2)).1 rfl rfl tw_5_101 dX7_dueParcelCosts_27 ?_
        refine lv_astore (lv' := [(4, .ref (ad (50, k))), (0, .ref (ad (1, 0))), (1, .int a), (2, .int md), (3, .int (nI k))]) hx hb dX7_dueParcelCosts_30 hl (by decide) rfl (fun ls hl => ?_)
        refine lv_aload hx hb dX7_dueParcelCosts_32 (lv_at hl 0 rfl) ?_
        refine lv_iload_n hx hb dX7_dueParcelCosts_34 rfl (lv_at hl 2 rfl) ?_
        refine lv_aload_n hx hb dX7_dueParcelCosts_35 rfl (lv_at hl 1 rfl) ?_
        refine g_get (r := (1, 0)) (Cn := RX7) (T := TX7) (N := 7) (ci := 10) (v := .int (ci 1 0)) C tinX7 hW (hV.r (by decide)) rfl rfl 6 (by decide) tw_1_212 (fun _ h9 => h9) rfl dX7_dueParcelCosts_36 ?_
        refine lv_topE (y := nI w) (by show ci 1 0 = nI w; exact hV.2.2.2.2.2.2.2.2.2.2.2.1.1) ?_
        refine g_callVi (r := (50, k)) (T := TX2) (N := 4) (k2 := 2) (As := [.int a, .int (nI w)]) (rest := []) C (c_X2_isDueFrom l X L ad st0 ci ca cr k (hV.pc (by first | omega | exact (hV.pc (by omega)).2)).1 (hV.qt (hV.pc (by first | omega | exact (hV.pc (by omega)).2)).2).1 a (nI w)) tw_5_174 tw_5_175 tw_5_176 tw_1_32 tw_5_177 (by decide +kernel) ⟨by rw [hR1]; exact Nat.le_of_ble_eq_true rfl, by rw [hR2]; exact Nat.le_of_ble_eq_true rfl⟩ hW hS (hV.pc (by first | omega | exact (hV.pc (by omega)).2)).1 rfl rfl rfl hl.1 rfl (Nat.le_of_ble_eq_true rfl) dX7_dueParcelCosts_39 ⟨by rw [hR3]; exact Nat.le_of_ble_eq_true rfl, by rw [hR4]; exact Nat.le_of_ble_eq_true rfl⟩ (fun v9 L9 ad9 st9 H locs hp hW hS => ?_)
        obtain ⟨ci9, ca9, cr9, z0, hp⟩ := hp
        cases z0
        obtain ⟨z1, z2, z3, h4⟩ := hp
        rw [z1, z2, z3] at hW
        rcases h4 with ⟨h4, e9⟩ | ⟨h4, e9⟩
        · subst e9
          refine lv_if_eq (tgt := 53) hx hb dX7_dueParcelCosts_42 (by decide) (fun c9 => absurd c9 (by decide)) (fun _ => ?_)
          refine lv_iload_n hx hb dX7_dueParcelCosts_45 rfl (lv_at hl 3 rfl) ?_
          refine lv_aload hx hb dX7_dueParcelCosts_46 (lv_at hl 0 rfl) ?_
          refine g_get (r := (50, k)) (Cn := RX2) (T := TX2) (N := 4) (ci := 5) (v := .int (ci 51 k)) C tinX2 hW (hV.pc (by first | omega | exact (hV.pc (by omega)).2)).1 rfl rfl 2 (by decide) tw_5_111 (fun _ h9 => h9) rfl dX7_dueParcelCosts_48 ?_
          refine lv_iadd hx hb dX7_dueParcelCosts_51 ?_
          refine lv_topi (fun x5 ex5 => ?_)
          refine lv_istore_n (lv' := [(2, .int x5), (4, .ref (ad (50, k))), (0, .ref (ad (1, 0))), (1, .int a), (3, .int (nI k))]) hx hb dX7_dueParcelCosts_52 rfl hl (by decide) rfl (fun ls hl => ?_)
          refine lv_iinc (v := nI (k + 1)) (lv' := [(3, .int (nI (k + 1))), (2, .int x5), (4, .ref (ad (50, k))), (0, .ref (ad (1, 0))), (1, .int a)]) hx hb dX7_dueParcelCosts_53 hl (k := 4) rfl (nI_1 k) (by decide) rfl (fun ls hl => ?_)
          refine lv_goto (tgt := 4) hx hb dX7_dueParcelCosts_56 (by decide) ?_
          exact ih (k + 1) x5 (by omega) (by omega) (by rw [sumC]; subst_vars; first | exact (if_pos h4).symm | exact (if_neg h4).symm) _ _ hW hS _ (lv_sub hl [3, 4, 1, 0] rfl)
        · subst e9
          refine lv_if_eq (tgt := 53) hx hb dX7_dueParcelCosts_42 (by decide) (fun _ => ?_) (fun c9 => absurd (by decide) c9)
          refine lv_iinc (v := nI (k + 1)) (lv' := [(3, .int (nI (k + 1))), (4, .ref (ad (50, k))), (0, .ref (ad (1, 0))), (1, .int a), (2, .int md)]) hx hb dX7_dueParcelCosts_53 hl (k := 4) rfl (nI_1 k) (by decide) rfl (fun ls hl => ?_)
          refine lv_goto (tgt := 4) hx hb dX7_dueParcelCosts_56 (by decide) ?_
          exact ih (k + 1) md (by omega) (by omega) (by rw [sumC]; subst_vars; first | exact (if_pos h4).symm | exact (if_neg h4).symm) _ _ hW hS _ (lv_sub hl [2, 3, 4, 0] rfl)
  refine lv_iconst (v := 0) hx hb dX7_dueParcelCosts_0 (by decide) ?_
  refine lv_istore_n (lv' := [(2, .int 0), (0, .ref (ad (1, 0))), (1, .int a)]) hx hb dX7_dueParcelCosts_1 rfl hl (by decide) rfl (fun ls hl => ?_)
  refine lv_iconst (v := 0) hx hb dX7_dueParcelCosts_2 (by decide) ?_
  refine lv_istore_n (lv' := [(3, .int 0), (2, .int 0), (0, .ref (ad (1, 0))), (1, .int a)]) hx hb dX7_dueParcelCosts_3 rfl hl (by decide) rfl (fun ls hl => ?_)
  exact loop _ 0 0 (Nat.lt_succ_self _) (by omega) rfl _ _ hW hS _ (lv_sub hl [2, 3, 1, 0] rfl)

set_option maxHeartbeats 4000000 in
set_option maxRecDepth 100000 in
theorem c_X7_markDueParcels (l : Launch) (X : GX) (L : List ro) (ad : ro → Nat) (st0 : ro → va_E) (ci : Nat → Nat → Int32) (ca : Nat → Nat → Nat → Int32) (cr : Nat → Nat → Nat) (n w tot nt : Nat) (kp nx : Nat → Nat) (hV : cV L ci ca cr n w tot nt kp nx) (a : Int32) : gMv l yX7_markDueParcels cX7_markDueParcels 4 none 3 64 0 0 X [.ref (ad (1, 0)), .int a] L ad (cSt X ad st0 ci ca cr) (fun u => u = (L, ad, cSt X ad st0 (mrkC ci cr a (nI w) (cr 13 1)) ca cr)) := by
  intro sz
  refine gM_of2 (Qc := fun A => va_Qv _ (gB X A) A) (by decide) (Nat.le_of_ble_eq_true rfl) ?_ sz
  intro p e s m args below meth c A R Q hR hQ C hW hS ls hl
  obtain ⟨hR1, hR2, hR3, hR4⟩ := hR
  have hx := C.1.1
  have hb := C.1.2.1
  have hml := C.1.2.2.1
  have hl : lv_has ls 4 [(0, .ref (ad (1, 0))), (1, .int a)] := hl
  obtain ⟨vR, vA, vN, vq, vp, vt, vQ, vP, vC, vX, vT, vW, vG, vS⟩ := id hV
  obtain ⟨vT1, vT2, vT3⟩ := vT
  obtain ⟨vW1, vW2⟩ := vW
  obtain ⟨vG1, vG2, vG3⟩ := vG
  obtain ⟨vN1, vN2⟩ := vN
  have loop : ∀ (f : Nat) (k : Nat), (cr 13 1 - k < f) → (k ≤ cr 13 1) → ∀ (H : Heap) (locs : List Loc), gW X A L ad (cSt X ad st0 (mrkC ci cr a (nI w) k) ca cr) s H → va_S A s.heap H locs → ∀ ls : Array Slot, lv_has ls 4 [(0, .ref (ad (1, 0))), (1, .int a), (2, .int (nI k))] → W p l e R s m args below meth c H locs 0 0 Q (F0 m 2 ls []) := by
    intro f
    induction f with
    | zero =>
      intro k hf9
      exact absurd hf9 (Nat.not_lt_zero _)
    | succ f ih =>
      intro k hf hk H locs hW hS ls hl
      refine lv_iload_n hx hb dX7_markDueParcels_2 rfl (lv_at hl 2 rfl) ?_
      refine lv_aload_n hx hb dX7_markDueParcels_3 rfl (lv_at hl 0 rfl) ?_
      refine g_get (r := (1, 0)) (Cn := RX7) (T := TX7) (N := 7) (ci := 10) (v := .ref (ad (11, 1))) C tinX7 hW (hV.r (by decide)) rfl rfl 5 (by decide) tw_1_211 (fun _ h9 => h9) rfl dX7_markDueParcels_4 ?_
      refine g_callFi (r := (11, 1)) (T := TJx4a65c) (N := 3) (x := ⟨"java/util/List", "size", "()I"⟩) (k2 := 0) (As := []) (rest := [.int (nI k)]) C (c_lsize l X L ad st0 (mrkC ci cr a (nI w) k) ca cr 1 (cr 13 1) (hV.r (by decide)) (hV.2.1 1 (by decide)).1) tw_4_109 tw_4_113 tw_4_115 tw_1_6 (by decide +kernel) tw_4_117 (by decide +kernel) ⟨by rw [hR1]; exact Nat.le_of_ble_eq_true rfl, by rw [hR2]; exact Nat.le_of_ble_eq_true rfl⟩ hW hS (hV.r (by decide)) rfl rfl rfl hl.1 rfl (Nat.le_of_ble_eq_true rfl) dX7_markDueParcels_7 ⟨by rw [hR3]; exact Nat.le_of_ble_eq_true rfl, by rw [hR4]; exact Nat.le_of_ble_eq_true rfl⟩ (fun x1 L9 ad9 st9 H locs hp hW hS => ?_)
      obtain ⟨z0, z1⟩ := hp
      cases z0
      subst z1
      refine lv_icmp_ge (tgt := 52) hx hb dX7_markDueParcels_12 (by decide) (fun c2 => ?_) (fun c2 => ?_)
      · have c2n := q_le (a := (cr 13 1)) (b := k) (by omega) (by omega) c2
        exact g_vret2 C hQ hW hS (by rw [show cr 13 1 = k by omega]) (Nat.le_of_ble_eq_true rfl) (Nat.le_of_ble_eq_true rfl) dX7_markDueParcels_52
      · have c2n := q_nle (a := (cr 13 1)) (b := k) (by omega) (by omega) c2
        refine lv_aload_n hx hb dX7_markDueParcels_15 rfl (lv_at hl 0 rfl) ?_
        refine g_get (r := (1, 0)) (Cn := RX7) (T := TX7) (N := 7) (ci := 10) (v := .ref (ad (11, 1))) C tinX7 hW (hV.r (by decide)) rfl rfl 5 (by decide) tw_1_211 (fun _ h9 => h9) rfl dX7_markDueParcels_16 ?_
        refine lv_iload_n hx hb dX7_markDueParcels_19 rfl (lv_at hl 2 rfl) ?_
        refine g_callFq (r := (11, 1)) (T := TJx4a65c) (N := 3) (x := ⟨"java/util/List", "get", "(I)Ljava/lang/Object;"⟩) (k2 := 1) (As := [.int (nI k)]) (rest := []) C (c_lget l X L ad st0 (mrkC ci cr a (nI w) k) ca cr 1 k (hV.r (by decide)) (hV.lst (i := 1) (j := k) (by decide) (by first | omega | exact (hV.pc (by omega)).2)).1 (hV.2.1 1 (by decide)).1 (hV.lst (i := 1) (j := k) (by decide) (by first | omega | exact (hV.pc (by omega)).2)).2.1 (by first | omega | exact (hV.pc (by omega)).2) (hV.lst (i := 1) (j := k) (by decide) (by first | omega | exact (hV.pc (by omega)).2)).2.2.1 (by have h8 := (hV.lst (i := 1) (j := k) (by decide) (by first | omega | exact (hV.pc (by omega)).2)).2.2.2; omega)) tw_4_138 tw_4_141 tw_4_143 tw_1_6 (by decide +kernel) tw_4_145 (by decide +kernel) ⟨by rw [hR1]; exact Nat.le_of_ble_eq_true rfl, by rw [hR2]; exact Nat.le_of_ble_eq_true rfl⟩ hW hS (hV.r (by decide)) rfl rfl rfl hl.1 rfl (Nat.le_of_ble_eq_true rfl) dX7_markDueParcels_20 ⟨by rw [hR3]; exact Nat.le_of_ble_eq_true rfl, by rw [hR4]; exact Nat.le_of_ble_eq_true rfl⟩ (fun v3 L9 ad9 st9 H locs hp hW hS => ?_)
        obtain ⟨z0, z1⟩ := hp
        cases z0
        subst z1
        refine lv_topV (y := .ref (ad (50, k))) (congrArg va_rf (if_pos (by first | omega | exact (hV.pc (by omega)).2))) ?_
        refine g_cst (r := (50, k)) (Cn := RX2) (T := TX2) (N := 4) (ci := 5) C hW (hV.pc (by first | omega | exact (hV.pc (by omega)).2)).1 rfl rfl tw_5_101 dX7_markDueParcels_25 ?_
        refine lv_astore_n (lv' := [(3, .ref (ad (50, k))), (0, .ref (ad (1, 0))), (1, .int a), (2, .int (nI k))]) hx hb dX7_markDueParcels_28 rfl hl (by decide) rfl (fun ls hl => ?_)
        refine lv_aload_n hx hb dX7_markDueParcels_29 rfl (lv_at hl 0 rfl) ?_
        refine lv_iload_n hx hb dX7_markDueParcels_30 rfl (lv_at hl 2 rfl) ?_
        refine lv_aload_n hx hb dX7_markDueParcels_31 rfl (lv_at hl 1 rfl) ?_
        refine g_get (r := (1, 0)) (Cn := RX7) (T := TX7) (N := 7) (ci := 10) (v := .int ((mrkC ci cr a (nI w) k) 1 0)) C tinX7 hW (hV.r (by decide)) rfl rfl 6 (by decide) tw_1_212 (fun _ h9 => h9) rfl dX7_markDueParcels_32 ?_
        refine lv_topE (y := nI w) (by show (mrkC ci cr a (nI w) k) 1 0 = nI w; exact hV.2.2.2.2.2.2.2.2.2.2.2.1.1) ?_
        refine g_callVi (r := (50, k)) (T := TX2) (N := 4) (k2 := 2) (As := [.int a, .int (nI w)]) (rest := []) C (c_X2_isDueFrom l X L ad st0 (mrkC ci cr a (nI w) k) ca cr k (hV.pc (by first | omega | exact (hV.pc (by omega)).2)).1 (hV.qt (hV.pc (by first | omega | exact (hV.pc (by omega)).2)).2).1 a (nI w)) tw_5_174 tw_5_175 tw_5_176 tw_1_32 tw_5_177 (by decide +kernel) ⟨by rw [hR1]; exact Nat.le_of_ble_eq_true rfl, by rw [hR2]; exact Nat.le_of_ble_eq_true rfl⟩ hW hS (hV.pc (by first | omega | exact (hV.pc (by omega)).2)).1 rfl rfl rfl hl.1 rfl (Nat.le_of_ble_eq_true rfl) dX7_markDueParcels_35 ⟨by rw [hR3]; exact Nat.le_of_ble_eq_true rfl, by rw [hR4]; exact Nat.le_of_ble_eq_true rfl⟩ (fun v9 L9 ad9 st9 H locs hp hW hS => ?_)
        obtain ⟨ci9, ca9, cr9, z0, hp⟩ := hp
        cases z0
        obtain ⟨z1, z2, z3, h4⟩ := hp
        rw [z1, z2, z3] at hW
        rcases h4 with ⟨h4, e9⟩ | ⟨h4, e9⟩
        · subst e9
          refine lv_if_eq (tgt := 46) hx hb dX7_markDueParcels_38 (by decide) (fun c9 => absurd c9 (by decide)) (fun _ => ?_)
          refine lv_aload_n hx hb dX7_markDueParcels_41 rfl (lv_at hl 0 rfl) ?_
          refine lv_iconst (v := 2) hx hb dX7_markDueParcels_42 (by decide) ?_
          refine g_put (r := (50, k)) (Cn := RX2) (T := TX2) (N := 4) (ci := 5) (ty0 := tyX2) C tinX2 tyX2_ok nmX2 hW hS (hV.pc (by first | omega | exact (hV.pc (by omega)).2)).1 rfl rfl 3 (by decide) tw_5_113 (fun _ h9 => h9) rfl rfl rfl (Nat.le_of_ble_eq_true rfl) (cU_50_3 k _ _ rfl) dX7_markDueParcels_43 (fun H locs hW hS => ?_)
          rw [mrk_pos h4] at hW
          refine lv_iinc (v := nI (k + 1)) (lv' := [(2, .int (nI (k + 1))), (3, .ref (ad (50, k))), (0, .ref (ad (1, 0))), (1, .int a)]) hx hb dX7_markDueParcels_46 hl (k := 3) rfl (nI_1 k) (by decide) rfl (fun ls hl => ?_)
          refine lv_goto (tgt := 2) hx hb dX7_markDueParcels_49 (by decide) ?_
          exact ih (k + 1) (by omega) (by omega) _ _ hW hS _ (lv_sub hl [2, 3, 0] rfl)
        · subst e9
          refine lv_if_eq (tgt := 46) hx hb dX7_markDueParcels_38 (by decide) (fun _ => ?_) (fun c9 => absurd (by decide) c9)
          rw [mrk_neg h4] at hW
          refine lv_iinc (v := nI (k + 1)) (lv' := [(2, .int (nI (k + 1))), (3, .ref (ad (50, k))), (0, .ref (ad (1, 0))), (1, .int a)]) hx hb dX7_markDueParcels_46 hl (k := 3) rfl (nI_1 k) (by decide) rfl (fun ls hl => ?_)
          refine lv_goto (tgt := 2) hx hb dX7_markDueParcels_49 (by decide) ?_
          exact ih (k + 1) (by omega) (by omega) _ _ hW hS _ (lv_sub hl [2, 3, 0] rfl)
  refine lv_iconst (v := 0) hx hb dX7_markDueParcels_0 (by decide) ?_
  rw [← mrk_0 ci cr a (nI w)] at hW
  refine lv_istore_n (lv' := [(2, .int 0), (0, .ref (ad (1, 0))), (1, .int a)]) hx hb dX7_markDueParcels_1 rfl hl (by decide) rfl (fun ls hl => ?_)
  exact loop _ 0 (Nat.lt_succ_self _) (by omega) _ _ hW hS _ (lv_sub hl [1, 2, 0] rfl)

set_option maxHeartbeats 4000000 in
set_option maxRecDepth 100000 in
theorem c_X7_bill (l : Launch) (X : GX) (L : List ro) (ad : ro → Nat) (st0 : ro → va_E) (ci : Nat → Nat → Int32) (ca : Nat → Nat → Nat → Int32) (cr : Nat → Nat → Nat) (n w tot nt : Nat) (kp nx : Nat → Nat) (hV : cV L ci ca cr n w tot nt kp nx) (hl0 : l.stackTraces = false) (a : Int32) : gXi l yX7_bill cX7_bill 2 (some .int) 7 103 10 300 X [.ref (ad (1, 0)), .int a] L ad (cSt X ad st0 ci ca cr) (fun v u => u = (L, ad, cSt X ad st0 ci ca cr) ∧ ∃ k, k < 6 ∧ a = nI k ∧ v = ci 22 k + sumC ci cr (nI k) (nI w) (cr 13 1)) (fun E u => u = (L, ad, cSt X ad st0 ci ca cr) ∧ E = "java/lang/IndexOutOfBoundsException" ∧ ¬ vp_in a (6)) := by
  intro sz
  refine gX_of2 (Qc := fun A => va_Qi _ (gB X A) A) (XC := fun A => gXC X A _) (by decide) (Nat.le_of_ble_eq_true rfl) ?_ sz
  intro p e s m args below meth c A R Q hR hQ hnx C hW hS ls hl
  obtain ⟨hR1, hR2, hR3, hR4⟩ := hR
  have hx := C.1.1
  have hb := C.1.2.1
  have hml := C.1.2.2.1
  have hl : lv_has ls 2 [(0, .ref (ad (1, 0))), (1, .int a)] := hl
  obtain ⟨vR, vA, vN, vq, vp, vt, vQ, vP, vC, vX, vT, vW, vG, vS⟩ := id hV
  obtain ⟨vT1, vT2, vT3⟩ := vT
  obtain ⟨vW1, vW2⟩ := vW
  obtain ⟨vG1, vG2, vG3⟩ := vG
  obtain ⟨vN1, vN2⟩ := vN
  refine lv_aload_n hx hb dX7_bill_0 rfl (lv_at hl 0 rfl) ?_
  refine lv_iload_n hx hb dX7_bill_1 rfl (lv_at hl 1 rfl) ?_
  refine g_callXq (r := (1, 0)) (T := TX7) (N := 7) (k2 := 1) (As := [.int a]) (rest := []) C hnx hQ (c_X7_shipperAt l X L ad st0 ci ca cr n w tot nt kp nx hV hl0 a) (fun E u h => h) tw_4_71 tw_4_73 tw_0_12 tw_1_1 tw_4_74 (by decide +kernel) ⟨by rw [hR1]; exact Nat.le_of_ble_eq_true rfl, by rw [hR2]; exact Nat.le_of_ble_eq_true rfl⟩ hW hS (hV.r (by decide)) rfl rfl rfl hl.1 rfl (Nat.le_of_ble_eq_true rfl) dX7_bill_2 ⟨by rw [hR3]; exact Nat.le_of_ble_eq_true rfl, by rw [hR4]; exact Nat.le_of_ble_eq_true rfl⟩ ⟨Nat.le_of_ble_eq_true rfl, Nat.le_of_ble_eq_true rfl⟩ (fun v1 L9 ad9 st9 H locs hp hW hS => ?_)
  obtain ⟨z0, k2, hk2, hak2, hv9⟩ := hp
  cases z0
  subst hv9
  refine lv_topV (y := .ref (ad (20, k2))) rfl ?_
  subst hak2
  refine g_get (r := (20, k2)) (Cn := RX5) (T := TX5) (N := 7) (ci := 8) (v := .int (ci 22 k2)) C tinX5 hW (hV.ship (by first | omega | exact (hV.pc (by omega)).2)).1 rfl rfl 2 (by decide) tw_1_134 (fun _ h9 => h9) rfl dX7_bill_5 ?_
  refine lv_aload_n hx hb dX7_bill_8 rfl (lv_at hl 0 rfl) ?_
  refine lv_iload_n hx hb dX7_bill_9 rfl (lv_at hl 1 rfl) ?_
  refine g_callVi (r := (1, 0)) (T := TX7) (N := 7) (k2 := 1) (As := [.int (nI k2)]) (rest := [.int (ci 22 k2)]) C (c_X7_dueParcelCosts l X L ad st0 ci ca cr n w tot nt kp nx hV (nI k2)) tw_5_170 tw_5_172 tw_0_23 tw_1_1 tw_5_173 (by decide +kernel) ⟨by rw [hR1]; exact Nat.le_of_ble_eq_true rfl, by rw [hR2]; exact Nat.le_of_ble_eq_true rfl⟩ hW hS (hV.r (by decide)) rfl rfl rfl hl.1 rfl (Nat.le_of_ble_eq_true rfl) dX7_bill_10 ⟨by rw [hR3]; exact Nat.le_of_ble_eq_true rfl, by rw [hR4]; exact Nat.le_of_ble_eq_true rfl⟩ (fun x4 L9 ad9 st9 H locs hp hW hS => ?_)
  obtain ⟨z0, h5⟩ := hp
  cases z0
  subst h5
  refine lv_iadd hx hb dX7_bill_13 ?_
  refine lv_topi (fun x6 ex6 => ?_)
  exact g_iretX C hQ hW hS ⟨rfl, k2, hk2, rfl, (by subst_vars; first | rfl | (simp only [lftC]; rfl))⟩ rfl (Nat.le_of_ble_eq_true rfl) (Nat.le_of_ble_eq_true rfl) dX7_bill_14

set_option maxHeartbeats 4000000 in
set_option maxRecDepth 100000 in
theorem c_X7_close (l : Launch) (X : GX) (L : List ro) (ad : ro → Nat) (st0 : ro → va_E) (ci : Nat → Nat → Int32) (ca : Nat → Nat → Nat → Int32) (cr : Nat → Nat → Nat) (n w tot nt : Nat) (kp nx : Nat → Nat) (hV : cV L ci ca cr n w tot nt kp nx) (hl0 : l.stackTraces = false) (a : Int32) : gXi l yX7_close cX7_close 4 (some .int) 7 103 10 300 X [.ref (ad (1, 0)), .int a] L ad (cSt X ad st0 ci ca cr) (fun v u => ∃ k, k < 6 ∧ a = nI k ∧ u = (L, ad, cSt X ad st0 (up2 (up2 (mrkC ci cr (nI k) (nI w) (cr 13 1)) 22 k 0) 23 k (ci 23 k + (ci 22 k + sumC ci cr (nI k) (nI w) (cr 13 1)))) ca cr) ∧ v = ci 22 k + sumC ci cr (nI k) (nI w) (cr 13 1)) (fun E u => u = (L, ad, cSt X ad st0 ci ca cr) ∧ E = "java/lang/IndexOutOfBoundsException" ∧ ¬ vp_in a (6)) := by
  intro sz
  refine gX_of2 (Qc := fun A => va_Qi _ (gB X A) A) (XC := fun A => gXC X A _) (by decide) (Nat.le_of_ble_eq_true rfl) ?_ sz
  intro p e s m args below meth c A R Q hR hQ hnx C hW hS ls hl
  obtain ⟨hR1, hR2, hR3, hR4⟩ := hR
  have hx := C.1.1
  have hb := C.1.2.1
  have hml := C.1.2.2.1
  have hl : lv_has ls 4 [(0, .ref (ad (1, 0))), (1, .int a)] := hl
  obtain ⟨vR, vA, vN, vq, vp, vt, vQ, vP, vC, vX, vT, vW, vG, vS⟩ := id hV
  obtain ⟨vT1, vT2, vT3⟩ := vT
  obtain ⟨vW1, vW2⟩ := vW
  obtain ⟨vG1, vG2, vG3⟩ := vG
  obtain ⟨vN1, vN2⟩ := vN
  refine lv_aload_n hx hb dX7_close_0 rfl (lv_at hl 0 rfl) ?_
  refine lv_iload_n hx hb dX7_close_1 rfl (lv_at hl 1 rfl) ?_
  refine g_callXq (r := (1, 0)) (T := TX7) (N := 7) (k2 := 1) (As := [.int a]) (rest := []) C hnx hQ (c_X7_shipperAt l X L ad st0 ci ca cr n w tot nt kp nx hV hl0 a) (fun E u h => h) tw_4_71 tw_4_73 tw_0_12 tw_1_1 tw_4_74 (by decide +kernel) ⟨by rw [hR1]; exact Nat.le_of_ble_eq_true rfl, by rw [hR2]; exact Nat.le_of_ble_eq_true rfl⟩ hW hS (hV.r (by decide)) rfl rfl rfl hl.1 rfl (Nat.le_of_ble_eq_true rfl) dX7_close_2 ⟨by rw [hR3]; exact Nat.le_of_ble_eq_true rfl, by rw [hR4]; exact Nat.le_of_ble_eq_true rfl⟩ ⟨Nat.le_of_ble_eq_true rfl, Nat.le_of_ble_eq_true rfl⟩ (fun v1 L9 ad9 st9 H locs hp hW hS => ?_)
  obtain ⟨z0, k2, hk2, hak2, hv9⟩ := hp
  cases z0
  subst hv9
  refine lv_topV (y := .ref (ad (20, k2))) rfl ?_
  subst hak2
  refine lv_astore_n (lv' := [(2, .ref (ad (20, k2))), (0, .ref (ad (1, 0))), (1, .int (nI k2))]) hx hb dX7_close_5 rfl hl (by decide) rfl (fun ls hl => ?_)
  refine lv_aload_n hx hb dX7_close_6 rfl (lv_at hl 0 rfl) ?_
  refine g_get (r := (20, k2)) (Cn := RX5) (T := TX5) (N := 7) (ci := 8) (v := .int (ci 22 k2)) C tinX5 hW (hV.ship (by first | omega | exact (hV.pc (by omega)).2)).1 rfl rfl 2 (by decide) tw_1_134 (fun _ h9 => h9) rfl dX7_close_7 ?_
  refine lv_aload_n hx hb dX7_close_10 rfl (lv_at hl 1 rfl) ?_
  refine lv_iload_n hx hb dX7_close_11 rfl (lv_at hl 2 rfl) ?_
  refine g_callVi (r := (1, 0)) (T := TX7) (N := 7) (k2 := 1) (As := [.int (nI k2)]) (rest := [.int (ci 22 k2)]) C (c_X7_dueParcelCosts l X L ad st0 ci ca cr n w tot nt kp nx hV (nI k2)) tw_5_170 tw_5_172 tw_0_23 tw_1_1 tw_5_173 (by decide +kernel) ⟨by rw [hR1]; exact Nat.le_of_ble_eq_true rfl, by rw [hR2]; exact Nat.le_of_ble_eq_true rfl⟩ hW hS (hV.r (by decide)) rfl rfl rfl hl.1 rfl (Nat.le_of_ble_eq_true rfl) dX7_close_12 ⟨by rw [hR3]; exact Nat.le_of_ble_eq_true rfl, by rw [hR4]; exact Nat.le_of_ble_eq_true rfl⟩ (fun x4 L9 ad9 st9 H locs hp hW hS => ?_)
  obtain ⟨z0, h5⟩ := hp
  cases z0
  subst h5
  refine lv_iadd hx hb dX7_close_15 ?_
  refine lv_topi (fun x6 ex6 => ?_)
  refine lv_istore_n (lv' := [(3, .int x6), (2, .ref (ad (20, k2))), (0, .ref (ad (1, 0))), (1, .int (nI k2))]) hx hb dX7_close_16 rfl hl (by decide) rfl (fun ls hl => ?_)
  refine lv_aload_n hx hb dX7_close_17 rfl (lv_at hl 2 rfl) ?_
  refine lv_iload_n hx hb dX7_close_18 rfl (lv_at hl 3 rfl) ?_
  refine g_callVv (r := (1, 0)) (T := TX7) (N := 7) (k2 := 1) (As := [.int (nI k2)]) (rest := []) C (c_X7_markDueParcels l X L ad st0 ci ca cr n w tot nt kp nx hV (nI k2)) tw_5_186 tw_5_188 tw_0_24 tw_1_1 tw_5_189 (by decide +kernel) ⟨by rw [hR1]; exact Nat.le_of_ble_eq_true rfl, by rw [hR2]; exact Nat.le_of_ble_eq_true rfl⟩ hW hS (hV.r (by decide)) rfl rfl rfl hl.1 rfl (Nat.le_of_ble_eq_true rfl) dX7_close_19 ⟨by rw [hR3]; exact Nat.le_of_ble_eq_true rfl, by rw [hR4]; exact Nat.le_of_ble_eq_true rfl⟩ (fun  L9 ad9 st9 H locs hp hW hS => ?_)
  cases hp
  refine lv_aload_n hx hb dX7_close_22 rfl (lv_at hl 1 rfl) ?_
  refine lv_iconst (v := 0) hx hb dX7_close_23 (by decide) ?_
  refine g_put (r := (20, k2)) (Cn := RX5) (T := TX5) (N := 7) (ci := 8) (ty0 := tyX5) C tinX5 tyX5_ok nmX5 hW hS (hV.ship (by first | omega | exact (hV.pc (by omega)).2)).1 rfl rfl 2 (by decide) tw_1_134 (fun _ h9 => h9) rfl rfl rfl (Nat.le_of_ble_eq_true rfl) (cU_20_2 k2 _ _ rfl) dX7_close_24 (fun H locs hW hS => ?_)
  refine lv_aload_n hx hb dX7_close_27 rfl (lv_at hl 1 rfl) ?_
  refine lv_dup hx hb dX7_close_28 rfl ?_
  refine g_get (r := (20, k2)) (Cn := RX5) (T := TX5) (N := 7) (ci := 8) (v := .int ((mrkC ci cr (nI k2) (nI w) (cr 13 1)) 23 k2)) C tinX5 hW (hV.ship (by first | omega | exact (hV.pc (by omega)).2)).1 rfl rfl 3 (by decide) tw_1_136 (fun _ h9 => h9) rfl dX7_close_29 ?_
  refine lv_iload_n hx hb dX7_close_32 rfl (lv_at hl 0 rfl) ?_
  refine lv_iadd hx hb dX7_close_33 ?_
  refine lv_topi (fun x9 ex9 => ?_)
  refine g_put (r := (20, k2)) (Cn := RX5) (T := TX5) (N := 7) (ci := 8) (ty0 := tyX5) C tinX5 tyX5_ok nmX5 hW hS (hV.ship (by first | omega | exact (hV.pc (by omega)).2)).1 rfl rfl 3 (by decide) tw_1_136 (fun _ h9 => h9) rfl rfl rfl (Nat.le_of_ble_eq_true rfl) (cU_20_3 k2 _ _ rfl) dX7_close_34 (fun H locs hW hS => ?_)
  refine lv_iload_n hx hb dX7_close_37 rfl (lv_at hl 0 rfl) ?_
  exact g_iretX C hQ hW hS ⟨k2, hk2, rfl, by subst_vars; rfl, by subst_vars; rfl⟩ rfl (Nat.le_of_ble_eq_true rfl) (Nat.le_of_ble_eq_true rfl) dX7_close_38

