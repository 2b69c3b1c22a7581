theorem cset_34 {ci : Nat → Nat → Int32} {i : Nat} {s : CrS} : cset ci i s 34 i = s.2.2.1 := by simp [cset, up2]
theorem cset_35 {ci : Nat → Nat → Int32} {i : Nat} {s : CrS} : cset ci i s 35 i = s.2.2.2 := by simp [cset, up2]
theorem cset_30 {ci : Nat → Nat → Int32} {i : Nat} {s : CrS} : cset ci i s 30 i = ci 30 i := by simp [cset, up2]
theorem cset_31 {ci : Nat → Nat → Int32} {i : Nat} {s : CrS} : cset ci i s 31 i = ci 31 i := by simp [cset, up2]
theorem ccr_cset {ci : Nat → Nat → Int32} {i : Nat} {s : CrS} : ccr (cset ci i s) i = s := by simp [ccr, cset, up2]
theorem cset_cset {ci : Nat → Nat → Int32} {i : Nat} {s t : CrS} : cset (cset ci i s) i t = cset ci i t := by
  funext a b
  simp only [cset, up2]
  grind
theorem cset_id {ci : Nat → Nat → Int32} {i : Nat} : cset ci i (ccr ci i) = ci := by
  funext a b
  simp only [cset, ccr, up2]
  grind
noncomputable def askC (mn up fl : Int32) : Nat → CrS → Int32 × CrS
  | 0, s => (0, s)
  | f + 1, s => if crcC s.2.2.1 mn s.2.2.2 = 1 then (0, s) else if (tryC mn up fl s).1 = 1 then (1, (tryC mn up fl s).2) else askC mn up fl f (tryC mn up fl s).2
theorem askC_a {mn up fl : Int32} {s : CrS} {f : Nat} (h : crcC s.2.2.1 mn s.2.2.2 = 1) : askC mn up fl (f + 1) s = (0, s) := by rw [askC, if_pos h]
theorem askC_b {mn up fl : Int32} {s : CrS} {f : Nat} (h : ¬ crcC s.2.2.1 mn s.2.2.2 = 1) (h2 : (tryC mn up fl s).1 = 1) : askC mn up fl (f + 1) s = (1, (tryC mn up fl s).2) := by rw [askC, if_neg h, if_pos h2]
theorem askC_c {mn up fl : Int32} {s : CrS} {f : Nat} (h : ¬ crcC s.2.2.1 mn s.2.2.2 = 1) (h2 : (tryC mn up fl s).1 = 0) : askC mn up fl (f + 1) s = askC mn up fl f (tryC mn up fl s).2 := by rw [askC, if_neg h, if_neg (by rw [h2]; decide)]
theorem askC_z {mn up fl : Int32} {s : CrS} {k : Nat} (hk : k ≤ 3) (h : k = 3 ∨ crcC s.2.2.1 mn s.2.2.2 = 1) : askC mn up fl (3 - k) s = (0, s) := by
  by_cases h9 : k = 3
  · subst h9
    rfl
  · rw [show 3 - k = (3 - (k + 1)) + 1 by omega]
    exact askC_a (h.resolve_left h9)
def rdgC (t : Nat → Int32) (a b : Nat) (mo : Int32) : Int32 := if b = a + 1 ∧ 48 ≤ t a ∧ t a ≤ 57 ∧ t a - 48 ≤ mo then t a - 48 else -1
def rdxC (t : Nat → Int32) (a b : Nat) : Int32 := if b = a + 1 ∧ (t a = 89 ∨ t a = 78) then (if t a = 89 then 1 else 0) else -1
def rdwC (t : Nat → Int32) (a b : Nat) : Int32 := if (a < b ∧ b - a ≤ 5) ∧ rd_num t (b - a) a 0 ≠ -1 ∧ 1 ≤ rd_num t (b - a) a 0 ∧ rd_num t (b - a) a 0 ≤ 30000 then rd_num t (b - a) a 0 else -1
theorem wiN {a b : Nat} (hb : b ≤ 60) (h : 1 ≤ nI (b - a) ∧ nI (b - a) ≤ 5) : a < b ∧ b - a ≤ 5 := by
  have h1 := q_le (a := 1) (b := b - a) (by decide) (by omega) h.1
  have h3 := q_le (a := b - a) (b := 5) (by omega) (by decide) h.2
  omega
theorem wiNn {a b : Nat} (hb : b ≤ 60) (h : ¬ (1 ≤ nI (b - a) ∧ nI (b - a) ≤ 5)) : ¬ (a < b ∧ b - a ≤ 5) := by
  intro q
  apply h
  constructor
  · by_cases w : 1 ≤ nI (b - a)
    · exact w
    · exact absurd (q_nle (a := 1) (b := b - a) (by decide) (by omega) w) (by omega)
  · by_cases w : nI (b - a) ≤ 5
    · exact w
    · exact absurd (q_nle (a := b - a) (b := 5) (by omega) (by decide) w) (by omega)
set_option maxHeartbeats 4000000 in
set_option maxRecDepth 100000 in
theorem c_X1_answersAt (l : Launch) (X : GX) (L : List ro) (ad : ro → Nat) (st0 : ro → va_E) (ci : Nat → Nat → Int32) (ca : Nat → Nat → Nat → Int32) (cr : Nat → Nat → Nat) (i : Nat) (hr : (30, i) ∈ L) (mn : Int32) : cM l yX1_answersAt cX1_answersAt 3 (some .boolean) 2 43 X [.ref (ad (30, i)), .int mn] L ad st0 ci ca cr (fun v ci' ca' cr' => ci' = cset ci i (askC mn (ci 30 i) (ci 31 i) 3 (ccr ci i)).2 ∧ ca' = ca ∧ cr' = cr ∧ (((askC mn (ci 30 i) (ci 31 i) 3 (ccr ci i)).1 = 1 ∧ v = 1) ∨ ((askC mn (ci 30 i) (ci 31 i) 3 (ccr ci i)).1 = 0 ∧ v = 0))) := by
  intro sz
  refine gM_of2 (Qc := fun A => va_Qi _ (gB X A) A) (by decide) (Nat.le_of_ble_eq_true rfl) ?_ sz
  intro p e s m args below meth c A R Q hR hQ C hW hS ls hl
  obtain ⟨hR1, hR2, hR3, hR4⟩ := hR
  have hx := C.1.1
  have hb := C.1.2.1
  have hml := C.1.2.2.1
  have hl : lv_has ls 3 [(0, .ref (ad (30, i))), (1, .int mn)] := hl
  have loop : ∀ (f : Nat) (k : Nat) (s9 : CrS), (3 - k < f) → (k ≤ 3) → ((askC mn (ci 30 i) (ci 31 i) 3 (ccr ci i)) = askC mn (ci 30 i) (ci 31 i) (3 - k) s9) → ∀ (H : Heap) (locs : List Loc), gW X A L ad (cSt X ad st0 (cset ci i s9) ca cr) s H → va_S A s.heap H locs → ∀ ls : Array Slot, lv_has ls 3 [(0, .ref (ad (30, i))), (1, .int mn), (2, .int (nI k))] → W p l e R s m args below meth c H locs 0 0 Q (F0 m 2 ls []) := by
    intro f
    induction f with
    | zero =>
      intro k s9 hf9
      exact absurd hf9 (Nat.not_lt_zero _)
    | succ f ih =>
      intro k s9 hf hk hT H locs hW hS ls hl
      refine lv_iload_n hx hb dX1_answersAt_2 rfl (lv_at hl 2 rfl) ?_
      refine lv_iconst (v := 3) hx hb dX1_answersAt_3 (by decide) ?_
      refine lv_icmp_ge (tgt := 32) hx hb dX1_answersAt_4 (by decide) (fun c1 => ?_) (fun c1 => ?_)
      · have c1n := q_le (a := 3) (b := k) (by omega) (by omega) c1
        refine lv_iconst (v := 0) hx hb dX1_answersAt_32 (by decide) ?_
        exact g_iret2 C hQ hW hS ⟨_, _, _, rfl, (by rw [(show (askC mn (ci 30 i) (ci 31 i) 3 (ccr ci i)) = (0, s9) from hT.trans (askC_z (by omega) (by first | exact Or.inl (by omega) | exact Or.inr (by grind))))]), rfl, rfl, Or.inr ⟨by rw [(show (askC mn (ci 30 i) (ci 31 i) 3 (ccr ci i)) = (0, s9) from hT.trans (askC_z (by omega) (by first | exact Or.inl (by omega) | exact Or.inr (by grind))))], rfl⟩⟩ (by decide) (Nat.zero_le _) (Nat.zero_le _) dX1_answersAt_33
      · have c1n := q_nle (a := 3) (b := k) (by omega) (by omega) c1
        refine lv_aload_n hx hb dX1_answersAt_7 rfl (lv_at hl 0 rfl) ?_
        refine lv_iload_n hx hb dX1_answersAt_8 rfl (lv_at hl 1 rfl) ?_
        refine g_callVi (r := (30, i)) (T := TX1) (N := 7) (k2 := 1) (As := [.int mn]) (rest := []) C (c_X1_circuitAt l X L ad st0 (cset ci i s9) ca cr i hr mn) tw_5_23 tw_5_16 tw_5_17 tw_1_8 tw_5_18 (by decide +kernel) ⟨by rw [hR1]; exact Nat.le_of_ble_eq_true rfl, by rw [hR2]; exact Nat.le_of_ble_eq_true rfl⟩ hW hS hr rfl rfl rfl hl.1 rfl (Nat.le_of_ble_eq_true rfl) dX1_answersAt_9 ⟨Nat.zero_le _, Nat.zero_le _⟩ (fun x2 L9 ad9 st9 H locs hp hW hS => ?_)
        obtain ⟨ci9, ca9, cr9, z0, hp⟩ := hp
        cases z0
        obtain ⟨z1, z2, z3, h3⟩ := hp
        rw [z1, z2, z3] at hW
        rw [cset_34, cset_35] at h3
        refine lv_iconst (v := 1) hx hb dX1_answersAt_12 (by decide) ?_
        refine lv_icmp_eq (tgt := 32) hx hb dX1_answersAt_13 (by decide) (fun c4 => ?_) (fun c4 => ?_)
        · refine lv_iconst (v := 0) hx hb dX1_answersAt_32 (by decide) ?_
          exact g_iret2 C hQ hW hS ⟨_, _, _, rfl, (by rw [(show (askC mn (ci 30 i) (ci 31 i) 3 (ccr ci i)) = (0, s9) from hT.trans (askC_z (by omega) (by first | exact Or.inl (by omega) | exact Or.inr (by grind))))]), rfl, rfl, Or.inr ⟨by rw [(show (askC mn (ci 30 i) (ci 31 i) 3 (ccr ci i)) = (0, s9) from hT.trans (askC_z (by omega) (by first | exact Or.inl (by omega) | exact Or.inr (by grind))))], rfl⟩⟩ (by decide) (Nat.zero_le _) (Nat.zero_le _) dX1_answersAt_33
        · refine lv_aload_n hx hb dX1_answersAt_16 rfl (lv_at hl 0 rfl) ?_
          refine lv_iload_n hx hb dX1_answersAt_17 rfl (lv_at hl 1 rfl) ?_
          refine g_callVi (r := (30, i)) (T := TX1) (N := 7) (k2 := 1) (As := [.int mn]) (rest := []) C (c_X1_succeedsAt l X L ad st0 (cset ci i s9) ca cr i hr mn) tw_5_24 tw_5_26 tw_0_20 tw_1_8 tw_5_27 (by decide +kernel) ⟨by rw [hR1]; exact Nat.le_of_ble_eq_true rfl, by rw [hR2]; exact Nat.le_of_ble_eq_true rfl⟩ hW hS hr rfl rfl rfl hl.1 rfl (Nat.le_of_ble_eq_true rfl) dX1_answersAt_18 ⟨Nat.zero_le _, Nat.zero_le _⟩ (fun v9 L9 ad9 st9 H locs hp hW hS => ?_)
          obtain ⟨ci9, ca9, cr9, z0, hp⟩ := hp
          cases z0
          obtain ⟨z1, z2, z3, h5⟩ := hp
          rw [cset_30, cset_31, ccr_cset] at h5 z1
          rw [cset_cset] at z1
          rw [z1, z2, z3] at hW
          rcases h5 with ⟨h5, e9⟩ | ⟨h5, e9⟩
          · subst e9
            refine lv_if_eq (tgt := 26) hx hb dX1_answersAt_21 (by decide) (fun c9 => absurd c9 (by decide)) (fun _ => ?_)
            refine lv_iconst (v := 1) hx hb dX1_answersAt_24 (by decide) ?_
            exact g_iret2 C hQ hW hS ⟨_, _, _, rfl, (by rw [(show (askC mn (ci 30 i) (ci 31 i) 3 (ccr ci i)) = (1, (tryC mn (ci 30 i) (ci 31 i) s9).2) from hT.trans (by rw [show 3 - k = (3 - (k + 1)) + 1 by omega]; exact askC_b (by grind) (by grind)))]), rfl, rfl, Or.inl ⟨by rw [(show (askC mn (ci 30 i) (ci 31 i) 3 (ccr ci i)) = (1, (tryC mn (ci 30 i) (ci 31 i) s9).2) from hT.trans (by rw [show 3 - k = (3 - (k + 1)) + 1 by omega]; exact askC_b (by grind) (by grind)))], rfl⟩⟩ (by decide) (Nat.zero_le _) (Nat.zero_le _) dX1_answersAt_25
          · subst e9
            refine lv_if_eq (tgt := 26) hx hb dX1_answersAt_21 (by decide) (fun _ => ?_) (fun c9 => absurd (by decide) c9)
            refine lv_iinc (v := nI (k + 1)) (lv' := [(2, .int (nI (k + 1))), (0, .ref (ad (30, i))), (1, .int mn)]) hx hb dX1_answersAt_26 hl (k := 2) rfl (nI_1 k) (by decide) rfl (fun ls hl => ?_)
            refine lv_goto (tgt := 2) hx hb dX1_answersAt_29 (by decide) ?_
            exact ih (k + 1) ((tryC mn (ci 30 i) (ci 31 i) s9).2) (by omega) (by omega) (by rw [hT, show 3 - k = (3 - (k + 1)) + 1 by omega, askC_c (by grind) (by grind)]) _ _ hW hS _ (lv_sub hl [1, 2, 0] rfl)
  refine lv_iconst (v := 0) hx hb dX1_answersAt_0 (by decide) ?_
  refine lv_istore_n (lv' := [(2, .int 0), (0, .ref (ad (30, i))), (1, .int mn)]) hx hb dX1_answersAt_1 rfl hl (by decide) rfl (fun ls hl => ?_)
  rw [← cset_id (ci := ci) (i := i)] at hW
  exact loop _ 0 (ccr ci i) (Nat.lt_succ_self _) (by omega) rfl _ _ hW hS _ (lv_sub hl [1, 2, 0] rfl)

set_option maxHeartbeats 4000000 in
set_option maxRecDepth 100000 in
theorem c_X4_endOfPart (l : Launch) (X : GX) (L : List ro) (ad : ro → Nat) (st0 : ro → va_E) (ci : Nat → Nat → Int32) (ca : Nat → Nat → Nat → Int32) (cr : Nat → Nat → Nat) (mA2 : (2, 0) ∈ L) (mA3 : (3, 0) ∈ L) (n : Nat) (hn : ci 2 0 = nI n) (hn60 : n ≤ 60) (hch : ∀ j, ∃ q : Nat, q < 65536 ∧ ca 3 0 j = nI q) (a : Nat) (ha : a ≤ n) : cM l yX4_endOfPart cX4_endOfPart 3 (some .int) 1 21 X [.ref (ad (2, 0)), .int (nI a)] L ad st0 ci ca cr (fun v ci' ca' cr' => ci' = ci ∧ ca' = ca ∧ cr' = cr ∧ v = nI (rdE (ca 3 0) n a)) := by
  intro sz
  refine gM_of2 (Qc := fun A => va_Qi _ (gB X A) A) (by decide) (Nat.le_of_ble_eq_true rfl) ?_ sz
  intro p e s m args below meth c A R Q hR hQ C hW hS ls hl
  obtain ⟨hR1, hR2, hR3, hR4⟩ := hR
  have hx := C.1.1
  have hb := C.1.2.1
  have hml := C.1.2.2.1
  have hl : lv_has ls 3 [(0, .ref (ad (2, 0))), (1, .int (nI a))] := hl
  have loop : ∀ (f : Nat) (k : Nat), (n - k < f) → (k ≤ n) → (rdE (ca 3 0) n a = rdE (ca 3 0) n k) → ∀ (H : Heap) (locs : List Loc), gW X A L ad (cSt X ad st0 ci ca cr) s H → va_S A s.heap H locs → ∀ ls : Array Slot, lv_has ls 3 [(0, .ref (ad (2, 0))), (1, .int (nI a)), (2, .int (nI k))] → W p l e R s m args below meth c H locs 0 0 Q (F0 m 2 ls []) := by
    intro f
    induction f with
    | zero =>
      intro k hf9
      exact absurd hf9 (Nat.not_lt_zero _)
    | succ f ih =>
      intro k hf hk hE H locs hW hS ls hl
      refine lv_iload_n hx hb dX4_endOfPart_2 rfl (lv_at hl 2 rfl) ?_
      refine lv_aload_n hx hb dX4_endOfPart_3 rfl (lv_at hl 0 rfl) ?_
      refine g_get (r := (2, 0)) (Cn := RX4) (T := TX4) (N := 5) (ci := 7) (v := .int (ci 2 0)) C tinX4 hW mA2 rfl rfl 2 (by decide) tw_1_50 (fun _ h9 => h9) rfl dX4_endOfPart_4 ?_
      refine lv_topE (y := nI n) (by show ci 2 0 = nI n; exact hn) ?_
      refine lv_icmp_ge (tgt := 26) hx hb dX4_endOfPart_7 (by decide) (fun c1 => ?_) (fun c1 => ?_)
      · have c1n := q_le (a := n) (b := k) (by omega) (by omega) c1
        refine lv_iload_n hx hb dX4_endOfPart_26 rfl (lv_at hl 2 rfl) ?_
        exact g_iret2 C hQ hW hS ⟨_, _, _, rfl, rfl, rfl, rfl, by rw [hE, rdE_stop (by grind)]⟩ rfl (Nat.zero_le _) (Nat.zero_le _) dX4_endOfPart_27
      · have c1n := q_nle (a := n) (b := k) (by omega) (by omega) c1
        refine lv_aload_n hx hb dX4_endOfPart_10 rfl (lv_at hl 0 rfl) ?_
        refine lv_iload_n hx hb dX4_endOfPart_11 rfl (lv_at hl 2 rfl) ?_
        refine g_callVi (r := (2, 0)) (T := TX4) (N := 5) (k2 := 1) (As := [.int (nI k)]) (rest := []) C (c_X4_signAt l X L ad st0 ci ca cr mA2 mA3 k (by omega) n hn hn60 hch) tw_2_19 tw_2_21 tw_0_2 tw_1_2 tw_2_22 (by decide +kernel) ⟨by rw [hR1]; exact Nat.le_of_ble_eq_true rfl, by rw [hR2]; exact Nat.le_of_ble_eq_true rfl⟩ hW hS mA2 rfl rfl rfl hl.1 rfl (Nat.le_of_ble_eq_true rfl) dX4_endOfPart_12 ⟨Nat.zero_le _, Nat.zero_le _⟩ (fun x2 L9 ad9 st9 H locs hp hW hS => ?_)
        obtain ⟨ci9, ca9, cr9, z0, hp⟩ := hp
        cases z0
        obtain ⟨z1, z2, z3, h3⟩ := hp
        rw [z1, z2, z3] at hW
        refine lv_bipush (v := 59) hx hb dX4_endOfPart_15 (by decide) ?_
        refine lv_icmp_eq (tgt := 26) hx hb dX4_endOfPart_17 (by decide) (fun c4 => ?_) (fun c4 => ?_)
        · refine lv_iload_n hx hb dX4_endOfPart_26 rfl (lv_at hl 2 rfl) ?_
          exact g_iret2 C hQ hW hS ⟨_, _, _, rfl, rfl, rfl, rfl, by rw [hE, rdE_stop (by grind)]⟩ rfl (Nat.zero_le _) (Nat.zero_le _) dX4_endOfPart_27
        · refine lv_iinc (v := nI (k + 1)) (lv' := [(2, .int (nI (k + 1))), (0, .ref (ad (2, 0))), (1, .int (nI a))]) hx hb dX4_endOfPart_20 hl (k := 2) rfl (nI_1 k) (by decide) rfl (fun ls hl => ?_)
          refine lv_goto (tgt := 2) hx hb dX4_endOfPart_23 (by decide) ?_
          exact ih (k + 1) (by omega) (by omega) (hE.trans (rdE_go (by omega) (by grind))) _ _ hW hS _ (lv_sub hl [1, 2, 0] rfl)
  refine lv_iload_n hx hb dX4_endOfPart_0 rfl (lv_at hl 1 rfl) ?_
  refine lv_istore_n (lv' := [(2, .int (nI a)), (0, .ref (ad (2, 0))), (1, .int (nI a))]) hx hb dX4_endOfPart_1 rfl hl (by decide) rfl (fun ls hl => ?_)
  exact loop _ a (Nat.lt_succ_self _) ha rfl _ _ hW hS _ (lv_sub hl [1, 2, 0] rfl)

set_option maxHeartbeats 4000000 in
set_option maxRecDepth 100000 in
theorem c_X4_readDigit (l : Launch) (X : GX) (L : List ro) (ad : ro → Nat) (st0 : ro → va_E) (ci : Nat → Nat → Int32) (ca : Nat → Nat → Nat → Int32) (cr : Nat → Nat → Nat) (mA2 : (2, 0) ∈ L) (mA3 : (3, 0) ∈ L) (n : Nat) (hn : ci 2 0 = nI n) (hn60 : n ≤ 60) (hch : ∀ j, ∃ q : Nat, q < 65536 ∧ ca 3 0 j = nI q) (a b : Nat) (hab : a ≤ b) (hbn : b ≤ n) (mo : Int32) : cM l yX4_readDigit cX4_readDigit 6 (some .int) 1 21 X [.ref (ad (2, 0)), .int (nI a), .int (nI b), .int mo] L ad st0 ci ca cr (fun v ci' ca' cr' => ci' = ci ∧ ca' = ca ∧ cr' = cr ∧ v = rdgC (ca 3 0) a b mo) := by
  intro sz
  refine gM_of2 (Qc := fun A => va_Qi _ (gB X A) A) (by decide) (Nat.le_of_ble_eq_true rfl) ?_ sz
  intro p e s m args below meth c A R Q hR hQ C hW hS ls hl
  obtain ⟨hR1, hR2, hR3, hR4⟩ := hR
  have hx := C.1.1
  have hb := C.1.2.1
  have hml := C.1.2.2.1
  have hl : lv_has ls 6 [(0, .ref (ad (2, 0))), (1, .int (nI a)), (2, .int (nI b)), (3, .int mo)] := hl
  refine lv_aload_n hx hb dX4_readDigit_0 rfl (lv_at hl 0 rfl) ?_
  refine lv_iload_n hx hb dX4_readDigit_1 rfl (lv_at hl 1 rfl) ?_
  refine g_callVi (r := (2, 0)) (T := TX4) (N := 5) (k2 := 1) (As := [.int (nI a)]) (rest := []) C (c_X4_signAt l X L ad st0 ci ca cr mA2 mA3 a (by omega) n hn hn60 hch) tw_2_19 tw_2_21 tw_0_2 tw_1_2 tw_2_22 (by decide +kernel) ⟨by rw [hR1]; exact Nat.le_of_ble_eq_true rfl, by rw [hR2]; exact Nat.le_of_ble_eq_true rfl⟩ hW hS mA2 rfl rfl rfl hl.1 rfl (Nat.le_of_ble_eq_true rfl) dX4_readDigit_2 ⟨Nat.zero_le _, Nat.zero_le _⟩ (fun x1 L9 ad9 st9 H locs hp hW hS => ?_)
  obtain ⟨ci9, ca9, cr9, z0, hp⟩ := hp
  cases z0
  obtain ⟨z1, z2, z3, h2⟩ := hp
  rw [z1, z2, z3] at hW
  refine lv_istore (lv' := [(4, .int x1), (0, .ref (ad (2, 0))), (1, .int (nI a)), (2, .int (nI b)), (3, .int mo)]) hx hb dX4_readDigit_5 hl (by decide) rfl (fun ls hl => ?_)
  refine lv_iload_n hx hb dX4_readDigit_7 rfl (lv_at hl 3 rfl) ?_
  refine lv_iload_n hx hb dX4_readDigit_8 rfl (lv_at hl 2 rfl) ?_
  refine lv_isub hx hb dX4_readDigit_9 ?_
  refine lv_topE (y := nI (b - a)) (pk_sub (by omega)) ?_
  refine lv_iconst (v := 1) hx hb dX4_readDigit_10 (by decide) ?_
  refine lv_icmp_ne (tgt := 22) hx hb dX4_readDigit_11 (by decide) (fun c3 => ?_) (fun c3 => ?_)
  · have c3n := q_ne (a := (b - a)) (b := 1) (by omega) (by omega) c3
    refine lv_iconst (v := (-1)) hx hb dX4_readDigit_22 (by decide) ?_
    exact g_iret2 C hQ hW hS ⟨_, _, _, rfl, rfl, rfl, rfl, by unfold rdgC; grind⟩ rfl (Nat.zero_le _) (Nat.zero_le _) dX4_readDigit_23
  · have c3n := q_eq (a := (b - a)) (b := 1) (by omega) (by omega) c3
    refine lv_iload hx hb dX4_readDigit_14 (lv_at hl 0 rfl) ?_
    refine g_callSp (k2 := 1) (As := [.int x1]) (rest := []) C (c_X4_isDigit l X L ad _ x1) tw_2_152 tw_2_153 tw_1_2 tw_2_154 (by decide +kernel) ⟨by rw [hR1]; exact Nat.le_of_ble_eq_true rfl, by rw [hR2]; exact Nat.le_of_ble_eq_true rfl⟩ hW hS rfl hl.1 rfl (Nat.le_of_ble_eq_true rfl) dX4_readDigit_16 ⟨Nat.zero_le _, Nat.zero_le _⟩ (fun v9 H locs hp hW hS => ?_)
    have h4 := hp
    rcases h4 with ⟨h4, e9⟩ | ⟨h4, e9⟩
    · subst e9
      refine lv_if_ne (tgt := 24) hx hb dX4_readDigit_19 (by decide) (fun _ => ?_) (fun c9 => absurd c9 (by decide))
      refine lv_iload hx hb dX4_readDigit_24 (lv_at hl 0 rfl) ?_
      refine lv_bipush (v := 48) hx hb dX4_readDigit_26 (by decide) ?_
      refine lv_isub hx hb dX4_readDigit_28 ?_
      refine lv_topi (fun x5 ex5 => ?_)
      refine lv_istore (lv' := [(5, .int x5), (4, .int x1), (0, .ref (ad (2, 0))), (1, .int (nI a)), (2, .int (nI b)), (3, .int mo)]) hx hb dX4_readDigit_29 hl (by decide) rfl (fun ls hl => ?_)
      refine lv_iload hx hb dX4_readDigit_31 (lv_at hl 0 rfl) ?_
      refine lv_iload_n hx hb dX4_readDigit_33 rfl (lv_at hl 5 rfl) ?_
      refine lv_icmp_gt (tgt := 42) hx hb dX4_readDigit_34 (by decide) (fun c6 => ?_) (fun c6 => ?_)
      · refine lv_iconst (v := (-1)) hx hb dX4_readDigit_42 (by decide) ?_
        exact g_iret2 C hQ hW hS ⟨_, _, _, rfl, rfl, rfl, rfl, by unfold rdgC; grind⟩ rfl (Nat.zero_le _) (Nat.zero_le _) dX4_readDigit_43
      · refine lv_iload hx hb dX4_readDigit_37 (lv_at hl 0 rfl) ?_
        refine lv_goto (tgt := 43) hx hb dX4_readDigit_39 (by decide) ?_
        exact g_iret2 C hQ hW hS ⟨_, _, _, rfl, rfl, rfl, rfl, by unfold rdgC; grind⟩ rfl (Nat.zero_le _) (Nat.zero_le _) dX4_readDigit_43
    · subst e9
      refine lv_if_ne (tgt := 24) hx hb dX4_readDigit_19 (by decide) (fun c9 => absurd c9 (by decide)) (fun _ => ?_)
      refine lv_iconst (v := (-1)) hx hb dX4_readDigit_22 (by decide) ?_
      exact g_iret2 C hQ hW hS ⟨_, _, _, rfl, rfl, rfl, rfl, by unfold rdgC; grind⟩ rfl (Nat.zero_le _) (Nat.zero_le _) dX4_readDigit_23

set_option maxHeartbeats 4000000 in
set_option maxRecDepth 100000 in
theorem c_X4_readExpress (l : Launch) (X : GX) (L : List ro) (ad : ro → Nat) (st0 : ro → va_E) (ci : Nat → Nat → Int32) (ca : Nat → Nat → Nat → Int32) (cr : Nat → Nat → Nat) (mA2 : (2, 0) ∈ L) (mA3 : (3, 0) ∈ L) (n : Nat) (hn : ci 2 0 = nI n) (hn60 : n ≤ 60) (hch : ∀ j, ∃ q : Nat, q < 65536 ∧ ca 3 0 j = nI q) (a b : Nat) (hab : a ≤ b) (hbn : b ≤ n) : cM l yX4_readExpress cX4_readExpress 4 (some .int) 1 21 X [.ref (ad (2, 0)), .int (nI a), .int (nI b)] L ad st0 ci ca cr (fun v ci' ca' cr' => ci' = ci ∧ ca' = ca ∧ cr' = cr ∧ v = rdxC (ca 3 0) a b) := by
  intro sz
  refine gM_of2 (Qc := fun A => va_Qi _ (gB X A) A) (by decide) (Nat.le_of_ble_eq_true rfl) ?_ sz
  intro p e s m args below meth c A R Q hR hQ C hW hS ls hl
  obtain ⟨hR1, hR2, hR3, hR4⟩ := hR
  have hx := C.1.1
  have hb := C.1.2.1
  have hml := C.1.2.2.1
  have hl : lv_has ls 4 [(0, .ref (ad (2, 0))), (1, .int (nI a)), (2, .int (nI b))] := hl
  refine lv_aload_n hx hb dX4_readExpress_0 rfl (lv_at hl 0 rfl) ?_
  refine lv_iload_n hx hb dX4_readExpress_1 rfl (lv_at hl 1 rfl) ?_
  refine g_callVi (r := (2, 0)) (T := TX4) (N := 5) (k2 := 1) (As := [.int (nI a)]) (rest := []) C (c_X4_signAt l X L ad st0 ci ca cr mA2 mA3 a (by omega) n hn hn60 hch) tw_2_19 tw_2_21 tw_0_2 tw_1_2 tw_2_22 (by decide +kernel) ⟨by rw [hR1]; exact Nat.le_of_ble_eq_true rfl, by rw [hR2]; exact Nat.le_of_ble_eq_true rfl⟩ hW hS mA2 rfl rfl rfl hl.1 rfl (Nat.le_of_ble_eq_true rfl) dX4_readExpress_2 ⟨Nat.zero_le _, Nat.zero_le _⟩ (fun x1 L9 ad9 st9 H locs hp hW hS => ?_)
  obtain ⟨ci9, ca9, cr9, z0, hp⟩ := hp
  cases z0
  obtain ⟨z1, z2, z3, h2⟩ := hp
  rw [z1, z2, z3] at hW
  refine lv_istore_n (lv' := [(3, .int x1), (0, .ref (ad (2, 0))), (1, .int (nI a)), (2, .int (nI b))]) hx hb dX4_readExpress_5 rfl hl (by decide) rfl (fun ls hl => ?_)
  refine lv_iload_n hx hb dX4_readExpress_6 rfl (lv_at hl 3 rfl) ?_
  refine lv_iload_n hx hb dX4_readExpress_7 rfl (lv_at hl 2 rfl) ?_
  refine lv_isub hx hb dX4_readExpress_8 ?_
  refine lv_topE (y := nI (b - a)) (pk_sub (by omega)) ?_
  refine lv_iconst (v := 1) hx hb dX4_readExpress_9 (by decide) ?_
  refine lv_icmp_ne (tgt := 25) hx hb dX4_readExpress_10 (by decide) (fun c3 => ?_) (fun c3 => ?_)
  · have c3n := q_ne (a := (b - a)) (b := 1) (by omega) (by omega) c3
    refine lv_iconst (v := (-1)) hx hb dX4_readExpress_25 (by decide) ?_
    exact g_iret2 C hQ hW hS ⟨_, _, _, rfl, rfl, rfl, rfl, by unfold rdxC; grind⟩ rfl (Nat.zero_le _) (Nat.zero_le _) dX4_readExpress_26
  · have c3n := q_eq (a := (b - a)) (b := 1) (by omega) (by omega) c3
    refine lv_iload_n hx hb dX4_readExpress_13 rfl (lv_at hl 0 rfl) ?_
    refine lv_bipush (v := 89) hx hb dX4_readExpress_14 (by decide) ?_
    refine lv_icmp_eq (tgt := 27) hx hb dX4_readExpress_16 (by decide) (fun c4 => ?_) (fun c4 => ?_)
    · refine lv_iload_n hx hb dX4_readExpress_27 rfl (lv_at hl 0 rfl) ?_
      refine lv_bipush (v := 89) hx hb dX4_readExpress_28 (by decide) ?_
      refine lv_icmp_ne (tgt := 37) hx hb dX4_readExpress_30 (by decide) (fun c5 => ?_) (fun c5 => ?_)
      · refine lv_iconst (v := 0) hx hb dX4_readExpress_37 (by decide) ?_
        exact g_iret2 C hQ hW hS ⟨_, _, _, rfl, rfl, rfl, rfl, by unfold rdxC; grind⟩ rfl (Nat.zero_le _) (Nat.zero_le _) dX4_readExpress_38
      · refine lv_iconst (v := 1) hx hb dX4_readExpress_33 (by decide) ?_
        refine lv_goto (tgt := 38) hx hb dX4_readExpress_34 (by decide) ?_
        exact g_iret2 C hQ hW hS ⟨_, _, _, rfl, rfl, rfl, rfl, by unfold rdxC; grind⟩ rfl (Nat.zero_le _) (Nat.zero_le _) dX4_readExpress_38
    · refine lv_iload_n hx hb dX4_readExpress_19 rfl (lv_at hl 0 rfl) ?_
      refine lv_bipush (v := 78) hx hb dX4_readExpress_20 (by decide) ?_
      refine lv_icmp_eq (tgt := 27) hx hb dX4_readExpress_22 (by decide) (fun c6 => ?_) (fun c6 => ?_)
      · refine lv_iload_n hx hb dX4_readExpress_27 rfl (lv_at hl 0 rfl) ?_
        refine lv_bipush (v := 89) hx hb dX4_readExpress_28 (by decide) ?_
        refine lv_icmp_ne (tgt := 37) hx hb dX4_readExpress_30 (by decide) (fun c7 => ?_) (fun c7 => ?_)
        · refine lv_iconst (v := 0) hx hb dX4_readExpress_37 (by decide) ?_
          exact g_iret2 C hQ hW hS ⟨_, _, _, rfl, rfl, rfl, rfl, by unfold rdxC; grind⟩ rfl (Nat.zero_le _) (Nat.zero_le _) dX4_readExpress_38
        · refine lv_iconst (v := 1) hx hb dX4_readExpress_33 (by decide) ?_
          refine lv_goto (tgt := 38) hx hb dX4_readExpress_34 (by decide) ?_
          exact g_iret2 C hQ hW hS ⟨_, _, _, rfl, rfl, rfl, rfl, by unfold rdxC; grind⟩ rfl (Nat.zero_le _) (Nat.zero_le _) dX4_readExpress_38
      · refine lv_iconst (v := (-1)) hx hb dX4_readExpress_25 (by decide) ?_
        exact g_iret2 C hQ hW hS ⟨_, _, _, rfl, rfl, rfl, rfl, by unfold rdxC; grind⟩ rfl (Nat.zero_le _) (Nat.zero_le _) dX4_readExpress_26

