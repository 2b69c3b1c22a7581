theorem ur2_same {c : Nat → Nat → Nat} {a b v w : Nat} : ur2 (ur2 c a b v) a b w = ur2 c a b w := by
  funext x y
  simp only [ur2]
  grind
theorem rd_go_end {t : Nat → Int32} {n k a : Nat} {vs : Nat → Int32} (h : n < k ∨ n < a) : rd_go t n (n + 1 - k) k a vs = (0, 0, vs) := by
  cases hf : n + 1 - k with
  | zero => rfl
  | succ f => rw [rd_go, if_pos (by omega)]
/-- one part more -/
theorem rd_go_step {t : Nat → Int32} {n k a e : Nat} {vs vals : Nat → Int32} (he : e = rdE t n a) (hk : k ≤ n ∧ a ≤ n) (hag : ∀ j, j < 6 → vals j = vs j) :
    (rdK t a e = -1 → rd_go t n (n + 1 - k) k a vs = (1, nI k, vs)) ∧
    (¬ rdK t a e = -1 → ¬ vals (rdK t a e).toNatClampNeg = -1 → rd_go t n (n + 1 - k) k a vs = (2, rdK t a e, vs)) ∧
    (¬ rdK t a e = -1 → vals (rdK t a e).toNatClampNeg = -1 → rdvC t (rdK t a e).toNatClampNeg (a + 2) e = -1 → rd_go t n (n + 1 - k) k a vs = (3, rdK t a e, upd vs (rdK t a e).toNatClampNeg (-1))) ∧
    (¬ rdK t a e = -1 → vals (rdK t a e).toNatClampNeg = -1 → ¬ rdvC t (rdK t a e).toNatClampNeg (a + 2) e = -1 → rd_go t n (n + 1 - k) k a vs = rd_go t n (n + 1 - (k + 1)) (k + 1) (e + 1) (upd vs (rdK t a e).toNatClampNeg (rdvC t (rdK t a e).toNatClampNeg (a + 2) e))) := by
  rw [show n + 1 - k = (n + 1 - (k + 1)) + 1 by omega, rd_go, if_neg (by omega), ← he]
  rcases rdK_cs (t := t) (a := a) (b := e) with hK | ⟨-, kk, hkk, hK⟩
  · exact ⟨fun h => if_pos h, fun h => absurd hK h, fun h => absurd hK h, fun h => absurd hK h⟩
  · have hc : (rdK t a e).toNatClampNeg = kk := by rw [hK]; exact nI_clamp (by omega)
    rw [hc, hag kk hkk, rdvV hkk, hK]
    refine ⟨fun h => absurd h (nI_nm hkk), fun h h2 => ?_, fun h h2 h3 => ?_, fun h h2 h3 => ?_⟩
    · rw [if_neg h, if_pos h2]
    · rw [if_neg h, if_neg (fun q => q h2), if_pos h3]
    · rw [if_neg h, if_neg (fun q => q h2), if_neg h3]
def fch (w : Nat) (x : Int32) : Int32 := if w = 1 then 48 + x else keyc x.toNatClampNeg
/-- what a reading has left: kind and key of the fault, the values -/
def rdT (t : Nat → Int32) (n : Nat) (fk : Int32) (vals : Nat → Int32) (w : Nat) : Prop := w < 5 ∧ (rdR t n).1 = nI w ∧ (∀ j, j < 6 → vals j = (rdR t n).2.2 j) ∧ (¬ w = 0 → fk = fch w (rdR t n).2.1)
theorem ag_upd {f g : Nat → Int32} {i : Nat} {x : Int32} (h : ∀ j, j < 6 → f j = g j) : ∀ j, j < 6 → upd f i x j = upd g i x j := by
  intro j hj
  simp only [upd]
  split
  · rfl
  · exact h j hj
theorem fil6_ag {f : Nat → Int32} : ∀ j, j < 6 → fil6 f (-1) j = (fun _ => (-1 : Int32)) j := by
  intro j hj
  rcases (show j = 0 ∨ j = 1 ∨ j = 2 ∨ j = 3 ∨ j = 4 ∨ j = 5 by omega) with e | e | e | e | e | e <;> subst e <;> simp [fil6, upd]
theorem mis_ag {f g : Nat → Int32} (h : ∀ j, j < 6 → f j = g j) : rd_mis f = rd_mis g := by
  unfold rd_mis
  rw [h 0 (by omega), h 1 (by omega), h 2 (by omega), h 3 (by omega), h 4 (by omega)]
theorem rdT_a {t : Nat → Int32} {n : Nat} {fk : Int32} {vals vs : Nat → Int32} (hg : rd_go t n (n + 1) 0 0 (fun _ => -1) = (0, 0, vs)) (ha : ∀ j, j < 6 → vals j = vs j) (hm : (rd_mis vals).1 = 0) : rdT t n fk vals 0 := by
  have e : rdR t n = ((rd_mis vs).1, (rd_mis vs).2, vs) := by rw [rdR_b (by rw [hg]), hg]
  refine ⟨by omega, ?_, ?_, fun h => absurd rfl h⟩
  · rw [e, ← mis_ag ha]; exact hm
  · rw [e]; exact ha
theorem rdT_b {t : Nat → Int32} {n : Nat} {vals vs : Nat → Int32} (hg : rd_go t n (n + 1) 0 0 (fun _ => -1) = (0, 0, vs)) (ha : ∀ j, j < 6 → vals j = vs j) (hm : (rd_mis vals).1 = 4) : rdT t n (keyc (rd_mis vals).2.toNatClampNeg) vals 4 := by
  have e : rdR t n = ((rd_mis vs).1, (rd_mis vs).2, vs) := by rw [rdR_b (by rw [hg]), hg]
  refine ⟨by omega, ?_, ?_, fun _ => ?_⟩
  · rw [e, ← mis_ag ha]; exact hm
  · rw [e]; exact ha
  · rw [e, ← mis_ag ha]; rfl
theorem rdT_c {t : Nat → Int32} {n w : Nat} {fk at9 : Int32} {vals vs : Nat → Int32} (hw : w < 4 ∧ ¬ nI w = 0) (hg : rd_go t n (n + 1) 0 0 (fun _ => -1) = (nI w, at9, vs)) (ha : ∀ j, j < 6 → vals j = vs j) (hf : fk = fch w at9) : rdT t n fk vals w := by
  have e : rdR t n = (nI w, at9, vs) := by rw [rdR_a (by rw [hg]; exact hw.2), hg]
  refine ⟨by omega, ?_, ?_, fun _ => ?_⟩
  · rw [e]
  · rw [e]; exact ha
  · rw [e]; exact hf
set_option maxHeartbeats 4000000 in
set_option maxRecDepth 100000 in
theorem c_X4_readText (l : Launch) (X : GX) (L : List ro) (ad : ro → Nat) (st0 : ro → va_E) (ci : Nat → Nat → Int32) (ca : Nat → Nat → Nat → Int32) (cr : Nat → Nat → Nat) (mA4 : (4, 0) ∈ L) (mA2 : (2, 0) ∈ L) (mA3 : (3, 0) ∈ L) (n : Nat) (hn : ci 2 0 = nI n) (hn60 : n ≤ 60) (hch : ∀ j, ∃ q : Nat, q < 65536 ∧ ca 3 0 j = nI q) : cMv l yX4_readText cX4_readText 4 none 6 137 X [.ref (ad (2, 0))] L ad st0 ci ca cr (fun ci' ca' cr' => ∃ fk vals w, ci' = up2 ci 3 0 fk ∧ ca' = ua2 ca 4 0 vals ∧ cr' = ur2 cr 2 0 w ∧ rdT (ca 3 0) n fk vals w) := by
  intro sz
  refine gM_of2 (Qc := fun A => va_Qv _ (gB X A) A) (by decide) (Nat.le_of_ble_eq_true rfl) ?_ sz
  intro p e s m args below meth c A R Q hR hQ C hW hS ls hl
  obtain ⟨hR1, hR2, hR3, hR4⟩ := hR
  have hx := C.1.1
  have hb := C.1.2.1
  have hml := C.1.2.2.1
  have hl : lv_has ls 4 [(0, .ref (ad (2, 0)))] := hl
  have loop : ∀ (f : Nat) (k : Nat) (a : Nat) (fk : Int32) (vals : Nat → Int32) (w : Nat) (at9 : Int32) (vs : Nat → Int32), (n + 1 - a < f) → (k ≤ a ∧ a ≤ n + 1) → ((w = 0 ∧ rd_go (ca 3 0) n (n + 1) 0 0 (fun _ => -1) = rd_go (ca 3 0) n (n + 1 - k) k a vs ∧ (∀ j, j < 6 → vals j = vs j)) ∨ ((w = 1 ∨ w = 2 ∨ w = 3) ∧ rd_go (ca 3 0) n (n + 1) 0 0 (fun _ => -1) = (nI w, at9, vs) ∧ (∀ j, j < 6 → vals j = vs j) ∧ fk = fch w at9)) → ∀ (H : Heap) (locs : List Loc), gW X A L ad (cSt X ad st0 (up2 ci 3 0 fk) (ua2 ca 4 0 vals) (ur2 cr 2 0 w)) s H → va_S A s.heap H locs → ∀ ls : Array Slot, lv_has ls 4 [(0, .ref (ad (2, 0))), (1, .int (nI a)), (2, .int (nI k))] → W p l e R s m args below meth c H locs 0 0 Q (F0 m 18 ls []) := by
    intro f
    induction f with
    | zero =>
      intro k a fk vals w at9 vs hf9
      exact absurd hf9 (Nat.not_lt_zero _)
    | succ f ih =>
      intro k a fk vals w at9 vs hf hka hI H locs hW hS ls hl
      rcases hI with ⟨hw, hG, hag⟩ | ⟨hw | hw | hw, hG, hag, hfk⟩
      · subst hw
        refine lv_iload_n hx hb dX4_readText_18 rfl (lv_at hl 2 rfl) ?_
        refine lv_aload_n hx hb dX4_readText_19 rfl (lv_at hl 0 rfl) ?_
        refine g_get (r := (2, 0)) (Cn := RX4) (T := TX4) (N := 5) (ci := 7) (v := .int ((up2 ci 3 0 fk) 2 0)) C tinX4 hW mA2 rfl rfl 2 (by decide) tw_1_50 (fun _ h9 => h9) rfl dX4_readText_20 ?_
        refine lv_topE (y := nI n) (by show (up2 ci 3 0 fk) 2 0 = nI n; exact hn) ?_
        refine lv_icmp_gt (tgt := 67) hx hb dX4_readText_23 (by decide) (fun c1 => ?_) (fun c1 => ?_)
        · have c1n := q_lt (a := n) (b := k) (by omega) (by omega) c1
          refine lv_aload_n hx hb dX4_readText_67 rfl (lv_at hl 0 rfl) ?_
          refine g_get (r := (2, 0)) (Cn := RX4) (T := TX4) (N := 5) (ci := 7) (v := .ref (X.2.2 ((ur2 cr 2 0 0) 2 0))) C tinX4 hW mA2 rfl rfl 3 (by decide) tw_1_51 (fun _ h9 => h9) rfl dX4_readText_68 ?_
          refine g_callTi (k := ((ur2 cr 2 0 0) 2 0)) (k2 := 0) (As := []) (rest := []) (show ((ur2 cr 2 0 0) 2 0) < 6 by rw [show ((ur2 cr 2 0 0) 2 0) = 0 from ur2_at]; decide) C (c_J0_isEmpty_aae02 l X L ad _ ((ur2 cr 2 0 0) 2 0) (show ((ur2 cr 2 0 0) 2 0) < 6 by rw [show ((ur2 cr 2 0 0) 2 0) = 0 from ur2_at]; decide)) tw_2_11 tw_2_12 tw_2_13 tw_1_17 tw_2_14 (by decide +kernel) ⟨by rw [hR1]; exact Nat.le_of_ble_eq_true rfl, by rw [hR2]; exact Nat.le_of_ble_eq_true rfl⟩ hW hS rfl hl.1 rfl (Nat.le_of_ble_eq_true rfl) dX4_readText_71 ⟨Nat.zero_le _, Nat.zero_le _⟩ (fun x2 H locs hp hW hS => ?_)
          rw [show ((ur2 cr 2 0 0) 2 0) = 0 from ur2_at] at hp
          obtain rfl : x2 = 1 := by rcases hp with ⟨a9, b9⟩ | ⟨a9, b9⟩ <;> first | exact b9 | exact absurd a9 (by decide) | exact absurd (by decide) a9
          refine lv_if_eq (tgt := 81) hx hb dX4_readText_74 (by decide) (fun c9 => absurd c9 (by decide)) (fun _ => ?_)
          refine lv_aload_n hx hb dX4_readText_77 rfl (lv_at hl 0 rfl) ?_
          refine g_callVv (r := (2, 0)) (T := TX4) (N := 5) (k2 := 0) (As := []) (rest := []) C (c_X4_findMissingKey l X L ad st0 (up2 ci 3 0 fk) (ua2 ca 4 0 vals) (ur2 cr 2 0 0) mA2 mA4 ur2_at) tw_2_167 tw_2_169 tw_0_10 tw_1_2 tw_2_170 (by decide +kernel) ⟨by rw [hR1]; exact Nat.le_of_ble_eq_true rfl, by rw [hR2]; exact Nat.le_of_ble_eq_true rfl⟩ hW hS mA2 rfl rfl rfl hl.1 rfl (Nat.le_of_ble_eq_true rfl) dX4_readText_78 ⟨Nat.zero_le _, Nat.zero_le _⟩ (fun L9 ad9 st9 H locs hp hW hS => ?_)
          obtain ⟨ci9, ca9, cr9, z0, hp⟩ := hp
          cases z0
          have hgo := hG.trans (rd_go_end (vs := vs) (by omega))
          obtain ⟨z2, hp⟩ := hp
          rcases hp with ⟨q1, z1, z3⟩ | ⟨q1, z1, z3⟩
          · rw [z1, z2, z3] at hW
            exact g_vret2 C hQ hW hS ⟨_, _, _, rfl, _, vals, 0, rfl, rfl, rfl, rdT_a hgo hag q1⟩ (Nat.zero_le _) (Nat.zero_le _) dX4_readText_81
          · rw [z1, z2, z3, up2_same, ur2_same] at hW
            exact g_vret2 C hQ hW hS ⟨_, _, _, rfl, _, vals, 4, rfl, rfl, rfl, rdT_b hgo hag q1⟩ (Nat.zero_le _) (Nat.zero_le _) dX4_readText_81
        · have c1n := q_nlt (a := n) (b := k) (by omega) (by omega) c1
          refine lv_iload_n hx hb dX4_readText_26 rfl (lv_at hl 1 rfl) ?_
          refine lv_aload_n hx hb dX4_readText_27 rfl (lv_at hl 0 rfl) ?_
          refine g_get (r := (2, 0)) (Cn := RX4) (T := TX4) (N := 5) (ci := 7) (v := .int ((up2 ci 3 0 fk) 2 0)) C tinX4 hW mA2 rfl rfl 2 (by decide) tw_1_50 (fun _ h9 => h9) rfl dX4_readText_28 ?_
          refine lv_topE (y := nI n) (by show (up2 ci 3 0 fk) 2 0 = nI n; exact hn) ?_
          refine lv_icmp_gt (tgt := 67) hx hb dX4_readText_31 (by decide) (fun c3 => ?_) (fun c3 => ?_)
          · have c3n := q_lt (a := n) (b := a) (by omega) (by omega) c3
            refine lv_aload_n hx hb dX4_readText_67 rfl (lv_at hl 0 rfl) ?_
            refine g_get (r := (2, 0)) (Cn := RX4) (T := TX4) (N := 5) (ci := 7) (v := .ref (X.2.2 ((ur2 cr 2 0 0) 2 0))) C tinX4 hW mA2 rfl rfl 3 (by decide) tw_1_51 (fun _ h9 => h9) rfl dX4_readText_68 ?_
            refine g_callTi (k := ((ur2 cr 2 0 0) 2 0)) (k2 := 0) (As := []) (rest := []) (show ((ur2 cr 2 0 0) 2 0) < 6 by rw [show ((ur2 cr 2 0 0) 2 0) = 0 from ur2_at]; decide) C (c_J0_isEmpty_aae02 l X L ad _ ((ur2 cr 2 0 0) 2 0) (show ((ur2 cr 2 0 0) 2 0) < 6 by rw [show ((ur2 cr 2 0 0) 2 0) = 0 from ur2_at]; decide)) tw_2_11 tw_2_12 tw_2_13 tw_1_17 tw_2_14 (by decide +kernel) ⟨by rw [hR1]; exact Nat.le_of_ble_eq_true rfl, by rw [hR2]; exact Nat.le_of_ble_eq_true rfl⟩ hW hS rfl hl.1 rfl (Nat.le_of_ble_eq_true rfl) dX4_readText_71 ⟨Nat.zero_le _, Nat.zero_le _⟩ (fun x4 H locs hp hW hS => ?_)
            rw [show ((ur2 cr 2 0 0) 2 0) = 0 from ur2_at] at hp
            obtain rfl : x4 = 1 := by rcases hp with ⟨a9, b9⟩ | ⟨a9, b9⟩ <;> first | exact b9 | exact absurd a9 (by decide) | exact absurd (by decide) a9
            refine lv_if_eq (tgt := 81) hx hb dX4_readText_74 (by decide) (fun c9 => absurd c9 (by decide)) (fun _ => ?_)
            refine lv_aload_n hx hb dX4_readText_77 rfl (lv_at hl 0 rfl) ?_
            refine g_callVv (r := (2, 0)) (T := TX4) (N := 5) (k2 := 0) (As := []) (rest := []) C (c_X4_findMissingKey l X L ad st0 (up2 ci 3 0 fk) (ua2 ca 4 0 vals) (ur2 cr 2 0 0) mA2 mA4 ur2_at) tw_2_167 tw_2_169 tw_0_10 tw_1_2 tw_2_170 (by decide +kernel) ⟨by rw [hR1]; exact Nat.le_of_ble_eq_true rfl, by rw [hR2]; exact Nat.le_of_ble_eq_true rfl⟩ hW hS mA2 rfl rfl rfl hl.1 rfl (Nat.le_of_ble_eq_true rfl) dX4_readText_78 ⟨Nat.zero_le _, Nat.zero_le _⟩ (fun L9 ad9 st9 H locs hp hW hS => ?_)
            obtain ⟨ci9, ca9, cr9, z0, hp⟩ := hp
            cases z0
            have hgo := hG.trans (rd_go_end (vs := vs) (by omega))
            obtain ⟨z2, hp⟩ := hp
            rcases hp with ⟨q1, z1, z3⟩ | ⟨q1, z1, z3⟩
            · rw [z1, z2, z3] at hW
              exact g_vret2 C hQ hW hS ⟨_, _, _, rfl, _, vals, 0, rfl, rfl, rfl, rdT_a hgo hag q1⟩ (Nat.zero_le _) (Nat.zero_le _) dX4_readText_81
            · rw [z1, z2, z3, up2_same, ur2_same] at hW
              exact g_vret2 C hQ hW hS ⟨_, _, _, rfl, _, vals, 4, rfl, rfl, rfl, rdT_b hgo hag q1⟩ (Nat.zero_le _) (Nat.zero_le _) dX4_readText_81
          · have c3n := q_nlt (a := n) (b := a) (by omega) (by omega) c3
            refine lv_aload_n hx hb dX4_readText_34 rfl (lv_at hl 0 rfl) ?_
            refine g_get (r := (2, 0)) (Cn := RX4) (T := TX4) (N := 5) (ci := 7) (v := .ref (X.2.2 ((ur2 cr 2 0 0) 2 0))) C tinX4 hW mA2 rfl rfl 3 (by decide) tw_1_51 (fun _ h9 => h9) rfl dX4_readText_35 ?_
            refine g_callTi (k := ((ur2 cr 2 0 0) 2 0)) (k2 := 0) (As := []) (rest := []) (show ((ur2 cr 2 0 0) 2 0) < 6 by rw [show ((ur2 cr 2 0 0) 2 0) = 0 from ur2_at]; decide) C (c_J0_isEmpty_aae02 l X L ad _ ((ur2 cr 2 0 0) 2 0) (show ((ur2 cr 2 0 0) 2 0) < 6 by rw [show ((ur2 cr 2 0 0) 2 0) = 0 from ur2_at]; decide)) tw_2_11 tw_2_12 tw_2_13 tw_1_17 tw_2_14 (by decide +kernel) ⟨by rw [hR1]; exact Nat.le_of_ble_eq_true rfl, by rw [hR2]; exact Nat.le_of_ble_eq_true rfl⟩ hW hS rfl hl.1 rfl (Nat.le_of_ble_eq_true rfl) dX4_readText_38 ⟨Nat.zero_le _, Nat.zero_le _⟩ (fun x5 H locs hp hW hS => ?_)
            rw [show ((ur2 cr 2 0 0) 2 0) = 0 from ur2_at] at hp
            obtain rfl : x5 = 1 := by rcases hp with ⟨a9, b9⟩ | ⟨a9, b9⟩ <;> first | exact b9 | exact absurd a9 (by decide) | exact absurd (by decide) a9
            refine lv_if_eq (tgt := 67) hx hb dX4_readText_41 (by decide) (fun c9 => absurd c9 (by decide)) (fun _ => ?_)
            refine lv_aload_n hx hb dX4_readText_44 rfl (lv_at hl 0 rfl) ?_
            refine lv_iload_n hx hb dX4_readText_45 rfl (lv_at hl 1 rfl) ?_
            refine g_callVi (r := (2, 0)) (T := TX4) (N := 5) (k2 := 1) (As := [.int (nI a)]) (rest := []) C (c_X4_endOfPart l X L ad st0 (up2 ci 3 0 fk) (ua2 ca 4 0 vals) (ur2 cr 2 0 0) mA2 mA3 n hn hn60 hch a (by omega)) tw_2_15 tw_2_17 tw_0_1 tw_1_2 tw_2_18 (by decide +kernel) ⟨by rw [hR1]; exact Nat.le_of_ble_eq_true rfl, by rw [hR2]; exact Nat.le_of_ble_eq_true rfl⟩ hW hS mA2 rfl rfl rfl hl.1 rfl (Nat.le_of_ble_eq_true rfl) dX4_readText_46 ⟨Nat.zero_le _, Nat.zero_le _⟩ (fun x6 L9 ad9 st9 H locs hp hW hS => ?_)
            obtain ⟨ci9, ca9, cr9, z0, hp⟩ := hp
            cases z0
            obtain ⟨z1, z2, z3, hE⟩ := hp
            rw [z1, z2, z3] at hW
            obtain ⟨e9, he9⟩ : ∃ e9, e9 = rdE (ca 3 0) n a := ⟨_, rfl⟩
            have hea : a ≤ e9 := by rw [he9]; exact rdE_ge
            have hen : e9 ≤ n := by rw [he9]; exact rdE_le (by omega)
            have hv9 : x6 = nI (rdE (ca 3 0) n a) := hE
            rw [← he9] at hv9
            subst hv9
            refine lv_istore_n (lv' := [(3, .int (nI e9)), (0, .ref (ad (2, 0))), (1, .int (nI a)), (2, .int (nI k))]) hx hb dX4_readText_49 rfl hl (by decide) rfl (fun ls hl => ?_)
            refine lv_aload_n hx hb dX4_readText_50 rfl (lv_at hl 1 rfl) ?_
            refine lv_iload_n hx hb dX4_readText_51 rfl (lv_at hl 3 rfl) ?_
            refine lv_iload_n hx hb dX4_readText_52 rfl (lv_at hl 2 rfl) ?_
            refine lv_iload_n hx hb dX4_readText_53 rfl (lv_at hl 0 rfl) ?_
            refine g_callVv (r := (2, 0)) (T := TX4) (N := 5) (k2 := 3) (As := [.int (nI k), .int (nI a), .int (nI e9)]) (rest := []) C (c_X4_readPart l X L ad st0 (up2 ci 3 0 fk) (ua2 ca 4 0 vals) (ur2 cr 2 0 0) mA4 mA2 mA3 n hn hn60 hch k (by omega) a e9 hea hen) tw_2_23 tw_2_25 tw_0_3 tw_1_2 tw_2_26 (by decide +kernel) ⟨by rw [hR1]; exact Nat.le_of_ble_eq_true rfl, by rw [hR2]; exact Nat.le_of_ble_eq_true rfl⟩ hW hS mA2 rfl rfl rfl hl.1 rfl (Nat.le_of_ble_eq_true rfl) dX4_readText_54 ⟨Nat.zero_le _, Nat.zero_le _⟩ (fun L9 ad9 st9 H locs hp hW hS => ?_)
            obtain ⟨ci9, ca9, cr9, z0, hp⟩ := hp
            cases z0
            have hp9 : ((rdK (ca 3 0) a e9) = -1 ∧ ci9 = up2 (up2 ci 3 0 fk) 3 0 (48 + nI k) ∧ ca9 = ua2 ca 4 0 vals ∧ cr9 = ur2 (ur2 cr 2 0 0) 2 0 1) ∨ (¬ (rdK (ca 3 0) a e9) = -1 ∧ ¬ vals (rdK (ca 3 0) a e9).toNatClampNeg = -1 ∧ ci9 = up2 (up2 ci 3 0 fk) 3 0 (keyc (rdK (ca 3 0) a e9).toNatClampNeg) ∧ ca9 = ua2 ca 4 0 vals ∧ cr9 = ur2 (ur2 cr 2 0 0) 2 0 2) ∨ (¬ (rdK (ca 3 0) a e9) = -1 ∧ vals (rdK (ca 3 0) a e9).toNatClampNeg = -1 ∧ rdvC (ca 3 0) (rdK (ca 3 0) a e9).toNatClampNeg (a + 2) e9 = -1 ∧ ci9 = up2 (up2 ci 3 0 fk) 3 0 (keyc (rdK (ca 3 0) a e9).toNatClampNeg) ∧ ca9 = ua2 (ua2 ca 4 0 vals) 4 0 (upd vals (rdK (ca 3 0) a e9).toNatClampNeg (-1)) ∧ cr9 = ur2 (ur2 cr 2 0 0) 2 0 3) ∨ (¬ (rdK (ca 3 0) a e9) = -1 ∧ vals (rdK (ca 3 0) a e9).toNatClampNeg = -1 ∧ ¬ rdvC (ca 3 0) (rdK (ca 3 0) a e9).toNatClampNeg (a + 2) e9 = -1 ∧ ci9 = up2 ci 3 0 fk ∧ ca9 = ua2 (ua2 ca 4 0 vals) 4 0 (upd vals (rdK (ca 3 0) a e9).toNatClampNeg (rdvC (ca 3 0) (rdK (ca 3 0) a e9).toNatClampNeg (a + 2) e9)) ∧ cr9 = ur2 cr 2 0 0) := hp
            have hst9 := rd_go_step (t := ca 3 0) (n := n) (k := k) (a := a) (vs := vs) (vals := vals) he9 (by omega) hag
            rcases hp9 with ⟨q1, z1, z2, z3⟩ | ⟨q1, q2, z1, z2, z3⟩ | ⟨q1, q2, q3, z1, z2, z3⟩ | ⟨q1, q2, q3, z1, z2, z3⟩
            · have hW : gW X A L ad (cSt X ad st0 (up2 ci 3 0 (48 + nI k)) (ua2 ca 4 0 vals) (ur2 cr 2 0 1)) s H := by rw [z1, z2, z3] at hW; rwa [up2_same, ur2_same] at hW
              refine lv_iload_n hx hb dX4_readText_57 rfl (lv_at hl 0 rfl) ?_
              refine lv_iconst (v := 1) hx hb dX4_readText_58 (by decide) ?_
              refine lv_iadd hx hb dX4_readText_59 ?_
              refine lv_topE (y := nI (e9 + 1)) (nI_1 e9) ?_
              refine lv_istore_n (lv' := [(1, .int (nI (e9 + 1))), (3, .int (nI e9)), (0, .ref (ad (2, 0))), (2, .int (nI k))]) hx hb dX4_readText_60 rfl hl (by decide) rfl (fun ls hl => ?_)
              refine lv_iinc (v := nI (k + 1)) (lv' := [(2, .int (nI (k + 1))), (1, .int (nI (e9 + 1))), (3, .int (nI e9)), (0, .ref (ad (2, 0)))]) hx hb dX4_readText_61 hl (k := 3) rfl (nI_1 k) (by decide) rfl (fun ls hl => ?_)
              refine lv_goto (tgt := 18) hx hb dX4_readText_64 (by decide) ?_
              exact ih (k + 1) (e9 + 1) (48 + nI k) vals 1 (nI k) vs (by omega) (by omega) (Or.inr ⟨Or.inl rfl, hG.trans (hst9.1 q1), hag, rfl⟩) _ _ hW hS _ (lv_sub hl [3, 1, 0] rfl)
            · have hW : gW X A L ad (cSt X ad st0 (up2 ci 3 0 (keyc (rdK (ca 3 0) a e9).toNatClampNeg)) (ua2 ca 4 0 vals) (ur2 cr 2 0 2)) s H := by rw [z1, z2, z3] at hW; rwa [up2_same, ur2_same] at hW
              refine lv_iload_n hx hb dX4_readText_57 rfl (lv_at hl 0 rfl) ?_
              refine lv_iconst (v := 1) hx hb dX4_readText_58 (by decide) ?_
              refine lv_iadd hx hb dX4_readText_59 ?_
              refine lv_topE (y := nI (e9 + 1)) (nI_1 e9) ?_
              refine lv_istore_n (lv' := [(1, .int (nI (e9 + 1))), (3, .int (nI e9)), (0, .ref (ad (2, 0))), (2, .int (nI k))]) hx hb dX4_readText_60 rfl hl (by decide) rfl (fun ls hl => ?_)
              refine lv_iinc (v := nI (k + 1)) (lv' := [(2, .int (nI (k + 1))), (1, .int (nI (e9 + 1))), (3, .int (nI e9)), (0, .ref (ad (2, 0)))]) hx hb dX4_readText_61 hl (k := 3) rfl (nI_1 k) (by decide) rfl (fun ls hl => ?_)
              refine lv_goto (tgt := 18) hx hb dX4_readText_64 (by decide) ?_
              exact ih (k + 1) (e9 + 1) (keyc (rdK (ca 3 0) a e9).toNatClampNeg) vals 2 (rdK (ca 3 0) a e9) vs (by omega) (by omega) (Or.inr ⟨Or.inr (Or.inl rfl), hG.trans (hst9.2.1 q1 q2), hag, rfl⟩) _ _ hW hS _ (lv_sub hl [3, 1, 0] rfl)
            · have hW : gW X A L ad (cSt X ad st0 (up2 ci 3 0 (keyc (rdK (ca 3 0) a e9).toNatClampNeg)) (ua2 ca 4 0 (upd vals (rdK (ca 3 0) a e9).toNatClampNeg (-1))) (ur2 cr 2 0 3)) s H := by rw [z1, z2, z3] at hW; rwa [up2_same, ua2_same, ur2_same] at hW
              refine lv_iload_n hx hb dX4_readText_57 rfl (lv_at hl 0 rfl) ?_
              refine lv_iconst (v := 1) hx hb dX4_readText_58 (by decide) ?_
              refine lv_iadd hx hb dX4_readText_59 ?_
              refine lv_topE (y := nI (e9 + 1)) (nI_1 e9) ?_
              refine lv_istore_n (lv' := [(1, .int (nI (e9 + 1))), (3, .int (nI e9)), (0, .ref (ad (2, 0))), (2, .int (nI k))]) hx hb dX4_readText_60 rfl hl (by decide) rfl (fun ls hl => ?_)
              refine lv_iinc (v := nI (k + 1)) (lv' := [(2, .int (nI (k + 1))), (1, .int (nI (e9 + 1))), (3, .int (nI e9)), (0, .ref (ad (2, 0)))]) hx hb dX4_readText_61 hl (k := 3) rfl (nI_1 k) (by decide) rfl (fun ls hl => ?_)
              refine lv_goto (tgt := 18) hx hb dX4_readText_64 (by decide) ?_
              exact ih (k + 1) (e9 + 1) (keyc (rdK (ca 3 0) a e9).toNatClampNeg) (upd vals (rdK (ca 3 0) a e9).toNatClampNeg (-1)) 3 (rdK (ca 3 0) a e9) (upd vs (rdK (ca 3 0) a e9).toNatClampNeg (-1)) (by omega) (by omega) (Or.inr ⟨Or.inr (Or.inr rfl), hG.trans (hst9.2.2.1 q1 q2 q3), ag_upd hag, rfl⟩) _ _ hW hS _ (lv_sub hl [3, 1, 0] rfl)
            · have hW : gW X A L ad (cSt X ad st0 (up2 ci 3 0 fk) (ua2 ca 4 0 (upd vals (rdK (ca 3 0) a e9).toNatClampNeg (rdvC (ca 3 0) (rdK (ca 3 0) a e9).toNatClampNeg (a + 2) e9))) (ur2 cr 2 0 0)) s H := by rw [z1, z2, z3] at hW; rwa [ua2_same] at hW
              refine lv_iload_n hx hb dX4_readText_57 rfl (lv_at hl 0 rfl) ?_
              refine lv_iconst (v := 1) hx hb dX4_readText_58 (by decide) ?_
              refine lv_iadd hx hb dX4_readText_59 ?_
              refine lv_topE (y := nI (e9 + 1)) (nI_1 e9) ?_
              refine lv_istore_n (lv' := [(1, .int (nI (e9 + 1))), (3, .int (nI e9)), (0, .ref (ad (2, 0))), (2, .int (nI k))]) hx hb dX4_readText_60 rfl hl (by decide) rfl (fun ls hl => ?_)
              refine lv_iinc (v := nI (k + 1)) (lv' := [(2, .int (nI (k + 1))), (1, .int (nI (e9 + 1))), (3, .int (nI e9)), (0, .ref (ad (2, 0)))]) hx hb dX4_readText_61 hl (k := 3) rfl (nI_1 k) (by decide) rfl (fun ls hl => ?_)
              refine lv_goto (tgt := 18) hx hb dX4_readText_64 (by decide) ?_
              exact ih (k + 1) (e9 + 1) fk (upd vals (rdK (ca 3 0) a e9).toNatClampNeg (rdvC (ca 3 0) (rdK (ca 3 0) a e9).toNatClampNeg (a + 2) e9)) 0 at9 (upd vs (rdK (ca 3 0) a e9).toNatClampNeg (rdvC (ca 3 0) (rdK (ca 3 0) a e9).toNatClampNeg (a + 2) e9)) (by omega) (by omega) (Or.inl ⟨rfl, hG.trans (hst9.2.2.2 q1 q2 q3), ag_upd hag⟩) _ _ hW hS _ (lv_sub hl [3, 1, 0] rfl)
      · subst hw
        refine lv_iload_n hx hb dX4_readText_18 rfl (lv_at hl 2 rfl) ?_
        refine lv_aload_n hx hb dX4_readText_19 rfl (lv_at hl 0 rfl) ?_
        refine g_get (r := (2, 0)) (Cn := RX4) (T := TX4) (N := 5) (ci := 7) (v := .int ((up2 ci 3 0 fk) 2 0)) C tinX4 hW mA2 rfl rfl 2 (by decide) tw_1_50 (fun _ h9 => h9) rfl dX4_readText_20 ?_
        refine lv_topE (y := nI n) (by show (up2 ci 3 0 fk) 2 0 = nI n; exact hn) ?_
        refine lv_icmp_gt (tgt := 67) hx hb dX4_readText_23 (by decide) (fun c11 => ?_) (fun c11 => ?_)
        · have c11n := q_lt (a := n) (b := k) (by omega) (by omega) c11
          refine lv_aload_n hx hb dX4_readText_67 rfl (lv_at hl 0 rfl) ?_
          refine g_get (r := (2, 0)) (Cn := RX4) (T := TX4) (N := 5) (ci := 7) (v := .ref (X.2.2 ((ur2 cr 2 0 1) 2 0))) C tinX4 hW mA2 rfl rfl 3 (by decide) tw_1_51 (fun _ h9 => h9) rfl dX4_readText_68 ?_
          refine g_callTi (k := ((ur2 cr 2 0 1) 2 0)) (k2 := 0) (As := []) (rest := []) (show ((ur2 cr 2 0 1) 2 0) < 6 by rw [show ((ur2 cr 2 0 1) 2 0) = 1 from ur2_at]; decide) C (c_J0_isEmpty_aae02 l X L ad _ ((ur2 cr 2 0 1) 2 0) (show ((ur2 cr 2 0 1) 2 0) < 6 by rw [show ((ur2 cr 2 0 1) 2 0) = 1 from ur2_at]; decide)) tw_2_11 tw_2_12 tw_2_13 tw_1_17 tw_2_14 (by decide +kernel) ⟨by rw [hR1]; exact Nat.le_of_ble_eq_true rfl, by rw [hR2]; exact Nat.le_of_ble_eq_true rfl⟩ hW hS rfl hl.1 rfl (Nat.le_of_ble_eq_true rfl) dX4_readText_71 ⟨Nat.zero_le _, Nat.zero_le _⟩ (fun x12 H locs hp hW hS => ?_)
          rw [show ((ur2 cr 2 0 1) 2 0) = 1 from ur2_at] at hp
          obtain rfl : x12 = 0 := by rcases hp with ⟨a9, b9⟩ | ⟨a9, b9⟩ <;> first | exact b9 | exact absurd a9 (by decide) | exact absurd (by decide) a9
          refine lv_if_eq (tgt := 81) hx hb dX4_readText_74 (by decide) (fun _ => ?_) (fun c9 => absurd (by decide) c9)
          exact g_vret2 C hQ hW hS ⟨_, _, _, rfl, _, vals, 1, rfl, rfl, rfl, rdT_c (w := 1) (by decide) hG hag hfk⟩ (Nat.zero_le _) (Nat.zero_le _) dX4_readText_81
        · have c11n := q_nlt (a := n) (b := k) (by omega) (by omega) c11
          refine lv_iload_n hx hb dX4_readText_26 rfl (lv_at hl 1 rfl) ?_
          refine lv_aload_n hx hb dX4_readText_27 rfl (lv_at hl 0 rfl) ?_
          refine g_get (r := (2, 0)) (Cn := RX4) (T := TX4) (N := 5) (ci := 7) (v := .int ((up2 ci 3 0 fk) 2 0)) C tinX4 hW mA2 rfl rfl 2 (by decide) tw_1_50 (fun _ h9 => h9) rfl dX4_readText_28 ?_
          refine lv_topE (y := nI n) (by show (up2 ci 3 0 fk) 2 0 = nI n; exact hn) ?_
          refine lv_icmp_gt (tgt := 67) hx hb dX4_readText_31 (by decide) (fun c13 => ?_) (fun c13 => ?_)
          · have c13n := q_lt (a := n) (b := a) (by omega) (by omega) c13
            refine lv_aload_n hx hb dX4_readText_67 rfl (lv_at hl 0 rfl) ?_
            refine g_get (r := (2, 0)) (Cn := RX4) (T := TX4) (N := 5) (ci := 7) (v := .ref (X.2.2 ((ur2 cr 2 0 1) 2 0))) C tinX4 hW mA2 rfl rfl 3 (by decide) tw_1_51 (fun _ h9 => h9) rfl dX4_readText_68 ?_
            refine g_callTi (k := ((ur2 cr 2 0 1) 2 0)) (k2 := 0) (As := []) (rest := []) (show ((ur2 cr 2 0 1) 2 0) < 6 by rw [show ((ur2 cr 2 0 1) 2 0) = 1 from ur2_at]; decide) C (c_J0_isEmpty_aae02 l X L ad _ ((ur2 cr 2 0 1) 2 0) (show ((ur2 cr 2 0 1) 2 0) < 6 by rw [show ((ur2 cr 2 0 1) 2 0) = 1 from ur2_at]; decide)) tw_2_11 tw_2_12 tw_2_13 tw_1_17 tw_2_14 (by decide +kernel) ⟨by rw [hR1]; exact Nat.le_of_ble_eq_true rfl, by rw [hR2]; exact Nat.le_of_ble_eq_true rfl⟩ hW hS rfl hl.1 rfl (Nat.le_of_ble_eq_true rfl) dX4_readText_71 ⟨Nat.zero_le _, Nat.zero_le _⟩ (fun x14 H locs hp hW hS => ?_)
            rw [show ((ur2 cr 2 0 1) 2 0) = 1 from ur2_at] at hp
            obtain rfl : x14 = 0 := by rcases hp with ⟨a9, b9⟩ | ⟨a9, b9⟩ <;> first | exact b9 | exact absurd a9 (by decide) | exact absurd (by decide) a9
            refine lv_if_eq (tgt := 81) hx hb dX4_readText_74 (by decide) (fun _ => ?_) (fun c9 => absurd (by decide) c9)
            exact g_vret2 C hQ hW hS ⟨_, _, _, rfl, _, vals, 1, rfl, rfl, rfl, rdT_c (w := 1) (by decide) hG hag hfk⟩ (Nat.zero_le _) (Nat.zero_le _) dX4_readText_81
          · have c13n := q_nlt (a := n) (b := a) (by omega) (by omega) c13
            refine lv_aload_n hx hb dX4_readText_34 rfl (lv_at hl 0 rfl) ?_
            refine g_get (r := (2, 0)) (Cn := RX4) (T := TX4) (N := 5) (ci := 7) (v := .ref (X.2.2 ((ur2 cr 2 0 1) 2 0))) C tinX4 hW mA2 rfl rfl 3 (by decide) tw_1_51 (fun _ h9 => h9) rfl dX4_readText_35 ?_
            refine g_callTi (k := ((ur2 cr 2 0 1) 2 0)) (k2 := 0) (As := []) (rest := []) (show ((ur2 cr 2 0 1) 2 0) < 6 by rw [show ((ur2 cr 2 0 1) 2 0) = 1 from ur2_at]; decide) C (c_J0_isEmpty_aae02 l X L ad _ ((ur2 cr 2 0 1) 2 0) (show ((ur2 cr 2 0 1) 2 0) < 6 by rw [show ((ur2 cr 2 0 1) 2 0) = 1 from ur2_at]; decide)) tw_2_11 tw_2_12 tw_2_13 tw_1_17 tw_2_14 (by decide +kernel) ⟨by rw [hR1]; exact Nat.le_of_ble_eq_true rfl, by rw [hR2]; exact Nat.le_of_ble_eq_true rfl⟩ hW hS rfl hl.1 rfl (Nat.le_of_ble_eq_true rfl) dX4_readText_38 ⟨Nat.zero_le _, Nat.zero_le _⟩ (fun x15 H locs hp hW hS => ?_)
            rw [show ((ur2 cr 2 0 1) 2 0) = 1 from ur2_at] at hp
            obtain rfl : x15 = 0 := by rcases hp with ⟨a9, b9⟩ | ⟨a9, b9⟩ <;> first | exact b9 | exact absurd a9 (by decide) | exact absurd (by decide) a9
            refine lv_if_eq (tgt := 67) hx hb dX4_readText_41 (by decide) (fun _ => ?_) (fun c9 => absurd (by decide) c9)
            refine lv_aload_n hx hb dX4_readText_67 rfl (lv_at hl 0 rfl) ?_
            refine g_get (r := (2, 0)) (Cn := RX4) (T := TX4) (N := 5) (ci := 7) (v := .ref (X.2.2 ((ur2 cr 2 0 1) 2 0))) C tinX4 hW mA2 rfl rfl 3 (by decide) tw_1_51 (fun _ h9 => h9) rfl dX4_readText_68 ?_
            refine g_callTi (k := ((ur2 cr 2 0 1) 2 0)) (k2 := 0) (As := []) (rest := []) (show ((ur2 cr 2 0 1) 2 0) < 6 by rw [show ((ur2 cr 2 0 1) 2 0) = 1 from ur2_at]; decide) C (c_J0_isEmpty_aae02 l X L ad _ ((ur2 cr 2 0 1) 2 0) (show ((ur2 cr 2 0 1) 2 0) < 6 by rw [show ((ur2 cr 2 0 1) 2 0) = 1 from ur2_at]; decide)) tw_2_11 tw_2_12 tw_2_13 tw_1_17 tw_2_14 (by decide +kernel) ⟨by rw [hR1]; exact Nat.le_of_ble_eq_true rfl, by rw [hR2]; exact Nat.le_of_ble_eq_true rfl⟩ hW hS rfl hl.1 rfl (Nat.le_of_ble_eq_true rfl) dX4_readText_71 ⟨Nat.zero_le _, Nat.zero_le _⟩ (fun x16 H locs hp hW hS => ?_)
            rw [show ((ur2 cr 2 0 1) 2 0) = 1 from ur2_at] at hp
            obtain rfl : x16 = 0 := by rcases hp with ⟨a9, b9⟩ | ⟨a9, b9⟩ <;> first | exact b9 | exact absurd a9 (by decide) | exact absurd (by decide) a9
            refine lv_if_eq (tgt := 81) hx hb dX4_readText_74 (by decide) (fun _ => ?_) (fun c9 => absurd (by decide) c9)
            exact g_vret2 C hQ hW hS ⟨_, _, _, rfl, _, vals, 1, rfl, rfl, rfl, rdT_c (w := 1) (by decide) hG hag hfk⟩ (Nat.zero_le _) (Nat.zero_le _) dX4_readText_81
      · subst hw
        refine lv_iload_n hx hb dX4_readText_18 rfl (lv_at hl 2 rfl) ?_
        refine lv_aload_n hx hb dX4_readText_19 rfl (lv_at hl 0 rfl) ?_
        refine g_get (r := (2, 0)) (Cn := RX4) (T := TX4) (N := 5) (ci := 7) (v := .int ((up2 ci 3 0 fk) 2 0)) C tinX4 hW mA2 rfl rfl 2 (by decide) tw_1_50 (fun _ h9 => h9) rfl dX4_readText_20 ?_
        refine lv_topE (y := nI n) (by show (up2 ci 3 0 fk) 2 0 = nI n; exact hn) ?_
        refine lv_icmp_gt (tgt := 67) hx hb dX4_readText_23 (by decide) (fun c17 => ?_) (fun c17 => ?_)
        · have c17n := q_lt (a := n) (b := k) (by omega) (by omega) c17
          refine lv_aload_n hx hb dX4_readText_67 rfl (lv_at hl 0 rfl) ?_
          refine g_get (r := (2, 0)) (Cn := RX4) (T := TX4) (N := 5) (ci := 7) (v := .ref (X.2.2 ((ur2 cr 2 0 2) 2 0))) C tinX4 hW mA2 rfl rfl 3 (by decide) tw_1_51 (fun _ h9 => h9) rfl dX4_readText_68 ?_
          refine g_callTi (k := ((ur2 cr 2 0 2) 2 0)) (k2 := 0) (As := []) (rest := []) (show ((ur2 cr 2 0 2) 2 0) < 6 by rw [show ((ur2 cr 2 0 2) 2 0) = 2 from ur2_at]; decide) C (c_J0_isEmpty_aae02 l X L ad _ ((ur2 cr 2 0 2) 2 0) (show ((ur2 cr 2 0 2) 2 0) < 6 by rw [show ((ur2 cr 2 0 2) 2 0) = 2 from ur2_at]; decide)) tw_2_11 tw_2_12 tw_2_13 tw_1_17 tw_2_14 (by decide +kernel) ⟨by rw [hR1]; exact Nat.le_of_ble_eq_true rfl, by rw [hR2]; exact Nat.le_of_ble_eq_true rfl⟩ hW hS rfl hl.1 rfl (Nat.le_of_ble_eq_true rfl) dX4_readText_71 ⟨Nat.zero_le _, Nat.zero_le _⟩ (fun x18 H locs hp hW hS => ?_)
          rw [show ((ur2 cr 2 0 2) 2 0) = 2 from ur2_at] at hp
          obtain rfl : x18 = 0 := by rcases hp with ⟨a9, b9⟩ | ⟨a9, b9⟩ <;> first | exact b9 | exact absurd a9 (by decide) | exact absurd (by decide) a9
          refine lv_if_eq (tgt := 81) hx hb dX4_readText_74 (by decide) (fun _ => ?_) (fun c9 => absurd (by decide) c9)
          exact g_vret2 C hQ hW hS ⟨_, _, _, rfl, _, vals, 2, rfl, rfl, rfl, rdT_c (w := 2) (by decide) hG hag hfk⟩ (Nat.zero_le _) (Nat.zero_le _) dX4_readText_81
        · have c17n := q_nlt (a := n) (b := k) (by omega) (by omega) c17
          refine lv_iload_n hx hb dX4_readText_26 rfl (lv_at hl 1 rfl) ?_
          refine lv_aload_n hx hb dX4_readText_27 rfl (lv_at hl 0 rfl) ?_
          refine g_get (r := (2, 0)) (Cn := RX4) (T := TX4) (N := 5) (ci := 7) (v := .int ((up2 ci 3 0 fk) 2 0)) C tinX4 hW mA2 rfl rfl 2 (by decide) tw_1_50 (fun _ h9 => h9) rfl dX4_readText_28 ?_
          refine lv_topE (y := nI n) (by show (up2 ci 3 0 fk) 2 0 = nI n; exact hn) ?_
          refine lv_icmp_gt (tgt := 67) hx hb dX4_readText_31 (by decide) (fun c19 => ?_) (fun c19 => ?_)
          · have c19n := q_lt (a := n) (b := a) (by omega) (by omega) c19
            refine lv_aload_n hx hb dX4_readText_67 rfl (lv_at hl 0 rfl) ?_
            refine g_get (r := (2, 0)) (Cn := RX4) (T := TX4) (N := 5) (ci := 7) (v := .ref (X.2.2 ((ur2 cr 2 0 2) 2 0))) C tinX4 hW mA2 rfl rfl 3 (by decide) tw_1_51 (fun _ h9 => h9) rfl dX4_readText_68 ?_
            refine g_callTi (k := ((ur2 cr 2 0 2) 2 0)) (k2 := 0) (As := []) (rest := []) (show ((ur2 cr 2 0 2) 2 0) < 6 by rw [show ((ur2 cr 2 0 2) 2 0) = 2 from ur2_at]; decide) C (c_J0_isEmpty_aae02 l X L ad _ ((ur2 cr 2 0 2) 2 0) (show ((ur2 cr 2 0 2) 2 0) < 6 by rw [show ((ur2 cr 2 0 2) 2 0) = 2 from ur2_at]; decide)) tw_2_11 tw_2_12 tw_2_13 tw_1_17 tw_2_14 (by decide +kernel) ⟨by rw [hR1]; exact Nat.le_of_ble_eq_true rfl, by rw [hR2]; exact Nat.le_of_ble_eq_true rfl⟩ hW hS rfl hl.1 rfl (Nat.le_of_ble_eq_true rfl) dX4_readText_71 ⟨Nat.zero_le _, Nat.zero_le _⟩ (fun x20 H locs hp hW hS => ?_)
            rw [show ((ur2 cr 2 0 2) 2 0) = 2 from ur2_at] at hp
            obtain rfl : x20 = 0 := by rcases hp with ⟨a9, b9⟩ | ⟨a9, b9⟩ <;> first | exact b9 | exact absurd a9 (by decide) | exact absurd (by decide) a9
            refine lv_if_eq (tgt := 81) hx hb dX4_readText_74 (by decide) (fun _ => ?_) (fun c9 => absurd (by decide) c9)
            exact g_vret2 C hQ hW hS ⟨_, _, _, rfl, _, vals, 2, rfl, rfl, rfl, rdT_c (w := 2) (by decide) hG hag hfk⟩ (Nat.zero_le _) (Nat.zero_le _) dX4_readText_81
          · have c19n := q_nlt (a := n) (b := a) (by omega) (by omega) c19
            refine lv_aload_n hx hb dX4_readText_34 rfl (lv_at hl 0 rfl) ?_
            refine g_get (r := (2, 0)) (Cn := RX4) (T := TX4) (N := 5) (ci := 7) (v := .ref (X.2.2 ((ur2 cr 2 0 2) 2 0))) C tinX4 hW mA2 rfl rfl 3 (by decide) tw_1_51 (fun _ h9 => h9) rfl dX4_readText_35 ?_
            refine g_callTi (k := ((ur2 cr 2 0 2) 2 0)) (k2 := 0) (As := []) (rest := []) (show ((ur2 cr 2 0 2) 2 0) < 6 by rw [show ((ur2 cr 2 0 2) 2 0) = 2 from ur2_at]; decide) C (c_J0_isEmpty_aae02 l X L ad _ ((ur2 cr 2 0 2) 2 0) (show ((ur2 cr 2 0 2) 2 0) < 6 by rw [show ((ur2 cr 2 0 2) 2 0) = 2 from ur2_at]; decide)) tw_2_11 tw_2_12 tw_2_13 tw_1_17 tw_2_14 (by decide +kernel) ⟨by rw [hR1]; exact Nat.le_of_ble_eq_true rfl, by rw [hR2]; exact Nat.le_of_ble_eq_true rfl⟩ hW hS rfl hl.1 rfl (Nat.le_of_ble_eq_true rfl) dX4_readText_38 ⟨Nat.zero_le _, Nat.zero_le _⟩ (fun x21 H locs hp hW hS => ?_)
            rw [show ((ur2 cr 2 0 2) 2 0) = 2 from ur2_at] at hp
            obtain rfl : x21 = 0 := by rcases hp with ⟨a9, b9⟩ | ⟨a9, b9⟩ <;> first | exact b9 | exact absurd a9 (by decide) | exact absurd (by decide) a9
            refine lv_if_eq (tgt := 67) hx hb dX4_readText_41 (by decide) (fun _ => ?_) (fun c9 => absurd (by decide) c9)
            refine lv_aload_n hx hb dX4_readText_67 rfl (lv_at hl 0 rfl) ?_
            refine g_get (r := (2, 0)) (Cn := RX4) (T := TX4) (N := 5) (ci := 7) (v := .ref (X.2.2 ((ur2 cr 2 0 2) 2 0))) C tinX4 hW mA2 rfl rfl 3 (by decide) tw_1_51 (fun _ h9 => h9) rfl dX4_readText_68 ?_
            refine g_callTi (k := ((ur2 cr 2 0 2) 2 0)) (k2 := 0) (As := []) (rest := []) (show ((ur2 cr 2 0 2) 2 0) < 6 by rw [show ((ur2 cr 2 0 2) 2 0) = 2 from ur2_at]; decide) C (c_J0_isEmpty_aae02 l X L ad _ ((ur2 cr 2 0 2) 2 0) (show ((ur2 cr 2 0 2) 2 0) < 6 by rw [show ((ur2 cr 2 0 2) 2 0) = 2 from ur2_at]; decide)) tw_2_11 tw_2_12 tw_2_13 tw_1_17 tw_2_14 (by decide +kernel) ⟨by rw [hR1]; exact Nat.le_of_ble_eq_true rfl, by rw [hR2]; exact Nat.le_of_ble_eq_true rfl⟩ hW hS rfl hl.1 rfl (Nat.le_of_ble_eq_true rfl) dX4_readText_71 ⟨Nat.zero_le _, Nat.zero_le _⟩ (fun x22 H locs hp hW hS => ?_)
            rw [show ((ur2 cr 2 0 2) 2 0) = 2 from ur2_at] at hp
            obtain rfl : x22 = 0 := by rcases hp with ⟨a9, b9⟩ | ⟨a9, b9⟩ <;> first | exact b9 | exact absurd a9 (by decide) | exact absurd (by decide) a9
            refine lv_if_eq (tgt := 81) hx hb dX4_readText_74 (by decide) (fun _ => ?_) (fun c9 => absurd (by decide) c9)
            exact g_vret2 C hQ hW hS ⟨_, _, _, rfl, _, vals, 2, rfl, rfl, rfl, rdT_c (w := 2) (by decide) hG hag hfk⟩ (Nat.zero_le _) (Nat.zero_le _) dX4_readText_81
      · subst hw
        refine lv_iload_n hx hb dX4_readText_18 rfl (lv_at hl 2 rfl) ?_
        refine lv_aload_n hx hb dX4_readText_19 rfl (lv_at hl 0 rfl) ?_
        refine g_get (r := (2, 0)) (Cn := RX4) (T := TX4) (N := 5) (ci := 7) (v := .int ((up2 ci 3 0 fk) 2 0)) C tinX4 hW mA2 rfl rfl 2 (by decide) tw_1_50 (fun _ h9 => h9) rfl dX4_readText_20 ?_
        refine lv_topE (y := nI n) (by show (up2 ci 3 0 fk) 2 0 = nI n; exact hn) ?_
        refine lv_icmp_gt (tgt := 67) hx hb dX4_readText_23 (by decide) (fun c23 => ?_) (fun c23 => ?_)
        · have c23n := q_lt (a := n) (b := k) (by omega) (by omega) c23
          refine lv_aload_n hx hb dX4_readText_67 rfl (lv_at hl 0 rfl) ?_
          refine g_get (r := (2, 0)) (Cn := RX4) (T := TX4) (N := 5) (ci := 7) (v := .ref (X.2.2 ((ur2 cr 2 0 3) 2 0))) C tinX4 hW mA2 rfl rfl 3 (by decide) tw_1_51 (fun _ h9 => h9) rfl dX4_readText_68 ?_
          refine g_callTi (k := ((ur2 cr 2 0 3) 2 0)) (k2 := 0) (As := []) (rest := []) (show ((ur2 cr 2 0 3) 2 0) < 6 by rw [show ((ur2 cr 2 0 3) 2 0) = 3 from ur2_at]; decide) C (c_J0_isEmpty_aae02 l X L ad _ ((ur2 cr 2 0 3) 2 0) (show ((ur2 cr 2 0 3) 2 0) < 6 by rw [show ((ur2 cr 2 0 3) 2 0) = 3 from ur2_at]; decide)) tw_2_11 tw_2_12 tw_2_13 tw_1_17 tw_2_14 (by decide +kernel) ⟨by rw [hR1]; exact Nat.le_of_ble_eq_true rfl, by rw [hR2]; exact Nat.le_of_ble_eq_true rfl⟩ hW hS rfl hl.1 rfl (Nat.le_of_ble_eq_true rfl) dX4_readText_71 ⟨Nat.zero_le _, Nat.zero_le _⟩ (fun x24 H locs hp hW hS => ?_)
          rw [show ((ur2 cr 2 0 3) 2 0) = 3 from ur2_at] at hp
          obtain rfl : x24 = 0 := by rcases hp with ⟨a9, b9⟩ | ⟨a9, b9⟩ <;> first | exact b9 | exact absurd a9 (by decide) | exact absurd (by decide) a9
          refine lv_if_eq (tgt := 81) hx hb dX4_readText_74 (by decide) (fun _ => ?_) (fun c9 => absurd (by decide) c9)
          exact g_vret2 C hQ hW hS ⟨_, _, _, rfl, _, vals, 3, rfl, rfl, rfl, rdT_c (w := 3) (by decide) hG hag hfk⟩ (Nat.zero_le _) (Nat.zero_le _) dX4_readText_81
        · have c23n := q_nlt (a := n) (b := k) (by omega) (by omega) c23
          refine lv_iload_n hx hb dX4_readText_26 rfl (lv_at hl 1 rfl) ?_
          refine lv_aload_n hx hb dX4_readText_27 rfl (lv_at hl 0 rfl) ?_
          refine g_get (r := (2, 0)) (Cn := RX4) (T := TX4) (N := 5) (ci := 7) (v := .int ((up2 ci 3 0 fk) 2 0)) C tinX4 hW mA2 rfl rfl 2 (by decide) tw_1_50 (fun _ h9 => h9) rfl dX4_readText_28 ?_
          refine lv_topE (y := nI n) (by show (up2 ci 3 0 fk) 2 0 = nI n; exact hn) ?_
          refine lv_icmp_gt (tgt := 67) hx hb dX4_readText_31 (by decide) (fun c25 => ?_) (fun c25 => ?_)
          · have c25n := q_lt (a := n) (b := a) (by omega) (by omega) c25
            refine lv_aload_n hx hb dX4_readText_67 rfl (lv_at hl 0 rfl) ?_
            refine g_get (r := (2, 0)) (Cn := RX4) (T := TX4) (N := 5) (ci := 7) (v := .ref (X.2.2 ((ur2 cr 2 0 3) 2 0))) C tinX4 hW mA2 rfl rfl 3 (by decide) tw_1_51 (fun _ h9 => h9) rfl dX4_readText_68 ?_
            refine g_callTi (k := ((ur2 cr 2 0 3) 2 0)) (k2 := 0) (As := []) (rest := []) (show ((ur2 cr 2 0 3) 2 0) < 6 by rw [show ((ur2 cr 2 0 3) 2 0) = 3 from ur2_at]; decide) C (c_J0_isEmpty_aae02 l X L ad _ ((ur2 cr 2 0 3) 2 0) (show ((ur2 cr 2 0 3) 2 0) < 6 by rw [show ((ur2 cr 2 0 3) 2 0) = 3 from ur2_at]; decide)) tw_2_11 tw_2_12 tw_2_13 tw_1_17 tw_2_14 (by decide +kernel) ⟨by rw [hR1]; exact Nat.le_of_ble_eq_true rfl, by rw [hR2]; exact Nat.le_of_ble_eq_true rfl⟩ hW hS rfl hl.1 rfl (Nat.le_of_ble_eq_true rfl) dX4_readText_71 ⟨Nat.zero_le _, Nat.zero_le _⟩ (fun x26 H locs hp hW hS => ?_)
            rw [show ((ur2 cr 2 0 3) 2 0) = 3 from ur2_at] at hp
            obtain rfl : x26 = 0 := by rcases hp with ⟨a9, b9⟩ | ⟨a9, b9⟩ <;> first | exact b9 | exact absurd a9 (by decide) | exact absurd (by decide) a9
            refine lv_if_eq (tgt := 81) hx hb dX4_readText_74 (by decide) (fun _ => ?_) (fun c9 => absurd (by decide) c9)
            exact g_vret2 C hQ hW hS ⟨_, _, _, rfl, _, vals, 3, rfl, rfl, rfl, rdT_c (w := 3) (by decide) hG hag hfk⟩ (Nat.zero_le _) (Nat.zero_le _) dX4_readText_81
          · have c25n := q_nlt (a := n) (b := a) (by omega) (by omega) c25
            refine lv_aload_n hx hb dX4_readText_34 rfl (lv_at hl 0 rfl) ?_
            refine g_get (r := (2, 0)) (Cn := RX4) (T := TX4) (N := 5) (ci := 7) (v := .ref (X.2.2 ((ur2 cr 2 0 3) 2 0))) C tinX4 hW mA2 rfl rfl 3 (by decide) tw_1_51 (fun _ h9 => h9) rfl dX4_readText_35 ?_
            refine g_callTi (k := ((ur2 cr 2 0 3) 2 0)) (k2 := 0) (As := []) (rest := []) (show ((ur2 cr 2 0 3) 2 0) < 6 by rw [show ((ur2 cr 2 0 3) 2 0) = 3 from ur2_at]; decide) C (c_J0_isEmpty_aae02 l X L ad _ ((ur2 cr 2 0 3) 2 0) (show ((ur2 cr 2 0 3) 2 0) < 6 by rw [show ((ur2 cr 2 0 3) 2 0) = 3 from ur2_at]; decide)) tw_2_11 tw_2_12 tw_2_13 tw_1_17 tw_2_14 (by decide +kernel) ⟨by rw [hR1]; exact Nat.le_of_ble_eq_true rfl, by rw [hR2]; exact Nat.le_of_ble_eq_true rfl⟩ hW hS rfl hl.1 rfl (Nat.le_of_ble_eq_true rfl) dX4_readText_38 ⟨Nat.zero_le _, Nat.zero_le _⟩ (fun x27 H locs hp hW hS => ?_)
            rw [show ((ur2 cr 2 0 3) 2 0) = 3 from ur2_at] at hp
            obtain rfl : x27 = 0 := by rcases hp with ⟨a9, b9⟩ | ⟨a9, b9⟩ <;> first | exact b9 | exact absurd a9 (by decide) | exact absurd (by decide) a9
            refine lv_if_eq (tgt := 67) hx hb dX4_readText_41 (by decide) (fun _ => ?_) (fun c9 => absurd (by decide) c9)
            refine lv_aload_n hx hb dX4_readText_67 rfl (lv_at hl 0 rfl) ?_
            refine g_get (r := (2, 0)) (Cn := RX4) (T := TX4) (N := 5) (ci := 7) (v := .ref (X.2.2 ((ur2 cr 2 0 3) 2 0))) C tinX4 hW mA2 rfl rfl 3 (by decide) tw_1_51 (fun _ h9 => h9) rfl dX4_readText_68 ?_
            refine g_callTi (k := ((ur2 cr 2 0 3) 2 0)) (k2 := 0) (As := []) (rest := []) (show ((ur2 cr 2 0 3) 2 0) < 6 by rw [show ((ur2 cr 2 0 3) 2 0) = 3 from ur2_at]; decide) C (c_J0_isEmpty_aae02 l X L ad _ ((ur2 cr 2 0 3) 2 0) (show ((ur2 cr 2 0 3) 2 0) < 6 by rw [show ((ur2 cr 2 0 3) 2 0) = 3 from ur2_at]; decide)) tw_2_11 tw_2_12 tw_2_13 tw_1_17 tw_2_14 (by decide +kernel) ⟨by rw [hR1]; exact Nat.le_of_ble_eq_true rfl, by rw [hR2]; exact Nat.le_of_ble_eq_true rfl⟩ hW hS rfl hl.1 rfl (Nat.le_of_ble_eq_true rfl) dX4_readText_71 ⟨Nat.zero_le _, Nat.zero_le _⟩ (fun x28 H locs hp hW hS => ?_)
            rw [show ((ur2 cr 2 0 3) 2 0) = 3 from ur2_at] at hp
            obtain rfl : x28 = 0 := by rcases hp with ⟨a9, b9⟩ | ⟨a9, b9⟩ <;> first | exact b9 | exact absurd a9 (by decide) | exact absurd (by decide) a9
            refine lv_if_eq (tgt := 81) hx hb dX4_readText_74 (by decide) (fun _ => ?_) (fun c9 => absurd (by decide) c9)
            exact g_vret2 C hQ hW hS ⟨_, _, _, rfl, _, vals, 3, rfl, rfl, rfl, rdT_c (w := 3) (by decide) hG hag hfk⟩ (Nat.zero_le _) (Nat.zero_le _) dX4_readText_81
  refine lv_aload_n hx hb dX4_readText_0 rfl (lv_at hl 0 rfl) ?_
  refine g_get (r := (2, 0)) (Cn := RX4) (T := TX4) (N := 5) (ci := 7) (v := .ref (ad (4, 0))) C tinX4 hW mA2 rfl rfl 1 (by decide) tw_1_49 (fun _ h9 => h9) rfl dX4_readText_1 ?_
  refine lv_iconst (v := (-1)) hx hb dX4_readText_4 (by decide) ?_
  refine g_callSv (k2 := 2) (As := [.ref (ad (4, 0)), .int (-1)]) (rest := []) C (c_J7_fill_53178 l X L ad st0 ci ca cr mA4 (-1)) tw_2_8 tw_2_9 tw_1_16 tw_2_10 (by decide +kernel) ⟨by rw [hR1]; exact Nat.le_of_ble_eq_true rfl, by rw [hR2]; exact Nat.le_of_ble_eq_true rfl⟩ hW hS rfl hl.1 rfl (Nat.le_of_ble_eq_true rfl) dX4_readText_5 ⟨Nat.zero_le _, Nat.zero_le _⟩ (fun L9 ad9 st9 H locs hp hW hS => ?_)
  obtain ⟨ci9, ca9, cr9, z0, z1, z2, z3⟩ := hp
  cases z0
  rw [z1, z2, z3] at hW
  refine lv_aload_n hx hb dX4_readText_8 rfl (lv_at hl 0 rfl) ?_
  refine va_ldcS hx hb C.1.2.2.2.1 (C.2.2.2.2.2.2.1 ("RateGate$Request", 23, "", 0) (by decide +kernel)) dX4_readText_9 ?_
  refine g_put (r := (2, 0)) (Cn := RX4) (T := TX4) (N := 5) (ci := 7) (ty0 := tyX4) C tinX4 tyX4_ok nmX4 hW hS mA2 rfl rfl 3 (by decide) tw_1_51 (fun _ h9 => h9) rfl rfl rfl (Nat.le_of_ble_eq_true rfl) (cU_2_3 0 0) dX4_readText_11 (fun H locs hW hS => ?_)
  refine lv_iconst (v := 0) hx hb dX4_readText_14 (by decide) ?_
  refine lv_istore_n (lv' := [(1, .int 0), (0, .ref (ad (2, 0)))]) hx hb dX4_readText_15 rfl hl (by decide) rfl (fun ls hl => ?_)
  refine lv_iconst (v := 0) hx hb dX4_readText_16 (by decide) ?_
  refine lv_istore_n (lv' := [(2, .int 0), (1, .int 0), (0, .ref (ad (2, 0)))]) hx hb dX4_readText_17 rfl hl (by decide) rfl (fun ls hl => ?_)
  rw [← up2_id (c := ci) (a := 3) (b := 0)] at hW
  exact loop _ 0 0 (ci 3 0) (fil6 (ca 4 0) (-1)) 0 0 (fun _ => -1) (Nat.lt_succ_self _) (by omega) (Or.inl ⟨rfl, rfl, fil6_ag⟩) _ _ hW hS _ (lv_sub hl [2, 1, 0] rfl)

