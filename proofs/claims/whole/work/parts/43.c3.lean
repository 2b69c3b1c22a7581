theorem nI_max {a b : Nat} (ha : a < 2 ^ 31) (hb : b < 2 ^ 31) : (if nI a < nI b then nI b else nI a) = nI (if a < b then b else a) := by
  by_cases h : a < b
  · rw [if_pos h, if_pos ((nI_ltI ha hb).mpr h)]
  · rw [if_neg h, if_neg (fun q => h ((nI_ltI ha hb).mp q))]
def cntB (s m li : Nat → Int32) (sh mn : Int32) : Nat → Int32
  | 0 => 0
  | k + 1 => if s k = sh ∧ mn < m k ∧ li k = 0 then cntB s m li sh mn k + 1 else cntB s m li sh mn k
/-- a carrier of the class: tries, fails in a row, opened, open end -/
def ccr (ci : Nat → Nat → Int32) (i : Nat) : CrS := (ci 32 i, ci 33 i, ci 34 i, ci 35 i)
def cset (ci : Nat → Nat → Int32) (i : Nat) (s : CrS) : Nat → Nat → Int32 := up2 (up2 (up2 (up2 ci 32 i s.1) 33 i s.2.1) 34 i s.2.2.1) 35 i s.2.2.2
theorem up2_keep {c : Nat → Nat → Int32} {a b : Nat} {v : Int32} (h : c a b = v) : up2 c a b v = c := by
  subst h
  exact up2_id
theorem cset_b {ci : Nat → Nat → Int32} {i : Nat} {a b : Int32} : cset ci i (a, b, ci 34 i, ci 35 i) = up2 (up2 ci 32 i a) 33 i b := by
  unfold cset
  rw [up2_keep (v := ci 34 i) (by simp [up2]), up2_keep (v := ci 35 i) (by simp [up2])]
theorem cset_c {ci : Nat → Nat → Int32} {i : Nat} {a b z : Int32} : cset ci i (a, b, z, ci 35 i) = up2 (up2 (up2 ci 32 i a) 33 i b) 34 i z := by
  unfold cset
  rw [up2_keep (v := ci 35 i) (by simp [up2])]
def okC (up fl tr : Int32) : Prop := ¬ up = 0 ∧ ¬ (0 < fl ∧ (tr + 1) - (tr + 1) / fl * fl = 0)
noncomputable def tryC (mn up fl : Int32) (s : CrS) : Int32 × CrS := by
  classical
  exact if okC up fl s.1 then (1, (s.1 + 1, 0, 0, s.2.2.2)) else (0, if 5 ≤ s.2.1 + 1 ∨ crcC s.2.2.1 mn s.2.2.2 = 2 then (s.1 + 1, s.2.1 + 1, 1, mn + 10) else (s.1 + 1, s.2.1 + 1, s.2.2.1, s.2.2.2))
theorem tryC_a {mn up fl : Int32} {s : CrS} (h : ¬ okC up fl s.1) (h2 : 5 ≤ s.2.1 + 1 ∨ crcC s.2.2.1 mn s.2.2.2 = 2) : tryC mn up fl s = (0, (s.1 + 1, s.2.1 + 1, 1, mn + 10)) := by
  unfold tryC
  rw [if_neg h, if_pos h2]
theorem tryC_b {mn up fl : Int32} {s : CrS} (h : ¬ okC up fl s.1) (h2 : ¬ (5 ≤ s.2.1 + 1 ∨ crcC s.2.2.1 mn s.2.2.2 = 2)) : tryC mn up fl s = (0, (s.1 + 1, s.2.1 + 1, s.2.2.1, s.2.2.2)) := by
  unfold tryC
  rw [if_neg h, if_neg h2]
theorem tryC_c {mn up fl : Int32} {s : CrS} (h : okC up fl s.1) : tryC mn up fl s = (1, (s.1 + 1, 0, 0, s.2.2.2)) := by
  unfold tryC
  rw [if_pos h]
set_option maxHeartbeats 4000000 in
set_option maxRecDepth 100000 in
theorem c_X0_countBehind (l : Launch) (X : GX) (L : List ro) (ad : ro → Nat) (st0 : ro → va_E) (ci : Nat → Nat → Int32) (ca : Nat → Nat → Nat → Int32) (cr : Nat → Nat → Nat) (m5 : (5, 0) ∈ L) (m6 : (6, 0) ∈ L) (m7 : (7, 0) ∈ L) (m8 : (8, 0) ∈ L) (sh mn : Int32) (kp : Nat) (hkp : ci 6 0 = nI kp) (hkp2 : kp ≤ 512) : cM l yX0_countBehind cX0_countBehind 5 (some .int) 0 0 X [.ref (ad (5, 0)), .int sh, .int mn] L ad st0 ci ca cr (fun v ci' ca' cr' => ci' = ci ∧ ca' = ca ∧ cr' = cr ∧ v = cntB (ca 6 0) (ca 7 0) (ca 8 0) sh mn kp) := by
  intro sz
  refine gM_of2 (Qc := fun A => va_Qi _ (gB X A) A) (by decide) (Nat.le_of_ble_eq_true rfl) ?_ sz
  intro p e s m args below meth c A R Q hR hQ C hW hS ls hl
  obtain ⟨hR1, hR2, hR3, hR4⟩ := hR
  have hx := C.1.1
  have hb := C.1.2.1
  have hml := C.1.2.2.1
  have hl : lv_has ls 5 [(0, .ref (ad (5, 0))), (1, .int sh), (2, .int mn)] := hl
  have loop : ∀ (f : Nat) (k : Nat) (md : Int32), (kp - k < f) → (k ≤ kp) → (md = cntB (ca 6 0) (ca 7 0) (ca 8 0) sh mn k) → ∀ (H : Heap) (locs : List Loc), gW X A L ad (cSt X ad st0 ci ca cr) s H → va_S A s.heap H locs → ∀ ls : Array Slot, lv_has ls 5 [(0, .ref (ad (5, 0))), (1, .int sh), (2, .int mn), (3, .int md), (4, .int (nI k))] → W p l e R s m args below meth c H locs 0 0 Q (F0 m 5 ls []) := by
    intro f
    induction f with
    | zero =>
      intro k md hf9
      exact absurd hf9 (Nat.not_lt_zero _)
    | succ f ih =>
      intro k md hf hk hmd H locs hW hS ls hl
      refine lv_iload hx hb dX0_countBehind_5 (lv_at hl 4 rfl) ?_
      refine lv_aload_n hx hb dX0_countBehind_7 rfl (lv_at hl 0 rfl) ?_
      refine g_get (r := (5, 0)) (Cn := RX0) (T := TX0) (N := 6) (ci := 3) (v := .int (ci 6 0)) C tinX0 hW m5 rfl rfl 4 (by decide) tw_1_78 (fun _ h9 => h9) rfl dX0_countBehind_8 ?_
      refine lv_topE (y := nI kp) (by show ci 6 0 = nI kp; exact hkp) ?_
      refine lv_icmp_ge (tgt := 63) hx hb dX0_countBehind_11 (by decide) (fun c1 => ?_) (fun c1 => ?_)
      · have c1n := q_le (a := kp) (b := k) (by omega) (by omega) c1
        refine lv_iload_n hx hb dX0_countBehind_63 rfl (lv_at hl 3 rfl) ?_
        exact g_iret2 C hQ hW hS ⟨_, _, _, rfl, rfl, rfl, rfl, by rw [show kp = k by omega]; exact hmd⟩ rfl (Nat.zero_le _) (Nat.zero_le _) dX0_countBehind_64
      · have c1n := q_nle (a := kp) (b := k) (by omega) (by omega) c1
        refine lv_iload hx hb dX0_countBehind_14 (lv_at hl 4 rfl) ?_
        refine lv_sipush (v := 512) hx hb dX0_countBehind_16 (by decide) ?_
        refine lv_icmp_ge (tgt := 63) hx hb dX0_countBehind_19 (by decide) (fun c2 => ?_) (fun c2 => ?_)
        · have c2n := q_le (a := 512) (b := k) (by omega) (by omega) c2
          refine lv_iload_n hx hb dX0_countBehind_63 rfl (lv_at hl 3 rfl) ?_
          exact g_iret2 C hQ hW hS ⟨_, _, _, rfl, rfl, rfl, rfl, by rw [show kp = k by omega]; exact hmd⟩ rfl (Nat.zero_le _) (Nat.zero_le _) dX0_countBehind_64
        · have c2n := q_nle (a := 512) (b := k) (by omega) (by omega) c2
          refine lv_aload_n hx hb dX0_countBehind_22 rfl (lv_at hl 0 rfl) ?_
          refine g_get (r := (5, 0)) (Cn := RX0) (T := TX0) (N := 6) (ci := 3) (v := .ref (ad (6, 0))) C tinX0 hW m5 rfl rfl 1 (by decide) tw_1_75 (fun _ h9 => h9) rfl dX0_countBehind_23 ?_
          refine lv_iload hx hb dX0_countBehind_26 (lv_at hl 4 rfl) ?_
          refine g_iald (r := (6, 0)) (n := 512) (f := ca 6 0) C hW m6 rfl (vp_in_nI (N := 512) (by omega) (by decide)) dX0_countBehind_28 ?_
          refine lv_topE (y := (ca 6 0) k) (by rw [nI_clamp (by omega)]) ?_
          refine lv_topi (fun x3 ex3 => ?_)
          refine lv_iload_n hx hb dX0_countBehind_29 rfl (lv_at hl 1 rfl) ?_
          refine lv_icmp_ne (tgt := 57) hx hb dX0_countBehind_30 (by decide) (fun c4 => ?_) (fun c4 => ?_)
          · refine lv_iinc (v := nI (k + 1)) (lv' := [(4, .int (nI (k + 1))), (0, .ref (ad (5, 0))), (1, .int sh), (2, .int mn), (3, .int md)]) hx hb dX0_countBehind_57 hl (k := 4) rfl (nI_1 k) (by decide) rfl (fun ls hl => ?_)
            refine lv_goto (tgt := 5) hx hb dX0_countBehind_60 (by decide) ?_
            exact ih (k + 1) md (by omega) (by omega) (by rw [cntB]; grind) _ _ hW hS _ (lv_sub hl [1, 2, 3, 4, 0] rfl)
          · refine lv_aload_n hx hb dX0_countBehind_33 rfl (lv_at hl 0 rfl) ?_
            refine g_get (r := (5, 0)) (Cn := RX0) (T := TX0) (N := 6) (ci := 3) (v := .ref (ad (7, 0))) C tinX0 hW m5 rfl rfl 2 (by decide) tw_1_76 (fun _ h9 => h9) rfl dX0_countBehind_34 ?_
            refine lv_iload hx hb dX0_countBehind_37 (lv_at hl 4 rfl) ?_
            refine g_iald (r := (7, 0)) (n := 512) (f := ca 7 0) C hW m7 rfl (vp_in_nI (N := 512) (by omega) (by decide)) dX0_countBehind_39 ?_
            refine lv_topE (y := (ca 7 0) k) (by rw [nI_clamp (by omega)]) ?_
            refine lv_topi (fun x6 ex6 => ?_)
            refine lv_iload_n hx hb dX0_countBehind_40 rfl (lv_at hl 2 rfl) ?_
            refine lv_icmp_le (tgt := 57) hx hb dX0_countBehind_41 (by decide) (fun c7 => ?_) (fun c7 => ?_)
            · refine lv_iinc (v := nI (k + 1)) (lv' := [(4, .int (nI (k + 1))), (0, .ref (ad (5, 0))), (1, .int sh), (2, .int mn), (3, .int md)]) hx hb dX0_countBehind_57 hl (k := 4) rfl (nI_1 k) (by decide) rfl (fun ls hl => ?_)
              refine lv_goto (tgt := 5) hx hb dX0_countBehind_60 (by decide) ?_
              exact ih (k + 1) md (by omega) (by omega) (by rw [cntB]; grind) _ _ hW hS _ (lv_sub hl [1, 2, 3, 4, 0] rfl)
            · refine lv_aload_n hx hb dX0_countBehind_44 rfl (lv_at hl 0 rfl) ?_
              refine g_get (r := (5, 0)) (Cn := RX0) (T := TX0) (N := 6) (ci := 3) (v := .ref (ad (8, 0))) C tinX0 hW m5 rfl rfl 3 (by decide) tw_1_77 (fun _ h9 => h9) rfl dX0_countBehind_45 ?_
              refine lv_iload hx hb dX0_countBehind_48 (lv_at hl 4 rfl) ?_
              refine g_zald (r := (8, 0)) (n := 512) (f := ca 8 0) C hW m8 rfl (vp_in_nI (N := 512) (by omega) (by decide)) dX0_countBehind_50 ?_
              refine lv_topE (y := (ca 8 0) k) (by rw [nI_clamp (by omega)]) ?_
              refine lv_topi (fun x9 ex9 => ?_)
              refine lv_if_ne (tgt := 57) hx hb dX0_countBehind_51 (by decide) (fun c10 => ?_) (fun c10 => ?_)
              · refine lv_iinc (v := nI (k + 1)) (lv' := [(4, .int (nI (k + 1))), (0, .ref (ad (5, 0))), (1, .int sh), (2, .int mn), (3, .int md)]) hx hb dX0_countBehind_57 hl (k := 4) rfl (nI_1 k) (by decide) rfl (fun ls hl => ?_)
                refine lv_goto (tgt := 5) hx hb dX0_countBehind_60 (by decide) ?_
                exact ih (k + 1) md (by omega) (by omega) (by rw [cntB]; grind) _ _ hW hS _ (lv_sub hl [1, 2, 3, 4, 0] rfl)
              · obtain ⟨x12, ex12⟩ : ∃ z : Int32, z = md + 1 := ⟨_, rfl⟩
                refine lv_iinc (v := x12) (lv' := [(3, .int x12), (0, .ref (ad (5, 0))), (1, .int sh), (2, .int mn), (4, .int (nI k))]) hx hb dX0_countBehind_54 hl (k := 3) rfl (by rw [ex12]; rfl) (by decide) rfl (fun ls hl => ?_)
                refine lv_iinc (v := nI (k + 1)) (lv' := [(4, .int (nI (k + 1))), (3, .int x12), (0, .ref (ad (5, 0))), (1, .int sh), (2, .int mn)]) hx hb dX0_countBehind_57 hl (k := 4) rfl (nI_1 k) (by decide) rfl (fun ls hl => ?_)
                refine lv_goto (tgt := 5) hx hb dX0_countBehind_60 (by decide) ?_
                exact ih (k + 1) x12 (by omega) (by omega) (by rw [cntB]; grind) _ _ hW hS _ (lv_sub hl [2, 3, 4, 1, 0] rfl)
  refine lv_iconst (v := 0) hx hb dX0_countBehind_0 (by decide) ?_
  refine lv_istore_n (lv' := [(3, .int 0), (0, .ref (ad (5, 0))), (1, .int sh), (2, .int mn)]) hx hb dX0_countBehind_1 rfl hl (by decide) rfl (fun ls hl => ?_)
  refine lv_iconst (v := 0) hx hb dX0_countBehind_2 (by decide) ?_
  refine lv_istore (lv' := [(4, .int 0), (3, .int 0), (0, .ref (ad (5, 0))), (1, .int sh), (2, .int mn)]) hx hb dX0_countBehind_3 hl (by decide) rfl (fun ls hl => ?_)
  exact loop _ 0 0 (Nat.lt_succ_self _) (by omega) rfl _ _ hW hS _ (lv_sub hl [2, 3, 4, 1, 0] rfl)

set_option maxHeartbeats 4000000 in
set_option maxRecDepth 100000 in
theorem c_X5_keepCall (l : Launch) (X : GX) (L : List ro) (ad : ro → Nat) (st0 : ro → va_E) (ci : Nat → Nat → Int32) (ca : Nat → Nat → Nat → Int32) (cr : Nat → Nat → Nat) (i : Nat) (hr : (20, i) ∈ L) (hr2 : (21, i) ∈ L) (mn : Int32) (kp nx : Nat) (hkp : ci 24 i = nI kp) (hkp2 : kp ≤ 50) (hnx : ci 25 i = nI nx) (hnx2 : nx ≤ 50) : cMv l yX5_keepCall cX5_keepCall 2 none 1 14 X [.ref (ad (20, i)), .int mn] L ad st0 ci ca cr (fun ci' ca' cr' => ci' = up2 (up2 ci 25 i (nI ((if nx < 50 then nx else 0) + 1))) 24 i (nI (if kp < (if nx < 50 then nx else 0) + 1 then (if nx < 50 then nx else 0) + 1 else kp)) ∧ ca' = ua2 ca 21 i (upd (ca 21 i) (if nx < 50 then nx else 0) mn) ∧ cr' = cr) := by
  intro sz
  refine gM_of2 (Qc := fun A => va_Qv _ (gB X A) A) (by decide) (Nat.le_of_ble_eq_true rfl) ?_ sz
  intro p e s m args below meth c A R Q hR hQ C hW hS ls hl
  obtain ⟨hR1, hR2, hR3, hR4⟩ := hR
  have hx := C.1.1
  have hb := C.1.2.1
  have hml := C.1.2.2.1
  have hl : lv_has ls 2 [(0, .ref (ad (20, i))), (1, .int mn)] := hl
  refine lv_aload_n hx hb dX5_keepCall_0 rfl (lv_at hl 0 rfl) ?_
  refine g_get (r := (20, i)) (Cn := RX5) (T := TX5) (N := 7) (ci := 8) (v := .int (ci 25 i)) C tinX5 hW hr rfl rfl 6 (by decide) tw_1_139 (fun _ h9 => h9) rfl dX5_keepCall_1 ?_
  refine lv_topE (y := nI nx) (by show ci 25 i = nI nx; exact hnx) ?_
  refine lv_if_lt (tgt := 19) hx hb dX5_keepCall_4 (by decide) (fun c9 => absurd c9 (nI_pos (by omega))) (fun _ => ?_)
  refine lv_aload_n hx hb dX5_keepCall_7 rfl (lv_at hl 0 rfl) ?_
  refine g_get (r := (20, i)) (Cn := RX5) (T := TX5) (N := 7) (ci := 8) (v := .int (ci 25 i)) C tinX5 hW hr rfl rfl 6 (by decide) tw_1_139 (fun _ h9 => h9) rfl dX5_keepCall_8 ?_
  refine lv_topE (y := nI nx) (by show ci 25 i = nI nx; exact hnx) ?_
  refine lv_aload_n hx hb dX5_keepCall_11 rfl (lv_at hl 0 rfl) ?_
  refine g_get (r := (20, i)) (Cn := RX5) (T := TX5) (N := 7) (ci := 8) (v := .ref (ad (21, i))) C tinX5 hW hr rfl rfl 4 (by decide) tw_1_137 (fun _ h9 => h9) rfl dX5_keepCall_12 ?_
  refine g_alen (r := (21, i)) (t0 := 2) (v := 50) C hW hr2 rfl rfl rfl dX5_keepCall_15 ?_
  refine lv_icmp_lt (tgt := 24) hx hb dX5_keepCall_16 (by decide) (fun c1 => ?_) (fun c1 => ?_)
  · have c1n := q_lt (a := nx) (b := 50) (by omega) (by omega) c1
    refine lv_aload_n hx hb dX5_keepCall_24 rfl (lv_at hl 0 rfl) ?_
    refine g_get (r := (20, i)) (Cn := RX5) (T := TX5) (N := 7) (ci := 8) (v := .ref (ad (21, i))) C tinX5 hW hr rfl rfl 4 (by decide) tw_1_137 (fun _ h9 => h9) rfl dX5_keepCall_25 ?_
    refine lv_aload_n hx hb dX5_keepCall_28 rfl (lv_at hl 0 rfl) ?_
    refine g_get (r := (20, i)) (Cn := RX5) (T := TX5) (N := 7) (ci := 8) (v := .int (ci 25 i)) C tinX5 hW hr rfl rfl 6 (by decide) tw_1_139 (fun _ h9 => h9) rfl dX5_keepCall_29 ?_
    refine lv_topE (y := nI nx) (by show ci 25 i = nI nx; exact hnx) ?_
    refine lv_iload_n hx hb dX5_keepCall_32 rfl (lv_at hl 1 rfl) ?_
    refine g_iast (r := (21, i)) (n := 50) (f := ca 21 i) (st2 := cSt X ad st0 ci (ua2 ca 21 i (upd (ca 21 i) nx mn)) cr) C hW hS hr2 rfl (vp_in_nI (N := 50) (by omega) (by decide)) (by rw [nI_clamp (by omega)]; exact cR_21 i _) dX5_keepCall_33 (fun H locs hW hS => ?_)
    refine lv_aload_n hx hb dX5_keepCall_34 rfl (lv_at hl 0 rfl) ?_
    refine lv_dup hx hb dX5_keepCall_35 rfl ?_
    refine g_get (r := (20, i)) (Cn := RX5) (T := TX5) (N := 7) (ci := 8) (v := .int (ci 25 i)) C tinX5 hW hr rfl rfl 6 (by decide) tw_1_139 (fun _ h9 => h9) rfl dX5_keepCall_36 ?_
    refine lv_topE (y := nI nx) (by show ci 25 i = nI nx; exact hnx) ?_
    refine lv_iconst (v := 1) hx hb dX5_keepCall_39 (by decide) ?_
    refine lv_iadd hx hb dX5_keepCall_40 ?_
    refine lv_topE (y := nI (nx + 1)) (nI_1 nx) ?_
    refine g_put (r := (20, i)) (Cn := RX5) (T := TX5) (N := 7) (ci := 8) (ty0 := tyX5) C tinX5 tyX5_ok nmX5 hW hS hr rfl rfl 6 (by decide) tw_1_139 (fun _ h9 => h9) rfl rfl rfl (Nat.le_of_ble_eq_true rfl) (cU_20_6 i _ _ rfl) dX5_keepCall_41 (fun H locs hW hS => ?_)
    refine lv_aload_n hx hb dX5_keepCall_44 rfl (lv_at hl 0 rfl) ?_
    refine lv_aload_n hx hb dX5_keepCall_45 rfl (lv_at hl 0 rfl) ?_
    refine g_get (r := (20, i)) (Cn := RX5) (T := TX5) (N := 7) (ci := 8) (v := .int (ci 24 i)) C tinX5 hW hr rfl rfl 5 (by decide) tw_1_138 (fun _ h9 => h9) rfl dX5_keepCall_46 ?_
    refine lv_topE (y := nI kp) (by show ci 24 i = nI kp; exact hkp) ?_
    refine lv_aload_n hx hb dX5_keepCall_49 rfl (lv_at hl 0 rfl) ?_
    refine g_get (r := (20, i)) (Cn := RX5) (T := TX5) (N := 7) (ci := 8) (v := .int ((up2 ci 25 i (nI (nx + 1))) 25 i)) C tinX5 hW hr rfl rfl 6 (by decide) tw_1_139 (fun _ h9 => h9) rfl dX5_keepCall_50 ?_
    refine lv_topE (y := nI (nx + 1)) (by show (up2 ci 25 i (nI (nx + 1))) 25 i = nI (nx + 1); exact up2_at) ?_
    refine va_mmax hx hb (hml.trans hl.1.symm) C.1.2.2.2.1 (C.1.2.2.2.2 _ tw_4_128) (C.1.2.2.2.2 _ tw_2_61) (C.1.2.2.2.2 _ tw_1_19) (C.1.2.2.2.2 _ tw_2_62) (by rw [hR1]; exact Nat.le_of_ble_eq_true rfl) (by rw [hR2]; exact Nat.le_of_ble_eq_true rfl) (by rw [hR3]; exact Nat.zero_le _) (by rw [hR4]; exact Nat.zero_le _) dX5_keepCall_53 ?_
    refine lv_topE (y := nI (if kp < nx + 1 then nx + 1 else kp)) (nI_max (a := kp) (b := nx + 1) (by omega) (by omega)) ?_
    refine g_put (r := (20, i)) (Cn := RX5) (T := TX5) (N := 7) (ci := 8) (ty0 := tyX5) C tinX5 tyX5_ok nmX5 hW hS hr rfl rfl 5 (by decide) tw_1_138 (fun _ h9 => h9) rfl rfl rfl (Nat.le_of_ble_eq_true rfl) (cU_20_5 i _ _ rfl) dX5_keepCall_56 (fun H locs hW hS => ?_)
    exact g_vret2 C hQ hW hS ⟨_, _, _, rfl, by rw [show (if nx < 50 then nx else 0) = nx from if_pos (by omega)] <;> rfl, by rw [show (if nx < 50 then nx else 0) = nx from if_pos (by omega)], rfl⟩ (Nat.zero_le _) (Nat.zero_le _) dX5_keepCall_59
  · have c1n := q_nlt (a := nx) (b := 50) (by omega) (by omega) c1
    refine lv_aload_n hx hb dX5_keepCall_19 rfl (lv_at hl 0 rfl) ?_
    refine lv_iconst (v := 0) hx hb dX5_keepCall_20 (by decide) ?_
    refine g_put (r := (20, i)) (Cn := RX5) (T := TX5) (N := 7) (ci := 8) (ty0 := tyX5) C tinX5 tyX5_ok nmX5 hW hS hr rfl rfl 6 (by decide) tw_1_139 (fun _ h9 => h9) rfl rfl rfl (Nat.le_of_ble_eq_true rfl) (cU_20_6 i _ _ rfl) dX5_keepCall_21 (fun H locs hW hS => ?_)
    refine lv_aload_n hx hb dX5_keepCall_24 rfl (lv_at hl 0 rfl) ?_
    refine g_get (r := (20, i)) (Cn := RX5) (T := TX5) (N := 7) (ci := 8) (v := .ref (ad (21, i))) C tinX5 hW hr rfl rfl 4 (by decide) tw_1_137 (fun _ h9 => h9) rfl dX5_keepCall_25 ?_
    refine lv_aload_n hx hb dX5_keepCall_28 rfl (lv_at hl 0 rfl) ?_
    refine g_get (r := (20, i)) (Cn := RX5) (T := TX5) (N := 7) (ci := 8) (v := .int ((up2 ci 25 i 0) 25 i)) C tinX5 hW hr rfl rfl 6 (by decide) tw_1_139 (fun _ h9 => h9) rfl dX5_keepCall_29 ?_
    refine lv_topE (y := 0) (by show (up2 ci 25 i 0) 25 i = 0; exact up2_at) ?_
    refine lv_iload_n hx hb dX5_keepCall_32 rfl (lv_at hl 1 rfl) ?_
    refine g_iast (r := (21, i)) (n := 50) (f := ca 21 i) (st2 := cSt X ad st0 (up2 ci 25 i 0) (ua2 ca 21 i (upd (ca 21 i) 0 mn)) cr) C hW hS hr2 rfl (vp_in_nI (n := 0) (N := 50) (by decide) (by decide)) (by rw [show (0 : Int32).toNatClampNeg = 0 from by decide]; exact cR_21 i _) dX5_keepCall_33 (fun H locs hW hS => ?_)
    refine lv_aload_n hx hb dX5_keepCall_34 rfl (lv_at hl 0 rfl) ?_
    refine lv_dup hx hb dX5_keepCall_35 rfl ?_
    refine g_get (r := (20, i)) (Cn := RX5) (T := TX5) (N := 7) (ci := 8) (v := .int ((up2 ci 25 i 0) 25 i)) C tinX5 hW hr rfl rfl 6 (by decide) tw_1_139 (fun _ h9 => h9) rfl dX5_keepCall_36 ?_
    refine lv_topE (y := 0) (by show (up2 ci 25 i 0) 25 i = 0; exact up2_at) ?_
    refine lv_iconst (v := 1) hx hb dX5_keepCall_39 (by decide) ?_
    refine lv_iadd hx hb dX5_keepCall_40 ?_
    refine lv_topE (y := 1) (by decide) ?_
    refine g_put (r := (20, i)) (Cn := RX5) (T := TX5) (N := 7) (ci := 8) (ty0 := tyX5) C tinX5 tyX5_ok nmX5 hW hS hr rfl rfl 6 (by decide) tw_1_139 (fun _ h9 => h9) rfl rfl rfl (Nat.le_of_ble_eq_true rfl) (cU_20_6 i _ _ rfl) dX5_keepCall_41 (fun H locs hW hS => ?_)
    rw [up2_same] at hW
    refine lv_aload_n hx hb dX5_keepCall_44 rfl (lv_at hl 0 rfl) ?_
    refine lv_aload_n hx hb dX5_keepCall_45 rfl (lv_at hl 0 rfl) ?_
    refine g_get (r := (20, i)) (Cn := RX5) (T := TX5) (N := 7) (ci := 8) (v := .int (ci 24 i)) C tinX5 hW hr rfl rfl 5 (by decide) tw_1_138 (fun _ h9 => h9) rfl dX5_keepCall_46 ?_
    refine lv_topE (y := nI kp) (by show ci 24 i = nI kp; exact hkp) ?_
    refine lv_aload_n hx hb dX5_keepCall_49 rfl (lv_at hl 0 rfl) ?_
    refine g_get (r := (20, i)) (Cn := RX5) (T := TX5) (N := 7) (ci := 8) (v := .int ((up2 ci 25 i 1) 25 i)) C tinX5 hW hr rfl rfl 6 (by decide) tw_1_139 (fun _ h9 => h9) rfl dX5_keepCall_50 ?_
    refine lv_topE (y := 1) (by show (up2 ci 25 i 1) 25 i = 1; exact up2_at) ?_
    refine va_mmax hx hb (hml.trans hl.1.symm) C.1.2.2.2.1 (C.1.2.2.2.2 _ tw_4_128) (C.1.2.2.2.2 _ tw_2_61) (C.1.2.2.2.2 _ tw_1_19) (C.1.2.2.2.2 _ tw_2_62) (by rw [hR1]; exact Nat.le_of_ble_eq_true rfl) (by rw [hR2]; exact Nat.le_of_ble_eq_true rfl) (by rw [hR3]; exact Nat.zero_le _) (by rw [hR4]; exact Nat.zero_le _) dX5_keepCall_53 ?_
    refine lv_topE (y := nI (if kp < 1 then 1 else kp)) (nI_max (a := kp) (b := 1) (by omega) (by decide)) ?_
    refine g_put (r := (20, i)) (Cn := RX5) (T := TX5) (N := 7) (ci := 8) (ty0 := tyX5) C tinX5 tyX5_ok nmX5 hW hS hr rfl rfl 5 (by decide) tw_1_138 (fun _ h9 => h9) rfl rfl rfl (Nat.le_of_ble_eq_true rfl) (cU_20_5 i _ _ rfl) dX5_keepCall_56 (fun H locs hW hS => ?_)
    exact g_vret2 C hQ hW hS ⟨_, _, _, rfl, by rw [show (if nx < 50 then nx else 0) = 0 from if_neg (by omega)] <;> rfl, by rw [show (if nx < 50 then nx else 0) = 0 from if_neg (by omega)], rfl⟩ (Nat.zero_le _) (Nat.zero_le _) dX5_keepCall_59

set_option maxHeartbeats 4000000 in
set_option maxRecDepth 100000 in
theorem c_X0_add (l : Launch) (X : GX) (L : List ro) (ad : ro → Nat) (st0 : ro → va_E) (ci : Nat → Nat → Int32) (ca : Nat → Nat → Nat → Int32) (cr : Nat → Nat → Nat) (m5 : (5, 0) ∈ L) (m6 : (6, 0) ∈ L) (m7 : (7, 0) ∈ L) (m8 : (8, 0) ∈ L) (sh mn li : Int32) (kp nx : Nat) (hkp : ci 6 0 = nI kp) (hkp2 : kp ≤ 512) (hnx : ci 7 0 = nI nx) (hnx2 : nx < 512) : cMv l yX0_add cX0_add 4 none 1 14 X [.ref (ad (5, 0)), .int sh, .int mn, .int li] L ad st0 ci ca cr (fun ci' ca' cr' => ci' = up2 (up2 (up2 ci 7 0 (nI (nx + 1))) 6 0 (nI (if kp < nx + 1 then nx + 1 else kp))) 5 0 (ci 5 0 + 1) ∧ ca' = ua2 (ua2 (ua2 ca 6 0 (upd (ca 6 0) nx sh)) 7 0 (upd (ca 7 0) nx mn)) 8 0 (upd (ca 8 0) nx (vp_nar .boolean li)) ∧ cr' = cr) := by
  intro sz
  refine gM_of2 (Qc := fun A => va_Qv _ (gB X A) A) (by decide) (Nat.le_of_ble_eq_true rfl) ?_ sz
  intro p e s m args below meth c A R Q hR hQ C hW hS ls hl
  obtain ⟨hR1, hR2, hR3, hR4⟩ := hR
  have hx := C.1.1
  have hb := C.1.2.1
  have hml := C.1.2.2.1
  have hl : lv_has ls 4 [(0, .ref (ad (5, 0))), (1, .int sh), (2, .int mn), (3, .int li)] := hl
  refine lv_aload_n hx hb dX0_add_0 rfl (lv_at hl 0 rfl) ?_
  refine g_get (r := (5, 0)) (Cn := RX0) (T := TX0) (N := 6) (ci := 3) (v := .int (ci 7 0)) C tinX0 hW m5 rfl rfl 5 (by decide) tw_1_79 (fun _ h9 => h9) rfl dX0_add_1 ?_
  refine lv_topE (y := nI nx) (by show ci 7 0 = nI nx; exact hnx) ?_
  refine lv_if_lt (tgt := 17) hx hb dX0_add_4 (by decide) (fun c9 => absurd c9 (nI_pos (by omega))) (fun _ => ?_)
  refine lv_aload_n hx hb dX0_add_7 rfl (lv_at hl 0 rfl) ?_
  refine g_get (r := (5, 0)) (Cn := RX0) (T := TX0) (N := 6) (ci := 3) (v := .int (ci 7 0)) C tinX0 hW m5 rfl rfl 5 (by decide) tw_1_79 (fun _ h9 => h9) rfl dX0_add_8 ?_
  refine lv_topE (y := nI nx) (by show ci 7 0 = nI nx; exact hnx) ?_
  refine lv_sipush (v := 512) hx hb dX0_add_11 (by decide) ?_
  refine lv_icmp_lt (tgt := 22) hx hb dX0_add_14 (by decide) (fun _ => ?_) (fun c9 => absurd (nI_lt (a := nx) (b := 512) (by omega) (by decide)) c9)
  refine lv_aload_n hx hb dX0_add_22 rfl (lv_at hl 0 rfl) ?_
  refine g_get (r := (5, 0)) (Cn := RX0) (T := TX0) (N := 6) (ci := 3) (v := .ref (ad (6, 0))) C tinX0 hW m5 rfl rfl 1 (by decide) tw_1_75 (fun _ h9 => h9) rfl dX0_add_23 ?_
  refine lv_aload_n hx hb dX0_add_26 rfl (lv_at hl 0 rfl) ?_
  refine g_get (r := (5, 0)) (Cn := RX0) (T := TX0) (N := 6) (ci := 3) (v := .int (ci 7 0)) C tinX0 hW m5 rfl rfl 5 (by decide) tw_1_79 (fun _ h9 => h9) rfl dX0_add_27 ?_
  refine lv_topE (y := nI nx) (by show ci 7 0 = nI nx; exact hnx) ?_
  refine lv_iload_n hx hb dX0_add_30 rfl (lv_at hl 1 rfl) ?_
  refine g_iast (r := (6, 0)) (n := 512) (f := ca 6 0) (st2 := cSt X ad st0 ci (ua2 ca 6 0 (upd (ca 6 0) nx sh)) cr) C hW hS m6 rfl (vp_in_nI (N := 512) (by omega) (by decide)) (by rw [nI_clamp (by omega)]; exact cR_6 0 _) dX0_add_31 (fun H locs hW hS => ?_)
  refine lv_aload_n hx hb dX0_add_32 rfl (lv_at hl 0 rfl) ?_
  refine g_get (r := (5, 0)) (Cn := RX0) (T := TX0) (N := 6) (ci := 3) (v := .ref (ad (7, 0))) C tinX0 hW m5 rfl rfl 2 (by decide) tw_1_76 (fun _ h9 => h9) rfl dX0_add_33 ?_
  refine lv_aload_n hx hb dX0_add_36 rfl (lv_at hl 0 rfl) ?_
  refine g_get (r := (5, 0)) (Cn := RX0) (T := TX0) (N := 6) (ci := 3) (v := .int (ci 7 0)) C tinX0 hW m5 rfl rfl 5 (by decide) tw_1_79 (fun _ h9 => h9) rfl dX0_add_37 ?_
  refine lv_topE (y := nI nx) (by show ci 7 0 = nI nx; exact hnx) ?_
  refine lv_iload_n hx hb dX0_add_40 rfl (lv_at hl 2 rfl) ?_
  refine g_iast (r := (7, 0)) (n := 512) (f := ca 7 0) (st2 := cSt X ad st0 ci (ua2 (ua2 ca 6 0 (upd (ca 6 0) nx sh)) 7 0 (upd (ca 7 0) nx mn)) cr) C hW hS m7 rfl (vp_in_nI (N := 512) (by omega) (by decide)) (by rw [nI_clamp (by omega)]; exact cR_7 0 _) dX0_add_41 (fun H locs hW hS => ?_)
  refine lv_aload_n hx hb dX0_add_42 rfl (lv_at hl 0 rfl) ?_
  refine g_get (r := (5, 0)) (Cn := RX0) (T := TX0) (N := 6) (ci := 3) (v := .ref (ad (8, 0))) C tinX0 hW m5 rfl rfl 3 (by decide) tw_1_77 (fun _ h9 => h9) rfl dX0_add_43 ?_
  refine lv_aload_n hx hb dX0_add_46 rfl (lv_at hl 0 rfl) ?_
  refine g_get (r := (5, 0)) (Cn := RX0) (T := TX0) (N := 6) (ci := 3) (v := .int (ci 7 0)) C tinX0 hW m5 rfl rfl 5 (by decide) tw_1_79 (fun _ h9 => h9) rfl dX0_add_47 ?_
  refine lv_topE (y := nI nx) (by show ci 7 0 = nI nx; exact hnx) ?_
  refine lv_iload_n hx hb dX0_add_50 rfl (lv_at hl 3 rfl) ?_
  refine g_zast (r := (8, 0)) (n := 512) (f := ca 8 0) (st2 := cSt X ad st0 ci (ua2 (ua2 (ua2 ca 6 0 (upd (ca 6 0) nx sh)) 7 0 (upd (ca 7 0) nx mn)) 8 0 (upd (ca 8 0) nx (vp_nar .boolean li))) cr) C hW hS m8 rfl (vp_in_nI (N := 512) (by omega) (by decide)) (by rw [nI_clamp (by omega)]; exact cR_8 0 _) dX0_add_51 (fun H locs hW hS => ?_)
  refine lv_aload_n hx hb dX0_add_52 rfl (lv_at hl 0 rfl) ?_
  refine lv_dup hx hb dX0_add_53 rfl ?_
  refine g_get (r := (5, 0)) (Cn := RX0) (T := TX0) (N := 6) (ci := 3) (v := .int (ci 7 0)) C tinX0 hW m5 rfl rfl 5 (by decide) tw_1_79 (fun _ h9 => h9) rfl dX0_add_54 ?_
  refine lv_topE (y := nI nx) (by show ci 7 0 = nI nx; exact hnx) ?_
  refine lv_iconst (v := 1) hx hb dX0_add_57 (by decide) ?_
  refine lv_iadd hx hb dX0_add_58 ?_
  refine lv_topE (y := nI (nx + 1)) (nI_1 nx) ?_
  refine g_put (r := (5, 0)) (Cn := RX0) (T := TX0) (N := 6) (ci := 3) (ty0 := tyX0) C tinX0 tyX0_ok nmX0 hW hS m5 rfl rfl 5 (by decide) tw_1_79 (fun _ h9 => h9) rfl rfl rfl (Nat.le_of_ble_eq_true rfl) (cU_5_5 0 _ _ rfl) dX0_add_59 (fun H locs hW hS => ?_)
  refine lv_aload_n hx hb dX0_add_62 rfl (lv_at hl 0 rfl) ?_
  refine lv_aload_n hx hb dX0_add_63 rfl (lv_at hl 0 rfl) ?_
  refine g_get (r := (5, 0)) (Cn := RX0) (T := TX0) (N := 6) (ci := 3) (v := .int (ci 6 0)) C tinX0 hW m5 rfl rfl 4 (by decide) tw_1_78 (fun _ h9 => h9) rfl dX0_add_64 ?_
  refine lv_topE (y := nI kp) (by show ci 6 0 = nI kp; exact hkp) ?_
  refine lv_aload_n hx hb dX0_add_67 rfl (lv_at hl 0 rfl) ?_
  refine g_get (r := (5, 0)) (Cn := RX0) (T := TX0) (N := 6) (ci := 3) (v := .int ((up2 ci 7 0 (nI (nx + 1))) 7 0)) C tinX0 hW m5 rfl rfl 5 (by decide) tw_1_79 (fun _ h9 => h9) rfl dX0_add_68 ?_
  refine lv_topE (y := nI (nx + 1)) (by show (up2 ci 7 0 (nI (nx + 1))) 7 0 = nI (nx + 1); exact up2_at) ?_
  refine va_mmax hx hb (hml.trans hl.1.symm) C.1.2.2.2.1 (C.1.2.2.2.2 _ tw_5_32) (C.1.2.2.2.2 _ tw_2_61) (C.1.2.2.2.2 _ tw_1_19) (C.1.2.2.2.2 _ tw_2_62) (by rw [hR1]; exact Nat.le_of_ble_eq_true rfl) (by rw [hR2]; exact Nat.le_of_ble_eq_true rfl) (by rw [hR3]; exact Nat.zero_le _) (by rw [hR4]; exact Nat.zero_le _) dX0_add_71 ?_
  refine lv_topE (y := nI (if kp < nx + 1 then nx + 1 else kp)) (nI_max (a := kp) (b := nx + 1) (by omega) (by omega)) ?_
  refine g_put (r := (5, 0)) (Cn := RX0) (T := TX0) (N := 6) (ci := 3) (ty0 := tyX0) C tinX0 tyX0_ok nmX0 hW hS m5 rfl rfl 4 (by decide) tw_1_78 (fun _ h9 => h9) rfl rfl rfl (Nat.le_of_ble_eq_true rfl) (cU_5_4 0 _ _ rfl) dX0_add_74 (fun H locs hW hS => ?_)
  refine lv_aload_n hx hb dX0_add_77 rfl (lv_at hl 0 rfl) ?_
  refine lv_dup hx hb dX0_add_78 rfl ?_
  refine g_get (r := (5, 0)) (Cn := RX0) (T := TX0) (N := 6) (ci := 3) (v := .int (ci 5 0)) C tinX0 hW m5 rfl rfl 0 (by decide) tw_1_73 (fun _ h9 => h9) rfl dX0_add_79 ?_
  refine lv_iconst (v := 1) hx hb dX0_add_82 (by decide) ?_
  refine lv_iadd hx hb dX0_add_83 ?_
  refine lv_topi (fun x1 ex1 => ?_)
  refine g_put (r := (5, 0)) (Cn := RX0) (T := TX0) (N := 6) (ci := 3) (ty0 := tyX0) C tinX0 tyX0_ok nmX0 hW hS m5 rfl rfl 0 (by decide) tw_1_73 (fun _ h9 => h9) rfl rfl rfl (Nat.le_of_ble_eq_true rfl) (cU_5_0 0 _ _ rfl) dX0_add_84 (fun H locs hW hS => ?_)
  exact g_vret2 C hQ hW hS ⟨_, _, _, rfl, by subst_vars; rfl, rfl, rfl⟩ (Nat.zero_le _) (Nat.zero_le _) dX0_add_87

set_option maxHeartbeats 4000000 in
set_option maxRecDepth 100000 in
theorem c_X4_append (l : Launch) (X : GX) (L : List ro) (ad : ro → Nat) (st0 : ro → va_E) (ci : Nat → Nat → Int32) (ca : Nat → Nat → Nat → Int32) (cr : Nat → Nat → Nat) (mA2 : (2, 0) ∈ L) (mA3 : (3, 0) ∈ L) (a : Int32) (n : Nat) (hn : ci 2 0 = nI n) (hn60 : n < 60) : cM l yX4_append cX4_append 2 (some .int) 0 0 X [.ref (ad (2, 0)), .int a] L ad st0 ci ca cr (fun v ci' ca' cr' => ci' = up2 ci 2 0 (nI (n + 1)) ∧ ca' = ua2 ca 3 0 (upd (ca 3 0) n (vp_nar .char a)) ∧ cr' = cr ∧ v = nI (n + 1)) := by
  intro sz
  refine gM_of2 (Qc := fun A => va_Qi _ (gB X A) A) (by decide) (Nat.le_of_ble_eq_true rfl) ?_ sz
  intro p e s m args below meth c A R Q hR hQ C hW hS ls hl
  obtain ⟨hR1, hR2, hR3, hR4⟩ := hR
  have hx := C.1.1
  have hb := C.1.2.1
  have hml := C.1.2.2.1
  have hl : lv_has ls 2 [(0, .ref (ad (2, 0))), (1, .int a)] := hl
  refine lv_aload_n hx hb dX4_append_0 rfl (lv_at hl 0 rfl) ?_
  refine g_get (r := (2, 0)) (Cn := RX4) (T := TX4) (N := 5) (ci := 7) (v := .int (ci 2 0)) C tinX4 hW mA2 rfl rfl 2 (by decide) tw_1_50 (fun _ h9 => h9) rfl dX4_append_1 ?_
  refine lv_topE (y := nI n) (by show ci 2 0 = nI n; exact hn) ?_
  refine lv_aload_n hx hb dX4_append_4 rfl (lv_at hl 0 rfl) ?_
  refine g_get (r := (2, 0)) (Cn := RX4) (T := TX4) (N := 5) (ci := 7) (v := .ref (ad (3, 0))) C tinX4 hW mA2 rfl rfl 0 (by decide) tw_1_48 (fun _ h9 => h9) rfl dX4_append_5 ?_
  refine g_alen (r := (3, 0)) (t0 := 1) (v := 60) C hW mA3 rfl rfl rfl dX4_append_8 ?_
  refine lv_icmp_ge (tgt := 32) hx hb dX4_append_9 (by decide) (fun c9 => absurd c9 (nI_ge (a := n) (b := 60) (by omega) (by decide))) (fun _ => ?_)
  refine lv_aload_n hx hb dX4_append_12 rfl (lv_at hl 0 rfl) ?_
  refine g_get (r := (2, 0)) (Cn := RX4) (T := TX4) (N := 5) (ci := 7) (v := .ref (ad (3, 0))) C tinX4 hW mA2 rfl rfl 0 (by decide) tw_1_48 (fun _ h9 => h9) rfl dX4_append_13 ?_
  refine lv_aload_n hx hb dX4_append_16 rfl (lv_at hl 0 rfl) ?_
  refine g_get (r := (2, 0)) (Cn := RX4) (T := TX4) (N := 5) (ci := 7) (v := .int (ci 2 0)) C tinX4 hW mA2 rfl rfl 2 (by decide) tw_1_50 (fun _ h9 => h9) rfl dX4_append_17 ?_
  refine lv_topE (y := nI n) (by show ci 2 0 = nI n; exact hn) ?_
  refine lv_iload_n hx hb dX4_append_20 rfl (lv_at hl 1 rfl) ?_
  refine g_cast (r := (3, 0)) (n := 60) (f := ca 3 0) (st2 := cSt X ad st0 ci (ua2 ca 3 0 (upd (ca 3 0) n (vp_nar .char a))) cr) C hW hS mA3 rfl (vp_in_nI (N := 60) (by omega) (by decide)) (by rw [nI_clamp (by omega)]; exact cR_3 0 _) dX4_append_21 (fun H locs hW hS => ?_)
  refine lv_aload_n hx hb dX4_append_22 rfl (lv_at hl 0 rfl) ?_
  refine lv_dup hx hb dX4_append_23 rfl ?_
  refine g_get (r := (2, 0)) (Cn := RX4) (T := TX4) (N := 5) (ci := 7) (v := .int (ci 2 0)) C tinX4 hW mA2 rfl rfl 2 (by decide) tw_1_50 (fun _ h9 => h9) rfl dX4_append_24 ?_
  refine lv_topE (y := nI n) (by show ci 2 0 = nI n; exact hn) ?_
  refine lv_iconst (v := 1) hx hb dX4_append_27 (by decide) ?_
  refine lv_iadd hx hb dX4_append_28 ?_
  refine lv_topE (y := nI (n + 1)) (nI_1 n) ?_
  refine g_put (r := (2, 0)) (Cn := RX4) (T := TX4) (N := 5) (ci := 7) (ty0 := tyX4) C tinX4 tyX4_ok nmX4 hW hS mA2 rfl rfl 2 (by decide) tw_1_50 (fun _ h9 => h9) rfl rfl rfl (Nat.le_of_ble_eq_true rfl) (cU_2_2 0 _ _ rfl) dX4_append_29 (fun H locs hW hS => ?_)
  refine lv_aload_n hx hb dX4_append_32 rfl (lv_at hl 0 rfl) ?_
  refine g_get (r := (2, 0)) (Cn := RX4) (T := TX4) (N := 5) (ci := 7) (v := .int ((up2 ci 2 0 (nI (n + 1))) 2 0)) C tinX4 hW mA2 rfl rfl 2 (by decide) tw_1_50 (fun _ h9 => h9) rfl dX4_append_33 ?_
  refine lv_topE (y := nI (n + 1)) (by show (up2 ci 2 0 (nI (n + 1))) 2 0 = nI (n + 1); exact up2_at) ?_
  exact g_iret2 C hQ hW hS ⟨_, _, _, rfl, rfl, rfl, rfl, rfl⟩ rfl (Nat.zero_le _) (Nat.zero_le _) dX4_append_36

set_option maxHeartbeats 4000000 in
set_option maxRecDepth 100000 in
theorem c_X1_succeedsAt (l : Launch) (X : GX) (L : List ro) (ad : ro → Nat) (st0 : ro → va_E) (ci : Nat → Nat → Int32) (ca : Nat → Nat → Nat → Int32) (cr : Nat → Nat → Nat) (i : Nat) (hr : (30, i) ∈ L) (mn : Int32) : cM l yX1_succeedsAt cX1_succeedsAt 3 (some .boolean) 1 21 X [.ref (ad (30, i)), .int mn] L ad st0 ci ca cr (fun v ci' ca' cr' => ci' = cset ci i (tryC mn (ci 30 i) (ci 31 i) (ccr ci i)).2 ∧ ca' = ca ∧ cr' = cr ∧ (((tryC mn (ci 30 i) (ci 31 i) (ccr ci i)).1 = 1 ∧ v = 1) ∨ ((tryC mn (ci 30 i) (ci 31 i) (ccr ci i)).1 = 0 ∧ v = 0))) := by
  intro sz
  refine gM_of2 (Qc := fun A => va_Qi _ (gB X A) A) (by decide) (Nat.le_of_ble_eq_true rfl) ?_ sz
  intro p e s m args below meth c A R Q hR hQ C hW hS ls hl
  obtain ⟨hR1, hR2, hR3, hR4⟩ := hR
  have hx := C.1.1
  have hb := C.1.2.1
  have hml := C.1.2.2.1
  have hl : lv_has ls 3 [(0, .ref (ad (30, i))), (1, .int mn)] := hl
  refine lv_aload_n hx hb dX1_succeedsAt_0 rfl (lv_at hl 0 rfl) ?_
  refine lv_dup hx hb dX1_succeedsAt_1 rfl ?_
  refine g_get (r := (30, i)) (Cn := RX1) (T := TX1) (N := 7) (ci := 4) (v := .int (ci 32 i)) C tinX1 hW hr rfl rfl 2 (by decide) tw_1_184 (fun _ h9 => h9) rfl dX1_succeedsAt_2 ?_
  refine lv_iconst (v := 1) hx hb dX1_succeedsAt_5 (by decide) ?_
  refine lv_iadd hx hb dX1_succeedsAt_6 ?_
  refine lv_topi (fun x1 ex1 => ?_)
  refine g_put (r := (30, i)) (Cn := RX1) (T := TX1) (N := 7) (ci := 4) (ty0 := tyX1) C tinX1 tyX1_ok nmX1 hW hS hr rfl rfl 2 (by decide) tw_1_184 (fun _ h9 => h9) rfl rfl rfl (Nat.le_of_ble_eq_true rfl) (cU_30_2 i _ _ rfl) dX1_succeedsAt_7 (fun H locs hW hS => ?_)
  refine lv_aload_n hx hb dX1_succeedsAt_10 rfl (lv_at hl 0 rfl) ?_
  refine g_get (r := (30, i)) (Cn := RX1) (T := TX1) (N := 7) (ci := 4) (v := .int (ci 31 i)) C tinX1 hW hr rfl rfl 1 (by decide) tw_1_182 (fun _ h9 => h9) rfl dX1_succeedsAt_11 ?_
  refine lv_if_le (tgt := 33) hx hb dX1_succeedsAt_14 (by decide) (fun c2 => ?_) (fun c2 => ?_)
  · refine lv_iconst (v := 0) hx hb dX1_succeedsAt_33 (by decide) ?_
    refine lv_istore_n (lv' := [(2, .int 0), (0, .ref (ad (30, i))), (1, .int mn)]) hx hb dX1_succeedsAt_34 rfl hl (by decide) rfl (fun ls hl => ?_)
    refine lv_aload_n hx hb dX1_succeedsAt_35 rfl (lv_at hl 1 rfl) ?_
    refine g_get (r := (30, i)) (Cn := RX1) (T := TX1) (N := 7) (ci := 4) (v := .int (ci 30 i)) C tinX1 hW hr rfl rfl 0 (by decide) tw_1_180 (fun _ h9 => h9) rfl dX1_succeedsAt_36 ?_
    refine lv_if_eq (tgt := 58) hx hb dX1_succeedsAt_39 (by decide) (fun c3 => ?_) (fun c3 => ?_)
    · refine lv_aload_n hx hb dX1_succeedsAt_58 rfl (lv_at hl 1 rfl) ?_
      refine lv_dup hx hb dX1_succeedsAt_59 rfl ?_
      refine g_get (r := (30, i)) (Cn := RX1) (T := TX1) (N := 7) (ci := 4) (v := .int (ci 33 i)) C tinX1 hW hr rfl rfl 4 (by decide) tw_1_188 (fun _ h9 => h9) rfl dX1_succeedsAt_60 ?_
      refine lv_iconst (v := 1) hx hb dX1_succeedsAt_63 (by decide) ?_
      refine lv_iadd hx hb dX1_succeedsAt_64 ?_
      refine lv_topi (fun x4 ex4 => ?_)
      refine g_put (r := (30, i)) (Cn := RX1) (T := TX1) (N := 7) (ci := 4) (ty0 := tyX1) C tinX1 tyX1_ok nmX1 hW hS hr rfl rfl 4 (by decide) tw_1_188 (fun _ h9 => h9) rfl rfl rfl (Nat.le_of_ble_eq_true rfl) (cU_30_4 i _ _ rfl) dX1_succeedsAt_65 (fun H locs hW hS => ?_)
      refine lv_aload_n hx hb dX1_succeedsAt_68 rfl (lv_at hl 1 rfl) ?_
      refine g_get (r := (30, i)) (Cn := RX1) (T := TX1) (N := 7) (ci := 4) (v := .int ((up2 (up2 ci 32 i x1) 33 i x4) 33 i)) C tinX1 hW hr rfl rfl 4 (by decide) tw_1_188 (fun _ h9 => h9) rfl dX1_succeedsAt_69 ?_
      refine lv_topE (y := x4) (by show (up2 (up2 ci 32 i x1) 33 i x4) 33 i = x4; exact up2_at) ?_
      refine lv_iconst (v := 5) hx hb dX1_succeedsAt_72 (by decide) ?_
      refine lv_icmp_ge (tgt := 85) hx hb dX1_succeedsAt_73 (by decide) (fun c5 => ?_) (fun c5 => ?_)
      · refine lv_aload_n hx hb dX1_succeedsAt_85 rfl (lv_at hl 1 rfl) ?_
        refine lv_iconst (v := 1) hx hb dX1_succeedsAt_86 (by decide) ?_
        refine g_put (r := (30, i)) (Cn := RX1) (T := TX1) (N := 7) (ci := 4) (ty0 := tyX1) C tinX1 tyX1_ok nmX1 hW hS hr rfl rfl 5 (by decide) tw_1_189 (fun _ h9 => h9) rfl (by decide) (by decide) (Nat.le_of_ble_eq_true rfl) (cU_30_5 i _ _ rfl) dX1_succeedsAt_87 (fun H locs hW hS => ?_)
        refine lv_aload_n hx hb dX1_succeedsAt_90 rfl (lv_at hl 1 rfl) ?_
        refine lv_iload_n hx hb dX1_succeedsAt_91 rfl (lv_at hl 2 rfl) ?_
        refine lv_bipush (v := 10) hx hb dX1_succeedsAt_92 (by decide) ?_
        refine lv_iadd hx hb dX1_succeedsAt_94 ?_
        refine lv_topi (fun x6 ex6 => ?_)
        refine g_put (r := (30, i)) (Cn := RX1) (T := TX1) (N := 7) (ci := 4) (ty0 := tyX1) C tinX1 tyX1_ok nmX1 hW hS hr rfl rfl 6 (by decide) tw_1_190 (fun _ h9 => h9) rfl rfl rfl (Nat.le_of_ble_eq_true rfl) (cU_30_6 i _ _ rfl) dX1_succeedsAt_95 (fun H locs hW hS => ?_)
        refine lv_iconst (v := 0) hx hb dX1_succeedsAt_98 (by decide) ?_
        exact g_iret2 C hQ hW hS ⟨_, _, _, rfl, (by rw [tryC_a (by unfold okC; simp only [ccr]; grind) (by simp only [ccr]; grind)]; subst_vars; rfl), rfl, rfl, Or.inr ⟨by rw [tryC_a (by unfold okC; simp only [ccr]; grind) (by simp only [ccr]; grind)], rfl⟩⟩ (by decide) (Nat.zero_le _) (Nat.zero_le _) dX1_succeedsAt_99
      · refine lv_aload_n hx hb dX1_succeedsAt_76 rfl (lv_at hl 1 rfl) ?_
        refine lv_iload_n hx hb dX1_succeedsAt_77 rfl (lv_at hl 2 rfl) ?_
        refine g_callVi (r := (30, i)) (T := TX1) (N := 7) (k2 := 1) (As := [.int mn]) (rest := []) C (c_X1_circuitAt l X L ad st0 (up2 (up2 ci 32 i x1) 33 i x4) ca cr i hr mn) tw_5_23 tw_5_16 tw_5_17 tw_1_8 tw_5_18 (by decide +kernel) ⟨by rw [hR1]; exact Nat.le_of_ble_eq_true rfl, by rw [hR2]; exact Nat.le_of_ble_eq_true rfl⟩ hW hS hr rfl rfl rfl hl.1 rfl (Nat.le_of_ble_eq_true rfl) dX1_succeedsAt_78 ⟨Nat.zero_le _, Nat.zero_le _⟩ (fun x7 L9 ad9 st9 H locs hp hW hS => ?_)
        obtain ⟨ci9, ca9, cr9, z0, hp⟩ := hp
        cases z0
        obtain ⟨z1, z2, z3, h8⟩ := hp
        rw [z1, z2, z3] at hW
        have h8b : x7 = crcC (ci 34 i) mn (ci 35 i) := h8
        refine lv_iconst (v := 2) hx hb dX1_succeedsAt_81 (by decide) ?_
        refine lv_icmp_ne (tgt := 98) hx hb dX1_succeedsAt_82 (by decide) (fun c9 => ?_) (fun c9 => ?_)
        · refine lv_iconst (v := 0) hx hb dX1_succeedsAt_98 (by decide) ?_
          exact g_iret2 C hQ hW hS ⟨_, _, _, rfl, (by rw [tryC_b (by unfold okC; simp only [ccr]; grind) (by simp only [ccr]; grind)]; subst_vars; exact cset_b.symm), rfl, rfl, Or.inr ⟨by rw [tryC_b (by unfold okC; simp only [ccr]; grind) (by simp only [ccr]; grind)], rfl⟩⟩ (by decide) (Nat.zero_le _) (Nat.zero_le _) dX1_succeedsAt_99
        · refine lv_aload_n hx hb dX1_succeedsAt_85 rfl (lv_at hl 1 rfl) ?_
          refine lv_iconst (v := 1) hx hb dX1_succeedsAt_86 (by decide) ?_
          refine g_put (r := (30, i)) (Cn := RX1) (T := TX1) (N := 7) (ci := 4) (ty0 := tyX1) C tinX1 tyX1_ok nmX1 hW hS hr rfl rfl 5 (by decide) tw_1_189 (fun _ h9 => h9) rfl (by decide) (by decide) (Nat.le_of_ble_eq_true rfl) (cU_30_5 i _ _ rfl) dX1_succeedsAt_87 (fun H locs hW hS => ?_)
          refine lv_aload_n hx hb dX1_succeedsAt_90 rfl (lv_at hl 1 rfl) ?_
          refine lv_iload_n hx hb dX1_succeedsAt_91 rfl (lv_at hl 2 rfl) ?_
          refine lv_bipush (v := 10) hx hb dX1_succeedsAt_92 (by decide) ?_
          refine lv_iadd hx hb dX1_succeedsAt_94 ?_
          refine lv_topi (fun x10 ex10 => ?_)
          refine g_put (r := (30, i)) (Cn := RX1) (T := TX1) (N := 7) (ci := 4) (ty0 := tyX1) C tinX1 tyX1_ok nmX1 hW hS hr rfl rfl 6 (by decide) tw_1_190 (fun _ h9 => h9) rfl rfl rfl (Nat.le_of_ble_eq_true rfl) (cU_30_6 i _ _ rfl) dX1_succeedsAt_95 (fun H locs hW hS => ?_)
          refine lv_iconst (v := 0) hx hb dX1_succeedsAt_98 (by decide) ?_
          exact g_iret2 C hQ hW hS ⟨_, _, _, rfl, (by rw [tryC_a (by unfold okC; simp only [ccr]; grind) (by simp only [ccr]; grind)]; subst_vars; rfl), rfl, rfl, Or.inr ⟨by rw [tryC_a (by unfold okC; simp only [ccr]; grind) (by simp only [ccr]; grind)], rfl⟩⟩ (by decide) (Nat.zero_le _) (Nat.zero_le _) dX1_succeedsAt_99
    · refine lv_iload_n hx hb dX1_succeedsAt_42 rfl (lv_at hl 0 rfl) ?_
      refine lv_if_ne (tgt := 58) hx hb dX1_succeedsAt_43 (by decide) (fun c9 => absurd c9 (by decide)) (fun _ => ?_)
      refine lv_aload_n hx hb dX1_succeedsAt_46 rfl (lv_at hl 1 rfl) ?_
      refine lv_iconst (v := 0) hx hb dX1_succeedsAt_47 (by decide) ?_
      refine g_put (r := (30, i)) (Cn := RX1) (T := TX1) (N := 7) (ci := 4) (ty0 := tyX1) C tinX1 tyX1_ok nmX1 hW hS hr rfl rfl 4 (by decide) tw_1_188 (fun _ h9 => h9) rfl rfl rfl (Nat.le_of_ble_eq_true rfl) (cU_30_4 i _ _ rfl) dX1_succeedsAt_48 (fun H locs hW hS => ?_)
      refine lv_aload_n hx hb dX1_succeedsAt_51 rfl (lv_at hl 1 rfl) ?_
      refine lv_iconst (v := 0) hx hb dX1_succeedsAt_52 (by decide) ?_
      refine g_put (r := (30, i)) (Cn := RX1) (T := TX1) (N := 7) (ci := 4) (ty0 := tyX1) C tinX1 tyX1_ok nmX1 hW hS hr rfl rfl 5 (by decide) tw_1_189 (fun _ h9 => h9) rfl (by decide) (by decide) (Nat.le_of_ble_eq_true rfl) (cU_30_5 i _ _ rfl) dX1_succeedsAt_53 (fun H locs hW hS => ?_)
      refine lv_iconst (v := 1) hx hb dX1_succeedsAt_56 (by decide) ?_
      exact g_iret2 C hQ hW hS ⟨_, _, _, rfl, (by rw [tryC_c (by unfold okC; simp only [ccr]; grind)]; subst_vars; exact cset_c.symm), rfl, rfl, Or.inl ⟨by rw [tryC_c (by unfold okC; simp only [ccr]; grind)], rfl⟩⟩ (by decide) (Nat.zero_le _) (Nat.zero_le _) dX1_succeedsAt_57
  · refine lv_aload_n hx hb dX1_succeedsAt_17 rfl (lv_at hl 0 rfl) ?_
    refine g_get (r := (30, i)) (Cn := RX1) (T := TX1) (N := 7) (ci := 4) (v := .int ((up2 ci 32 i x1) 32 i)) C tinX1 hW hr rfl rfl 2 (by decide) tw_1_184 (fun _ h9 => h9) rfl dX1_succeedsAt_18 ?_
    refine lv_topE (y := x1) (by show (up2 ci 32 i x1) 32 i = x1; exact up2_at) ?_
    refine lv_aload_n hx hb dX1_succeedsAt_21 rfl (lv_at hl 0 rfl) ?_
    refine g_get (r := (30, i)) (Cn := RX1) (T := TX1) (N := 7) (ci := 4) (v := .int (ci 31 i)) C tinX1 hW hr rfl rfl 1 (by decide) tw_1_182 (fun _ h9 => h9) rfl dX1_succeedsAt_22 ?_
    refine lv_irem hx hb dX1_succeedsAt_25 (by grind) ?_
    refine lv_topi (fun x11 ex11 => ?_)
    refine lv_if_ne (tgt := 33) hx hb dX1_succeedsAt_26 (by decide) (fun c12 => ?_) (fun c12 => ?_)
    · refine lv_iconst (v := 0) hx hb dX1_succeedsAt_33 (by decide) ?_
      refine lv_istore_n (lv' := [(2, .int 0), (0, .ref (ad (30, i))), (1, .int mn)]) hx hb dX1_succeedsAt_34 rfl hl (by decide) rfl (fun ls hl => ?_)
      refine lv_aload_n hx hb dX1_succeedsAt_35 rfl (lv_at hl 1 rfl) ?_
      refine g_get (r := (30, i)) (Cn := RX1) (T := TX1) (N := 7) (ci := 4) (v := .int (ci 30 i)) C tinX1 hW hr rfl rfl 0 (by decide) tw_1_180 (fun _ h9 => h9) rfl dX1_succeedsAt_36 ?_
      refine lv_if_eq (tgt := 58) hx hb dX1_succeedsAt_39 (by decide) (fun c13 => ?_) (fun c13 => ?_)
      · refine lv_aload_n hx hb dX1_succeedsAt_58 rfl (lv_at hl 1 rfl) ?_
        refine lv_dup hx hb dX1_succeedsAt_59 rfl ?_
        refine g_get (r := (30, i)) (Cn := RX1) (T := TX1) (N := 7) (ci := 4) (v := .int (ci 33 i)) C tinX1 hW hr rfl rfl 4 (by decide) tw_1_188 (fun _ h9 => h9) rfl dX1_succeedsAt_60 ?_
        refine lv_iconst (v := 1) hx hb dX1_succeedsAt_63 (by decide) ?_
        refine lv_iadd hx hb dX1_succeedsAt_64 ?_
        refine lv_topi (fun x14 ex14 => ?_)
        refine g_put (r := (30, i)) (Cn := RX1) (T := TX1) (N := 7) (ci := 4) (ty0 := tyX1) C tinX1 tyX1_ok nmX1 hW hS hr rfl rfl 4 (by decide) tw_1_188 (fun _ h9 => h9) rfl rfl rfl (Nat.le_of_ble_eq_true rfl) (cU_30_4 i _ _ rfl) dX1_succeedsAt_65 (fun H locs hW hS => ?_)
        refine lv_aload_n hx hb dX1_succeedsAt_68 rfl (lv_at hl 1 rfl) ?_
        refine g_get (r := (30, i)) (Cn := RX1) (T := TX1) (N := 7) (ci := 4) (v := .int ((up2 (up2 ci 32 i x1) 33 i x14) 33 i)) C tinX1 hW hr rfl rfl 4 (by decide) tw_1_188 (fun _ h9 => h9) rfl dX1_succeedsAt_69 ?_
        refine lv_topE (y := x14) (by show (up2 (up2 ci 32 i x1) 33 i x14) 33 i = x14; exact up2_at) ?_
        refine lv_iconst (v := 5) hx hb dX1_succeedsAt_72 (by decide) ?_
        refine lv_icmp_ge (tgt := 85) hx hb dX1_succeedsAt_73 (by decide) (fun c15 => ?_) (fun c15 => ?_)
        · refine lv_aload_n hx hb dX1_succeedsAt_85 rfl (lv_at hl 1 rfl) ?_
          refine lv_iconst (v := 1) hx hb dX1_succeedsAt_86 (by decide) ?_
          refine g_put (r := (30, i)) (Cn := RX1) (T := TX1) (N := 7) (ci := 4) (ty0 := tyX1) C tinX1 tyX1_ok nmX1 hW hS hr rfl rfl 5 (by decide) tw_1_189 (fun _ h9 => h9) rfl (by decide) (by decide) (Nat.le_of_ble_eq_true rfl) (cU_30_5 i _ _ rfl) dX1_succeedsAt_87 (fun H locs hW hS => ?_)
          refine lv_aload_n hx hb dX1_succeedsAt_90 rfl (lv_at hl 1 rfl) ?_
          refine lv_iload_n hx hb dX1_succeedsAt_91 rfl (lv_at hl 2 rfl) ?_
          refine lv_bipush (v := 10) hx hb dX1_succeedsAt_92 (by decide) ?_
          refine lv_iadd hx hb dX1_succeedsAt_94 ?_
          refine lv_topi (fun x16 ex16 => ?_)
          refine g_put (r := (30, i)) (Cn := RX1) (T := TX1) (N := 7) (ci := 4) (ty0 := tyX1) C tinX1 tyX1_ok nmX1 hW hS hr rfl rfl 6 (by decide) tw_1_190 (fun _ h9 => h9) rfl rfl rfl (Nat.le_of_ble_eq_true rfl) (cU_30_6 i _ _ rfl) dX1_succeedsAt_95 (fun H locs hW hS => ?_)
          refine lv_iconst (v := 0) hx hb dX1_succeedsAt_98 (by decide) ?_
          exact g_iret2 C hQ hW hS ⟨_, _, _, rfl, (by rw [tryC_a (by unfold okC; simp only [ccr]; grind) (by simp only [ccr]; grind)]; subst_vars; rfl), rfl, rfl, Or.inr ⟨by rw [tryC_a (by unfold okC; simp only [ccr]; grind) (by simp only [ccr]; grind)], rfl⟩⟩ (by decide) (Nat.zero_le _) (Nat.zero_le _) dX1_succeedsAt_99
        · refine lv_aload_n hx hb dX1_succeedsAt_76 rfl (lv_at hl 1 rfl) ?_
          refine lv_iload_n hx hb dX1_succeedsAt_77 rfl (lv_at hl 2 rfl) ?_
          refine g_callVi (r := (30, i)) (T := TX1) (N := 7) (k2 := 1) (As := [.int mn]) (rest := []) C (c_X1_circuitAt l X L ad st0 (up2 (up2 ci 32 i x1) 33 i x14) ca cr i hr mn) tw_5_23 tw_5_16 tw_5_17 tw_1_8 tw_5_18 (by decide +kernel) ⟨by rw [hR1]; exact Nat.le_of_ble_eq_true rfl, by rw [hR2]; exact Nat.le_of_ble_eq_true rfl⟩ hW hS hr rfl rfl rfl hl.1 rfl (Nat.le_of_ble_eq_true rfl) dX1_succeedsAt_78 ⟨Nat.zero_le _, Nat.zero_le _⟩ (fun x17 L9 ad9 st9 H locs hp hW hS => ?_)
          obtain ⟨ci9, ca9, cr9, z0, hp⟩ := hp
          cases z0
          obtain ⟨z1, z2, z3, h18⟩ := hp
          rw [z1, z2, z3] at hW
          have h18b : x17 = crcC (ci 34 i) mn (ci 35 i) := h18
          refine lv_iconst (v := 2) hx hb dX1_succeedsAt_81 (by decide) ?_
          refine lv_icmp_ne (tgt := 98) hx hb dX1_succeedsAt_82 (by decide) (fun c19 => ?_) (fun c19 => ?_)
          · refine lv_iconst (v := 0) hx hb dX1_succeedsAt_98 (by decide) ?_
            exact g_iret2 C hQ hW hS ⟨_, _, _, rfl, (by rw [tryC_b (by unfold okC; simp only [ccr]; grind) (by simp only [ccr]; grind)]; subst_vars; exact cset_b.symm), rfl, rfl, Or.inr ⟨by rw [tryC_b (by unfold okC; simp only [ccr]; grind) (by simp only [ccr]; grind)], rfl⟩⟩ (by decide) (Nat.zero_le _) (Nat.zero_le _) dX1_succeedsAt_99
          · refine lv_aload_n hx hb dX1_succeedsAt_85 rfl (lv_at hl 1 rfl) ?_
            refine lv_iconst (v := 1) hx hb dX1_succeedsAt_86 (by decide) ?_
            refine g_put (r := (30, i)) (Cn := RX1) (T := TX1) (N := 7) (ci := 4) (ty0 := tyX1) C tinX1 tyX1_ok nmX1 hW hS hr rfl rfl 5 (by decide) tw_1_189 (fun _ h9 => h9) rfl (by decide) (by decide) (Nat.le_of_ble_eq_true rfl) (cU_30_5 i _ _ rfl) dX1_succeedsAt_87 (fun H locs hW hS => ?_)
            refine lv_aload_n hx hb dX1_succeedsAt_90 rfl (lv_at hl 1 rfl) ?_
            refine lv_iload_n hx hb dX1_succeedsAt_91 rfl (lv_at hl 2 rfl) ?_
            refine lv_bipush (v := 10) hx hb dX1_succeedsAt_92 (by decide) ?_
            refine lv_iadd hx hb dX1_succeedsAt_94 ?_
            refine lv_topi (fun x20 ex20 => ?_)
            refine g_put (r := (30, i)) (Cn := RX1) (T := TX1) (N := 7) (ci := 4) (ty0 := tyX1) C tinX1 tyX1_ok nmX1 hW hS hr rfl rfl 6 (by decide) tw_1_190 (fun _ h9 => h9) rfl rfl rfl (Nat.le_of_ble_eq_true rfl) (cU_30_6 i _ _ rfl) dX1_succeedsAt_95 (fun H locs hW hS => ?_)
            refine lv_iconst (v := 0) hx hb dX1_succeedsAt_98 (by decide) ?_
            exact g_iret2 C hQ hW hS ⟨_, _, _, rfl, (by rw [tryC_a (by unfold okC; simp only [ccr]; grind) (by simp only [ccr]; grind)]; subst_vars; rfl), rfl, rfl, Or.inr ⟨by rw [tryC_a (by unfold okC; simp only [ccr]; grind) (by simp only [ccr]; grind)], rfl⟩⟩ (by decide) (Nat.zero_le _) (Nat.zero_le _) dX1_succeedsAt_99
      · refine lv_iload_n hx hb dX1_succeedsAt_42 rfl (lv_at hl 0 rfl) ?_
        refine lv_if_ne (tgt := 58) hx hb dX1_succeedsAt_43 (by decide) (fun c9 => absurd c9 (by decide)) (fun _ => ?_)
        refine lv_aload_n hx hb dX1_succeedsAt_46 rfl (lv_at hl 1 rfl) ?_
        refine lv_iconst (v := 0) hx hb dX1_succeedsAt_47 (by decide) ?_
        refine g_put (r := (30, i)) (Cn := RX1) (T := TX1) (N := 7) (ci := 4) (ty0 := tyX1) C tinX1 tyX1_ok nmX1 hW hS hr rfl rfl 4 (by decide) tw_1_188 (fun _ h9 => h9) rfl rfl rfl (Nat.le_of_ble_eq_true rfl) (cU_30_4 i _ _ rfl) dX1_succeedsAt_48 (fun H locs hW hS => ?_)
        refine lv_aload_n hx hb dX1_succeedsAt_51 rfl (lv_at hl 1 rfl) ?_
        refine lv_iconst (v := 0) hx hb dX1_succeedsAt_52 (by decide) ?_
        refine g_put (r := (30, i)) (Cn := RX1) (T := TX1) (N := 7) (ci := 4) (ty0 := tyX1) C tinX1 tyX1_ok nmX1 hW hS hr rfl rfl 5 (by decide) tw_1_189 (fun _ h9 => h9) rfl (by decide) (by decide) (Nat.le_of_ble_eq_true rfl) (cU_30_5 i _ _ rfl) dX1_succeedsAt_53 (fun H locs hW hS => ?_)
        refine lv_iconst (v := 1) hx hb dX1_succeedsAt_56 (by decide) ?_
        exact g_iret2 C hQ hW hS ⟨_, _, _, rfl, (by rw [tryC_c (by unfold okC; simp only [ccr]; grind)]; subst_vars; exact cset_c.symm), rfl, rfl, Or.inl ⟨by rw [tryC_c (by unfold okC; simp only [ccr]; grind)], rfl⟩⟩ (by decide) (Nat.zero_le _) (Nat.zero_le _) dX1_succeedsAt_57
    · refine lv_iconst (v := 1) hx hb dX1_succeedsAt_29 (by decide) ?_
      refine lv_goto (tgt := 34) hx hb dX1_succeedsAt_30 (by decide) ?_
      refine lv_istore_n (lv' := [(2, .int 1), (0, .ref (ad (30, i))), (1, .int mn)]) hx hb dX1_succeedsAt_34 rfl hl (by decide) rfl (fun ls hl => ?_)
      refine lv_aload_n hx hb dX1_succeedsAt_35 rfl (lv_at hl 1 rfl) ?_
      refine g_get (r := (30, i)) (Cn := RX1) (T := TX1) (N := 7) (ci := 4) (v := .int (ci 30 i)) C tinX1 hW hr rfl rfl 0 (by decide) tw_1_180 (fun _ h9 => h9) rfl dX1_succeedsAt_36 ?_
      refine lv_if_eq (tgt := 58) hx hb dX1_succeedsAt_39 (by decide) (fun c21 => ?_) (fun c21 => ?_)
      · refine lv_aload_n hx hb dX1_succeedsAt_58 rfl (lv_at hl 1 rfl) ?_
        refine lv_dup hx hb dX1_succeedsAt_59 rfl ?_
        refine g_get (r := (30, i)) (Cn := RX1) (T := TX1) (N := 7) (ci := 4) (v := .int (ci 33 i)) C tinX1 hW hr rfl rfl 4 (by decide) tw_1_188 (fun _ h9 => h9) rfl dX1_succeedsAt_60 ?_
        refine lv_iconst (v := 1) hx hb dX1_succeedsAt_63 (by decide) ?_
        refine lv_iadd hx hb dX1_succeedsAt_64 ?_
        refine lv_topi (fun x22 ex22 => ?_)
        refine g_put (r := (30, i)) (Cn := RX1) (T := TX1) (N := 7) (ci := 4) (ty0 := tyX1) C tinX1 tyX1_ok nmX1 hW hS hr rfl rfl 4 (by decide) tw_1_188 (fun _ h9 => h9) rfl rfl rfl (Nat.le_of_ble_eq_true rfl) (cU_30_4 i _ _ rfl) dX1_succeedsAt_65 (fun H locs hW hS => ?_)
        refine lv_aload_n hx hb dX1_succeedsAt_68 rfl (lv_at hl 1 rfl) ?_
        refine g_get (r := (30, i)) (Cn := RX1) (T := TX1) (N := 7) (ci := 4) (v := .int ((up2 (up2 ci 32 i x1) 33 i x22) 33 i)) C tinX1 hW hr rfl rfl 4 (by decide) tw_1_188 (fun _ h9 => h9) rfl dX1_succeedsAt_69 ?_
        refine lv_topE (y := x22) (by show (up2 (up2 ci 32 i x1) 33 i x22) 33 i = x22; exact up2_at) ?_
        refine lv_iconst (v := 5) hx hb dX1_succeedsAt_72 (by decide) ?_
        refine lv_icmp_ge (tgt := 85) hx hb dX1_succeedsAt_73 (by decide) (fun c23 => ?_) (fun c23 => ?_)
        · refine lv_aload_n hx hb dX1_succeedsAt_85 rfl (lv_at hl 1 rfl) ?_
          refine lv_iconst (v := 1) hx hb dX1_succeedsAt_86 (by decide) ?_
          refine g_put (r := (30, i)) (Cn := RX1) (T := TX1) (N := 7) (ci := 4) (ty0 := tyX1) C tinX1 tyX1_ok nmX1 hW hS hr rfl rfl 5 (by decide) tw_1_189 (fun _ h9 => h9) rfl (by decide) (by decide) (Nat.le_of_ble_eq_true rfl) (cU_30_5 i _ _ rfl) dX1_succeedsAt_87 (fun H locs hW hS => ?_)
          refine lv_aload_n hx hb dX1_succeedsAt_90 rfl (lv_at hl 1 rfl) ?_
          refine lv_iload_n hx hb dX1_succeedsAt_91 rfl (lv_at hl 2 rfl) ?_
          refine lv_bipush (v := 10) hx hb dX1_succeedsAt_92 (by decide) ?_
          refine lv_iadd hx hb dX1_succeedsAt_94 ?_
          refine lv_topi (fun x24 ex24 => ?_)
          refine g_put (r := (30, i)) (Cn := RX1) (T := TX1) (N := 7) (ci := 4) (ty0 := tyX1) C tinX1 tyX1_ok nmX1 hW hS hr rfl rfl 6 (by decide) tw_1_190 (fun _ h9 => h9) rfl rfl rfl (Nat.le_of_ble_eq_true rfl) (cU_30_6 i _ _ rfl) dX1_succeedsAt_95 (fun H locs hW hS => ?_)
          refine lv_iconst (v := 0) hx hb dX1_succeedsAt_98 (by decide) ?_
          exact g_iret2 C hQ hW hS ⟨_, _, _, rfl, (by rw [tryC_a (by unfold okC; simp only [ccr]; grind) (by simp only [ccr]; grind)]; subst_vars; rfl), rfl, rfl, Or.inr ⟨by rw [tryC_a (by unfold okC; simp only [ccr]; grind) (by simp only [ccr]; grind)], rfl⟩⟩ (by decide) (Nat.zero_le _) (Nat.zero_le _) dX1_succeedsAt_99
        · refine lv_aload_n hx hb dX1_succeedsAt_76 rfl (lv_at hl 1 rfl) ?_
          refine lv_iload_n hx hb dX1_succeedsAt_77 rfl (lv_at hl 2 rfl) ?_
          refine g_callVi (r := (30, i)) (T := TX1) (N := 7) (k2 := 1) (As := [.int mn]) (rest := []) C (c_X1_circuitAt l X L ad st0 (up2 (up2 ci 32 i x1) 33 i x22) ca cr i hr mn) tw_5_23 tw_5_16 tw_5_17 tw_1_8 tw_5_18 (by decide +kernel) ⟨by rw [hR1]; exact Nat.le_of_ble_eq_true rfl, by rw [hR2]; exact Nat.le_of_ble_eq_true rfl⟩ hW hS hr rfl rfl rfl hl.1 rfl (Nat.le_of_ble_eq_true rfl) dX1_succeedsAt_78 ⟨Nat.zero_le _, Nat.zero_le _⟩ (fun x25 L9 ad9 st9 H locs hp hW hS => ?_)
          obtain ⟨ci9, ca9, cr9, z0, hp⟩ := hp
          cases z0
          obtain ⟨z1, z2, z3, h26⟩ := hp
          rw [z1, z2, z3] at hW
          have h26b : x25 = crcC (ci 34 i) mn (ci 35 i) := h26
          refine lv_iconst (v := 2) hx hb dX1_succeedsAt_81 (by decide) ?_
          refine lv_icmp_ne (tgt := 98) hx hb dX1_succeedsAt_82 (by decide) (fun c27 => ?_) (fun c27 => ?_)
          · refine lv_iconst (v := 0) hx hb dX1_succeedsAt_98 (by decide) ?_
            exact g_iret2 C hQ hW hS ⟨_, _, _, rfl, (by rw [tryC_b (by unfold okC; simp only [ccr]; grind) (by simp only [ccr]; grind)]; subst_vars; exact cset_b.symm), rfl, rfl, Or.inr ⟨by rw [tryC_b (by unfold okC; simp only [ccr]; grind) (by simp only [ccr]; grind)], rfl⟩⟩ (by decide) (Nat.zero_le _) (Nat.zero_le _) dX1_succeedsAt_99
          · refine lv_aload_n hx hb dX1_succeedsAt_85 rfl (lv_at hl 1 rfl) ?_
            refine lv_iconst (v := 1) hx hb dX1_succeedsAt_86 (by decide) ?_
            refine g_put (r := (30, i)) (Cn := RX1) (T := TX1) (N := 7) (ci := 4) (ty0 := tyX1) C tinX1 tyX1_ok nmX1 hW hS hr rfl rfl 5 (by decide) tw_1_189 (fun _ h9 => h9) rfl (by decide) (by decide) (Nat.le_of_ble_eq_true rfl) (cU_30_5 i _ _ rfl) dX1_succeedsAt_87 (fun H locs hW hS => ?_)
            refine lv_aload_n hx hb dX1_succeedsAt_90 rfl (lv_at hl 1 rfl) ?_
            refine lv_iload_n hx hb dX1_succeedsAt_91 rfl (lv_at hl 2 rfl) ?_
            refine lv_bipush (v := 10) hx hb dX1_succeedsAt_92 (by decide) ?_
            refine lv_iadd hx hb dX1_succeedsAt_94 ?_
            refine lv_topi (fun x28 ex28 => ?_)
            refine g_put (r := (30, i)) (Cn := RX1) (T := TX1) (N := 7) (ci := 4) (ty0 := tyX1) C tinX1 tyX1_ok nmX1 hW hS hr rfl rfl 6 (by decide) tw_1_190 (fun _ h9 => h9) rfl rfl rfl (Nat.le_of_ble_eq_true rfl) (cU_30_6 i _ _ rfl) dX1_succeedsAt_95 (fun H locs hW hS => ?_)
            refine lv_iconst (v := 0) hx hb dX1_succeedsAt_98 (by decide) ?_
            exact g_iret2 C hQ hW hS ⟨_, _, _, rfl, (by rw [tryC_a (by unfold okC; simp only [ccr]; grind) (by simp only [ccr]; grind)]; subst_vars; rfl), rfl, rfl, Or.inr ⟨by rw [tryC_a (by unfold okC; simp only [ccr]; grind) (by simp only [ccr]; grind)], rfl⟩⟩ (by decide) (Nat.zero_le _) (Nat.zero_le _) dX1_succeedsAt_99
      · refine lv_iload_n hx hb dX1_succeedsAt_42 rfl (lv_at hl 0 rfl) ?_
        refine lv_if_ne (tgt := 58) hx hb dX1_succeedsAt_43 (by decide) (fun _ => ?_) (fun c9 => absurd c9 (by decide))
        refine lv_aload_n hx hb dX1_succeedsAt_58 rfl (lv_at hl 1 rfl) ?_
        refine lv_dup hx hb dX1_succeedsAt_59 rfl ?_
        refine g_get (r := (30, i)) (Cn := RX1) (T := TX1) (N := 7) (ci := 4) (v := .int (ci 33 i)) C tinX1 hW hr rfl rfl 4 (by decide) tw_1_188 (fun _ h9 => h9) rfl dX1_succeedsAt_60 ?_
        refine lv_iconst (v := 1) hx hb dX1_succeedsAt_63 (by decide) ?_
        refine lv_iadd hx hb dX1_succeedsAt_64 ?_
        refine lv_topi (fun x29 ex29 => ?_)
        refine g_put (r := (30, i)) (Cn := RX1) (T := TX1) (N := 7) (ci := 4) (ty0 := tyX1) C tinX1 tyX1_ok nmX1 hW hS hr rfl rfl 4 (by decide) tw_1_188 (fun _ h9 => h9) rfl rfl rfl (Nat.le_of_ble_eq_true rfl) (cU_30_4 i _ _ rfl) dX1_succeedsAt_65 (fun H locs hW hS => ?_)
        refine lv_aload_n hx hb dX1_succeedsAt_68 rfl (lv_at hl 1 rfl) ?_
        refine g_get (r := (30, i)) (Cn := RX1) (T := TX1) (N := 7) (ci := 4) (v := .int ((up2 (up2 ci 32 i x1) 33 i x29) 33 i)) C tinX1 hW hr rfl rfl 4 (by decide) tw_1_188 (fun _ h9 => h9) rfl dX1_succeedsAt_69 ?_
        refine lv_topE (y := x29) (by show (up2 (up2 ci 32 i x1) 33 i x29) 33 i = x29; exact up2_at) ?_
        refine lv_iconst (v := 5) hx hb dX1_succeedsAt_72 (by decide) ?_
        refine lv_icmp_ge (tgt := 85) hx hb dX1_succeedsAt_73 (by decide) (fun c30 => ?_) (fun c30 => ?_)
        · refine lv_aload_n hx hb dX1_succeedsAt_85 rfl (lv_at hl 1 rfl) ?_
          refine lv_iconst (v := 1) hx hb dX1_succeedsAt_86 (by decide) ?_
          refine g_put (r := (30, i)) (Cn := RX1) (T := TX1) (N := 7) (ci := 4) (ty0 := tyX1) C tinX1 tyX1_ok nmX1 hW hS hr rfl rfl 5 (by decide) tw_1_189 (fun _ h9 => h9) rfl (by decide) (by decide) (Nat.le_of_ble_eq_true rfl) (cU_30_5 i _ _ rfl) dX1_succeedsAt_87 (fun H locs hW hS => ?_)
          refine lv_aload_n hx hb dX1_succeedsAt_90 rfl (lv_at hl 1 rfl) ?_
          refine lv_iload_n hx hb dX1_succeedsAt_91 rfl (lv_at hl 2 rfl) ?_
          refine lv_bipush (v := 10) hx hb dX1_succeedsAt_92 (by decide) ?_
          refine lv_iadd hx hb dX1_succeedsAt_94 ?_
          refine lv_topi (fun x31 ex31 => ?_)
          refine g_put (r := (30, i)) (Cn := RX1) (T := TX1) (N := 7) (ci := 4) (ty0 := tyX1) C tinX1 tyX1_ok nmX1 hW hS hr rfl rfl 6 (by decide) tw_1_190 (fun _ h9 => h9) rfl rfl rfl (Nat.le_of_ble_eq_true rfl) (cU_30_6 i _ _ rfl) dX1_succeedsAt_95 (fun H locs hW hS => ?_)
          refine lv_iconst (v := 0) hx hb dX1_succeedsAt_98 (by decide) ?_
          exact g_iret2 C hQ hW hS ⟨_, _, _, rfl, (by rw [tryC_a (by unfold okC; simp only [ccr]; grind) (by simp only [ccr]; grind)]; subst_vars; rfl), rfl, rfl, Or.inr ⟨by rw [tryC_a (by unfold okC; simp only [ccr]; grind) (by simp only [ccr]; grind)], rfl⟩⟩ (by decide) (Nat.zero_le _) (Nat.zero_le _) dX1_succeedsAt_99
        · refine lv_aload_n hx hb dX1_succeedsAt_76 rfl (lv_at hl 1 rfl) ?_
          refine lv_iload_n hx hb dX1_succeedsAt_77 rfl (lv_at hl 2 rfl) ?_
          refine g_callVi (r := (30, i)) (T := TX1) (N := 7) (k2 := 1) (As := [.int mn]) (rest := []) C (c_X1_circuitAt l X L ad st0 (up2 (up2 ci 32 i x1) 33 i x29) ca cr i hr mn) tw_5_23 tw_5_16 tw_5_17 tw_1_8 tw_5_18 (by decide +kernel) ⟨by rw [hR1]; exact Nat.le_of_ble_eq_true rfl, by rw [hR2]; exact Nat.le_of_ble_eq_true rfl⟩ hW hS hr rfl rfl rfl hl.1 rfl (Nat.le_of_ble_eq_true rfl) dX1_succeedsAt_78 ⟨Nat.zero_le _, Nat.zero_le _⟩ (fun x32 L9 ad9 st9 H locs hp hW hS => ?_)
          obtain ⟨ci9, ca9, cr9, z0, hp⟩ := hp
          cases z0
          obtain ⟨z1, z2, z3, h33⟩ := hp
          rw [z1, z2, z3] at hW
          have h33b : x32 = crcC (ci 34 i) mn (ci 35 i) := h33
          refine lv_iconst (v := 2) hx hb dX1_succeedsAt_81 (by decide) ?_
          refine lv_icmp_ne (tgt := 98) hx hb dX1_succeedsAt_82 (by decide) (fun c34 => ?_) (fun c34 => ?_)
          · refine lv_iconst (v := 0) hx hb dX1_succeedsAt_98 (by decide) ?_
            exact g_iret2 C hQ hW hS ⟨_, _, _, rfl, (by rw [tryC_b (by unfold okC; simp only [ccr]; grind) (by simp only [ccr]; grind)]; subst_vars; exact cset_b.symm), rfl, rfl, Or.inr ⟨by rw [tryC_b (by unfold okC; simp only [ccr]; grind) (by simp only [ccr]; grind)], rfl⟩⟩ (by decide) (Nat.zero_le _) (Nat.zero_le _) dX1_succeedsAt_99
          · refine lv_aload_n hx hb dX1_succeedsAt_85 rfl (lv_at hl 1 rfl) ?_
            refine lv_iconst (v := 1) hx hb dX1_succeedsAt_86 (by decide) ?_
            refine g_put (r := (30, i)) (Cn := RX1) (T := TX1) (N := 7) (ci := 4) (ty0 := tyX1) C tinX1 tyX1_ok nmX1 hW hS hr rfl rfl 5 (by decide) tw_1_189 (fun _ h9 => h9) rfl (by decide) (by decide) (Nat.le_of_ble_eq_true rfl) (cU_30_5 i _ _ rfl) dX1_succeedsAt_87 (fun H locs hW hS => ?_)
            refine lv_aload_n hx hb dX1_succeedsAt_90 rfl (lv_at hl 1 rfl) ?_
            refine lv_iload_n hx hb dX1_succeedsAt_91 rfl (lv_at hl 2 rfl) ?_
            refine lv_bipush (v := 10) hx hb dX1_succeedsAt_92 (by decide) ?_
            refine lv_iadd hx hb dX1_succeedsAt_94 ?_
            refine lv_topi (fun x35 ex35 => ?_)
            refine g_put (r := (30, i)) (Cn := RX1) (T := TX1) (N := 7) (ci := 4) (ty0 := tyX1) C tinX1 tyX1_ok nmX1 hW hS hr rfl rfl 6 (by decide) tw_1_190 (fun _ h9 => h9) rfl rfl rfl (Nat.le_of_ble_eq_true rfl) (cU_30_6 i _ _ rfl) dX1_succeedsAt_95 (fun H locs hW hS => ?_)
            refine lv_iconst (v := 0) hx hb dX1_succeedsAt_98 (by decide) ?_
            exact g_iret2 C hQ hW hS ⟨_, _, _, rfl, (by rw [tryC_a (by unfold okC; simp only [ccr]; grind) (by simp only [ccr]; grind)]; subst_vars; rfl), rfl, rfl, Or.inr ⟨by rw [tryC_a (by unfold okC; simp only [ccr]; grind) (by simp only [ccr]; grind)], rfl⟩⟩ (by decide) (Nat.zero_le _) (Nat.zero_le _) dX1_succeedsAt_99

