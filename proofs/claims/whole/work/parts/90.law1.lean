theorem lg_self (x : Int64) : lg_cmp x x = 0 := by
  unfold lg_cmp
  rw [if_neg (by rw [gt_iff_lt, Int64.lt_iff_toInt_lt]; omega), if_pos rfl]
theorem mL_of {L L' : List ro} (h : ∀ r, r ∈ L → r ∈ L') (hm : mL L) : mL L' := ⟨h _ hm.1, fun k q1 q2 => h _ (hm.2 k q1 q2)⟩
section HV
variable {L L' : List ro} {ci : Nat → Nat → Int32} {ca : Nat → Nat → Nat → Int32} {cr : Nat → Nat → Nat} {n w tot nt nc : Nat} {kp nx : Nat → Nat} {fi : Nat → Int32} {fa : Nat → Nat → Int32}
theorem lw_qc (S : SV L ci ca cr n w tot nt kp nx nc fi fa) : ∀ i, i < cr 13 0 → ∃ c, c < 4 ∧ fa 34 i = nI c := fun i hi => by
  obtain ⟨c, h1, h2⟩ := (S.1.2.2.2.2.2.2.1 i hi).2
  exact ⟨c, h1, (S.2.2.2.2.2.2.1 i hi).1.2.1.trans h2⟩
theorem lw_pq (S : SV L ci ca cr n w tot nt kp nx nc fi fa) : ∀ k, k < cr 13 1 → ∃ q, q < 100 ∧ fa 43 k = nI q := fun k hk =>
  ⟨cr 50 k, Nat.lt_of_lt_of_le (S.1.2.2.2.2.2.2.2.1 k hk) S.1.2.2.1.1, (S.2.2.2.2.2.2.2.1.1 k hk).1⟩
theorem hv_price (S : SV L ci ca cr n w tot nt kp nx nc fi fa) : ∀ i, i < cr 13 0 → prcC (ci 36 (cr 40 i)) (ci 37 (cr 40 i)) (ci 38 (cr 40 i)) (ci 42 i - ci 43 i) (ci 44 i) (ci 45 i) = prc (fa 38 i) (fa 39 i) (fa 40 i) (fa 35 i) (fa 36 i) (fa 37 i) := fun i hi => by
  have hQ := S.2.2.2.2.2.2.1
  rw [prc_of hQ hi, (hQ i hi).1.2.2.2.1]
theorem hv_fixed (S : SV L ci ca cr n w tot nt kp nx nc fi fa) : ∀ i, i < cr 13 0 → (if 0 < ci 46 i - nI w then ci 46 i - nI w else 0) = (if fi 1 ≤ fa 41 i then fa 41 i - fi 1 + 1 else 0) := fun i hi => by
  have hw2 := S.1.2.2.2.2.2.2.2.2.2.2.2.1.2
  obtain ⟨e, e1, e2, e3⟩ := (S.2.2.2.2.2.2.1 i hi).2.2
  rw [e2, e3, S.2.1.1]
  have i1 : (nI (e + 1) - nI w).toInt = ((e + 1 : Nat) : Int) - w := pk_sub_toInt (by omega) (by omega)
  have z : (0 : Int32).toInt = 0 := rfl
  by_cases h : w ≤ e
  · rw [if_pos (show 0 < nI (e + 1) - nI w by rw [Int32.lt_iff_toInt_lt, i1, z]; omega), if_pos ((nI_leI (by omega) (by omega)).mpr h), ← nI_1 e]
    rw [Int32.sub_eq_add_neg, Int32.sub_eq_add_neg, Int32.add_assoc, Int32.add_comm 1, ← Int32.add_assoc]
  · rw [if_neg (show ¬ 0 < nI (e + 1) - nI w by rw [Int32.lt_iff_toInt_lt, i1, z]; omega), if_neg (fun q => h ((nI_leI (by omega) (by omega)).mp q))]
theorem hv_left (S : SV L ci ca cr n w tot nt kp nx nc fi fa) : ∀ i, i < 6 → lftC (ci 20 i) (cntL (ca 21 i) (nI w - ci 21 i) (kp i)) = lft (fa 11 i) (cntW (fa 24) (fa 25) (nI i) (fi 1) (fa 12 i) nc) := fun i hi => by
  have hw2 := S.1.2.2.2.2.2.2.2.2.2.2.2.1.2
  have htot := S.1.2.2.2.2.2.2.2.2.2.2.2.2.1.2.2
  have hnc := S.2.1.2.2.2.1.2
  obtain ⟨⟨h1, h2, -⟩, a, b, a1, a2, b1, b2⟩ := S.2.2.2.1 i hi
  rw [h1, h2, a1, b1, S.2.1.1]
  exact lft_R a2 hw2 b2 (by omega) (S.2.2.2.2.2.2.2.2.2.2 i hi)
theorem hv_log (S : SV L ci ca cr n w tot nt kp nx nc fi fa) : ∀ i, i < 6 → lftC (ci 20 i) (cntB (ca 6 0) (ca 7 0) (ca 8 0) (nI i) (nI w - ci 21 i) tot) = lft (fa 11 i) (cntW (fa 24) (fa 25) (nI i) (fi 1) (fa 12 i) nc) := fun i hi => by
  have hw2 := S.1.2.2.2.2.2.2.2.2.2.2.2.1.2
  have htot := S.1.2.2.2.2.2.2.2.2.2.2.2.2.1.2.2
  have hnc := S.2.1.2.2.2.1.2
  obtain ⟨⟨h1, h2, -⟩, a, b, a1, a2, b1, b2⟩ := S.2.2.2.1 i hi
  rw [h1, h2, a1, b1, S.2.1.1]
  exact lft_L a2 hi hw2 b2 (by omega) S.2.2.2.2.2.2.2.2.2.1
theorem hv_circuit (S : SV L ci ca cr n w tot nt kp nx nc fi fa) : ∀ i, i < 4 → crcC (ci 34 i) (nI w) (ci 35 i) = crc (fa 17 i) (fi 1) (fa 18 i) := fun i hi => by
  have hw2 := S.1.2.2.2.2.2.2.2.2.2.2.2.1.2
  rw [S.2.1.1]
  exact (crc_B (w := w) (by omega) (S.2.2.2.2.1 i hi).2.2).symm
theorem hv_tries (S : SV L ci ca cr n w tot nt kp nx nc fi fa) : ∀ i, i < 4 → ci 32 i = fa 15 i := fun i hi => (S.2.2.2.2.1 i hi).2.2.1.symm
theorem hv_state (S : SV L ci ca cr n w tot nt kp nx nc fi fa) : ∀ i, i < cr 13 1 → ci 52 i = fa 46 i := fun i hi => (S.2.2.2.2.2.2.2.1.1 i hi).2.2.2.symm
theorem hv_cost (S : SV L ci ca cr n w tot nt kp nx nc fi fa) : ∀ i, i < cr 13 1 → ci 51 i = fa 45 i := fun i hi => (S.2.2.2.2.2.2.2.1.1 i hi).2.2.1.symm
theorem hv_bill (S : SV L ci ca cr n w tot nt kp nx nc fi fa) : ∀ i, i < 6 → ci 22 i + sumC ci cr (nI i) (nI w) (cr 13 1) = sumDue (upd fi 0 0) fa (nI i) (fa 26 i) (cr 13 1) := fun i hi => by
  rw [sum_of S _ _ _ _ (Nat.le_refl _), (S.2.2.2.1 i hi).1.2.2.1]
theorem hv_billed (S : SV L ci ca cr n w tot nt kp nx nc fi fa) : ∀ i, i < 6 → ci 23 i = fa 27 i := fun i hi => (S.2.2.2.1 i hi).1.2.2.2.symm
end HV

/-- behind a step of the law -/
def lwK (p : Program) (l : Launch) (e : Env) (s : State) (m : MethodId) (args : Array Value) (below : List Frame) (meth : Method) (c : Code) (Q : State → Prop) (X : GX) (A : Nat → Prop) (b i tot cells slots : Nat) : Prop :=
  ∀ (L' : List ro) (ad' : ro → Nat) (ci2 : Nat → Nat → Int32) (ca2 : Nat → Nat → Nat → Int32) (cr2 : Nat → Nat → Nat) (n2 w2 tot2 nt2 : Nat) (kp2 nx2 : Nat → Nat) (nc2 : Nat) (fi2 : Nat → Int32) (fa2 : Nat → Nat → Int32) (f2 : Nat → Int64) (H : Heap) (locs : List Loc) (ls : Array Slot), tot2 ≤ tot + 1 → SV L' ci2 ca2 cr2 n2 w2 tot2 nt2 kp2 nx2 nc2 fi2 fa2 → mL L' → ((110, 0) : ro) ∈ L' → gW X A L' ad' (wld X ad' ci2 ca2 cr2 fi2 fa2 f2) s H → va_S A s.heap H locs →
    lv_has ls 7 [(0, .ref b), (1, .ref (ad' (1, 0))), (2, .ref (ad' (100, 0))), (3, .ref (ad' (110, 0))), (4, .int (nI i))] → W p l e room_1 s m args below meth c H locs (cells + 10) (slots + 300) Q (F0 m 1482 ls [])

section LAW
variable {p : Program} {l : Launch} {e : Env} {s : State} {m : MethodId} {args : Array Value} {below : List Frame} {meth : Method} {c : Code} {H : Heap} {locs : List Loc} {cells slots : Nat} {Q : State → Prop}
variable {mname : String} {ls : Array Slot} {X : GX} {A : Nat → Prop} {L : List ro} {ad : ro → Nat} {ci : Nat → Nat → Int32} {ca : Nat → Nat → Nat → Int32} {cr : Nat → Nat → Nat} {n w tot nt nc : Nat} {kp nx : Nat → Nat} {fi : Nat → Int32} {fa : Nat → Nat → Int32} {f : Nat → Int64} {b Ls i : Nat} {xs : Nat → Int32}

set_option maxHeartbeats 4000000 in
theorem lb_type (C : gCx p s m args meth c code 7 ret "RateGateLaw" mname X A) (hl0 : l.stackTraces = false) (hX : va_X b Ls xs s s.heap) (hbl : b < s.heap.size) (hbA : ¬ A b) (hi : i + 5 ≤ Ls) (hLs : Ls ≤ 2560) (hto : tot < 512) (hcells : cells + 10 ≤ 601024) (hslots : slots + 300 ≤ 7293034) (S : SV L ci ca cr n w tot nt kp nx nc fi fa) (hm : mL L) (hO : ((110, 0) : ro) ∈ L) (hW : gW X A L ad (wld X ad ci ca cr fi fa f) s H) (hS : va_S A s.heap H locs) (hl : lv_has ls 7 [(0, .ref b), (1, .ref (ad (1, 0))), (2, .ref (ad (100, 0))), (3, .ref (ad (110, 0))), (4, .int (nI i))]) (K : lwK p l e s m args below meth c Q X A b i tot cells slots) : W p l e room_1 s m args below meth c H locs cells slots Q (F0 m 152 ls []) := by
  have hx := C.1.1
  have hb := C.1.2.1
  obtain ⟨r1, r3, r22, ⟨r23, rnc⟩, r32, r42⟩ := id S.2.1
  have h4 := S.2.2.1.2.1
  have h5 := S.2.2.1.2.2
  have hn60 := S.1.2.2.2.2.2.2.2.2.2.2.1.2.1
  have hw2 := S.1.2.2.2.2.2.2.2.2.2.2.2.1.2
  have hq100 := S.1.2.2.1.1
  have hp50 := S.1.2.2.1.2
  refine lv_aload_n hx hb dL_law_152 rfl (lv_at hl 1 rfl) ?_
  refine lv_aload_n hx hb dL_law_153 rfl (lv_at hl 0 rfl) ?_
  refine lv_iload hx hb dL_law_154 (lv_at hl 4 rfl) ?_
  refine lv_iconst (v := 1) hx hb dL_law_156 (by decide) ?_
  refine lv_iadd hx hb dL_law_157 ?_
  refine lv_topE (y := nI (i + 1)) (nI_add i 1) ?_
  refine va_sld hx hb hX hbl hbA hS (vp_in_nI (n := i + 1) (N := Ls) (by omega) (by omega)) dL_law_158 ?_
  refine lv_topE (y := xs (i + 1)) (by rw [nI_clamp (by omega)]) ?_
  refine lv_i2c hx hb dL_law_159 rfl ?_
  refine lv_topE (y := vp_nar .char (xs (i + 1))) rfl ?_
  refine lv_aload_n hx hb dL_law_160 rfl (lv_at hl 3 rfl) ?_
  refine g_callSW (k2 := 3) (As := [.ref (ad (1, 0)), .int (vp_nar .char (xs (i + 1))), .ref (ad (110, 0))]) (rest := []) C (L_type l hl0 X L ad ci ca cr n w tot nt kp nx fi fa f S.1 hO (vp_nar .char (xs (i + 1)))) tw_3_230 tw_3_231 tw_1_0 tw_3_232 (by decide +kernel) ⟨(Nat.le_of_ble_eq_true rfl), (Nat.le_of_ble_eq_true rfl)⟩ hW hS rfl hl.1 rfl (Nat.le_of_ble_eq_true rfl) dL_law_161 ⟨hcells, hslots⟩ (fun k L9 ad9 st9 H locs hp hW hS => ?_)
  obtain ⟨L', ad', ci2, ca2, cr2, f2, z0, hF, hc⟩ := hp
  injection z0 with e1 e2
  injection e2 with e2 e3
  rw [e1, e2, e3] at hW
  have hm9 : mL L' := mL_of hF.1 hm
  have hl : lv_has ls 7 [(0, .ref b), (1, .ref (ad' (1, 0))), (2, .ref (ad' (100, 0))), (3, .ref (ad' (110, 0))), (4, .int (nI i))] := by rw [hF.2 (1, 0) (Or.inr rfl), hF.2 (100, 0) (Or.inl (by decide)), hF.2 (110, 0) (Or.inl (by decide))]; exact hl
  refine lv_istore (lv' := [(5, .int k), (0, .ref b), (1, .ref (ad' (1, 0))), (2, .ref (ad' (100, 0))), (3, .ref (ad' (110, 0))), (4, .int (nI i))]) hx hb dL_law_164 hl (by decide) rfl (fun ls hl => ?_)
  refine lv_aload_n hx hb dL_law_166 rfl (lv_at hl 3 rfl) ?_
  refine lv_aload_n hx hb dL_law_167 rfl (lv_at hl 1 rfl) ?_
  refine lv_iload hx hb dL_law_168 (lv_at hl 5 rfl) ?_
  refine lv_iconst (v := 1) hx hb dL_law_170 (by decide) ?_
  refine lv_iadd hx hb dL_law_171 ?_
  refine lv_topE (y := nI (i + 1)) (nI_add i 1) ?_
  refine va_sld hx hb hX hbl hbA hS (vp_in_nI (n := i + 1) (N := Ls) (by omega) (by omega)) dL_law_172 ?_
  refine lv_topE (y := xs (i + 1)) (by rw [nI_clamp (by omega)]) ?_
  refine lv_i2c hx hb dL_law_173 rfl ?_
  refine lv_topE (y := vp_nar .char (xs (i + 1))) rfl ?_
  rw [wld_m] at hW
  refine m_callVi (k2 := 1) (As := [.int (vp_nar .char (xs (i + 1)))]) (rest := []) C (c_X8_type l X L' ad' (cSt X ad' (oSt X f2) ci2 ca2 cr2) fi fa hm9 (vp_nar .char (xs (i + 1))) n r3 hn60) tw_6_109 tw_6_110 tw_6_111 tw_1_10 tw_6_112 (by decide +kernel) ⟨(Nat.le_of_ble_eq_true rfl), (Nat.le_of_ble_eq_true rfl)⟩ hm9 hW hS rfl hl.1 rfl (Nat.le_of_ble_eq_true rfl) dL_law_174 ⟨hcells, hslots⟩ (fun v fi9 fa9 H locs hr hW hS => ?_)
  have hSR : SR tot k (f2 0) v L' ci2 ca2 cr2 fi9 fa9 := sim_type S hc hr
  refine lv_istore (lv' := [(6, .int v), (5, .int k), (0, .ref b), (1, .ref (ad' (1, 0))), (2, .ref (ad' (100, 0))), (3, .ref (ad' (110, 0))), (4, .int (nI i))]) hx hb dL_law_177 hl (by decide) rfl (fun ls hl => ?_)
  refine lv_aload_n hx hb dL_law_179 rfl (lv_at hl 4 rfl) ?_
  refine m_callVi (k2 := 0) (As := []) (rest := []) C (c_X8_thrown l X L' ad' (cSt X ad' (oSt X f2) ci2 ca2 cr2) fi9 fa9 hm9) tw_6_105 tw_6_106 tw_6_107 tw_1_10 tw_6_108 (by decide +kernel) ⟨(Nat.le_of_ble_eq_true rfl), (Nat.le_of_ble_eq_true rfl)⟩ hm9 hW hS rfl hl.1 rfl (Nat.le_of_ble_eq_true rfl) dL_law_180 ⟨hcells, hslots⟩ (fun v2 fi8 fa8 H locs ht hW hS => ?_)
  obtain ⟨e8, e9, ht⟩ := ht
  rw [e8, e9, ← wld_m] at hW
  refine lv_iload hx hb dL_law_183 (lv_at hl 1 rfl) ?_
  refine lv_icmp_eq (tgt := 190) hx hb dL_law_185 (by decide) (fun _ => ?_) (fun c9 => absurd (ht.trans hSR.1) c9)
  refine lv_iload hx hb dL_law_190 (lv_at hl 1 rfl) ?_
  obtain ⟨n2, w2, tot2, nt2, kp2, nx2, nc2, ht2, S2⟩ := hSR.2.2
  refine lv_if_ne (tgt := 207) hx hb dL_law_192 (by decide) (fun _ => ?_) (fun c9 => ?_)
  · refine lv_goto (tgt := 1482) hx hb dL_law_207 (by decide) ?_
    exact K L' ad' ci2 ca2 cr2 n2 w2 tot2 nt2 kp2 nx2 nc2 fi9 fa9 f2 H locs ls ht2 S2 hm9 (hF.1 _ hO) hW hS (lv_sub hl [2, 3, 4, 5, 6] rfl)
  · have hk0 : k = 0 := c9
    refine lv_aload_n hx hb dL_law_195 rfl (lv_at hl 5 rfl) ?_
    refine lv_iconst (v := 0) hx hb dL_law_196 (by decide) ?_
    refine g_lald (r := (110, 0)) C hW (hF.1 _ hO) rfl (vp_in_nI (n := 0) (N := 1) (by decide) (by decide)) dL_law_197 ?_
    refine lv_topV (y := .long (f2 0)) rfl ?_
    refine lv_iload hx hb dL_law_198 (lv_at hl 0 rfl) ?_
    refine lv_i2l hx hb dL_law_200 rfl ?_
    refine W.lcmp hx hb dL_law_201 ?_
    refine lv_topE (y := 0) (by rw [hSR.2.1 hk0]; exact lg_self _) ?_
    refine lv_if_eq (tgt := 207) hx hb dL_law_202 (by decide) (fun _ => ?_) (fun c9 => absurd rfl c9)
    refine lv_goto (tgt := 1482) hx hb dL_law_207 (by decide) ?_
    exact K L' ad' ci2 ca2 cr2 n2 w2 tot2 nt2 kp2 nx2 nc2 fi9 fa9 f2 H locs ls ht2 S2 hm9 (hF.1 _ hO) hW hS (lv_sub hl [2, 3, 4, 5, 6] rfl)

set_option maxHeartbeats 4000000 in
theorem lb_wipe (C : gCx p s m args meth c code 7 ret "RateGateLaw" mname X A) (hl0 : l.stackTraces = false) (hX : va_X b Ls xs s s.heap) (hbl : b < s.heap.size) (hbA : ¬ A b) (hi : i + 5 ≤ Ls) (hLs : Ls ≤ 2560) (hto : tot < 512) (hcells : cells + 10 ≤ 601024) (hslots : slots + 300 ≤ 7293034) (S : SV L ci ca cr n w tot nt kp nx nc fi fa) (hm : mL L) (hO : ((110, 0) : ro) ∈ L) (hW : gW X A L ad (wld X ad ci ca cr fi fa f) s H) (hS : va_S A s.heap H locs) (hl : lv_has ls 7 [(0, .ref b), (1, .ref (ad (1, 0))), (2, .ref (ad (100, 0))), (3, .ref (ad (110, 0))), (4, .int (nI i))]) (K : lwK p l e s m args below meth c Q X A b i tot cells slots) : W p l e room_1 s m args below meth c H locs cells slots Q (F0 m 210 ls []) := by
  have hx := C.1.1
  have hb := C.1.2.1
  obtain ⟨r1, r3, r22, ⟨r23, rnc⟩, r32, r42⟩ := id S.2.1
  have h4 := S.2.2.1.2.1
  have h5 := S.2.2.1.2.2
  have hn60 := S.1.2.2.2.2.2.2.2.2.2.2.1.2.1
  have hw2 := S.1.2.2.2.2.2.2.2.2.2.2.2.1.2
  have hq100 := S.1.2.2.1.1
  have hp50 := S.1.2.2.1.2
  refine lv_aload_n hx hb dL_law_210 rfl (lv_at hl 1 rfl) ?_
  refine g_callVi (r := (1, 0)) (T := TX7) (N := 7) (k2 := 0) (As := []) (rest := []) C (c_X7_wipe l X L ad (mSt X ad (oSt X f) fi fa) ci ca cr n w tot nt kp nx S.1) tw_1_228 tw_1_229 tw_1_230 tw_1_1 tw_1_231 (by decide +kernel) ⟨(Nat.le_of_ble_eq_true rfl), (Nat.le_of_ble_eq_true rfl)⟩ hW hS (S.1.r (by decide)) rfl rfl rfl hl.1 rfl (Nat.le_of_ble_eq_true rfl) dL_law_211 ⟨hcells, hslots⟩ (fun v9 L9 ad9 st9 H locs hp hW hS => ?_)
  obtain ⟨z0, hv9⟩ := hp
  injection z0 with e1 e2
  injection e2 with e2 e3
  rw [e1, e2, e3] at hW
  replace hW : gW X A L ad (wld X ad (up2 ci 2 0 0) ca cr fi fa f) s H := hW
  rw [wld_m] at hW
  refine lv_aload_n hx hb dL_law_214 rfl (lv_at hl 2 rfl) ?_
  refine m_callVi (k2 := 0) (As := []) (rest := [.int v9]) C (c_X8_wipe l X L ad (cSt X ad (oSt X f) (up2 ci 2 0 0) ca cr) fi fa hm) tw_6_116 tw_6_117 tw_6_118 tw_1_10 tw_6_119 (by decide +kernel) ⟨(Nat.le_of_ble_eq_true rfl), (Nat.le_of_ble_eq_true rfl)⟩ hm hW hS rfl hl.1 rfl (Nat.le_of_ble_eq_true rfl) dL_law_215 ⟨hcells, hslots⟩ (fun v fi9 fa9 H locs hr hW hS => ?_)
  rw [← wld_m] at hW
  obtain ⟨hr1, hr2, hv⟩ := hr
  rw [hr1, hr2] at hW
  have hvv : v9 = v := by rw [hv9, hv, r3]
  have hS2 := sv_wipe S
  refine lv_icmp_eq (tgt := 1482) hx hb dL_law_218 (by decide) (fun _ => ?_) (fun c9 => absurd hvv c9)
  exact K L ad (up2 ci 2 0 0) ca cr _ _ _ _ _ _ _ _ _ f H locs ls (Nat.le_succ _) hS2 hm hO hW hS hl

set_option maxHeartbeats 4000000 in
theorem lb_isRight (C : gCx p s m args meth c code 7 ret "RateGateLaw" mname X A) (hl0 : l.stackTraces = false) (hX : va_X b Ls xs s s.heap) (hbl : b < s.heap.size) (hbA : ¬ A b) (hi : i + 5 ≤ Ls) (hLs : Ls ≤ 2560) (hto : tot < 512) (hcells : cells + 10 ≤ 601024) (hslots : slots + 300 ≤ 7293034) (S : SV L ci ca cr n w tot nt kp nx nc fi fa) (hm : mL L) (hO : ((110, 0) : ro) ∈ L) (hW : gW X A L ad (wld X ad ci ca cr fi fa f) s H) (hS : va_S A s.heap H locs) (hl : lv_has ls 7 [(0, .ref b), (1, .ref (ad (1, 0))), (2, .ref (ad (100, 0))), (3, .ref (ad (110, 0))), (4, .int (nI i))]) (K : lwK p l e s m args below meth c Q X A b i tot cells slots) : W p l e room_1 s m args below meth c H locs cells slots Q (F0 m 223 ls []) := by
  have hx := C.1.1
  have hb := C.1.2.1
  obtain ⟨r1, r3, r22, ⟨r23, rnc⟩, r32, r42⟩ := id S.2.1
  have h4 := S.2.2.1.2.1
  have h5 := S.2.2.1.2.2
  have hn60 := S.1.2.2.2.2.2.2.2.2.2.2.1.2.1
  have hw2 := S.1.2.2.2.2.2.2.2.2.2.2.2.1.2
  have hq100 := S.1.2.2.1.1
  have hp50 := S.1.2.2.1.2
  refine lv_aload_n hx hb dL_law_223 rfl (lv_at hl 1 rfl) ?_
  refine g_callVi (r := (1, 0)) (T := TX7) (N := 7) (k2 := 0) (As := []) (rest := []) C (c_X7_isRight l X L ad (mSt X ad (oSt X f) fi fa) ci ca cr n w tot nt kp nx S.1) tw_1_236 tw_1_237 tw_1_238 tw_1_1 tw_1_239 (by decide +kernel) ⟨(Nat.le_of_ble_eq_true rfl), (Nat.le_of_ble_eq_true rfl)⟩ hW hS (S.1.r (by decide)) rfl rfl rfl hl.1 rfl (Nat.le_of_ble_eq_true rfl) dL_law_224 ⟨hcells, hslots⟩ (fun v9 L9 ad9 st9 H locs hp hW hS => ?_)
  obtain ⟨fk, vals, w9, hT, z0, hv9⟩ := hp
  injection z0 with e1 e2
  injection e2 with e2 e3
  rw [e1, e2, e3] at hW
  replace hW : gW X A L ad (wld X ad (up2 ci 3 0 fk) (ua2 ca 4 0 vals) (ur2 cr 2 0 w9) fi fa f) s H := hW
  rw [wld_m] at hW
  refine lv_aload_n hx hb dL_law_227 rfl (lv_at hl 2 rfl) ?_
  refine m_callVi (k2 := 0) (As := []) (rest := [.int v9]) C (c_X8_isRight l X L ad (cSt X ad (oSt X f) (up2 ci 3 0 fk) (ua2 ca 4 0 vals) (ur2 cr 2 0 w9)) fi fa hm n r3 hn60 h4) tw_6_120 tw_6_121 tw_6_122 tw_1_10 tw_6_123 (by decide +kernel) ⟨(Nat.le_of_ble_eq_true rfl), (Nat.le_of_ble_eq_true rfl)⟩ hm hW hS rfl hl.1 rfl (Nat.le_of_ble_eq_true rfl) dL_law_228 ⟨hcells, hslots⟩ (fun v fi9 fa9 H locs hr hW hS => ?_)
  rw [← wld_m] at hW
  obtain ⟨hr1, hr2, hr0, hv⟩ := hr
  rw [S.2.2.1.1] at hv
  have hw5 := hT.1
  have hz : (rdR (ca 3 0) n).1 = 0 ↔ w9 = 0 := by rw [hT.2.1]; exact nI_eq (by omega) (by decide)
  have hvv : v9 = v := by rcases hv9 with ⟨q1, q2⟩ | ⟨q1, q2⟩ <;> rcases hv with ⟨q3, q4⟩ | ⟨q3, q4⟩ <;> first | exact q2.trans q4.symm | exact absurd (hz.mpr q1) q3 | exact absurd (hz.mp q3) q1
  have hS2 : SV L (up2 ci 3 0 fk) (ua2 ca 4 0 vals) (ur2 cr 2 0 w9) n w tot nt kp nx nc fi9 fa9 := ⟨cV_c S.1 fk vals w9, RV_c (RV_m S.2 hr1 hr2) fk vals w9⟩
  refine lv_icmp_eq (tgt := 1482) hx hb dL_law_231 (by decide) (fun _ => ?_) (fun c9 => absurd hvv c9)
  exact K L ad (up2 ci 3 0 fk) (ua2 ca 4 0 vals) (ur2 cr 2 0 w9) _ _ _ _ _ _ _ _ _ f H locs ls (Nat.le_succ _) hS2 hm hO hW hS hl

set_option maxHeartbeats 4000000 in
theorem lb_faultLength (C : gCx p s m args meth c code 7 ret "RateGateLaw" mname X A) (hl0 : l.stackTraces = false) (hX : va_X b Ls xs s s.heap) (hbl : b < s.heap.size) (hbA : ¬ A b) (hi : i + 5 ≤ Ls) (hLs : Ls ≤ 2560) (hto : tot < 512) (hcells : cells + 10 ≤ 601024) (hslots : slots + 300 ≤ 7293034) (S : SV L ci ca cr n w tot nt kp nx nc fi fa) (hm : mL L) (hO : ((110, 0) : ro) ∈ L) (hW : gW X A L ad (wld X ad ci ca cr fi fa f) s H) (hS : va_S A s.heap H locs) (hl : lv_has ls 7 [(0, .ref b), (1, .ref (ad (1, 0))), (2, .ref (ad (100, 0))), (3, .ref (ad (110, 0))), (4, .int (nI i))]) (K : lwK p l e s m args below meth c Q X A b i tot cells slots) : W p l e room_1 s m args below meth c H locs cells slots Q (F0 m 236 ls []) := by
  have hx := C.1.1
  have hb := C.1.2.1
  obtain ⟨r1, r3, r22, ⟨r23, rnc⟩, r32, r42⟩ := id S.2.1
  have h4 := S.2.2.1.2.1
  have h5 := S.2.2.1.2.2
  have hn60 := S.1.2.2.2.2.2.2.2.2.2.2.1.2.1
  have hw2 := S.1.2.2.2.2.2.2.2.2.2.2.2.1.2
  have hq100 := S.1.2.2.1.1
  have hp50 := S.1.2.2.1.2
  refine lv_aload_n hx hb dL_law_236 rfl (lv_at hl 1 rfl) ?_
  refine g_callVi (r := (1, 0)) (T := TX7) (N := 7) (k2 := 0) (As := []) (rest := []) C (c_X7_faultLength l X L ad (mSt X ad (oSt X f) fi fa) ci ca cr n w tot nt kp nx S.1) tw_3_221 tw_3_222 tw_3_223 tw_1_1 tw_3_224 (by decide +kernel) ⟨(Nat.le_of_ble_eq_true rfl), (Nat.le_of_ble_eq_true rfl)⟩ hW hS (S.1.r (by decide)) rfl rfl rfl hl.1 rfl (Nat.le_of_ble_eq_true rfl) dL_law_237 ⟨hcells, hslots⟩ (fun v9 L9 ad9 st9 H locs hp hW hS => ?_)
  obtain ⟨fk, vals, w9, hT, z0, hv9⟩ := hp
  injection z0 with e1 e2
  injection e2 with e2 e3
  rw [e1, e2, e3] at hW
  replace hW : gW X A L ad (wld X ad (up2 ci 3 0 fk) (ua2 ca 4 0 vals) (ur2 cr 2 0 w9) fi fa f) s H := hW
  rw [wld_m] at hW
  refine lv_aload_n hx hb dL_law_240 rfl (lv_at hl 2 rfl) ?_
  refine m_callVi (k2 := 0) (As := []) (rest := [.int v9]) C (c_X8_faultLength l X L ad (cSt X ad (oSt X f) (up2 ci 3 0 fk) (ua2 ca 4 0 vals) (ur2 cr 2 0 w9)) fi fa hm n r3 hn60 h4 h5) tw_6_148 tw_6_149 tw_6_150 tw_1_10 tw_6_151 (by decide +kernel) ⟨(Nat.le_of_ble_eq_true rfl), (Nat.le_of_ble_eq_true rfl)⟩ hm hW hS rfl hl.1 rfl (Nat.le_of_ble_eq_true rfl) dL_law_241 ⟨hcells, hslots⟩ (fun v fi9 fa9 H locs hr hW hS => ?_)
  rw [← wld_m] at hW
  obtain ⟨hr1, hr2, hr0, hv⟩ := hr
  rw [S.2.2.1.1] at hv
  have hvv : v9 = v := hv9.trans hv.symm
  have hS2 : SV L (up2 ci 3 0 fk) (ua2 ca 4 0 vals) (ur2 cr 2 0 w9) n w tot nt kp nx nc fi9 fa9 := ⟨cV_c S.1 fk vals w9, RV_c (RV_m S.2 hr1 hr2) fk vals w9⟩
  refine lv_icmp_eq (tgt := 1482) hx hb dL_law_244 (by decide) (fun _ => ?_) (fun c9 => absurd hvv c9)
  exact K L ad (up2 ci 3 0 fk) (ua2 ca 4 0 vals) (ur2 cr 2 0 w9) _ _ _ _ _ _ _ _ _ f H locs ls (Nat.le_succ _) hS2 hm hO hW hS hl

set_option maxHeartbeats 4000000 in
theorem lb_fault (C : gCx p s m args meth c code 7 ret "RateGateLaw" mname X A) (hl0 : l.stackTraces = false) (hX : va_X b Ls xs s s.heap) (hbl : b < s.heap.size) (hbA : ¬ A b) (hi : i + 5 ≤ Ls) (hLs : Ls ≤ 2560) (hto : tot < 512) (hcells : cells + 10 ≤ 601024) (hslots : slots + 300 ≤ 7293034) (S : SV L ci ca cr n w tot nt kp nx nc fi fa) (hm : mL L) (hO : ((110, 0) : ro) ∈ L) (hW : gW X A L ad (wld X ad ci ca cr fi fa f) s H) (hS : va_S A s.heap H locs) (hl : lv_has ls 7 [(0, .ref b), (1, .ref (ad (1, 0))), (2, .ref (ad (100, 0))), (3, .ref (ad (110, 0))), (4, .int (nI i))]) (K : lwK p l e s m args below meth c Q X A b i tot cells slots) : W p l e room_1 s m args below meth c H locs cells slots Q (F0 m 249 ls []) := by
  have hx := C.1.1
  have hb := C.1.2.1
  obtain ⟨r1, r3, r22, ⟨r23, rnc⟩, r32, r42⟩ := id S.2.1
  have h4 := S.2.2.1.2.1
  have h5 := S.2.2.1.2.2
  have hn60 := S.1.2.2.2.2.2.2.2.2.2.2.1.2.1
  have hw2 := S.1.2.2.2.2.2.2.2.2.2.2.2.1.2
  have hq100 := S.1.2.2.1.1
  have hp50 := S.1.2.2.1.2
  refine lv_aload_n hx hb dL_law_249 rfl (lv_at hl 1 rfl) ?_
  refine lv_aload_n hx hb dL_law_250 rfl (lv_at hl 0 rfl) ?_
  refine lv_iload hx hb dL_law_251 (lv_at hl 4 rfl) ?_
  refine lv_iconst (v := 1) hx hb dL_law_253 (by decide) ?_
  refine lv_iadd hx hb dL_law_254 ?_
  refine lv_topE (y := nI (i + 1)) (nI_add i 1) ?_
  refine va_sld hx hb hX hbl hbA hS (vp_in_nI (n := i + 1) (N := Ls) (by omega) (by omega)) dL_law_255 ?_
  refine lv_topE (y := xs (i + 1)) (by rw [nI_clamp (by omega)]) ?_
  refine lv_aload_n hx hb dL_law_256 rfl (lv_at hl 3 rfl) ?_
  refine g_callSW (k2 := 3) (As := [.ref (ad (1, 0)), .int (xs (i + 1)), .ref (ad (110, 0))]) (rest := []) C (L_fault l hl0 X L ad ci ca cr n w tot nt kp nx fi fa f S.1 hO (xs (i + 1))) tw_4_29 tw_4_30 tw_1_0 tw_4_31 (by decide +kernel) ⟨(Nat.le_of_ble_eq_true rfl), (Nat.le_of_ble_eq_true rfl)⟩ hW hS rfl hl.1 rfl (Nat.le_of_ble_eq_true rfl) dL_law_257 ⟨hcells, hslots⟩ (fun k L9 ad9 st9 H locs hp hW hS => ?_)
  obtain ⟨L', ad', ci2, ca2, cr2, f2, z0, hF, hc⟩ := hp
  injection z0 with e1 e2
  injection e2 with e2 e3
  rw [e1, e2, e3] at hW
  have hm9 : mL L' := mL_of hF.1 hm
  have hl : lv_has ls 7 [(0, .ref b), (1, .ref (ad' (1, 0))), (2, .ref (ad' (100, 0))), (3, .ref (ad' (110, 0))), (4, .int (nI i))] := by rw [hF.2 (1, 0) (Or.inr rfl), hF.2 (100, 0) (Or.inl (by decide)), hF.2 (110, 0) (Or.inl (by decide))]; exact hl
  refine lv_istore (lv' := [(5, .int k), (0, .ref b), (1, .ref (ad' (1, 0))), (2, .ref (ad' (100, 0))), (3, .ref (ad' (110, 0))), (4, .int (nI i))]) hx hb dL_law_260 hl (by decide) rfl (fun ls hl => ?_)
  refine lv_aload_n hx hb dL_law_262 rfl (lv_at hl 3 rfl) ?_
  refine lv_aload_n hx hb dL_law_263 rfl (lv_at hl 1 rfl) ?_
  refine lv_iload hx hb dL_law_264 (lv_at hl 5 rfl) ?_
  refine lv_iconst (v := 1) hx hb dL_law_266 (by decide) ?_
  refine lv_iadd hx hb dL_law_267 ?_
  refine lv_topE (y := nI (i + 1)) (nI_add i 1) ?_
  refine va_sld hx hb hX hbl hbA hS (vp_in_nI (n := i + 1) (N := Ls) (by omega) (by omega)) dL_law_268 ?_
  refine lv_topE (y := xs (i + 1)) (by rw [nI_clamp (by omega)]) ?_
  rw [wld_m] at hW
  refine m_callVi (k2 := 1) (As := [.int (xs (i + 1))]) (rest := []) C (c_X8_fault l X L' ad' (cSt X ad' (oSt X f2) ci2 ca2 cr2) fi fa hm9 (xs (i + 1)) n r3 hn60 h4 h5) tw_6_156 tw_6_157 tw_6_158 tw_1_10 tw_6_159 (by decide +kernel) ⟨(Nat.le_of_ble_eq_true rfl), (Nat.le_of_ble_eq_true rfl)⟩ hm9 hW hS rfl hl.1 rfl (Nat.le_of_ble_eq_true rfl) dL_law_269 ⟨hcells, hslots⟩ (fun v fi9 fa9 H locs hr hW hS => ?_)
  have hSR : SR tot k (f2 0) v L' ci2 ca2 cr2 fi9 fa9 := sim_fault S hc hr
  refine lv_istore (lv' := [(6, .int v), (5, .int k), (0, .ref b), (1, .ref (ad' (1, 0))), (2, .ref (ad' (100, 0))), (3, .ref (ad' (110, 0))), (4, .int (nI i))]) hx hb dL_law_272 hl (by decide) rfl (fun ls hl => ?_)
  refine lv_aload_n hx hb dL_law_274 rfl (lv_at hl 4 rfl) ?_
  refine m_callVi (k2 := 0) (As := []) (rest := []) C (c_X8_thrown l X L' ad' (cSt X ad' (oSt X f2) ci2 ca2 cr2) fi9 fa9 hm9) tw_6_105 tw_6_106 tw_6_107 tw_1_10 tw_6_108 (by decide +kernel) ⟨(Nat.le_of_ble_eq_true rfl), (Nat.le_of_ble_eq_true rfl)⟩ hm9 hW hS rfl hl.1 rfl (Nat.le_of_ble_eq_true rfl) dL_law_275 ⟨hcells, hslots⟩ (fun v2 fi8 fa8 H locs ht hW hS => ?_)
  obtain ⟨e8, e9, ht⟩ := ht
  rw [e8, e9, ← wld_m] at hW
  refine lv_iload hx hb dL_law_278 (lv_at hl 1 rfl) ?_
  refine lv_icmp_eq (tgt := 285) hx hb dL_law_280 (by decide) (fun _ => ?_) (fun c9 => absurd (ht.trans hSR.1) c9)
  refine lv_iload hx hb dL_law_285 (lv_at hl 1 rfl) ?_
  obtain ⟨n2, w2, tot2, nt2, kp2, nx2, nc2, ht2, S2⟩ := hSR.2.2
  refine lv_if_ne (tgt := 302) hx hb dL_law_287 (by decide) (fun _ => ?_) (fun c9 => ?_)
  · refine lv_goto (tgt := 1482) hx hb dL_law_302 (by decide) ?_
    exact K L' ad' ci2 ca2 cr2 n2 w2 tot2 nt2 kp2 nx2 nc2 fi9 fa9 f2 H locs ls ht2 S2 hm9 (hF.1 _ hO) hW hS (lv_sub hl [2, 3, 4, 5, 6] rfl)
  · have hk0 : k = 0 := c9
    refine lv_aload_n hx hb dL_law_290 rfl (lv_at hl 5 rfl) ?_
    refine lv_iconst (v := 0) hx hb dL_law_291 (by decide) ?_
    refine g_lald (r := (110, 0)) C hW (hF.1 _ hO) rfl (vp_in_nI (n := 0) (N := 1) (by decide) (by decide)) dL_law_292 ?_
    refine lv_topV (y := .long (f2 0)) rfl ?_
    refine lv_iload hx hb dL_law_293 (lv_at hl 0 rfl) ?_
    refine lv_i2l hx hb dL_law_295 rfl ?_
    refine W.lcmp hx hb dL_law_296 ?_
    refine lv_topE (y := 0) (by rw [hSR.2.1 hk0]; exact lg_self _) ?_
    refine lv_if_eq (tgt := 302) hx hb dL_law_297 (by decide) (fun _ => ?_) (fun c9 => absurd rfl c9)
    refine lv_goto (tgt := 1482) hx hb dL_law_302 (by decide) ?_
    exact K L' ad' ci2 ca2 cr2 n2 w2 tot2 nt2 kp2 nx2 nc2 fi9 fa9 f2 H locs ls ht2 S2 hm9 (hF.1 _ hO) hW hS (lv_sub hl [2, 3, 4, 5, 6] rfl)

set_option maxHeartbeats 4000000 in
theorem lb_pass (C : gCx p s m args meth c code 7 ret "RateGateLaw" mname X A) (hl0 : l.stackTraces = false) (hX : va_X b Ls xs s s.heap) (hbl : b < s.heap.size) (hbA : ¬ A b) (hi : i + 5 ≤ Ls) (hLs : Ls ≤ 2560) (hto : tot < 512) (hcells : cells + 10 ≤ 601024) (hslots : slots + 300 ≤ 7293034) (S : SV L ci ca cr n w tot nt kp nx nc fi fa) (hm : mL L) (hO : ((110, 0) : ro) ∈ L) (hW : gW X A L ad (wld X ad ci ca cr fi fa f) s H) (hS : va_S A s.heap H locs) (hl : lv_has ls 7 [(0, .ref b), (1, .ref (ad (1, 0))), (2, .ref (ad (100, 0))), (3, .ref (ad (110, 0))), (4, .int (nI i))]) (K : lwK p l e s m args below meth c Q X A b i tot cells slots) : W p l e room_1 s m args below meth c H locs cells slots Q (F0 m 305 ls []) := by
  have hx := C.1.1
  have hb := C.1.2.1
  obtain ⟨r1, r3, r22, ⟨r23, rnc⟩, r32, r42⟩ := id S.2.1
  have h4 := S.2.2.1.2.1
  have h5 := S.2.2.1.2.2
  have hn60 := S.1.2.2.2.2.2.2.2.2.2.2.1.2.1
  have hw2 := S.1.2.2.2.2.2.2.2.2.2.2.2.1.2
  have hq100 := S.1.2.2.1.1
  have hp50 := S.1.2.2.1.2
  refine lv_aload_n hx hb dL_law_305 rfl (lv_at hl 1 rfl) ?_
  refine lv_aload_n hx hb dL_law_306 rfl (lv_at hl 0 rfl) ?_
  refine lv_iload hx hb dL_law_307 (lv_at hl 4 rfl) ?_
  refine lv_iconst (v := 1) hx hb dL_law_309 (by decide) ?_
  refine lv_iadd hx hb dL_law_310 ?_
  refine lv_topE (y := nI (i + 1)) (nI_add i 1) ?_
  refine va_sld hx hb hX hbl hbA hS (vp_in_nI (n := i + 1) (N := Ls) (by omega) (by omega)) dL_law_311 ?_
  refine lv_topE (y := xs (i + 1)) (by rw [nI_clamp (by omega)]) ?_
  refine lv_aload_n hx hb dL_law_312 rfl (lv_at hl 3 rfl) ?_
  refine g_callSW (k2 := 3) (As := [.ref (ad (1, 0)), .int (xs (i + 1)), .ref (ad (110, 0))]) (rest := []) C (L_pass l hl0 X L ad ci ca cr n w tot nt kp nx fi fa f S.1 hO (xs (i + 1))) tw_4_54 tw_4_55 tw_1_0 tw_4_56 (by decide +kernel) ⟨(Nat.le_of_ble_eq_true rfl), (Nat.le_of_ble_eq_true rfl)⟩ hW hS rfl hl.1 rfl (Nat.le_of_ble_eq_true rfl) dL_law_313 ⟨hcells, hslots⟩ (fun k L9 ad9 st9 H locs hp hW hS => ?_)
  obtain ⟨L', ad', ci2, ca2, cr2, f2, z0, hF, hc⟩ := hp
  injection z0 with e1 e2
  injection e2 with e2 e3
  rw [e1, e2, e3] at hW
  have hm9 : mL L' := mL_of hF.1 hm
  have hl : lv_has ls 7 [(0, .ref b), (1, .ref (ad' (1, 0))), (2, .ref (ad' (100, 0))), (3, .ref (ad' (110, 0))), (4, .int (nI i))] := by rw [hF.2 (1, 0) (Or.inr rfl), hF.2 (100, 0) (Or.inl (by decide)), hF.2 (110, 0) (Or.inl (by decide))]; exact hl
  refine lv_istore (lv' := [(5, .int k), (0, .ref b), (1, .ref (ad' (1, 0))), (2, .ref (ad' (100, 0))), (3, .ref (ad' (110, 0))), (4, .int (nI i))]) hx hb dL_law_316 hl (by decide) rfl (fun ls hl => ?_)
  refine lv_aload_n hx hb dL_law_318 rfl (lv_at hl 3 rfl) ?_
  refine lv_aload_n hx hb dL_law_319 rfl (lv_at hl 1 rfl) ?_
  refine lv_iload hx hb dL_law_320 (lv_at hl 5 rfl) ?_
  refine lv_iconst (v := 1) hx hb dL_law_322 (by decide) ?_
  refine lv_iadd hx hb dL_law_323 ?_
  refine lv_topE (y := nI (i + 1)) (nI_add i 1) ?_
  refine va_sld hx hb hX hbl hbA hS (vp_in_nI (n := i + 1) (N := Ls) (by omega) (by omega)) dL_law_324 ?_
  refine lv_topE (y := xs (i + 1)) (by rw [nI_clamp (by omega)]) ?_
  rw [wld_m] at hW
  refine m_callVi (k2 := 1) (As := [.int (xs (i + 1))]) (rest := []) C (c_X8_pass l X L' ad' (cSt X ad' (oSt X f2) ci2 ca2 cr2) fi fa hm9 (xs (i + 1)) w r1 hw2) tw_6_160 tw_6_161 tw_6_162 tw_1_10 tw_6_163 (by decide +kernel) ⟨(Nat.le_of_ble_eq_true rfl), (Nat.le_of_ble_eq_true rfl)⟩ hm9 hW hS rfl hl.1 rfl (Nat.le_of_ble_eq_true rfl) dL_law_325 ⟨hcells, hslots⟩ (fun v fi9 fa9 H locs hr hW hS => ?_)
  have hSR : SR tot k (f2 0) v L' ci2 ca2 cr2 fi9 fa9 := sim_pass S hc hr
  refine lv_istore (lv' := [(6, .int v), (5, .int k), (0, .ref b), (1, .ref (ad' (1, 0))), (2, .ref (ad' (100, 0))), (3, .ref (ad' (110, 0))), (4, .int (nI i))]) hx hb dL_law_328 hl (by decide) rfl (fun ls hl => ?_)
  refine lv_aload_n hx hb dL_law_330 rfl (lv_at hl 4 rfl) ?_
  refine m_callVi (k2 := 0) (As := []) (rest := []) C (c_X8_thrown l X L' ad' (cSt X ad' (oSt X f2) ci2 ca2 cr2) fi9 fa9 hm9) tw_6_105 tw_6_106 tw_6_107 tw_1_10 tw_6_108 (by decide +kernel) ⟨(Nat.le_of_ble_eq_true rfl), (Nat.le_of_ble_eq_true rfl)⟩ hm9 hW hS rfl hl.1 rfl (Nat.le_of_ble_eq_true rfl) dL_law_331 ⟨hcells, hslots⟩ (fun v2 fi8 fa8 H locs ht hW hS => ?_)
  obtain ⟨e8, e9, ht⟩ := ht
  rw [e8, e9, ← wld_m] at hW
  refine lv_iload hx hb dL_law_334 (lv_at hl 1 rfl) ?_
  refine lv_icmp_eq (tgt := 341) hx hb dL_law_336 (by decide) (fun _ => ?_) (fun c9 => absurd (ht.trans hSR.1) c9)
  refine lv_iload hx hb dL_law_341 (lv_at hl 1 rfl) ?_
  obtain ⟨n2, w2, tot2, nt2, kp2, nx2, nc2, ht2, S2⟩ := hSR.2.2
  refine lv_if_ne (tgt := 358) hx hb dL_law_343 (by decide) (fun _ => ?_) (fun c9 => ?_)
  · refine lv_goto (tgt := 1482) hx hb dL_law_358 (by decide) ?_
    exact K L' ad' ci2 ca2 cr2 n2 w2 tot2 nt2 kp2 nx2 nc2 fi9 fa9 f2 H locs ls ht2 S2 hm9 (hF.1 _ hO) hW hS (lv_sub hl [2, 3, 4, 5, 6] rfl)
  · have hk0 : k = 0 := c9
    refine lv_aload_n hx hb dL_law_346 rfl (lv_at hl 5 rfl) ?_
    refine lv_iconst (v := 0) hx hb dL_law_347 (by decide) ?_
    refine g_lald (r := (110, 0)) C hW (hF.1 _ hO) rfl (vp_in_nI (n := 0) (N := 1) (by decide) (by decide)) dL_law_348 ?_
    refine lv_topV (y := .long (f2 0)) rfl ?_
    refine lv_iload hx hb dL_law_349 (lv_at hl 0 rfl) ?_
    refine lv_i2l hx hb dL_law_351 rfl ?_
    refine W.lcmp hx hb dL_law_352 ?_
    refine lv_topE (y := 0) (by rw [hSR.2.1 hk0]; exact lg_self _) ?_
    refine lv_if_eq (tgt := 358) hx hb dL_law_353 (by decide) (fun _ => ?_) (fun c9 => absurd rfl c9)
    refine lv_goto (tgt := 1482) hx hb dL_law_358 (by decide) ?_
    exact K L' ad' ci2 ca2 cr2 n2 w2 tot2 nt2 kp2 nx2 nc2 fi9 fa9 f2 H locs ls ht2 S2 hm9 (hF.1 _ hO) hW hS (lv_sub hl [2, 3, 4, 5, 6] rfl)

set_option maxHeartbeats 4000000 in
theorem lb_quota (C : gCx p s m args meth c code 7 ret "RateGateLaw" mname X A) (hl0 : l.stackTraces = false) (hX : va_X b Ls xs s s.heap) (hbl : b < s.heap.size) (hbA : ¬ A b) (hi : i + 5 ≤ Ls) (hLs : Ls ≤ 2560) (hto : tot < 512) (hcells : cells + 10 ≤ 601024) (hslots : slots + 300 ≤ 7293034) (S : SV L ci ca cr n w tot nt kp nx nc fi fa) (hm : mL L) (hO : ((110, 0) : ro) ∈ L) (hW : gW X A L ad (wld X ad ci ca cr fi fa f) s H) (hS : va_S A s.heap H locs) (hl : lv_has ls 7 [(0, .ref b), (1, .ref (ad (1, 0))), (2, .ref (ad (100, 0))), (3, .ref (ad (110, 0))), (4, .int (nI i))]) (K : lwK p l e s m args below meth c Q X A b i tot cells slots) : W p l e room_1 s m args below meth c H locs cells slots Q (F0 m 361 ls []) := by
  have hx := C.1.1
  have hb := C.1.2.1
  obtain ⟨r1, r3, r22, ⟨r23, rnc⟩, r32, r42⟩ := id S.2.1
  have h4 := S.2.2.1.2.1
  have h5 := S.2.2.1.2.2
  have hn60 := S.1.2.2.2.2.2.2.2.2.2.2.1.2.1
  have hw2 := S.1.2.2.2.2.2.2.2.2.2.2.2.1.2
  have hq100 := S.1.2.2.1.1
  have hp50 := S.1.2.2.1.2
  refine lv_aload_n hx hb dL_law_361 rfl (lv_at hl 1 rfl) ?_
  refine lv_aload_n hx hb dL_law_362 rfl (lv_at hl 0 rfl) ?_
  refine lv_iload hx hb dL_law_363 (lv_at hl 4 rfl) ?_
  refine lv_iconst (v := 1) hx hb dL_law_365 (by decide) ?_
  refine lv_iadd hx hb dL_law_366 ?_
  refine lv_topE (y := nI (i + 1)) (nI_add i 1) ?_
  refine va_sld hx hb hX hbl hbA hS (vp_in_nI (n := i + 1) (N := Ls) (by omega) (by omega)) dL_law_367 ?_
  refine lv_topE (y := xs (i + 1)) (by rw [nI_clamp (by omega)]) ?_
  refine lv_aload_n hx hb dL_law_368 rfl (lv_at hl 0 rfl) ?_
  refine lv_iload hx hb dL_law_369 (lv_at hl 4 rfl) ?_
  refine lv_iconst (v := 2) hx hb dL_law_371 (by decide) ?_
  refine lv_iadd hx hb dL_law_372 ?_
  refine lv_topE (y := nI (i + 2)) (nI_add i 2) ?_
  refine va_sld hx hb hX hbl hbA hS (vp_in_nI (n := i + 2) (N := Ls) (by omega) (by omega)) dL_law_373 ?_
  refine lv_topE (y := xs (i + 2)) (by rw [nI_clamp (by omega)]) ?_
  refine lv_aload_n hx hb dL_law_374 rfl (lv_at hl 0 rfl) ?_
  refine lv_iload hx hb dL_law_375 (lv_at hl 4 rfl) ?_
  refine lv_iconst (v := 3) hx hb dL_law_377 (by decide) ?_
  refine lv_iadd hx hb dL_law_378 ?_
  refine lv_topE (y := nI (i + 3)) (nI_add i 3) ?_
  refine va_sld hx hb hX hbl hbA hS (vp_in_nI (n := i + 3) (N := Ls) (by omega) (by omega)) dL_law_379 ?_
  refine lv_topE (y := xs (i + 3)) (by rw [nI_clamp (by omega)]) ?_
  refine lv_aload_n hx hb dL_law_380 rfl (lv_at hl 3 rfl) ?_
  refine g_callSW (k2 := 5) (As := [.ref (ad (1, 0)), .int (xs (i + 1)), .int (xs (i + 2)), .int (xs (i + 3)), .ref (ad (110, 0))]) (rest := []) C (L_quota l hl0 X L ad ci ca cr n w tot nt kp nx fi fa f S.1 hO (xs (i + 1)) (xs (i + 2)) (xs (i + 3))) tw_4_64 tw_4_65 tw_1_0 tw_4_66 (by decide +kernel) ⟨(Nat.le_of_ble_eq_true rfl), (Nat.le_of_ble_eq_true rfl)⟩ hW hS rfl hl.1 rfl (Nat.le_of_ble_eq_true rfl) dL_law_381 ⟨hcells, hslots⟩ (fun k L9 ad9 st9 H locs hp hW hS => ?_)
  obtain ⟨L', ad', ci2, ca2, cr2, f2, z0, hF, hc⟩ := hp
  injection z0 with e1 e2
  injection e2 with e2 e3
  rw [e1, e2, e3] at hW
  have hm9 : mL L' := mL_of hF.1 hm
  have hl : lv_has ls 7 [(0, .ref b), (1, .ref (ad' (1, 0))), (2, .ref (ad' (100, 0))), (3, .ref (ad' (110, 0))), (4, .int (nI i))] := by rw [hF.2 (1, 0) (Or.inr rfl), hF.2 (100, 0) (Or.inl (by decide)), hF.2 (110, 0) (Or.inl (by decide))]; exact hl
  refine lv_istore (lv' := [(5, .int k), (0, .ref b), (1, .ref (ad' (1, 0))), (2, .ref (ad' (100, 0))), (3, .ref (ad' (110, 0))), (4, .int (nI i))]) hx hb dL_law_384 hl (by decide) rfl (fun ls hl => ?_)
  refine lv_aload_n hx hb dL_law_386 rfl (lv_at hl 3 rfl) ?_
  refine lv_aload_n hx hb dL_law_387 rfl (lv_at hl 1 rfl) ?_
  refine lv_iload hx hb dL_law_388 (lv_at hl 5 rfl) ?_
  refine lv_iconst (v := 1) hx hb dL_law_390 (by decide) ?_
  refine lv_iadd hx hb dL_law_391 ?_
  refine lv_topE (y := nI (i + 1)) (nI_add i 1) ?_
  refine va_sld hx hb hX hbl hbA hS (vp_in_nI (n := i + 1) (N := Ls) (by omega) (by omega)) dL_law_392 ?_
  refine lv_topE (y := xs (i + 1)) (by rw [nI_clamp (by omega)]) ?_
  refine lv_aload_n hx hb dL_law_393 rfl (lv_at hl 1 rfl) ?_
  refine lv_iload hx hb dL_law_394 (lv_at hl 5 rfl) ?_
  refine lv_iconst (v := 2) hx hb dL_law_396 (by decide) ?_
  refine lv_iadd hx hb dL_law_397 ?_
  refine lv_topE (y := nI (i + 2)) (nI_add i 2) ?_
  refine va_sld hx hb hX hbl hbA hS (vp_in_nI (n := i + 2) (N := Ls) (by omega) (by omega)) dL_law_398 ?_
  refine lv_topE (y := xs (i + 2)) (by rw [nI_clamp (by omega)]) ?_
  refine lv_aload_n hx hb dL_law_399 rfl (lv_at hl 1 rfl) ?_
  refine lv_iload hx hb dL_law_400 (lv_at hl 5 rfl) ?_
  refine lv_iconst (v := 3) hx hb dL_law_402 (by decide) ?_
  refine lv_iadd hx hb dL_law_403 ?_
  refine lv_topE (y := nI (i + 3)) (nI_add i 3) ?_
  refine va_sld hx hb hX hbl hbA hS (vp_in_nI (n := i + 3) (N := Ls) (by omega) (by omega)) dL_law_404 ?_
  refine lv_topE (y := xs (i + 3)) (by rw [nI_clamp (by omega)]) ?_
  rw [wld_m] at hW
  refine m_callVi (k2 := 3) (As := [.int (xs (i + 1)), .int (xs (i + 2)), .int (xs (i + 3))]) (rest := []) C (c_X8_quota l X L' ad' (cSt X ad' (oSt X f2) ci2 ca2 cr2) fi fa hm9 (xs (i + 1)) (xs (i + 2)) (xs (i + 3))) tw_6_164 tw_6_165 tw_6_166 tw_1_10 tw_6_167 (by decide +kernel) ⟨(Nat.le_of_ble_eq_true rfl), (Nat.le_of_ble_eq_true rfl)⟩ hm9 hW hS rfl hl.1 rfl (Nat.le_of_ble_eq_true rfl) dL_law_405 ⟨hcells, hslots⟩ (fun v fi9 fa9 H locs hr hW hS => ?_)
  have hSR : SR tot k (f2 0) v L' ci2 ca2 cr2 fi9 fa9 := sim_quota S hc hr
  refine lv_istore (lv' := [(6, .int v), (5, .int k), (0, .ref b), (1, .ref (ad' (1, 0))), (2, .ref (ad' (100, 0))), (3, .ref (ad' (110, 0))), (4, .int (nI i))]) hx hb dL_law_408 hl (by decide) rfl (fun ls hl => ?_)
  refine lv_aload_n hx hb dL_law_410 rfl (lv_at hl 4 rfl) ?_
  refine m_callVi (k2 := 0) (As := []) (rest := []) C (c_X8_thrown l X L' ad' (cSt X ad' (oSt X f2) ci2 ca2 cr2) fi9 fa9 hm9) tw_6_105 tw_6_106 tw_6_107 tw_1_10 tw_6_108 (by decide +kernel) ⟨(Nat.le_of_ble_eq_true rfl), (Nat.le_of_ble_eq_true rfl)⟩ hm9 hW hS rfl hl.1 rfl (Nat.le_of_ble_eq_true rfl) dL_law_411 ⟨hcells, hslots⟩ (fun v2 fi8 fa8 H locs ht hW hS => ?_)
  obtain ⟨e8, e9, ht⟩ := ht
  rw [e8, e9, ← wld_m] at hW
  refine lv_iload hx hb dL_law_414 (lv_at hl 1 rfl) ?_
  refine lv_icmp_eq (tgt := 421) hx hb dL_law_416 (by decide) (fun _ => ?_) (fun c9 => absurd (ht.trans hSR.1) c9)
  refine lv_iload hx hb dL_law_421 (lv_at hl 1 rfl) ?_
  obtain ⟨n2, w2, tot2, nt2, kp2, nx2, nc2, ht2, S2⟩ := hSR.2.2
  refine lv_if_ne (tgt := 438) hx hb dL_law_423 (by decide) (fun _ => ?_) (fun c9 => ?_)
  · refine lv_goto (tgt := 1482) hx hb dL_law_438 (by decide) ?_
    exact K L' ad' ci2 ca2 cr2 n2 w2 tot2 nt2 kp2 nx2 nc2 fi9 fa9 f2 H locs ls ht2 S2 hm9 (hF.1 _ hO) hW hS (lv_sub hl [2, 3, 4, 5, 6] rfl)
  · have hk0 : k = 0 := c9
    refine lv_aload_n hx hb dL_law_426 rfl (lv_at hl 5 rfl) ?_
    refine lv_iconst (v := 0) hx hb dL_law_427 (by decide) ?_
    refine g_lald (r := (110, 0)) C hW (hF.1 _ hO) rfl (vp_in_nI (n := 0) (N := 1) (by decide) (by decide)) dL_law_428 ?_
    refine lv_topV (y := .long (f2 0)) rfl ?_
    refine lv_iload hx hb dL_law_429 (lv_at hl 0 rfl) ?_
    refine lv_i2l hx hb dL_law_431 rfl ?_
    refine W.lcmp hx hb dL_law_432 ?_
    refine lv_topE (y := 0) (by rw [hSR.2.1 hk0]; exact lg_self _) ?_
    refine lv_if_eq (tgt := 438) hx hb dL_law_433 (by decide) (fun _ => ?_) (fun c9 => absurd rfl c9)
    refine lv_goto (tgt := 1482) hx hb dL_law_438 (by decide) ?_
    exact K L' ad' ci2 ca2 cr2 n2 w2 tot2 nt2 kp2 nx2 nc2 fi9 fa9 f2 H locs ls ht2 S2 hm9 (hF.1 _ hO) hW hS (lv_sub hl [2, 3, 4, 5, 6] rfl)

set_option maxHeartbeats 4000000 in
theorem lb_carrier (C : gCx p s m args meth c code 7 ret "RateGateLaw" mname X A) (hl0 : l.stackTraces = false) (hX : va_X b Ls xs s s.heap) (hbl : b < s.heap.size) (hbA : ¬ A b) (hi : i + 5 ≤ Ls) (hLs : Ls ≤ 2560) (hto : tot < 512) (hcells : cells + 10 ≤ 601024) (hslots : slots + 300 ≤ 7293034) (S : SV L ci ca cr n w tot nt kp nx nc fi fa) (hm : mL L) (hO : ((110, 0) : ro) ∈ L) (hW : gW X A L ad (wld X ad ci ca cr fi fa f) s H) (hS : va_S A s.heap H locs) (hl : lv_has ls 7 [(0, .ref b), (1, .ref (ad (1, 0))), (2, .ref (ad (100, 0))), (3, .ref (ad (110, 0))), (4, .int (nI i))]) (K : lwK p l e s m args below meth c Q X A b i tot cells slots) : W p l e room_1 s m args below meth c H locs cells slots Q (F0 m 441 ls []) := by
  have hx := C.1.1
  have hb := C.1.2.1
  obtain ⟨r1, r3, r22, ⟨r23, rnc⟩, r32, r42⟩ := id S.2.1
  have h4 := S.2.2.1.2.1
  have h5 := S.2.2.1.2.2
  have hn60 := S.1.2.2.2.2.2.2.2.2.2.2.1.2.1
  have hw2 := S.1.2.2.2.2.2.2.2.2.2.2.2.1.2
  have hq100 := S.1.2.2.1.1
  have hp50 := S.1.2.2.1.2
  refine lv_aload_n hx hb dL_law_441 rfl (lv_at hl 1 rfl) ?_
  refine lv_aload_n hx hb dL_law_442 rfl (lv_at hl 0 rfl) ?_
  refine lv_iload hx hb dL_law_443 (lv_at hl 4 rfl) ?_
  refine lv_iconst (v := 1) hx hb dL_law_445 (by decide) ?_
  refine lv_iadd hx hb dL_law_446 ?_
  refine lv_topE (y := nI (i + 1)) (nI_add i 1) ?_
  refine va_sld hx hb hX hbl hbA hS (vp_in_nI (n := i + 1) (N := Ls) (by omega) (by omega)) dL_law_447 ?_
  refine lv_topE (y := xs (i + 1)) (by rw [nI_clamp (by omega)]) ?_
  refine lv_aload_n hx hb dL_law_448 rfl (lv_at hl 0 rfl) ?_
  refine lv_iload hx hb dL_law_449 (lv_at hl 4 rfl) ?_
  refine lv_iconst (v := 2) hx hb dL_law_451 (by decide) ?_
  refine lv_iadd hx hb dL_law_452 ?_
  refine lv_topE (y := nI (i + 2)) (nI_add i 2) ?_
  refine va_sld hx hb hX hbl hbA hS (vp_in_nI (n := i + 2) (N := Ls) (by omega) (by omega)) dL_law_453 ?_
  refine lv_topE (y := xs (i + 2)) (by rw [nI_clamp (by omega)]) ?_
  refine lv_if_eq (tgt := 461) hx hb dL_law_454 (by decide) (fun c0 => ?_) (fun c0 => ?_)
  · refine lv_iconst (v := 0) hx hb dL_law_461 (by decide) ?_
    refine lv_aload_n hx hb dL_law_462 rfl (lv_at hl 0 rfl) ?_
    refine lv_iload hx hb dL_law_463 (lv_at hl 4 rfl) ?_
    refine lv_iconst (v := 3) hx hb dL_law_465 (by decide) ?_
    refine lv_iadd hx hb dL_law_466 ?_
    refine lv_topE (y := nI (i + 3)) (nI_add i 3) ?_
    refine va_sld hx hb hX hbl hbA hS (vp_in_nI (n := i + 3) (N := Ls) (by omega) (by omega)) dL_law_467 ?_
    refine lv_topE (y := xs (i + 3)) (by rw [nI_clamp (by omega)]) ?_
    refine lv_aload_n hx hb dL_law_468 rfl (lv_at hl 3 rfl) ?_
    refine g_callSW (k2 := 5) (As := [.ref (ad (1, 0)), .int (xs (i + 1)), .int 0, .int (xs (i + 3)), .ref (ad (110, 0))]) (rest := []) C (L_carrier l hl0 X L ad ci ca cr n w tot nt kp nx fi fa f S.1 hO (xs (i + 1)) 0 (xs (i + 3)) (by decide) (by decide)) tw_4_77 tw_4_78 tw_1_0 tw_4_79 (by decide +kernel) ⟨(Nat.le_of_ble_eq_true rfl), (Nat.le_of_ble_eq_true rfl)⟩ hW hS rfl hl.1 rfl (Nat.le_of_ble_eq_true rfl) dL_law_469 ⟨hcells, hslots⟩ (fun k L9 ad9 st9 H locs hp hW hS => ?_)
    obtain ⟨L', ad', ci2, ca2, cr2, f2, z0, hF, hc⟩ := hp
    injection z0 with e1 e2
    injection e2 with e2 e3
    rw [e1, e2, e3] at hW
    have hm9 : mL L' := mL_of hF.1 hm
    have hl : lv_has ls 7 [(0, .ref b), (1, .ref (ad' (1, 0))), (2, .ref (ad' (100, 0))), (3, .ref (ad' (110, 0))), (4, .int (nI i))] := by rw [hF.2 (1, 0) (Or.inr rfl), hF.2 (100, 0) (Or.inl (by decide)), hF.2 (110, 0) (Or.inl (by decide))]; exact hl
    refine lv_istore (lv' := [(5, .int k), (0, .ref b), (1, .ref (ad' (1, 0))), (2, .ref (ad' (100, 0))), (3, .ref (ad' (110, 0))), (4, .int (nI i))]) hx hb dL_law_472 hl (by decide) rfl (fun ls hl => ?_)
    refine lv_aload_n hx hb dL_law_474 rfl (lv_at hl 3 rfl) ?_
    refine lv_aload_n hx hb dL_law_475 rfl (lv_at hl 1 rfl) ?_
    refine lv_iload hx hb dL_law_476 (lv_at hl 5 rfl) ?_
    refine lv_iconst (v := 1) hx hb dL_law_478 (by decide) ?_
    refine lv_iadd hx hb dL_law_479 ?_
    refine lv_topE (y := nI (i + 1)) (nI_add i 1) ?_
    refine va_sld hx hb hX hbl hbA hS (vp_in_nI (n := i + 1) (N := Ls) (by omega) (by omega)) dL_law_480 ?_
    refine lv_topE (y := xs (i + 1)) (by rw [nI_clamp (by omega)]) ?_
    refine lv_aload_n hx hb dL_law_481 rfl (lv_at hl 1 rfl) ?_
    refine lv_iload hx hb dL_law_482 (lv_at hl 5 rfl) ?_
    refine lv_iconst (v := 2) hx hb dL_law_484 (by decide) ?_
    refine lv_iadd hx hb dL_law_485 ?_
    refine lv_topE (y := nI (i + 2)) (nI_add i 2) ?_
    refine va_sld hx hb hX hbl hbA hS (vp_in_nI (n := i + 2) (N := Ls) (by omega) (by omega)) dL_law_486 ?_
    refine lv_topE (y := xs (i + 2)) (by rw [nI_clamp (by omega)]) ?_
    refine lv_if_eq (tgt := 494) hx hb dL_law_487 (by decide) (fun _ => ?_) (fun c9 => absurd c0 c9)
    refine lv_iconst (v := 0) hx hb dL_law_494 (by decide) ?_
    refine lv_aload_n hx hb dL_law_495 rfl (lv_at hl 1 rfl) ?_
    refine lv_iload hx hb dL_law_496 (lv_at hl 5 rfl) ?_
    refine lv_iconst (v := 3) hx hb dL_law_498 (by decide) ?_
    refine lv_iadd hx hb dL_law_499 ?_
    refine lv_topE (y := nI (i + 3)) (nI_add i 3) ?_
    refine va_sld hx hb hX hbl hbA hS (vp_in_nI (n := i + 3) (N := Ls) (by omega) (by omega)) dL_law_500 ?_
    refine lv_topE (y := xs (i + 3)) (by rw [nI_clamp (by omega)]) ?_
    rw [wld_m] at hW
    refine m_callVi (k2 := 3) (As := [.int (xs (i + 1)), .int 0, .int (xs (i + 3))]) (rest := []) C (c_X8_carrier l X L' ad' (cSt X ad' (oSt X f2) ci2 ca2 cr2) fi fa hm9 (xs (i + 1)) 0 (xs (i + 3))) tw_6_171 tw_6_172 tw_6_173 tw_1_10 tw_6_174 (by decide +kernel) ⟨(Nat.le_of_ble_eq_true rfl), (Nat.le_of_ble_eq_true rfl)⟩ hm9 hW hS rfl hl.1 rfl (Nat.le_of_ble_eq_true rfl) dL_law_501 ⟨hcells, hslots⟩ (fun v fi9 fa9 H locs hr hW hS => ?_)
    have hSR : SR tot k (f2 0) v L' ci2 ca2 cr2 fi9 fa9 := sim_carrier S hc hr
    refine lv_istore (lv' := [(6, .int v), (5, .int k), (0, .ref b), (1, .ref (ad' (1, 0))), (2, .ref (ad' (100, 0))), (3, .ref (ad' (110, 0))), (4, .int (nI i))]) hx hb dL_law_504 hl (by decide) rfl (fun ls hl => ?_)
    refine lv_aload_n hx hb dL_law_506 rfl (lv_at hl 4 rfl) ?_
    refine m_callVi (k2 := 0) (As := []) (rest := []) C (c_X8_thrown l X L' ad' (cSt X ad' (oSt X f2) ci2 ca2 cr2) fi9 fa9 hm9) tw_6_105 tw_6_106 tw_6_107 tw_1_10 tw_6_108 (by decide +kernel) ⟨(Nat.le_of_ble_eq_true rfl), (Nat.le_of_ble_eq_true rfl)⟩ hm9 hW hS rfl hl.1 rfl (Nat.le_of_ble_eq_true rfl) dL_law_507 ⟨hcells, hslots⟩ (fun v2 fi8 fa8 H locs ht hW hS => ?_)
    obtain ⟨e8, e9, ht⟩ := ht
    rw [e8, e9, ← wld_m] at hW
    refine lv_iload hx hb dL_law_510 (lv_at hl 1 rfl) ?_
    refine lv_icmp_eq (tgt := 517) hx hb dL_law_512 (by decide) (fun _ => ?_) (fun c9 => absurd (ht.trans hSR.1) c9)
    refine lv_iload hx hb dL_law_517 (lv_at hl 1 rfl) ?_
    obtain ⟨n2, w2, tot2, nt2, kp2, nx2, nc2, ht2, S2⟩ := hSR.2.2
    refine lv_if_ne (tgt := 534) hx hb dL_law_519 (by decide) (fun _ => ?_) (fun c9 => ?_)
    · refine lv_goto (tgt := 1482) hx hb dL_law_534 (by decide) ?_
      exact K L' ad' ci2 ca2 cr2 n2 w2 tot2 nt2 kp2 nx2 nc2 fi9 fa9 f2 H locs ls ht2 S2 hm9 (hF.1 _ hO) hW hS (lv_sub hl [2, 3, 4, 5, 6] rfl)
    · have hk0 : k = 0 := c9
      refine lv_aload_n hx hb dL_law_522 rfl (lv_at hl 5 rfl) ?_
      refine lv_iconst (v := 0) hx hb dL_law_523 (by decide) ?_
      refine g_lald (r := (110, 0)) C hW (hF.1 _ hO) rfl (vp_in_nI (n := 0) (N := 1) (by decide) (by decide)) dL_law_524 ?_
      refine lv_topV (y := .long (f2 0)) rfl ?_
      refine lv_iload hx hb dL_law_525 (lv_at hl 0 rfl) ?_
      refine lv_i2l hx hb dL_law_527 rfl ?_
      refine W.lcmp hx hb dL_law_528 ?_
      refine lv_topE (y := 0) (by rw [hSR.2.1 hk0]; exact lg_self _) ?_
      refine lv_if_eq (tgt := 534) hx hb dL_law_529 (by decide) (fun _ => ?_) (fun c9 => absurd rfl c9)
      refine lv_goto (tgt := 1482) hx hb dL_law_534 (by decide) ?_
      exact K L' ad' ci2 ca2 cr2 n2 w2 tot2 nt2 kp2 nx2 nc2 fi9 fa9 f2 H locs ls ht2 S2 hm9 (hF.1 _ hO) hW hS (lv_sub hl [2, 3, 4, 5, 6] rfl)
  · refine lv_iconst (v := 1) hx hb dL_law_457 (by decide) ?_
    refine lv_goto (tgt := 462) hx hb dL_law_458 (by decide) ?_
    refine lv_aload_n hx hb dL_law_462 rfl (lv_at hl 0 rfl) ?_
    refine lv_iload hx hb dL_law_463 (lv_at hl 4 rfl) ?_
    refine lv_iconst (v := 3) hx hb dL_law_465 (by decide) ?_
    refine lv_iadd hx hb dL_law_466 ?_
    refine lv_topE (y := nI (i + 3)) (nI_add i 3) ?_
    refine va_sld hx hb hX hbl hbA hS (vp_in_nI (n := i + 3) (N := Ls) (by omega) (by omega)) dL_law_467 ?_
    refine lv_topE (y := xs (i + 3)) (by rw [nI_clamp (by omega)]) ?_
    refine lv_aload_n hx hb dL_law_468 rfl (lv_at hl 3 rfl) ?_
    refine g_callSW (k2 := 5) (As := [.ref (ad (1, 0)), .int (xs (i + 1)), .int 1, .int (xs (i + 3)), .ref (ad (110, 0))]) (rest := []) C (L_carrier l hl0 X L ad ci ca cr n w tot nt kp nx fi fa f S.1 hO (xs (i + 1)) 1 (xs (i + 3)) (by decide) (by decide)) tw_4_77 tw_4_78 tw_1_0 tw_4_79 (by decide +kernel) ⟨(Nat.le_of_ble_eq_true rfl), (Nat.le_of_ble_eq_true rfl)⟩ hW hS rfl hl.1 rfl (Nat.le_of_ble_eq_true rfl) dL_law_469 ⟨hcells, hslots⟩ (fun k L9 ad9 st9 H locs hp hW hS => ?_)
    obtain ⟨L', ad', ci2, ca2, cr2, f2, z0, hF, hc⟩ := hp
    injection z0 with e1 e2
    injection e2 with e2 e3
    rw [e1, e2, e3] at hW
    have hm9 : mL L' := mL_of hF.1 hm
    have hl : lv_has ls 7 [(0, .ref b), (1, .ref (ad' (1, 0))), (2, .ref (ad' (100, 0))), (3, .ref (ad' (110, 0))), (4, .int (nI i))] := by rw [hF.2 (1, 0) (Or.inr rfl), hF.2 (100, 0) (Or.inl (by decide)), hF.2 (110, 0) (Or.inl (by decide))]; exact hl
    refine lv_istore (lv' := [(5, .int k), (0, .ref b), (1, .ref (ad' (1, 0))), (2, .ref (ad' (100, 0))), (3, .ref (ad' (110, 0))), (4, .int (nI i))]) hx hb dL_law_472 hl (by decide) rfl (fun ls hl => ?_)
    refine lv_aload_n hx hb dL_law_474 rfl (lv_at hl 3 rfl) ?_
    refine lv_aload_n hx hb dL_law_475 rfl (lv_at hl 1 rfl) ?_
    refine lv_iload hx hb dL_law_476 (lv_at hl 5 rfl) ?_
    refine lv_iconst (v := 1) hx hb dL_law_478 (by decide) ?_
    refine lv_iadd hx hb dL_law_479 ?_
    refine lv_topE (y := nI (i + 1)) (nI_add i 1) ?_
    refine va_sld hx hb hX hbl hbA hS (vp_in_nI (n := i + 1) (N := Ls) (by omega) (by omega)) dL_law_480 ?_
    refine lv_topE (y := xs (i + 1)) (by rw [nI_clamp (by omega)]) ?_
    refine lv_aload_n hx hb dL_law_481 rfl (lv_at hl 1 rfl) ?_
    refine lv_iload hx hb dL_law_482 (lv_at hl 5 rfl) ?_
    refine lv_iconst (v := 2) hx hb dL_law_484 (by decide) ?_
    refine lv_iadd hx hb dL_law_485 ?_
    refine lv_topE (y := nI (i + 2)) (nI_add i 2) ?_
    refine va_sld hx hb hX hbl hbA hS (vp_in_nI (n := i + 2) (N := Ls) (by omega) (by omega)) dL_law_486 ?_
    refine lv_topE (y := xs (i + 2)) (by rw [nI_clamp (by omega)]) ?_
    refine lv_if_eq (tgt := 494) hx hb dL_law_487 (by decide) (fun c9 => absurd c9 c0) (fun _ => ?_)
    refine lv_iconst (v := 1) hx hb dL_law_490 (by decide) ?_
    refine lv_goto (tgt := 495) hx hb dL_law_491 (by decide) ?_
    refine lv_aload_n hx hb dL_law_495 rfl (lv_at hl 1 rfl) ?_
    refine lv_iload hx hb dL_law_496 (lv_at hl 5 rfl) ?_
    refine lv_iconst (v := 3) hx hb dL_law_498 (by decide) ?_
    refine lv_iadd hx hb dL_law_499 ?_
    refine lv_topE (y := nI (i + 3)) (nI_add i 3) ?_
    refine va_sld hx hb hX hbl hbA hS (vp_in_nI (n := i + 3) (N := Ls) (by omega) (by omega)) dL_law_500 ?_
    refine lv_topE (y := xs (i + 3)) (by rw [nI_clamp (by omega)]) ?_
    rw [wld_m] at hW
    refine m_callVi (k2 := 3) (As := [.int (xs (i + 1)), .int 1, .int (xs (i + 3))]) (rest := []) C (c_X8_carrier l X L' ad' (cSt X ad' (oSt X f2) ci2 ca2 cr2) fi fa hm9 (xs (i + 1)) 1 (xs (i + 3))) tw_6_171 tw_6_172 tw_6_173 tw_1_10 tw_6_174 (by decide +kernel) ⟨(Nat.le_of_ble_eq_true rfl), (Nat.le_of_ble_eq_true rfl)⟩ hm9 hW hS rfl hl.1 rfl (Nat.le_of_ble_eq_true rfl) dL_law_501 ⟨hcells, hslots⟩ (fun v fi9 fa9 H locs hr hW hS => ?_)
    have hSR : SR tot k (f2 0) v L' ci2 ca2 cr2 fi9 fa9 := sim_carrier S hc hr
    refine lv_istore (lv' := [(6, .int v), (5, .int k), (0, .ref b), (1, .ref (ad' (1, 0))), (2, .ref (ad' (100, 0))), (3, .ref (ad' (110, 0))), (4, .int (nI i))]) hx hb dL_law_504 hl (by decide) rfl (fun ls hl => ?_)
    refine lv_aload_n hx hb dL_law_506 rfl (lv_at hl 4 rfl) ?_
    refine m_callVi (k2 := 0) (As := []) (rest := []) C (c_X8_thrown l X L' ad' (cSt X ad' (oSt X f2) ci2 ca2 cr2) fi9 fa9 hm9) tw_6_105 tw_6_106 tw_6_107 tw_1_10 tw_6_108 (by decide +kernel) ⟨(Nat.le_of_ble_eq_true rfl), (Nat.le_of_ble_eq_true rfl)⟩ hm9 hW hS rfl hl.1 rfl (Nat.le_of_ble_eq_true rfl) dL_law_507 ⟨hcells, hslots⟩ (fun v2 fi8 fa8 H locs ht hW hS => ?_)
    obtain ⟨e8, e9, ht⟩ := ht
    rw [e8, e9, ← wld_m] at hW
    refine lv_iload hx hb dL_law_510 (lv_at hl 1 rfl) ?_
    refine lv_icmp_eq (tgt := 517) hx hb dL_law_512 (by decide) (fun _ => ?_) (fun c9 => absurd (ht.trans hSR.1) c9)
    refine lv_iload hx hb dL_law_517 (lv_at hl 1 rfl) ?_
    obtain ⟨n2, w2, tot2, nt2, kp2, nx2, nc2, ht2, S2⟩ := hSR.2.2
    refine lv_if_ne (tgt := 534) hx hb dL_law_519 (by decide) (fun _ => ?_) (fun c9 => ?_)
    · refine lv_goto (tgt := 1482) hx hb dL_law_534 (by decide) ?_
      exact K L' ad' ci2 ca2 cr2 n2 w2 tot2 nt2 kp2 nx2 nc2 fi9 fa9 f2 H locs ls ht2 S2 hm9 (hF.1 _ hO) hW hS (lv_sub hl [2, 3, 4, 5, 6] rfl)
    · have hk0 : k = 0 := c9
      refine lv_aload_n hx hb dL_law_522 rfl (lv_at hl 5 rfl) ?_
      refine lv_iconst (v := 0) hx hb dL_law_523 (by decide) ?_
      refine g_lald (r := (110, 0)) C hW (hF.1 _ hO) rfl (vp_in_nI (n := 0) (N := 1) (by decide) (by decide)) dL_law_524 ?_
      refine lv_topV (y := .long (f2 0)) rfl ?_
      refine lv_iload hx hb dL_law_525 (lv_at hl 0 rfl) ?_
      refine lv_i2l hx hb dL_law_527 rfl ?_
      refine W.lcmp hx hb dL_law_528 ?_
      refine lv_topE (y := 0) (by rw [hSR.2.1 hk0]; exact lg_self _) ?_
      refine lv_if_eq (tgt := 534) hx hb dL_law_529 (by decide) (fun _ => ?_) (fun c9 => absurd rfl c9)
      refine lv_goto (tgt := 1482) hx hb dL_law_534 (by decide) ?_
      exact K L' ad' ci2 ca2 cr2 n2 w2 tot2 nt2 kp2 nx2 nc2 fi9 fa9 f2 H locs ls ht2 S2 hm9 (hF.1 _ hO) hW hS (lv_sub hl [2, 3, 4, 5, 6] rfl)

set_option maxHeartbeats 4000000 in
theorem lb_tariff (C : gCx p s m args meth c code 7 ret "RateGateLaw" mname X A) (hl0 : l.stackTraces = false) (hX : va_X b Ls xs s s.heap) (hbl : b < s.heap.size) (hbA : ¬ A b) (hi : i + 5 ≤ Ls) (hLs : Ls ≤ 2560) (hto : tot < 512) (hcells : cells + 10 ≤ 601024) (hslots : slots + 300 ≤ 7293034) (S : SV L ci ca cr n w tot nt kp nx nc fi fa) (hm : mL L) (hO : ((110, 0) : ro) ∈ L) (hW : gW X A L ad (wld X ad ci ca cr fi fa f) s H) (hS : va_S A s.heap H locs) (hl : lv_has ls 7 [(0, .ref b), (1, .ref (ad (1, 0))), (2, .ref (ad (100, 0))), (3, .ref (ad (110, 0))), (4, .int (nI i))]) (K : lwK p l e s m args below meth c Q X A b i tot cells slots) : W p l e room_1 s m args below meth c H locs cells slots Q (F0 m 537 ls []) := by
  have hx := C.1.1
  have hb := C.1.2.1
  obtain ⟨r1, r3, r22, ⟨r23, rnc⟩, r32, r42⟩ := id S.2.1
  have h4 := S.2.2.1.2.1
  have h5 := S.2.2.1.2.2
  have hn60 := S.1.2.2.2.2.2.2.2.2.2.2.1.2.1
  have hw2 := S.1.2.2.2.2.2.2.2.2.2.2.2.1.2
  have hq100 := S.1.2.2.1.1
  have hp50 := S.1.2.2.1.2
  refine lv_aload_n hx hb dL_law_537 rfl (lv_at hl 1 rfl) ?_
  refine lv_aload_n hx hb dL_law_538 rfl (lv_at hl 0 rfl) ?_
  refine lv_iload hx hb dL_law_539 (lv_at hl 4 rfl) ?_
  refine lv_iconst (v := 1) hx hb dL_law_541 (by decide) ?_
  refine lv_iadd hx hb dL_law_542 ?_
  refine lv_topE (y := nI (i + 1)) (nI_add i 1) ?_
  refine va_sld hx hb hX hbl hbA hS (vp_in_nI (n := i + 1) (N := Ls) (by omega) (by omega)) dL_law_543 ?_
  refine lv_topE (y := xs (i + 1)) (by rw [nI_clamp (by omega)]) ?_
  refine lv_aload_n hx hb dL_law_544 rfl (lv_at hl 0 rfl) ?_
  refine lv_iload hx hb dL_law_545 (lv_at hl 4 rfl) ?_
  refine lv_iconst (v := 2) hx hb dL_law_547 (by decide) ?_
  refine lv_iadd hx hb dL_law_548 ?_
  refine lv_topE (y := nI (i + 2)) (nI_add i 2) ?_
  refine va_sld hx hb hX hbl hbA hS (vp_in_nI (n := i + 2) (N := Ls) (by omega) (by omega)) dL_law_549 ?_
  refine lv_topE (y := xs (i + 2)) (by rw [nI_clamp (by omega)]) ?_
  refine lv_aload_n hx hb dL_law_550 rfl (lv_at hl 0 rfl) ?_
  refine lv_iload hx hb dL_law_551 (lv_at hl 4 rfl) ?_
  refine lv_iconst (v := 3) hx hb dL_law_553 (by decide) ?_
  refine lv_iadd hx hb dL_law_554 ?_
  refine lv_topE (y := nI (i + 3)) (nI_add i 3) ?_
  refine va_sld hx hb hX hbl hbA hS (vp_in_nI (n := i + 3) (N := Ls) (by omega) (by omega)) dL_law_555 ?_
  refine lv_topE (y := xs (i + 3)) (by rw [nI_clamp (by omega)]) ?_
  refine lv_aload_n hx hb dL_law_556 rfl (lv_at hl 0 rfl) ?_
  refine lv_iload hx hb dL_law_557 (lv_at hl 4 rfl) ?_
  refine lv_iconst (v := 4) hx hb dL_law_559 (by decide) ?_
  refine lv_iadd hx hb dL_law_560 ?_
  refine lv_topE (y := nI (i + 4)) (nI_add i 4) ?_
  refine va_sld hx hb hX hbl hbA hS (vp_in_nI (n := i + 4) (N := Ls) (by omega) (by omega)) dL_law_561 ?_
  refine lv_topE (y := xs (i + 4)) (by rw [nI_clamp (by omega)]) ?_
  refine lv_aload_n hx hb dL_law_562 rfl (lv_at hl 3 rfl) ?_
  refine g_callSW (k2 := 6) (As := [.ref (ad (1, 0)), .int (xs (i + 1)), .int (xs (i + 2)), .int (xs (i + 3)), .int (xs (i + 4)), .ref (ad (110, 0))]) (rest := []) C (L_tariff l hl0 X L ad ci ca cr n w tot nt kp nx fi fa f S.1 hO (xs (i + 1)) (xs (i + 2)) (xs (i + 3)) (xs (i + 4))) tw_4_90 tw_4_91 tw_1_0 tw_4_92 (by decide +kernel) ⟨(Nat.le_of_ble_eq_true rfl), (Nat.le_of_ble_eq_true rfl)⟩ hW hS rfl hl.1 rfl (Nat.le_of_ble_eq_true rfl) dL_law_563 ⟨hcells, hslots⟩ (fun k L9 ad9 st9 H locs hp hW hS => ?_)
  obtain ⟨L', ad', ci2, ca2, cr2, f2, z0, hF, hc⟩ := hp
  injection z0 with e1 e2
  injection e2 with e2 e3
  rw [e1, e2, e3] at hW
  have hm9 : mL L' := mL_of hF.1 hm
  have hl : lv_has ls 7 [(0, .ref b), (1, .ref (ad' (1, 0))), (2, .ref (ad' (100, 0))), (3, .ref (ad' (110, 0))), (4, .int (nI i))] := by rw [hF.2 (1, 0) (Or.inr rfl), hF.2 (100, 0) (Or.inl (by decide)), hF.2 (110, 0) (Or.inl (by decide))]; exact hl
  refine lv_istore (lv' := [(5, .int k), (0, .ref b), (1, .ref (ad' (1, 0))), (2, .ref (ad' (100, 0))), (3, .ref (ad' (110, 0))), (4, .int (nI i))]) hx hb dL_law_566 hl (by decide) rfl (fun ls hl => ?_)
  refine lv_aload_n hx hb dL_law_568 rfl (lv_at hl 3 rfl) ?_
  refine lv_aload_n hx hb dL_law_569 rfl (lv_at hl 1 rfl) ?_
  refine lv_iload hx hb dL_law_570 (lv_at hl 5 rfl) ?_
  refine lv_iconst (v := 1) hx hb dL_law_572 (by decide) ?_
  refine lv_iadd hx hb dL_law_573 ?_
  refine lv_topE (y := nI (i + 1)) (nI_add i 1) ?_
  refine va_sld hx hb hX hbl hbA hS (vp_in_nI (n := i + 1) (N := Ls) (by omega) (by omega)) dL_law_574 ?_
  refine lv_topE (y := xs (i + 1)) (by rw [nI_clamp (by omega)]) ?_
  refine lv_aload_n hx hb dL_law_575 rfl (lv_at hl 1 rfl) ?_
  refine lv_iload hx hb dL_law_576 (lv_at hl 5 rfl) ?_
  refine lv_iconst (v := 2) hx hb dL_law_578 (by decide) ?_
  refine lv_iadd hx hb dL_law_579 ?_
  refine lv_topE (y := nI (i + 2)) (nI_add i 2) ?_
  refine va_sld hx hb hX hbl hbA hS (vp_in_nI (n := i + 2) (N := Ls) (by omega) (by omega)) dL_law_580 ?_
  refine lv_topE (y := xs (i + 2)) (by rw [nI_clamp (by omega)]) ?_
  refine lv_aload_n hx hb dL_law_581 rfl (lv_at hl 1 rfl) ?_
  refine lv_iload hx hb dL_law_582 (lv_at hl 5 rfl) ?_
  refine lv_iconst (v := 3) hx hb dL_law_584 (by decide) ?_
  refine lv_iadd hx hb dL_law_585 ?_
  refine lv_topE (y := nI (i + 3)) (nI_add i 3) ?_
  refine va_sld hx hb hX hbl hbA hS (vp_in_nI (n := i + 3) (N := Ls) (by omega) (by omega)) dL_law_586 ?_
  refine lv_topE (y := xs (i + 3)) (by rw [nI_clamp (by omega)]) ?_
  refine lv_aload_n hx hb dL_law_587 rfl (lv_at hl 1 rfl) ?_
  refine lv_iload hx hb dL_law_588 (lv_at hl 5 rfl) ?_
  refine lv_iconst (v := 4) hx hb dL_law_590 (by decide) ?_
  refine lv_iadd hx hb dL_law_591 ?_
  refine lv_topE (y := nI (i + 4)) (nI_add i 4) ?_
  refine va_sld hx hb hX hbl hbA hS (vp_in_nI (n := i + 4) (N := Ls) (by omega) (by omega)) dL_law_592 ?_
  refine lv_topE (y := xs (i + 4)) (by rw [nI_clamp (by omega)]) ?_
  rw [wld_m] at hW
  refine m_callVi (k2 := 4) (As := [.int (xs (i + 1)), .int (xs (i + 2)), .int (xs (i + 3)), .int (xs (i + 4))]) (rest := []) C (c_X8_tariff l X L' ad' (cSt X ad' (oSt X f2) ci2 ca2 cr2) fi fa hm9 (xs (i + 1)) (xs (i + 2)) (xs (i + 3)) (xs (i + 4))) tw_6_178 tw_6_179 tw_6_180 tw_1_10 tw_6_181 (by decide +kernel) ⟨(Nat.le_of_ble_eq_true rfl), (Nat.le_of_ble_eq_true rfl)⟩ hm9 hW hS rfl hl.1 rfl (Nat.le_of_ble_eq_true rfl) dL_law_593 ⟨hcells, hslots⟩ (fun v fi9 fa9 H locs hr hW hS => ?_)
  have hSR : SR tot k (f2 0) v L' ci2 ca2 cr2 fi9 fa9 := sim_tariff S hc hr
  refine lv_istore (lv' := [(6, .int v), (5, .int k), (0, .ref b), (1, .ref (ad' (1, 0))), (2, .ref (ad' (100, 0))), (3, .ref (ad' (110, 0))), (4, .int (nI i))]) hx hb dL_law_596 hl (by decide) rfl (fun ls hl => ?_)
  refine lv_aload_n hx hb dL_law_598 rfl (lv_at hl 4 rfl) ?_
  refine m_callVi (k2 := 0) (As := []) (rest := []) C (c_X8_thrown l X L' ad' (cSt X ad' (oSt X f2) ci2 ca2 cr2) fi9 fa9 hm9) tw_6_105 tw_6_106 tw_6_107 tw_1_10 tw_6_108 (by decide +kernel) ⟨(Nat.le_of_ble_eq_true rfl), (Nat.le_of_ble_eq_true rfl)⟩ hm9 hW hS rfl hl.1 rfl (Nat.le_of_ble_eq_true rfl) dL_law_599 ⟨hcells, hslots⟩ (fun v2 fi8 fa8 H locs ht hW hS => ?_)
  obtain ⟨e8, e9, ht⟩ := ht
  rw [e8, e9, ← wld_m] at hW
  refine lv_iload hx hb dL_law_602 (lv_at hl 1 rfl) ?_
  refine lv_icmp_eq (tgt := 609) hx hb dL_law_604 (by decide) (fun _ => ?_) (fun c9 => absurd (ht.trans hSR.1) c9)
  refine lv_iload hx hb dL_law_609 (lv_at hl 1 rfl) ?_
  obtain ⟨n2, w2, tot2, nt2, kp2, nx2, nc2, ht2, S2⟩ := hSR.2.2
  refine lv_if_ne (tgt := 626) hx hb dL_law_611 (by decide) (fun _ => ?_) (fun c9 => ?_)
  · refine lv_goto (tgt := 1482) hx hb dL_law_626 (by decide) ?_
    exact K L' ad' ci2 ca2 cr2 n2 w2 tot2 nt2 kp2 nx2 nc2 fi9 fa9 f2 H locs ls ht2 S2 hm9 (hF.1 _ hO) hW hS (lv_sub hl [2, 3, 4, 5, 6] rfl)
  · have hk0 : k = 0 := c9
    refine lv_aload_n hx hb dL_law_614 rfl (lv_at hl 5 rfl) ?_
    refine lv_iconst (v := 0) hx hb dL_law_615 (by decide) ?_
    refine g_lald (r := (110, 0)) C hW (hF.1 _ hO) rfl (vp_in_nI (n := 0) (N := 1) (by decide) (by decide)) dL_law_616 ?_
    refine lv_topV (y := .long (f2 0)) rfl ?_
    refine lv_iload hx hb dL_law_617 (lv_at hl 0 rfl) ?_
    refine lv_i2l hx hb dL_law_619 rfl ?_
    refine W.lcmp hx hb dL_law_620 ?_
    refine lv_topE (y := 0) (by rw [hSR.2.1 hk0]; exact lg_self _) ?_
    refine lv_if_eq (tgt := 626) hx hb dL_law_621 (by decide) (fun _ => ?_) (fun c9 => absurd rfl c9)
    refine lv_goto (tgt := 1482) hx hb dL_law_626 (by decide) ?_
    exact K L' ad' ci2 ca2 cr2 n2 w2 tot2 nt2 kp2 nx2 nc2 fi9 fa9 f2 H locs ls ht2 S2 hm9 (hF.1 _ hO) hW hS (lv_sub hl [2, 3, 4, 5, 6] rfl)

set_option maxHeartbeats 4000000 in
theorem lb_call (C : gCx p s m args meth c code 7 ret "RateGateLaw" mname X A) (hl0 : l.stackTraces = false) (hX : va_X b Ls xs s s.heap) (hbl : b < s.heap.size) (hbA : ¬ A b) (hi : i + 5 ≤ Ls) (hLs : Ls ≤ 2560) (hto : tot < 512) (hcells : cells + 10 ≤ 601024) (hslots : slots + 300 ≤ 7293034) (S : SV L ci ca cr n w tot nt kp nx nc fi fa) (hm : mL L) (hO : ((110, 0) : ro) ∈ L) (hW : gW X A L ad (wld X ad ci ca cr fi fa f) s H) (hS : va_S A s.heap H locs) (hl : lv_has ls 7 [(0, .ref b), (1, .ref (ad (1, 0))), (2, .ref (ad (100, 0))), (3, .ref (ad (110, 0))), (4, .int (nI i))]) (K : lwK p l e s m args below meth c Q X A b i tot cells slots) : W p l e room_1 s m args below meth c H locs cells slots Q (F0 m 629 ls []) := by
  have hx := C.1.1
  have hb := C.1.2.1
  obtain ⟨r1, r3, r22, ⟨r23, rnc⟩, r32, r42⟩ := id S.2.1
  have h4 := S.2.2.1.2.1
  have h5 := S.2.2.1.2.2
  have hn60 := S.1.2.2.2.2.2.2.2.2.2.2.1.2.1
  have hw2 := S.1.2.2.2.2.2.2.2.2.2.2.2.1.2
  have hq100 := S.1.2.2.1.1
  have hp50 := S.1.2.2.1.2
  refine lv_aload_n hx hb dL_law_629 rfl (lv_at hl 1 rfl) ?_
  refine lv_aload_n hx hb dL_law_630 rfl (lv_at hl 3 rfl) ?_
  refine g_callSW (k2 := 2) (As := [.ref (ad (1, 0)), .ref (ad (110, 0))]) (rest := []) C (L_call l hl0 X L ad ci ca cr n w tot nt kp nx fi fa f S.1 hO hto) tw_4_100 tw_4_101 tw_1_0 tw_4_102 (by decide +kernel) ⟨(Nat.le_of_ble_eq_true rfl), (Nat.le_of_ble_eq_true rfl)⟩ hW hS rfl hl.1 rfl (Nat.le_of_ble_eq_true rfl) dL_law_631 ⟨hcells, hslots⟩ (fun k L9 ad9 st9 H locs hp hW hS => ?_)
  obtain ⟨L', ad', ci2, ca2, cr2, f2, z0, hF, hc⟩ := hp
  injection z0 with e1 e2
  injection e2 with e2 e3
  rw [e1, e2, e3] at hW
  have hm9 : mL L' := mL_of hF.1 hm
  have hl : lv_has ls 7 [(0, .ref b), (1, .ref (ad' (1, 0))), (2, .ref (ad' (100, 0))), (3, .ref (ad' (110, 0))), (4, .int (nI i))] := by rw [hF.2 (1, 0) (Or.inr rfl), hF.2 (100, 0) (Or.inl (by decide)), hF.2 (110, 0) (Or.inl (by decide))]; exact hl
  refine lv_istore (lv' := [(5, .int k), (0, .ref b), (1, .ref (ad' (1, 0))), (2, .ref (ad' (100, 0))), (3, .ref (ad' (110, 0))), (4, .int (nI i))]) hx hb dL_law_634 hl (by decide) rfl (fun ls hl => ?_)
  refine lv_aload_n hx hb dL_law_636 rfl (lv_at hl 3 rfl) ?_
  rw [wld_m] at hW
  refine m_callVi (k2 := 0) (As := []) (rest := []) C (c_X8_call l X L' ad' (cSt X ad' (oSt X f2) ci2 ca2 cr2) fi fa hm9 n r3 hn60 h4 (cr 13 0) nc r32 hq100 r23 (by omega)) tw_6_182 tw_6_183 tw_6_184 tw_1_10 tw_6_185 (by decide +kernel) ⟨(Nat.le_of_ble_eq_true rfl), (Nat.le_of_ble_eq_true rfl)⟩ hm9 hW hS rfl hl.1 rfl (Nat.le_of_ble_eq_true rfl) dL_law_637 ⟨hcells, hslots⟩ (fun v fi9 fa9 H locs hr hW hS => ?_)
  have hSR : SR tot k (f2 0) v L' ci2 ca2 cr2 fi9 fa9 := sim_call S hto hc hr
  refine lv_istore (lv' := [(6, .int v), (5, .int k), (0, .ref b), (1, .ref (ad' (1, 0))), (2, .ref (ad' (100, 0))), (3, .ref (ad' (110, 0))), (4, .int (nI i))]) hx hb dL_law_640 hl (by decide) rfl (fun ls hl => ?_)
  refine lv_aload_n hx hb dL_law_642 rfl (lv_at hl 4 rfl) ?_
  refine m_callVi (k2 := 0) (As := []) (rest := []) C (c_X8_thrown l X L' ad' (cSt X ad' (oSt X f2) ci2 ca2 cr2) fi9 fa9 hm9) tw_6_105 tw_6_106 tw_6_107 tw_1_10 tw_6_108 (by decide +kernel) ⟨(Nat.le_of_ble_eq_true rfl), (Nat.le_of_ble_eq_true rfl)⟩ hm9 hW hS rfl hl.1 rfl (Nat.le_of_ble_eq_true rfl) dL_law_643 ⟨hcells, hslots⟩ (fun v2 fi8 fa8 H locs ht hW hS => ?_)
  obtain ⟨e8, e9, ht⟩ := ht
  rw [e8, e9, ← wld_m] at hW
  refine lv_iload hx hb dL_law_646 (lv_at hl 1 rfl) ?_
  refine lv_icmp_eq (tgt := 653) hx hb dL_law_648 (by decide) (fun _ => ?_) (fun c9 => absurd (ht.trans hSR.1) c9)
  refine lv_iload hx hb dL_law_653 (lv_at hl 1 rfl) ?_
  obtain ⟨n2, w2, tot2, nt2, kp2, nx2, nc2, ht2, S2⟩ := hSR.2.2
  refine lv_if_ne (tgt := 670) hx hb dL_law_655 (by decide) (fun _ => ?_) (fun c9 => ?_)
  · refine lv_goto (tgt := 1482) hx hb dL_law_670 (by decide) ?_
    exact K L' ad' ci2 ca2 cr2 n2 w2 tot2 nt2 kp2 nx2 nc2 fi9 fa9 f2 H locs ls ht2 S2 hm9 (hF.1 _ hO) hW hS (lv_sub hl [2, 3, 4, 5, 6] rfl)
  · have hk0 : k = 0 := c9
    refine lv_aload_n hx hb dL_law_658 rfl (lv_at hl 5 rfl) ?_
    refine lv_iconst (v := 0) hx hb dL_law_659 (by decide) ?_
    refine g_lald (r := (110, 0)) C hW (hF.1 _ hO) rfl (vp_in_nI (n := 0) (N := 1) (by decide) (by decide)) dL_law_660 ?_
    refine lv_topV (y := .long (f2 0)) rfl ?_
    refine lv_iload hx hb dL_law_661 (lv_at hl 0 rfl) ?_
    refine lv_i2l hx hb dL_law_663 rfl ?_
    refine W.lcmp hx hb dL_law_664 ?_
    refine lv_topE (y := 0) (by rw [hSR.2.1 hk0]; exact lg_self _) ?_
    refine lv_if_eq (tgt := 670) hx hb dL_law_665 (by decide) (fun _ => ?_) (fun c9 => absurd rfl c9)
    refine lv_goto (tgt := 1482) hx hb dL_law_670 (by decide) ?_
    exact K L' ad' ci2 ca2 cr2 n2 w2 tot2 nt2 kp2 nx2 nc2 fi9 fa9 f2 H locs ls ht2 S2 hm9 (hF.1 _ hO) hW hS (lv_sub hl [2, 3, 4, 5, 6] rfl)

set_option maxHeartbeats 4000000 in
theorem lb_price (C : gCx p s m args meth c code 7 ret "RateGateLaw" mname X A) (hl0 : l.stackTraces = false) (hX : va_X b Ls xs s s.heap) (hbl : b < s.heap.size) (hbA : ¬ A b) (hi : i + 5 ≤ Ls) (hLs : Ls ≤ 2560) (hto : tot < 512) (hcells : cells + 10 ≤ 601024) (hslots : slots + 300 ≤ 7293034) (S : SV L ci ca cr n w tot nt kp nx nc fi fa) (hm : mL L) (hO : ((110, 0) : ro) ∈ L) (hW : gW X A L ad (wld X ad ci ca cr fi fa f) s H) (hS : va_S A s.heap H locs) (hl : lv_has ls 7 [(0, .ref b), (1, .ref (ad (1, 0))), (2, .ref (ad (100, 0))), (3, .ref (ad (110, 0))), (4, .int (nI i))]) (K : lwK p l e s m args below meth c Q X A b i tot cells slots) : W p l e room_1 s m args below meth c H locs cells slots Q (F0 m 673 ls []) := by
  have hx := C.1.1
  have hb := C.1.2.1
  obtain ⟨r1, r3, r22, ⟨r23, rnc⟩, r32, r42⟩ := id S.2.1
  have h4 := S.2.2.1.2.1
  have h5 := S.2.2.1.2.2
  have hn60 := S.1.2.2.2.2.2.2.2.2.2.2.1.2.1
  have hw2 := S.1.2.2.2.2.2.2.2.2.2.2.2.1.2
  have hq100 := S.1.2.2.1.1
  have hp50 := S.1.2.2.1.2
  refine lv_aload_n hx hb dL_law_673 rfl (lv_at hl 1 rfl) ?_
  refine lv_aload_n hx hb dL_law_674 rfl (lv_at hl 0 rfl) ?_
  refine lv_iload hx hb dL_law_675 (lv_at hl 4 rfl) ?_
  refine lv_iconst (v := 1) hx hb dL_law_677 (by decide) ?_
  refine lv_iadd hx hb dL_law_678 ?_
  refine lv_topE (y := nI (i + 1)) (nI_add i 1) ?_
  refine va_sld hx hb hX hbl hbA hS (vp_in_nI (n := i + 1) (N := Ls) (by omega) (by omega)) dL_law_679 ?_
  refine lv_topE (y := xs (i + 1)) (by rw [nI_clamp (by omega)]) ?_
  refine lv_aload_n hx hb dL_law_680 rfl (lv_at hl 3 rfl) ?_
  refine g_callSW (k2 := 3) (As := [.ref (ad (1, 0)), .int (xs (i + 1)), .ref (ad (110, 0))]) (rest := []) C (L_price l hl0 X L ad ci ca cr n w tot nt kp nx fi fa f S.1 hO (xs (i + 1))) tw_5_33 tw_5_34 tw_1_0 tw_5_35 (by decide +kernel) ⟨(Nat.le_of_ble_eq_true rfl), (Nat.le_of_ble_eq_true rfl)⟩ hW hS rfl hl.1 rfl (Nat.le_of_ble_eq_true rfl) dL_law_681 ⟨hcells, hslots⟩ (fun k L9 ad9 st9 H locs hp hW hS => ?_)
  obtain ⟨L', ad', ci2, ca2, cr2, f2, z0, hF, hc⟩ := hp
  injection z0 with e1 e2
  injection e2 with e2 e3
  rw [e1, e2, e3] at hW
  have hm9 : mL L' := mL_of hF.1 hm
  have hl : lv_has ls 7 [(0, .ref b), (1, .ref (ad' (1, 0))), (2, .ref (ad' (100, 0))), (3, .ref (ad' (110, 0))), (4, .int (nI i))] := by rw [hF.2 (1, 0) (Or.inr rfl), hF.2 (100, 0) (Or.inl (by decide)), hF.2 (110, 0) (Or.inl (by decide))]; exact hl
  refine lv_istore (lv' := [(5, .int k), (0, .ref b), (1, .ref (ad' (1, 0))), (2, .ref (ad' (100, 0))), (3, .ref (ad' (110, 0))), (4, .int (nI i))]) hx hb dL_law_684 hl (by decide) rfl (fun ls hl => ?_)
  refine lv_aload_n hx hb dL_law_686 rfl (lv_at hl 3 rfl) ?_
  refine lv_aload_n hx hb dL_law_687 rfl (lv_at hl 1 rfl) ?_
  refine lv_iload hx hb dL_law_688 (lv_at hl 5 rfl) ?_
  refine lv_iconst (v := 1) hx hb dL_law_690 (by decide) ?_
  refine lv_iadd hx hb dL_law_691 ?_
  refine lv_topE (y := nI (i + 1)) (nI_add i 1) ?_
  refine va_sld hx hb hX hbl hbA hS (vp_in_nI (n := i + 1) (N := Ls) (by omega) (by omega)) dL_law_692 ?_
  refine lv_topE (y := xs (i + 1)) (by rw [nI_clamp (by omega)]) ?_
  rw [wld_m] at hW
  refine m_callVi (k2 := 1) (As := [.int (xs (i + 1))]) (rest := []) C (c_X8_price l X L' ad' (cSt X ad' (oSt X f2) ci2 ca2 cr2) fi fa hm9 (xs (i + 1)) (cr 13 0) r32 hq100) tw_6_206 tw_6_207 tw_6_208 tw_1_10 tw_6_209 (by decide +kernel) ⟨(Nat.le_of_ble_eq_true rfl), (Nat.le_of_ble_eq_true rfl)⟩ hm9 hW hS rfl hl.1 rfl (Nat.le_of_ble_eq_true rfl) dL_law_693 ⟨hcells, hslots⟩ (fun v fi9 fa9 H locs hr hW hS => ?_)
  have hSR : SR tot k (f2 0) v L' ci2 ca2 cr2 fi9 fa9 := sim_rd S (by omega) (hv_price S) hc hr
  refine lv_istore (lv' := [(6, .int v), (5, .int k), (0, .ref b), (1, .ref (ad' (1, 0))), (2, .ref (ad' (100, 0))), (3, .ref (ad' (110, 0))), (4, .int (nI i))]) hx hb dL_law_696 hl (by decide) rfl (fun ls hl => ?_)
  refine lv_aload_n hx hb dL_law_698 rfl (lv_at hl 4 rfl) ?_
  refine m_callVi (k2 := 0) (As := []) (rest := []) C (c_X8_thrown l X L' ad' (cSt X ad' (oSt X f2) ci2 ca2 cr2) fi9 fa9 hm9) tw_6_105 tw_6_106 tw_6_107 tw_1_10 tw_6_108 (by decide +kernel) ⟨(Nat.le_of_ble_eq_true rfl), (Nat.le_of_ble_eq_true rfl)⟩ hm9 hW hS rfl hl.1 rfl (Nat.le_of_ble_eq_true rfl) dL_law_699 ⟨hcells, hslots⟩ (fun v2 fi8 fa8 H locs ht hW hS => ?_)
  obtain ⟨e8, e9, ht⟩ := ht
  rw [e8, e9, ← wld_m] at hW
  refine lv_iload hx hb dL_law_702 (lv_at hl 1 rfl) ?_
  refine lv_icmp_eq (tgt := 709) hx hb dL_law_704 (by decide) (fun _ => ?_) (fun c9 => absurd (ht.trans hSR.1) c9)
  refine lv_iload hx hb dL_law_709 (lv_at hl 1 rfl) ?_
  obtain ⟨n2, w2, tot2, nt2, kp2, nx2, nc2, ht2, S2⟩ := hSR.2.2
  refine lv_if_ne (tgt := 726) hx hb dL_law_711 (by decide) (fun _ => ?_) (fun c9 => ?_)
  · refine lv_goto (tgt := 1482) hx hb dL_law_726 (by decide) ?_
    exact K L' ad' ci2 ca2 cr2 n2 w2 tot2 nt2 kp2 nx2 nc2 fi9 fa9 f2 H locs ls ht2 S2 hm9 (hF.1 _ hO) hW hS (lv_sub hl [2, 3, 4, 5, 6] rfl)
  · have hk0 : k = 0 := c9
    refine lv_aload_n hx hb dL_law_714 rfl (lv_at hl 5 rfl) ?_
    refine lv_iconst (v := 0) hx hb dL_law_715 (by decide) ?_
    refine g_lald (r := (110, 0)) C hW (hF.1 _ hO) rfl (vp_in_nI (n := 0) (N := 1) (by decide) (by decide)) dL_law_716 ?_
    refine lv_topV (y := .long (f2 0)) rfl ?_
    refine lv_iload hx hb dL_law_717 (lv_at hl 0 rfl) ?_
    refine lv_i2l hx hb dL_law_719 rfl ?_
    refine W.lcmp hx hb dL_law_720 ?_
    refine lv_topE (y := 0) (by rw [hSR.2.1 hk0]; exact lg_self _) ?_
    refine lv_if_eq (tgt := 726) hx hb dL_law_721 (by decide) (fun _ => ?_) (fun c9 => absurd rfl c9)
    refine lv_goto (tgt := 1482) hx hb dL_law_726 (by decide) ?_
    exact K L' ad' ci2 ca2 cr2 n2 w2 tot2 nt2 kp2 nx2 nc2 fi9 fa9 f2 H locs ls ht2 S2 hm9 (hF.1 _ hO) hW hS (lv_sub hl [2, 3, 4, 5, 6] rfl)

set_option maxHeartbeats 4000000 in
theorem lb_fixed (C : gCx p s m args meth c code 7 ret "RateGateLaw" mname X A) (hl0 : l.stackTraces = false) (hX : va_X b Ls xs s s.heap) (hbl : b < s.heap.size) (hbA : ¬ A b) (hi : i + 5 ≤ Ls) (hLs : Ls ≤ 2560) (hto : tot < 512) (hcells : cells + 10 ≤ 601024) (hslots : slots + 300 ≤ 7293034) (S : SV L ci ca cr n w tot nt kp nx nc fi fa) (hm : mL L) (hO : ((110, 0) : ro) ∈ L) (hW : gW X A L ad (wld X ad ci ca cr fi fa f) s H) (hS : va_S A s.heap H locs) (hl : lv_has ls 7 [(0, .ref b), (1, .ref (ad (1, 0))), (2, .ref (ad (100, 0))), (3, .ref (ad (110, 0))), (4, .int (nI i))]) (K : lwK p l e s m args below meth c Q X A b i tot cells slots) : W p l e room_1 s m args below meth c H locs cells slots Q (F0 m 729 ls []) := by
  have hx := C.1.1
  have hb := C.1.2.1
  obtain ⟨r1, r3, r22, ⟨r23, rnc⟩, r32, r42⟩ := id S.2.1
  have h4 := S.2.2.1.2.1
  have h5 := S.2.2.1.2.2
  have hn60 := S.1.2.2.2.2.2.2.2.2.2.2.1.2.1
  have hw2 := S.1.2.2.2.2.2.2.2.2.2.2.2.1.2
  have hq100 := S.1.2.2.1.1
  have hp50 := S.1.2.2.1.2
  refine lv_aload_n hx hb dL_law_729 rfl (lv_at hl 1 rfl) ?_
  refine lv_aload_n hx hb dL_law_730 rfl (lv_at hl 0 rfl) ?_
  refine lv_iload hx hb dL_law_731 (lv_at hl 4 rfl) ?_
  refine lv_iconst (v := 1) hx hb dL_law_733 (by decide) ?_
  refine lv_iadd hx hb dL_law_734 ?_
  refine lv_topE (y := nI (i + 1)) (nI_add i 1) ?_
  refine va_sld hx hb hX hbl hbA hS (vp_in_nI (n := i + 1) (N := Ls) (by omega) (by omega)) dL_law_735 ?_
  refine lv_topE (y := xs (i + 1)) (by rw [nI_clamp (by omega)]) ?_
  refine lv_aload_n hx hb dL_law_736 rfl (lv_at hl 3 rfl) ?_
  refine g_callSW (k2 := 3) (As := [.ref (ad (1, 0)), .int (xs (i + 1)), .ref (ad (110, 0))]) (rest := []) C (L_fixed l hl0 X L ad ci ca cr n w tot nt kp nx fi fa f S.1 hO (xs (i + 1))) tw_5_52 tw_5_53 tw_1_0 tw_5_54 (by decide +kernel) ⟨(Nat.le_of_ble_eq_true rfl), (Nat.le_of_ble_eq_true rfl)⟩ hW hS rfl hl.1 rfl (Nat.le_of_ble_eq_true rfl) dL_law_737 ⟨hcells, hslots⟩ (fun k L9 ad9 st9 H locs hp hW hS => ?_)
  obtain ⟨L', ad', ci2, ca2, cr2, f2, z0, hF, hc⟩ := hp
  injection z0 with e1 e2
  injection e2 with e2 e3
  rw [e1, e2, e3] at hW
  have hm9 : mL L' := mL_of hF.1 hm
  have hl : lv_has ls 7 [(0, .ref b), (1, .ref (ad' (1, 0))), (2, .ref (ad' (100, 0))), (3, .ref (ad' (110, 0))), (4, .int (nI i))] := by rw [hF.2 (1, 0) (Or.inr rfl), hF.2 (100, 0) (Or.inl (by decide)), hF.2 (110, 0) (Or.inl (by decide))]; exact hl
  refine lv_istore (lv' := [(5, .int k), (0, .ref b), (1, .ref (ad' (1, 0))), (2, .ref (ad' (100, 0))), (3, .ref (ad' (110, 0))), (4, .int (nI i))]) hx hb dL_law_740 hl (by decide) rfl (fun ls hl => ?_)
  refine lv_aload_n hx hb dL_law_742 rfl (lv_at hl 3 rfl) ?_
  refine lv_aload_n hx hb dL_law_743 rfl (lv_at hl 1 rfl) ?_
  refine lv_iload hx hb dL_law_744 (lv_at hl 5 rfl) ?_
  refine lv_iconst (v := 1) hx hb dL_law_746 (by decide) ?_
  refine lv_iadd hx hb dL_law_747 ?_
  refine lv_topE (y := nI (i + 1)) (nI_add i 1) ?_
  refine va_sld hx hb hX hbl hbA hS (vp_in_nI (n := i + 1) (N := Ls) (by omega) (by omega)) dL_law_748 ?_
  refine lv_topE (y := xs (i + 1)) (by rw [nI_clamp (by omega)]) ?_
  rw [wld_m] at hW
  refine m_callVi (k2 := 1) (As := [.int (xs (i + 1))]) (rest := []) C (c_X8_fixed l X L' ad' (cSt X ad' (oSt X f2) ci2 ca2 cr2) fi fa hm9 (xs (i + 1)) (cr 13 0) r32 hq100) tw_6_221 tw_6_222 tw_6_223 tw_1_10 tw_6_224 (by decide +kernel) ⟨(Nat.le_of_ble_eq_true rfl), (Nat.le_of_ble_eq_true rfl)⟩ hm9 hW hS rfl hl.1 rfl (Nat.le_of_ble_eq_true rfl) dL_law_749 ⟨hcells, hslots⟩ (fun v fi9 fa9 H locs hr hW hS => ?_)
  have hSR : SR tot k (f2 0) v L' ci2 ca2 cr2 fi9 fa9 := sim_rd S (by omega) (hv_fixed S) hc hr
  refine lv_istore (lv' := [(6, .int v), (5, .int k), (0, .ref b), (1, .ref (ad' (1, 0))), (2, .ref (ad' (100, 0))), (3, .ref (ad' (110, 0))), (4, .int (nI i))]) hx hb dL_law_752 hl (by decide) rfl (fun ls hl => ?_)
  refine lv_aload_n hx hb dL_law_754 rfl (lv_at hl 4 rfl) ?_
  refine m_callVi (k2 := 0) (As := []) (rest := []) C (c_X8_thrown l X L' ad' (cSt X ad' (oSt X f2) ci2 ca2 cr2) fi9 fa9 hm9) tw_6_105 tw_6_106 tw_6_107 tw_1_10 tw_6_108 (by decide +kernel) ⟨(Nat.le_of_ble_eq_true rfl), (Nat.le_of_ble_eq_true rfl)⟩ hm9 hW hS rfl hl.1 rfl (Nat.le_of_ble_eq_true rfl) dL_law_755 ⟨hcells, hslots⟩ (fun v2 fi8 fa8 H locs ht hW hS => ?_)
  obtain ⟨e8, e9, ht⟩ := ht
  rw [e8, e9, ← wld_m] at hW
  refine lv_iload hx hb dL_law_758 (lv_at hl 1 rfl) ?_
  refine lv_icmp_eq (tgt := 765) hx hb dL_law_760 (by decide) (fun _ => ?_) (fun c9 => absurd (ht.trans hSR.1) c9)
  refine lv_iload hx hb dL_law_765 (lv_at hl 1 rfl) ?_
  obtain ⟨n2, w2, tot2, nt2, kp2, nx2, nc2, ht2, S2⟩ := hSR.2.2
  refine lv_if_ne (tgt := 782) hx hb dL_law_767 (by decide) (fun _ => ?_) (fun c9 => ?_)
  · refine lv_goto (tgt := 1482) hx hb dL_law_782 (by decide) ?_
    exact K L' ad' ci2 ca2 cr2 n2 w2 tot2 nt2 kp2 nx2 nc2 fi9 fa9 f2 H locs ls ht2 S2 hm9 (hF.1 _ hO) hW hS (lv_sub hl [2, 3, 4, 5, 6] rfl)
  · have hk0 : k = 0 := c9
    refine lv_aload_n hx hb dL_law_770 rfl (lv_at hl 5 rfl) ?_
    refine lv_iconst (v := 0) hx hb dL_law_771 (by decide) ?_
    refine g_lald (r := (110, 0)) C hW (hF.1 _ hO) rfl (vp_in_nI (n := 0) (N := 1) (by decide) (by decide)) dL_law_772 ?_
    refine lv_topV (y := .long (f2 0)) rfl ?_
    refine lv_iload hx hb dL_law_773 (lv_at hl 0 rfl) ?_
    refine lv_i2l hx hb dL_law_775 rfl ?_
    refine W.lcmp hx hb dL_law_776 ?_
    refine lv_topE (y := 0) (by rw [hSR.2.1 hk0]; exact lg_self _) ?_
    refine lv_if_eq (tgt := 782) hx hb dL_law_777 (by decide) (fun _ => ?_) (fun c9 => absurd rfl c9)
    refine lv_goto (tgt := 1482) hx hb dL_law_782 (by decide) ?_
    exact K L' ad' ci2 ca2 cr2 n2 w2 tot2 nt2 kp2 nx2 nc2 fi9 fa9 f2 H locs ls ht2 S2 hm9 (hF.1 _ hO) hW hS (lv_sub hl [2, 3, 4, 5, 6] rfl)

set_option maxHeartbeats 4000000 in
theorem lb_left (C : gCx p s m args meth c code 7 ret "RateGateLaw" mname X A) (hl0 : l.stackTraces = false) (hX : va_X b Ls xs s s.heap) (hbl : b < s.heap.size) (hbA : ¬ A b) (hi : i + 5 ≤ Ls) (hLs : Ls ≤ 2560) (hto : tot < 512) (hcells : cells + 10 ≤ 601024) (hslots : slots + 300 ≤ 7293034) (S : SV L ci ca cr n w tot nt kp nx nc fi fa) (hm : mL L) (hO : ((110, 0) : ro) ∈ L) (hW : gW X A L ad (wld X ad ci ca cr fi fa f) s H) (hS : va_S A s.heap H locs) (hl : lv_has ls 7 [(0, .ref b), (1, .ref (ad (1, 0))), (2, .ref (ad (100, 0))), (3, .ref (ad (110, 0))), (4, .int (nI i))]) (K : lwK p l e s m args below meth c Q X A b i tot cells slots) : W p l e room_1 s m args below meth c H locs cells slots Q (F0 m 785 ls []) := by
  have hx := C.1.1
  have hb := C.1.2.1
  obtain ⟨r1, r3, r22, ⟨r23, rnc⟩, r32, r42⟩ := id S.2.1
  have h4 := S.2.2.1.2.1
  have h5 := S.2.2.1.2.2
  have hn60 := S.1.2.2.2.2.2.2.2.2.2.2.1.2.1
  have hw2 := S.1.2.2.2.2.2.2.2.2.2.2.2.1.2
  have hq100 := S.1.2.2.1.1
  have hp50 := S.1.2.2.1.2
  refine lv_aload_n hx hb dL_law_785 rfl (lv_at hl 1 rfl) ?_
  refine lv_aload_n hx hb dL_law_786 rfl (lv_at hl 0 rfl) ?_
  refine lv_iload hx hb dL_law_787 (lv_at hl 4 rfl) ?_
  refine lv_iconst (v := 1) hx hb dL_law_789 (by decide) ?_
  refine lv_iadd hx hb dL_law_790 ?_
  refine lv_topE (y := nI (i + 1)) (nI_add i 1) ?_
  refine va_sld hx hb hX hbl hbA hS (vp_in_nI (n := i + 1) (N := Ls) (by omega) (by omega)) dL_law_791 ?_
  refine lv_topE (y := xs (i + 1)) (by rw [nI_clamp (by omega)]) ?_
  refine lv_aload_n hx hb dL_law_792 rfl (lv_at hl 3 rfl) ?_
  refine g_callSW (k2 := 3) (As := [.ref (ad (1, 0)), .int (xs (i + 1)), .ref (ad (110, 0))]) (rest := []) C (L_left l hl0 X L ad ci ca cr n w tot nt kp nx fi fa f S.1 hO (xs (i + 1))) tw_5_60 tw_5_61 tw_1_0 tw_5_62 (by decide +kernel) ⟨(Nat.le_of_ble_eq_true rfl), (Nat.le_of_ble_eq_true rfl)⟩ hW hS rfl hl.1 rfl (Nat.le_of_ble_eq_true rfl) dL_law_793 ⟨hcells, hslots⟩ (fun k L9 ad9 st9 H locs hp hW hS => ?_)
  obtain ⟨L', ad', ci2, ca2, cr2, f2, z0, hF, hc⟩ := hp
  injection z0 with e1 e2
  injection e2 with e2 e3
  rw [e1, e2, e3] at hW
  have hm9 : mL L' := mL_of hF.1 hm
  have hl : lv_has ls 7 [(0, .ref b), (1, .ref (ad' (1, 0))), (2, .ref (ad' (100, 0))), (3, .ref (ad' (110, 0))), (4, .int (nI i))] := by rw [hF.2 (1, 0) (Or.inr rfl), hF.2 (100, 0) (Or.inl (by decide)), hF.2 (110, 0) (Or.inl (by decide))]; exact hl
  refine lv_istore (lv' := [(5, .int k), (0, .ref b), (1, .ref (ad' (1, 0))), (2, .ref (ad' (100, 0))), (3, .ref (ad' (110, 0))), (4, .int (nI i))]) hx hb dL_law_796 hl (by decide) rfl (fun ls hl => ?_)
  refine lv_aload_n hx hb dL_law_798 rfl (lv_at hl 3 rfl) ?_
  refine lv_aload_n hx hb dL_law_799 rfl (lv_at hl 1 rfl) ?_
  refine lv_iload hx hb dL_law_800 (lv_at hl 5 rfl) ?_
  refine lv_iconst (v := 1) hx hb dL_law_802 (by decide) ?_
  refine lv_iadd hx hb dL_law_803 ?_
  refine lv_topE (y := nI (i + 1)) (nI_add i 1) ?_
  refine va_sld hx hb hX hbl hbA hS (vp_in_nI (n := i + 1) (N := Ls) (by omega) (by omega)) dL_law_804 ?_
  refine lv_topE (y := xs (i + 1)) (by rw [nI_clamp (by omega)]) ?_
  rw [wld_m] at hW
  refine m_callVi (k2 := 1) (As := [.int (xs (i + 1))]) (rest := []) C (c_X8_left l X L' ad' (cSt X ad' (oSt X f2) ci2 ca2 cr2) fi fa hm9 (xs (i + 1)) nc r23 (by omega)) tw_6_225 tw_6_226 tw_6_227 tw_1_10 tw_6_228 (by decide +kernel) ⟨(Nat.le_of_ble_eq_true rfl), (Nat.le_of_ble_eq_true rfl)⟩ hm9 hW hS rfl hl.1 rfl (Nat.le_of_ble_eq_true rfl) dL_law_805 ⟨hcells, hslots⟩ (fun v fi9 fa9 H locs hr hW hS => ?_)
  have hSR : SR tot k (f2 0) v L' ci2 ca2 cr2 fi9 fa9 := sim_rd S (by omega) (hv_left S) hc hr
  refine lv_istore (lv' := [(6, .int v), (5, .int k), (0, .ref b), (1, .ref (ad' (1, 0))), (2, .ref (ad' (100, 0))), (3, .ref (ad' (110, 0))), (4, .int (nI i))]) hx hb dL_law_808 hl (by decide) rfl (fun ls hl => ?_)
  refine lv_aload_n hx hb dL_law_810 rfl (lv_at hl 4 rfl) ?_
  refine m_callVi (k2 := 0) (As := []) (rest := []) C (c_X8_thrown l X L' ad' (cSt X ad' (oSt X f2) ci2 ca2 cr2) fi9 fa9 hm9) tw_6_105 tw_6_106 tw_6_107 tw_1_10 tw_6_108 (by decide +kernel) ⟨(Nat.le_of_ble_eq_true rfl), (Nat.le_of_ble_eq_true rfl)⟩ hm9 hW hS rfl hl.1 rfl (Nat.le_of_ble_eq_true rfl) dL_law_811 ⟨hcells, hslots⟩ (fun v2 fi8 fa8 H locs ht hW hS => ?_)
  obtain ⟨e8, e9, ht⟩ := ht
  rw [e8, e9, ← wld_m] at hW
  refine lv_iload hx hb dL_law_814 (lv_at hl 1 rfl) ?_
  refine lv_icmp_eq (tgt := 821) hx hb dL_law_816 (by decide) (fun _ => ?_) (fun c9 => absurd (ht.trans hSR.1) c9)
  refine lv_iload hx hb dL_law_821 (lv_at hl 1 rfl) ?_
  obtain ⟨n2, w2, tot2, nt2, kp2, nx2, nc2, ht2, S2⟩ := hSR.2.2
  refine lv_if_ne (tgt := 838) hx hb dL_law_823 (by decide) (fun _ => ?_) (fun c9 => ?_)
  · refine lv_goto (tgt := 1482) hx hb dL_law_838 (by decide) ?_
    exact K L' ad' ci2 ca2 cr2 n2 w2 tot2 nt2 kp2 nx2 nc2 fi9 fa9 f2 H locs ls ht2 S2 hm9 (hF.1 _ hO) hW hS (lv_sub hl [2, 3, 4, 5, 6] rfl)
  · have hk0 : k = 0 := c9
    refine lv_aload_n hx hb dL_law_826 rfl (lv_at hl 5 rfl) ?_
    refine lv_iconst (v := 0) hx hb dL_law_827 (by decide) ?_
    refine g_lald (r := (110, 0)) C hW (hF.1 _ hO) rfl (vp_in_nI (n := 0) (N := 1) (by decide) (by decide)) dL_law_828 ?_
    refine lv_topV (y := .long (f2 0)) rfl ?_
    refine lv_iload hx hb dL_law_829 (lv_at hl 0 rfl) ?_
    refine lv_i2l hx hb dL_law_831 rfl ?_
    refine W.lcmp hx hb dL_law_832 ?_
    refine lv_topE (y := 0) (by rw [hSR.2.1 hk0]; exact lg_self _) ?_
    refine lv_if_eq (tgt := 838) hx hb dL_law_833 (by decide) (fun _ => ?_) (fun c9 => absurd rfl c9)
    refine lv_goto (tgt := 1482) hx hb dL_law_838 (by decide) ?_
    exact K L' ad' ci2 ca2 cr2 n2 w2 tot2 nt2 kp2 nx2 nc2 fi9 fa9 f2 H locs ls ht2 S2 hm9 (hF.1 _ hO) hW hS (lv_sub hl [2, 3, 4, 5, 6] rfl)

set_option maxHeartbeats 4000000 in
theorem lb_leftByLog (C : gCx p s m args meth c code 7 ret "RateGateLaw" mname X A) (hl0 : l.stackTraces = false) (hX : va_X b Ls xs s s.heap) (hbl : b < s.heap.size) (hbA : ¬ A b) (hi : i + 5 ≤ Ls) (hLs : Ls ≤ 2560) (hto : tot < 512) (hcells : cells + 10 ≤ 601024) (hslots : slots + 300 ≤ 7293034) (S : SV L ci ca cr n w tot nt kp nx nc fi fa) (hm : mL L) (hO : ((110, 0) : ro) ∈ L) (hW : gW X A L ad (wld X ad ci ca cr fi fa f) s H) (hS : va_S A s.heap H locs) (hl : lv_has ls 7 [(0, .ref b), (1, .ref (ad (1, 0))), (2, .ref (ad (100, 0))), (3, .ref (ad (110, 0))), (4, .int (nI i))]) (K : lwK p l e s m args below meth c Q X A b i tot cells slots) : W p l e room_1 s m args below meth c H locs cells slots Q (F0 m 841 ls []) := by
  have hx := C.1.1
  have hb := C.1.2.1
  obtain ⟨r1, r3, r22, ⟨r23, rnc⟩, r32, r42⟩ := id S.2.1
  have h4 := S.2.2.1.2.1
  have h5 := S.2.2.1.2.2
  have hn60 := S.1.2.2.2.2.2.2.2.2.2.2.1.2.1
  have hw2 := S.1.2.2.2.2.2.2.2.2.2.2.2.1.2
  have hq100 := S.1.2.2.1.1
  have hp50 := S.1.2.2.1.2
  refine lv_aload_n hx hb dL_law_841 rfl (lv_at hl 1 rfl) ?_
  refine lv_aload_n hx hb dL_law_842 rfl (lv_at hl 0 rfl) ?_
  refine lv_iload hx hb dL_law_843 (lv_at hl 4 rfl) ?_
  refine lv_iconst (v := 1) hx hb dL_law_845 (by decide) ?_
  refine lv_iadd hx hb dL_law_846 ?_
  refine lv_topE (y := nI (i + 1)) (nI_add i 1) ?_
  refine va_sld hx hb hX hbl hbA hS (vp_in_nI (n := i + 1) (N := Ls) (by omega) (by omega)) dL_law_847 ?_
  refine lv_topE (y := xs (i + 1)) (by rw [nI_clamp (by omega)]) ?_
  refine lv_aload_n hx hb dL_law_848 rfl (lv_at hl 3 rfl) ?_
  refine g_callSW (k2 := 3) (As := [.ref (ad (1, 0)), .int (xs (i + 1)), .ref (ad (110, 0))]) (rest := []) C (L_leftByLog l hl0 X L ad ci ca cr n w tot nt kp nx fi fa f S.1 hO (xs (i + 1))) tw_5_67 tw_5_68 tw_1_0 tw_5_69 (by decide +kernel) ⟨(Nat.le_of_ble_eq_true rfl), (Nat.le_of_ble_eq_true rfl)⟩ hW hS rfl hl.1 rfl (Nat.le_of_ble_eq_true rfl) dL_law_849 ⟨hcells, hslots⟩ (fun k L9 ad9 st9 H locs hp hW hS => ?_)
  obtain ⟨L', ad', ci2, ca2, cr2, f2, z0, hF, hc⟩ := hp
  injection z0 with e1 e2
  injection e2 with e2 e3
  rw [e1, e2, e3] at hW
  have hm9 : mL L' := mL_of hF.1 hm
  have hl : lv_has ls 7 [(0, .ref b), (1, .ref (ad' (1, 0))), (2, .ref (ad' (100, 0))), (3, .ref (ad' (110, 0))), (4, .int (nI i))] := by rw [hF.2 (1, 0) (Or.inr rfl), hF.2 (100, 0) (Or.inl (by decide)), hF.2 (110, 0) (Or.inl (by decide))]; exact hl
  refine lv_istore (lv' := [(5, .int k), (0, .ref b), (1, .ref (ad' (1, 0))), (2, .ref (ad' (100, 0))), (3, .ref (ad' (110, 0))), (4, .int (nI i))]) hx hb dL_law_852 hl (by decide) rfl (fun ls hl => ?_)
  refine lv_aload_n hx hb dL_law_854 rfl (lv_at hl 3 rfl) ?_
  refine lv_aload_n hx hb dL_law_855 rfl (lv_at hl 1 rfl) ?_
  refine lv_iload hx hb dL_law_856 (lv_at hl 5 rfl) ?_
  refine lv_iconst (v := 1) hx hb dL_law_858 (by decide) ?_
  refine lv_iadd hx hb dL_law_859 ?_
  refine lv_topE (y := nI (i + 1)) (nI_add i 1) ?_
  refine va_sld hx hb hX hbl hbA hS (vp_in_nI (n := i + 1) (N := Ls) (by omega) (by omega)) dL_law_860 ?_
  refine lv_topE (y := xs (i + 1)) (by rw [nI_clamp (by omega)]) ?_
  rw [wld_m] at hW
  refine m_callVi (k2 := 1) (As := [.int (xs (i + 1))]) (rest := []) C (c_X8_leftByLog l X L' ad' (cSt X ad' (oSt X f2) ci2 ca2 cr2) fi fa hm9 (xs (i + 1)) nc r23 (by omega)) tw_6_233 tw_6_234 tw_6_235 tw_1_10 tw_6_236 (by decide +kernel) ⟨(Nat.le_of_ble_eq_true rfl), (Nat.le_of_ble_eq_true rfl)⟩ hm9 hW hS rfl hl.1 rfl (Nat.le_of_ble_eq_true rfl) dL_law_861 ⟨hcells, hslots⟩ (fun v fi9 fa9 H locs hr hW hS => ?_)
  have hSR : SR tot k (f2 0) v L' ci2 ca2 cr2 fi9 fa9 := sim_rd S (by omega) (hv_log S) hc hr
  refine lv_istore (lv' := [(6, .int v), (5, .int k), (0, .ref b), (1, .ref (ad' (1, 0))), (2, .ref (ad' (100, 0))), (3, .ref (ad' (110, 0))), (4, .int (nI i))]) hx hb dL_law_864 hl (by decide) rfl (fun ls hl => ?_)
  refine lv_aload_n hx hb dL_law_866 rfl (lv_at hl 4 rfl) ?_
  refine m_callVi (k2 := 0) (As := []) (rest := []) C (c_X8_thrown l X L' ad' (cSt X ad' (oSt X f2) ci2 ca2 cr2) fi9 fa9 hm9) tw_6_105 tw_6_106 tw_6_107 tw_1_10 tw_6_108 (by decide +kernel) ⟨(Nat.le_of_ble_eq_true rfl), (Nat.le_of_ble_eq_true rfl)⟩ hm9 hW hS rfl hl.1 rfl (Nat.le_of_ble_eq_true rfl) dL_law_867 ⟨hcells, hslots⟩ (fun v2 fi8 fa8 H locs ht hW hS => ?_)
  obtain ⟨e8, e9, ht⟩ := ht
  rw [e8, e9, ← wld_m] at hW
  refine lv_iload hx hb dL_law_870 (lv_at hl 1 rfl) ?_
  refine lv_icmp_eq (tgt := 877) hx hb dL_law_872 (by decide) (fun _ => ?_) (fun c9 => absurd (ht.trans hSR.1) c9)
  refine lv_iload hx hb dL_law_877 (lv_at hl 1 rfl) ?_
  obtain ⟨n2, w2, tot2, nt2, kp2, nx2, nc2, ht2, S2⟩ := hSR.2.2
  refine lv_if_ne (tgt := 894) hx hb dL_law_879 (by decide) (fun _ => ?_) (fun c9 => ?_)
  · refine lv_goto (tgt := 1482) hx hb dL_law_894 (by decide) ?_
    exact K L' ad' ci2 ca2 cr2 n2 w2 tot2 nt2 kp2 nx2 nc2 fi9 fa9 f2 H locs ls ht2 S2 hm9 (hF.1 _ hO) hW hS (lv_sub hl [2, 3, 4, 5, 6] rfl)
  · have hk0 : k = 0 := c9
    refine lv_aload_n hx hb dL_law_882 rfl (lv_at hl 5 rfl) ?_
    refine lv_iconst (v := 0) hx hb dL_law_883 (by decide) ?_
    refine g_lald (r := (110, 0)) C hW (hF.1 _ hO) rfl (vp_in_nI (n := 0) (N := 1) (by decide) (by decide)) dL_law_884 ?_
    refine lv_topV (y := .long (f2 0)) rfl ?_
    refine lv_iload hx hb dL_law_885 (lv_at hl 0 rfl) ?_
    refine lv_i2l hx hb dL_law_887 rfl ?_
    refine W.lcmp hx hb dL_law_888 ?_
    refine lv_topE (y := 0) (by rw [hSR.2.1 hk0]; exact lg_self _) ?_
    refine lv_if_eq (tgt := 894) hx hb dL_law_889 (by decide) (fun _ => ?_) (fun c9 => absurd rfl c9)
    refine lv_goto (tgt := 1482) hx hb dL_law_894 (by decide) ?_
    exact K L' ad' ci2 ca2 cr2 n2 w2 tot2 nt2 kp2 nx2 nc2 fi9 fa9 f2 H locs ls ht2 S2 hm9 (hF.1 _ hO) hW hS (lv_sub hl [2, 3, 4, 5, 6] rfl)

set_option maxHeartbeats 4000000 in
theorem lb_circuit (C : gCx p s m args meth c code 7 ret "RateGateLaw" mname X A) (hl0 : l.stackTraces = false) (hX : va_X b Ls xs s s.heap) (hbl : b < s.heap.size) (hbA : ¬ A b) (hi : i + 5 ≤ Ls) (hLs : Ls ≤ 2560) (hto : tot < 512) (hcells : cells + 10 ≤ 601024) (hslots : slots + 300 ≤ 7293034) (S : SV L ci ca cr n w tot nt kp nx nc fi fa) (hm : mL L) (hO : ((110, 0) : ro) ∈ L) (hW : gW X A L ad (wld X ad ci ca cr fi fa f) s H) (hS : va_S A s.heap H locs) (hl : lv_has ls 7 [(0, .ref b), (1, .ref (ad (1, 0))), (2, .ref (ad (100, 0))), (3, .ref (ad (110, 0))), (4, .int (nI i))]) (K : lwK p l e s m args below meth c Q X A b i tot cells slots) : W p l e room_1 s m args below meth c H locs cells slots Q (F0 m 897 ls []) := by
  have hx := C.1.1
  have hb := C.1.2.1
  obtain ⟨r1, r3, r22, ⟨r23, rnc⟩, r32, r42⟩ := id S.2.1
  have h4 := S.2.2.1.2.1
  have h5 := S.2.2.1.2.2
  have hn60 := S.1.2.2.2.2.2.2.2.2.2.2.1.2.1
  have hw2 := S.1.2.2.2.2.2.2.2.2.2.2.2.1.2
  have hq100 := S.1.2.2.1.1
  have hp50 := S.1.2.2.1.2
  refine lv_aload_n hx hb dL_law_897 rfl (lv_at hl 1 rfl) ?_
  refine lv_aload_n hx hb dL_law_898 rfl (lv_at hl 0 rfl) ?_
  refine lv_iload hx hb dL_law_899 (lv_at hl 4 rfl) ?_
  refine lv_iconst (v := 1) hx hb dL_law_901 (by decide) ?_
  refine lv_iadd hx hb dL_law_902 ?_
  refine lv_topE (y := nI (i + 1)) (nI_add i 1) ?_
  refine va_sld hx hb hX hbl hbA hS (vp_in_nI (n := i + 1) (N := Ls) (by omega) (by omega)) dL_law_903 ?_
  refine lv_topE (y := xs (i + 1)) (by rw [nI_clamp (by omega)]) ?_
  refine lv_aload_n hx hb dL_law_904 rfl (lv_at hl 3 rfl) ?_
  refine g_callSW (k2 := 3) (As := [.ref (ad (1, 0)), .int (xs (i + 1)), .ref (ad (110, 0))]) (rest := []) C (L_circuit l hl0 X L ad ci ca cr n w tot nt kp nx fi fa f S.1 hO (xs (i + 1))) tw_5_78 tw_5_79 tw_1_0 tw_5_80 (by decide +kernel) ⟨(Nat.le_of_ble_eq_true rfl), (Nat.le_of_ble_eq_true rfl)⟩ hW hS rfl hl.1 rfl (Nat.le_of_ble_eq_true rfl) dL_law_905 ⟨hcells, hslots⟩ (fun k L9 ad9 st9 H locs hp hW hS => ?_)
  obtain ⟨L', ad', ci2, ca2, cr2, f2, z0, hF, hc⟩ := hp
  injection z0 with e1 e2
  injection e2 with e2 e3
  rw [e1, e2, e3] at hW
  have hm9 : mL L' := mL_of hF.1 hm
  have hl : lv_has ls 7 [(0, .ref b), (1, .ref (ad' (1, 0))), (2, .ref (ad' (100, 0))), (3, .ref (ad' (110, 0))), (4, .int (nI i))] := by rw [hF.2 (1, 0) (Or.inr rfl), hF.2 (100, 0) (Or.inl (by decide)), hF.2 (110, 0) (Or.inl (by decide))]; exact hl
  refine lv_istore (lv' := [(5, .int k), (0, .ref b), (1, .ref (ad' (1, 0))), (2, .ref (ad' (100, 0))), (3, .ref (ad' (110, 0))), (4, .int (nI i))]) hx hb dL_law_908 hl (by decide) rfl (fun ls hl => ?_)
  refine lv_aload_n hx hb dL_law_910 rfl (lv_at hl 3 rfl) ?_
  refine lv_aload_n hx hb dL_law_911 rfl (lv_at hl 1 rfl) ?_
  refine lv_iload hx hb dL_law_912 (lv_at hl 5 rfl) ?_
  refine lv_iconst (v := 1) hx hb dL_law_914 (by decide) ?_
  refine lv_iadd hx hb dL_law_915 ?_
  refine lv_topE (y := nI (i + 1)) (nI_add i 1) ?_
  refine va_sld hx hb hX hbl hbA hS (vp_in_nI (n := i + 1) (N := Ls) (by omega) (by omega)) dL_law_916 ?_
  refine lv_topE (y := xs (i + 1)) (by rw [nI_clamp (by omega)]) ?_
  rw [wld_m] at hW
  refine m_callVi (k2 := 1) (As := [.int (xs (i + 1))]) (rest := []) C (c_X8_circuit l X L' ad' (cSt X ad' (oSt X f2) ci2 ca2 cr2) fi fa hm9 (xs (i + 1))) tw_6_237 tw_6_238 tw_6_239 tw_1_10 tw_7_0 (by decide +kernel) ⟨(Nat.le_of_ble_eq_true rfl), (Nat.le_of_ble_eq_true rfl)⟩ hm9 hW hS rfl hl.1 rfl (Nat.le_of_ble_eq_true rfl) dL_law_917 ⟨hcells, hslots⟩ (fun v fi9 fa9 H locs hr hW hS => ?_)
  have hSR : SR tot k (f2 0) v L' ci2 ca2 cr2 fi9 fa9 := sim_rd S (by omega) (hv_circuit S) hc hr
  refine lv_istore (lv' := [(6, .int v), (5, .int k), (0, .ref b), (1, .ref (ad' (1, 0))), (2, .ref (ad' (100, 0))), (3, .ref (ad' (110, 0))), (4, .int (nI i))]) hx hb dL_law_920 hl (by decide) rfl (fun ls hl => ?_)
  refine lv_aload_n hx hb dL_law_922 rfl (lv_at hl 4 rfl) ?_
  refine m_callVi (k2 := 0) (As := []) (rest := []) C (c_X8_thrown l X L' ad' (cSt X ad' (oSt X f2) ci2 ca2 cr2) fi9 fa9 hm9) tw_6_105 tw_6_106 tw_6_107 tw_1_10 tw_6_108 (by decide +kernel) ⟨(Nat.le_of_ble_eq_true rfl), (Nat.le_of_ble_eq_true rfl)⟩ hm9 hW hS rfl hl.1 rfl (Nat.le_of_ble_eq_true rfl) dL_law_923 ⟨hcells, hslots⟩ (fun v2 fi8 fa8 H locs ht hW hS => ?_)
  obtain ⟨e8, e9, ht⟩ := ht
  rw [e8, e9, ← wld_m] at hW
  refine lv_iload hx hb dL_law_926 (lv_at hl 1 rfl) ?_
  refine lv_icmp_eq (tgt := 933) hx hb dL_law_928 (by decide) (fun _ => ?_) (fun c9 => absurd (ht.trans hSR.1) c9)
  refine lv_iload hx hb dL_law_933 (lv_at hl 1 rfl) ?_
  obtain ⟨n2, w2, tot2, nt2, kp2, nx2, nc2, ht2, S2⟩ := hSR.2.2
  refine lv_if_ne (tgt := 950) hx hb dL_law_935 (by decide) (fun _ => ?_) (fun c9 => ?_)
  · refine lv_goto (tgt := 1482) hx hb dL_law_950 (by decide) ?_
    exact K L' ad' ci2 ca2 cr2 n2 w2 tot2 nt2 kp2 nx2 nc2 fi9 fa9 f2 H locs ls ht2 S2 hm9 (hF.1 _ hO) hW hS (lv_sub hl [2, 3, 4, 5, 6] rfl)
  · have hk0 : k = 0 := c9
    refine lv_aload_n hx hb dL_law_938 rfl (lv_at hl 5 rfl) ?_
    refine lv_iconst (v := 0) hx hb dL_law_939 (by decide) ?_
    refine g_lald (r := (110, 0)) C hW (hF.1 _ hO) rfl (vp_in_nI (n := 0) (N := 1) (by decide) (by decide)) dL_law_940 ?_
    refine lv_topV (y := .long (f2 0)) rfl ?_
    refine lv_iload hx hb dL_law_941 (lv_at hl 0 rfl) ?_
    refine lv_i2l hx hb dL_law_943 rfl ?_
    refine W.lcmp hx hb dL_law_944 ?_
    refine lv_topE (y := 0) (by rw [hSR.2.1 hk0]; exact lg_self _) ?_
    refine lv_if_eq (tgt := 950) hx hb dL_law_945 (by decide) (fun _ => ?_) (fun c9 => absurd rfl c9)
    refine lv_goto (tgt := 1482) hx hb dL_law_950 (by decide) ?_
    exact K L' ad' ci2 ca2 cr2 n2 w2 tot2 nt2 kp2 nx2 nc2 fi9 fa9 f2 H locs ls ht2 S2 hm9 (hF.1 _ hO) hW hS (lv_sub hl [2, 3, 4, 5, 6] rfl)

set_option maxHeartbeats 4000000 in
theorem lb_tries (C : gCx p s m args meth c code 7 ret "RateGateLaw" mname X A) (hl0 : l.stackTraces = false) (hX : va_X b Ls xs s s.heap) (hbl : b < s.heap.size) (hbA : ¬ A b) (hi : i + 5 ≤ Ls) (hLs : Ls ≤ 2560) (hto : tot < 512) (hcells : cells + 10 ≤ 601024) (hslots : slots + 300 ≤ 7293034) (S : SV L ci ca cr n w tot nt kp nx nc fi fa) (hm : mL L) (hO : ((110, 0) : ro) ∈ L) (hW : gW X A L ad (wld X ad ci ca cr fi fa f) s H) (hS : va_S A s.heap H locs) (hl : lv_has ls 7 [(0, .ref b), (1, .ref (ad (1, 0))), (2, .ref (ad (100, 0))), (3, .ref (ad (110, 0))), (4, .int (nI i))]) (K : lwK p l e s m args below meth c Q X A b i tot cells slots) : W p l e room_1 s m args below meth c H locs cells slots Q (F0 m 953 ls []) := by
  have hx := C.1.1
  have hb := C.1.2.1
  obtain ⟨r1, r3, r22, ⟨r23, rnc⟩, r32, r42⟩ := id S.2.1
  have h4 := S.2.2.1.2.1
  have h5 := S.2.2.1.2.2
  have hn60 := S.1.2.2.2.2.2.2.2.2.2.2.1.2.1
  have hw2 := S.1.2.2.2.2.2.2.2.2.2.2.2.1.2
  have hq100 := S.1.2.2.1.1
  have hp50 := S.1.2.2.1.2
  refine lv_aload_n hx hb dL_law_953 rfl (lv_at hl 1 rfl) ?_
  refine lv_aload_n hx hb dL_law_954 rfl (lv_at hl 0 rfl) ?_
  refine lv_iload hx hb dL_law_955 (lv_at hl 4 rfl) ?_
  refine lv_iconst (v := 1) hx hb dL_law_957 (by decide) ?_
  refine lv_iadd hx hb dL_law_958 ?_
  refine lv_topE (y := nI (i + 1)) (nI_add i 1) ?_
  refine va_sld hx hb hX hbl hbA hS (vp_in_nI (n := i + 1) (N := Ls) (by omega) (by omega)) dL_law_959 ?_
  refine lv_topE (y := xs (i + 1)) (by rw [nI_clamp (by omega)]) ?_
  refine lv_aload_n hx hb dL_law_960 rfl (lv_at hl 3 rfl) ?_
  refine g_callSW (k2 := 3) (As := [.ref (ad (1, 0)), .int (xs (i + 1)), .ref (ad (110, 0))]) (rest := []) C (L_tries l hl0 X L ad ci ca cr n w tot nt kp nx fi fa f S.1 hO (xs (i + 1))) tw_5_85 tw_5_86 tw_1_0 tw_5_87 (by decide +kernel) ⟨(Nat.le_of_ble_eq_true rfl), (Nat.le_of_ble_eq_true rfl)⟩ hW hS rfl hl.1 rfl (Nat.le_of_ble_eq_true rfl) dL_law_961 ⟨hcells, hslots⟩ (fun k L9 ad9 st9 H locs hp hW hS => ?_)
  obtain ⟨L', ad', ci2, ca2, cr2, f2, z0, hF, hc⟩ := hp
  injection z0 with e1 e2
  injection e2 with e2 e3
  rw [e1, e2, e3] at hW
  have hm9 : mL L' := mL_of hF.1 hm
  have hl : lv_has ls 7 [(0, .ref b), (1, .ref (ad' (1, 0))), (2, .ref (ad' (100, 0))), (3, .ref (ad' (110, 0))), (4, .int (nI i))] := by rw [hF.2 (1, 0) (Or.inr rfl), hF.2 (100, 0) (Or.inl (by decide)), hF.2 (110, 0) (Or.inl (by decide))]; exact hl
  refine lv_istore (lv' := [(5, .int k), (0, .ref b), (1, .ref (ad' (1, 0))), (2, .ref (ad' (100, 0))), (3, .ref (ad' (110, 0))), (4, .int (nI i))]) hx hb dL_law_964 hl (by decide) rfl (fun ls hl => ?_)
  refine lv_aload_n hx hb dL_law_966 rfl (lv_at hl 3 rfl) ?_
  refine lv_aload_n hx hb dL_law_967 rfl (lv_at hl 1 rfl) ?_
  refine lv_iload hx hb dL_law_968 (lv_at hl 5 rfl) ?_
  refine lv_iconst (v := 1) hx hb dL_law_970 (by decide) ?_
  refine lv_iadd hx hb dL_law_971 ?_
  refine lv_topE (y := nI (i + 1)) (nI_add i 1) ?_
  refine va_sld hx hb hX hbl hbA hS (vp_in_nI (n := i + 1) (N := Ls) (by omega) (by omega)) dL_law_972 ?_
  refine lv_topE (y := xs (i + 1)) (by rw [nI_clamp (by omega)]) ?_
  rw [wld_m] at hW
  refine m_callVi (k2 := 1) (As := [.int (xs (i + 1))]) (rest := []) C (c_X8_tries l X L' ad' (cSt X ad' (oSt X f2) ci2 ca2 cr2) fi fa hm9 (xs (i + 1))) tw_7_1 tw_7_2 tw_7_3 tw_1_10 tw_7_4 (by decide +kernel) ⟨(Nat.le_of_ble_eq_true rfl), (Nat.le_of_ble_eq_true rfl)⟩ hm9 hW hS rfl hl.1 rfl (Nat.le_of_ble_eq_true rfl) dL_law_973 ⟨hcells, hslots⟩ (fun v fi9 fa9 H locs hr hW hS => ?_)
  have hSR : SR tot k (f2 0) v L' ci2 ca2 cr2 fi9 fa9 := sim_rd S (by omega) (hv_tries S) hc hr
  refine lv_istore (lv' := [(6, .int v), (5, .int k), (0, .ref b), (1, .ref (ad' (1, 0))), (2, .ref (ad' (100, 0))), (3, .ref (ad' (110, 0))), (4, .int (nI i))]) hx hb dL_law_976 hl (by decide) rfl (fun ls hl => ?_)
  refine lv_aload_n hx hb dL_law_978 rfl (lv_at hl 4 rfl) ?_
  refine m_callVi (k2 := 0) (As := []) (rest := []) C (c_X8_thrown l X L' ad' (cSt X ad' (oSt X f2) ci2 ca2 cr2) fi9 fa9 hm9) tw_6_105 tw_6_106 tw_6_107 tw_1_10 tw_6_108 (by decide +kernel) ⟨(Nat.le_of_ble_eq_true rfl), (Nat.le_of_ble_eq_true rfl)⟩ hm9 hW hS rfl hl.1 rfl (Nat.le_of_ble_eq_true rfl) dL_law_979 ⟨hcells, hslots⟩ (fun v2 fi8 fa8 H locs ht hW hS => ?_)
  obtain ⟨e8, e9, ht⟩ := ht
  rw [e8, e9, ← wld_m] at hW
  refine lv_iload hx hb dL_law_982 (lv_at hl 1 rfl) ?_
  refine lv_icmp_eq (tgt := 989) hx hb dL_law_984 (by decide) (fun _ => ?_) (fun c9 => absurd (ht.trans hSR.1) c9)
  refine lv_iload hx hb dL_law_989 (lv_at hl 1 rfl) ?_
  obtain ⟨n2, w2, tot2, nt2, kp2, nx2, nc2, ht2, S2⟩ := hSR.2.2
  refine lv_if_ne (tgt := 1006) hx hb dL_law_991 (by decide) (fun _ => ?_) (fun c9 => ?_)
  · refine lv_goto (tgt := 1482) hx hb dL_law_1006 (by decide) ?_
    exact K L' ad' ci2 ca2 cr2 n2 w2 tot2 nt2 kp2 nx2 nc2 fi9 fa9 f2 H locs ls ht2 S2 hm9 (hF.1 _ hO) hW hS (lv_sub hl [2, 3, 4, 5, 6] rfl)
  · have hk0 : k = 0 := c9
    refine lv_aload_n hx hb dL_law_994 rfl (lv_at hl 5 rfl) ?_
    refine lv_iconst (v := 0) hx hb dL_law_995 (by decide) ?_
    refine g_lald (r := (110, 0)) C hW (hF.1 _ hO) rfl (vp_in_nI (n := 0) (N := 1) (by decide) (by decide)) dL_law_996 ?_
    refine lv_topV (y := .long (f2 0)) rfl ?_
    refine lv_iload hx hb dL_law_997 (lv_at hl 0 rfl) ?_
    refine lv_i2l hx hb dL_law_999 rfl ?_
    refine W.lcmp hx hb dL_law_1000 ?_
    refine lv_topE (y := 0) (by rw [hSR.2.1 hk0]; exact lg_self _) ?_
    refine lv_if_eq (tgt := 1006) hx hb dL_law_1001 (by decide) (fun _ => ?_) (fun c9 => absurd rfl c9)
    refine lv_goto (tgt := 1482) hx hb dL_law_1006 (by decide) ?_
    exact K L' ad' ci2 ca2 cr2 n2 w2 tot2 nt2 kp2 nx2 nc2 fi9 fa9 f2 H locs ls ht2 S2 hm9 (hF.1 _ hO) hW hS (lv_sub hl [2, 3, 4, 5, 6] rfl)

set_option maxHeartbeats 4000000 in
theorem lb_calls (C : gCx p s m args meth c code 7 ret "RateGateLaw" mname X A) (hl0 : l.stackTraces = false) (hX : va_X b Ls xs s s.heap) (hbl : b < s.heap.size) (hbA : ¬ A b) (hi : i + 5 ≤ Ls) (hLs : Ls ≤ 2560) (hto : tot < 512) (hcells : cells + 10 ≤ 601024) (hslots : slots + 300 ≤ 7293034) (S : SV L ci ca cr n w tot nt kp nx nc fi fa) (hm : mL L) (hO : ((110, 0) : ro) ∈ L) (hW : gW X A L ad (wld X ad ci ca cr fi fa f) s H) (hS : va_S A s.heap H locs) (hl : lv_has ls 7 [(0, .ref b), (1, .ref (ad (1, 0))), (2, .ref (ad (100, 0))), (3, .ref (ad (110, 0))), (4, .int (nI i))]) (K : lwK p l e s m args below meth c Q X A b i tot cells slots) : W p l e room_1 s m args below meth c H locs cells slots Q (F0 m 1009 ls []) := by
  have hx := C.1.1
  have hb := C.1.2.1
  obtain ⟨r1, r3, r22, ⟨r23, rnc⟩, r32, r42⟩ := id S.2.1
  have h4 := S.2.2.1.2.1
  have h5 := S.2.2.1.2.2
  have hn60 := S.1.2.2.2.2.2.2.2.2.2.2.1.2.1
  have hw2 := S.1.2.2.2.2.2.2.2.2.2.2.2.1.2
  have hq100 := S.1.2.2.1.1
  have hp50 := S.1.2.2.1.2
  refine lv_aload_n hx hb dL_law_1009 rfl (lv_at hl 1 rfl) ?_
  refine g_callVi (r := (1, 0)) (T := TX7) (N := 7) (k2 := 0) (As := []) (rest := []) C (c_X7_calls l X L ad (mSt X ad (oSt X f) fi fa) ci ca cr n w tot nt kp nx S.1) tw_3_226 tw_3_227 tw_3_228 tw_1_1 tw_3_229 (by decide +kernel) ⟨(Nat.le_of_ble_eq_true rfl), (Nat.le_of_ble_eq_true rfl)⟩ hW hS (S.1.r (by decide)) rfl rfl rfl hl.1 rfl (Nat.le_of_ble_eq_true rfl) dL_law_1010 ⟨hcells, hslots⟩ (fun v9 L9 ad9 st9 H locs hp hW hS => ?_)
  obtain ⟨z0, hv9⟩ := hp
  injection z0 with e1 e2
  injection e2 with e2 e3
  rw [e1, e2, e3] at hW
  replace hW : gW X A L ad (wld X ad ci ca cr fi fa f) s H := hW
  rw [wld_m] at hW
  refine lv_aload_n hx hb dL_law_1013 rfl (lv_at hl 2 rfl) ?_
  refine m_callVi (k2 := 0) (As := []) (rest := [.int v9]) C (c_X8_calls l X L ad (cSt X ad (oSt X f) ci ca cr) fi fa hm) tw_7_5 tw_7_6 tw_7_7 tw_1_10 tw_7_8 (by decide +kernel) ⟨(Nat.le_of_ble_eq_true rfl), (Nat.le_of_ble_eq_true rfl)⟩ hm hW hS rfl hl.1 rfl (Nat.le_of_ble_eq_true rfl) dL_law_1014 ⟨hcells, hslots⟩ (fun v fi9 fa9 H locs hr hW hS => ?_)
  rw [← wld_m] at hW
  obtain ⟨hr1, hr2, hv⟩ := hr
  rw [hr1, hr2] at hW
  have hvv : v9 = v := by rw [hv9, hv, r22]
  have hS2 := SV_0 S 0
  refine lv_icmp_eq (tgt := 1482) hx hb dL_law_1017 (by decide) (fun _ => ?_) (fun c9 => absurd hvv c9)
  exact K L ad ci ca cr _ _ _ _ _ _ _ _ _ f H locs ls (Nat.le_succ _) hS2 hm hO hW hS hl

set_option maxHeartbeats 4000000 in
theorem lb_book (C : gCx p s m args meth c code 7 ret "RateGateLaw" mname X A) (hl0 : l.stackTraces = false) (hX : va_X b Ls xs s s.heap) (hbl : b < s.heap.size) (hbA : ¬ A b) (hi : i + 5 ≤ Ls) (hLs : Ls ≤ 2560) (hto : tot < 512) (hcells : cells + 10 ≤ 601024) (hslots : slots + 300 ≤ 7293034) (S : SV L ci ca cr n w tot nt kp nx nc fi fa) (hm : mL L) (hO : ((110, 0) : ro) ∈ L) (hW : gW X A L ad (wld X ad ci ca cr fi fa f) s H) (hS : va_S A s.heap H locs) (hl : lv_has ls 7 [(0, .ref b), (1, .ref (ad (1, 0))), (2, .ref (ad (100, 0))), (3, .ref (ad (110, 0))), (4, .int (nI i))]) (K : lwK p l e s m args below meth c Q X A b i tot cells slots) : W p l e room_1 s m args below meth c H locs cells slots Q (F0 m 1022 ls []) := by
  have hx := C.1.1
  have hb := C.1.2.1
  obtain ⟨r1, r3, r22, ⟨r23, rnc⟩, r32, r42⟩ := id S.2.1
  have h4 := S.2.2.1.2.1
  have h5 := S.2.2.1.2.2
  have hn60 := S.1.2.2.2.2.2.2.2.2.2.2.1.2.1
  have hw2 := S.1.2.2.2.2.2.2.2.2.2.2.2.1.2
  have hq100 := S.1.2.2.1.1
  have hp50 := S.1.2.2.1.2
  refine lv_aload_n hx hb dL_law_1022 rfl (lv_at hl 1 rfl) ?_
  refine lv_aload_n hx hb dL_law_1023 rfl (lv_at hl 0 rfl) ?_
  refine lv_iload hx hb dL_law_1024 (lv_at hl 4 rfl) ?_
  refine lv_iconst (v := 1) hx hb dL_law_1026 (by decide) ?_
  refine lv_iadd hx hb dL_law_1027 ?_
  refine lv_topE (y := nI (i + 1)) (nI_add i 1) ?_
  refine va_sld hx hb hX hbl hbA hS (vp_in_nI (n := i + 1) (N := Ls) (by omega) (by omega)) dL_law_1028 ?_
  refine lv_topE (y := xs (i + 1)) (by rw [nI_clamp (by omega)]) ?_
  refine lv_aload_n hx hb dL_law_1029 rfl (lv_at hl 3 rfl) ?_
  refine g_callSW (k2 := 3) (As := [.ref (ad (1, 0)), .int (xs (i + 1)), .ref (ad (110, 0))]) (rest := []) C (L_book l hl0 X L ad ci ca cr n w tot nt kp nx fi fa f S.1 hO (xs (i + 1))) tw_5_92 tw_5_93 tw_1_0 tw_5_94 (by decide +kernel) ⟨(Nat.le_of_ble_eq_true rfl), (Nat.le_of_ble_eq_true rfl)⟩ hW hS rfl hl.1 rfl (Nat.le_of_ble_eq_true rfl) dL_law_1030 ⟨hcells, hslots⟩ (fun k L9 ad9 st9 H locs hp hW hS => ?_)
  obtain ⟨L', ad', ci2, ca2, cr2, f2, z0, hF, hc⟩ := hp
  injection z0 with e1 e2
  injection e2 with e2 e3
  rw [e1, e2, e3] at hW
  have hm9 : mL L' := mL_of hF.1 hm
  have hl : lv_has ls 7 [(0, .ref b), (1, .ref (ad' (1, 0))), (2, .ref (ad' (100, 0))), (3, .ref (ad' (110, 0))), (4, .int (nI i))] := by rw [hF.2 (1, 0) (Or.inr rfl), hF.2 (100, 0) (Or.inl (by decide)), hF.2 (110, 0) (Or.inl (by decide))]; exact hl
  refine lv_istore (lv' := [(5, .int k), (0, .ref b), (1, .ref (ad' (1, 0))), (2, .ref (ad' (100, 0))), (3, .ref (ad' (110, 0))), (4, .int (nI i))]) hx hb dL_law_1033 hl (by decide) rfl (fun ls hl => ?_)
  refine lv_aload_n hx hb dL_law_1035 rfl (lv_at hl 3 rfl) ?_
  refine lv_aload_n hx hb dL_law_1036 rfl (lv_at hl 1 rfl) ?_
  refine lv_iload hx hb dL_law_1037 (lv_at hl 5 rfl) ?_
  refine lv_iconst (v := 1) hx hb dL_law_1039 (by decide) ?_
  refine lv_iadd hx hb dL_law_1040 ?_
  refine lv_topE (y := nI (i + 1)) (nI_add i 1) ?_
  refine va_sld hx hb hX hbl hbA hS (vp_in_nI (n := i + 1) (N := Ls) (by omega) (by omega)) dL_law_1041 ?_
  refine lv_topE (y := xs (i + 1)) (by rw [nI_clamp (by omega)]) ?_
  rw [wld_m] at hW
  refine m_callVi (k2 := 1) (As := [.int (xs (i + 1))]) (rest := []) C (c_X8_book2 l X L' ad' (cSt X ad' (oSt X f2) ci2 ca2 cr2) fi fa hm9 (xs (i + 1)) (cr 13 0) r32 hq100 (cr 13 1) r42 hp50 (lw_qc S)) tw_7_9 tw_7_10 tw_7_11 tw_1_10 tw_7_12 (by decide +kernel) ⟨(Nat.le_of_ble_eq_true rfl), (Nat.le_of_ble_eq_true rfl)⟩ hm9 hW hS rfl hl.1 rfl (Nat.le_of_ble_eq_true rfl) dL_law_1042 ⟨hcells, hslots⟩ (fun v fi9 fa9 H locs hr hW hS => ?_)
  have hSR : SR tot k (f2 0) v L' ci2 ca2 cr2 fi9 fa9 := sim_book S hc hr
  refine lv_istore (lv' := [(6, .int v), (5, .int k), (0, .ref b), (1, .ref (ad' (1, 0))), (2, .ref (ad' (100, 0))), (3, .ref (ad' (110, 0))), (4, .int (nI i))]) hx hb dL_law_1045 hl (by decide) rfl (fun ls hl => ?_)
  refine lv_aload_n hx hb dL_law_1047 rfl (lv_at hl 4 rfl) ?_
  refine m_callVi (k2 := 0) (As := []) (rest := []) C (c_X8_thrown l X L' ad' (cSt X ad' (oSt X f2) ci2 ca2 cr2) fi9 fa9 hm9) tw_6_105 tw_6_106 tw_6_107 tw_1_10 tw_6_108 (by decide +kernel) ⟨(Nat.le_of_ble_eq_true rfl), (Nat.le_of_ble_eq_true rfl)⟩ hm9 hW hS rfl hl.1 rfl (Nat.le_of_ble_eq_true rfl) dL_law_1048 ⟨hcells, hslots⟩ (fun v2 fi8 fa8 H locs ht hW hS => ?_)
  obtain ⟨e8, e9, ht⟩ := ht
  rw [e8, e9, ← wld_m] at hW
  refine lv_iload hx hb dL_law_1051 (lv_at hl 1 rfl) ?_
  refine lv_icmp_eq (tgt := 1058) hx hb dL_law_1053 (by decide) (fun _ => ?_) (fun c9 => absurd (ht.trans hSR.1) c9)
  refine lv_iload hx hb dL_law_1058 (lv_at hl 1 rfl) ?_
  obtain ⟨n2, w2, tot2, nt2, kp2, nx2, nc2, ht2, S2⟩ := hSR.2.2
  refine lv_if_ne (tgt := 1075) hx hb dL_law_1060 (by decide) (fun _ => ?_) (fun c9 => ?_)
  · refine lv_goto (tgt := 1482) hx hb dL_law_1075 (by decide) ?_
    exact K L' ad' ci2 ca2 cr2 n2 w2 tot2 nt2 kp2 nx2 nc2 fi9 fa9 f2 H locs ls ht2 S2 hm9 (hF.1 _ hO) hW hS (lv_sub hl [2, 3, 4, 5, 6] rfl)
  · have hk0 : k = 0 := c9
    refine lv_aload_n hx hb dL_law_1063 rfl (lv_at hl 5 rfl) ?_
    refine lv_iconst (v := 0) hx hb dL_law_1064 (by decide) ?_
    refine g_lald (r := (110, 0)) C hW (hF.1 _ hO) rfl (vp_in_nI (n := 0) (N := 1) (by decide) (by decide)) dL_law_1065 ?_
    refine lv_topV (y := .long (f2 0)) rfl ?_
    refine lv_iload hx hb dL_law_1066 (lv_at hl 0 rfl) ?_
    refine lv_i2l hx hb dL_law_1068 rfl ?_
    refine W.lcmp hx hb dL_law_1069 ?_
    refine lv_topE (y := 0) (by rw [hSR.2.1 hk0]; exact lg_self _) ?_
    refine lv_if_eq (tgt := 1075) hx hb dL_law_1070 (by decide) (fun _ => ?_) (fun c9 => absurd rfl c9)
    refine lv_goto (tgt := 1482) hx hb dL_law_1075 (by decide) ?_
    exact K L' ad' ci2 ca2 cr2 n2 w2 tot2 nt2 kp2 nx2 nc2 fi9 fa9 f2 H locs ls ht2 S2 hm9 (hF.1 _ hO) hW hS (lv_sub hl [2, 3, 4, 5, 6] rfl)

set_option maxHeartbeats 4000000 in
theorem lb_weigh (C : gCx p s m args meth c code 7 ret "RateGateLaw" mname X A) (hl0 : l.stackTraces = false) (hX : va_X b Ls xs s s.heap) (hbl : b < s.heap.size) (hbA : ¬ A b) (hi : i + 5 ≤ Ls) (hLs : Ls ≤ 2560) (hto : tot < 512) (hcells : cells + 10 ≤ 601024) (hslots : slots + 300 ≤ 7293034) (S : SV L ci ca cr n w tot nt kp nx nc fi fa) (hm : mL L) (hO : ((110, 0) : ro) ∈ L) (hW : gW X A L ad (wld X ad ci ca cr fi fa f) s H) (hS : va_S A s.heap H locs) (hl : lv_has ls 7 [(0, .ref b), (1, .ref (ad (1, 0))), (2, .ref (ad (100, 0))), (3, .ref (ad (110, 0))), (4, .int (nI i))]) (K : lwK p l e s m args below meth c Q X A b i tot cells slots) : W p l e room_1 s m args below meth c H locs cells slots Q (F0 m 1078 ls []) := by
  have hx := C.1.1
  have hb := C.1.2.1
  obtain ⟨r1, r3, r22, ⟨r23, rnc⟩, r32, r42⟩ := id S.2.1
  have h4 := S.2.2.1.2.1
  have h5 := S.2.2.1.2.2
  have hn60 := S.1.2.2.2.2.2.2.2.2.2.2.1.2.1
  have hw2 := S.1.2.2.2.2.2.2.2.2.2.2.2.1.2
  have hq100 := S.1.2.2.1.1
  have hp50 := S.1.2.2.1.2
  refine lv_aload_n hx hb dL_law_1078 rfl (lv_at hl 1 rfl) ?_
  refine lv_aload_n hx hb dL_law_1079 rfl (lv_at hl 0 rfl) ?_
  refine lv_iload hx hb dL_law_1080 (lv_at hl 4 rfl) ?_
  refine lv_iconst (v := 1) hx hb dL_law_1082 (by decide) ?_
  refine lv_iadd hx hb dL_law_1083 ?_
  refine lv_topE (y := nI (i + 1)) (nI_add i 1) ?_
  refine va_sld hx hb hX hbl hbA hS (vp_in_nI (n := i + 1) (N := Ls) (by omega) (by omega)) dL_law_1084 ?_
  refine lv_topE (y := xs (i + 1)) (by rw [nI_clamp (by omega)]) ?_
  refine lv_aload_n hx hb dL_law_1085 rfl (lv_at hl 0 rfl) ?_
  refine lv_iload hx hb dL_law_1086 (lv_at hl 4 rfl) ?_
  refine lv_iconst (v := 2) hx hb dL_law_1088 (by decide) ?_
  refine lv_iadd hx hb dL_law_1089 ?_
  refine lv_topE (y := nI (i + 2)) (nI_add i 2) ?_
  refine va_sld hx hb hX hbl hbA hS (vp_in_nI (n := i + 2) (N := Ls) (by omega) (by omega)) dL_law_1090 ?_
  refine lv_topE (y := xs (i + 2)) (by rw [nI_clamp (by omega)]) ?_
  refine lv_aload_n hx hb dL_law_1091 rfl (lv_at hl 3 rfl) ?_
  refine g_callSW (k2 := 4) (As := [.ref (ad (1, 0)), .int (xs (i + 1)), .int (xs (i + 2)), .ref (ad (110, 0))]) (rest := []) C (L_weigh l hl0 X L ad ci ca cr n w tot nt kp nx fi fa f S.1 hO (xs (i + 1)) (xs (i + 2))) tw_5_123 tw_5_124 tw_1_0 tw_5_125 (by decide +kernel) ⟨(Nat.le_of_ble_eq_true rfl), (Nat.le_of_ble_eq_true rfl)⟩ hW hS rfl hl.1 rfl (Nat.le_of_ble_eq_true rfl) dL_law_1092 ⟨hcells, hslots⟩ (fun k L9 ad9 st9 H locs hp hW hS => ?_)
  obtain ⟨L', ad', ci2, ca2, cr2, f2, z0, hF, hc⟩ := hp
  injection z0 with e1 e2
  injection e2 with e2 e3
  rw [e1, e2, e3] at hW
  have hm9 : mL L' := mL_of hF.1 hm
  have hl : lv_has ls 7 [(0, .ref b), (1, .ref (ad' (1, 0))), (2, .ref (ad' (100, 0))), (3, .ref (ad' (110, 0))), (4, .int (nI i))] := by rw [hF.2 (1, 0) (Or.inr rfl), hF.2 (100, 0) (Or.inl (by decide)), hF.2 (110, 0) (Or.inl (by decide))]; exact hl
  refine lv_istore (lv' := [(5, .int k), (0, .ref b), (1, .ref (ad' (1, 0))), (2, .ref (ad' (100, 0))), (3, .ref (ad' (110, 0))), (4, .int (nI i))]) hx hb dL_law_1095 hl (by decide) rfl (fun ls hl => ?_)
  refine lv_aload_n hx hb dL_law_1097 rfl (lv_at hl 3 rfl) ?_
  refine lv_aload_n hx hb dL_law_1098 rfl (lv_at hl 1 rfl) ?_
  refine lv_iload hx hb dL_law_1099 (lv_at hl 5 rfl) ?_
  refine lv_iconst (v := 1) hx hb dL_law_1101 (by decide) ?_
  refine lv_iadd hx hb dL_law_1102 ?_
  refine lv_topE (y := nI (i + 1)) (nI_add i 1) ?_
  refine va_sld hx hb hX hbl hbA hS (vp_in_nI (n := i + 1) (N := Ls) (by omega) (by omega)) dL_law_1103 ?_
  refine lv_topE (y := xs (i + 1)) (by rw [nI_clamp (by omega)]) ?_
  refine lv_aload_n hx hb dL_law_1104 rfl (lv_at hl 1 rfl) ?_
  refine lv_iload hx hb dL_law_1105 (lv_at hl 5 rfl) ?_
  refine lv_iconst (v := 2) hx hb dL_law_1107 (by decide) ?_
  refine lv_iadd hx hb dL_law_1108 ?_
  refine lv_topE (y := nI (i + 2)) (nI_add i 2) ?_
  refine va_sld hx hb hX hbl hbA hS (vp_in_nI (n := i + 2) (N := Ls) (by omega) (by omega)) dL_law_1109 ?_
  refine lv_topE (y := xs (i + 2)) (by rw [nI_clamp (by omega)]) ?_
  rw [wld_m] at hW
  refine m_callVi (k2 := 2) (As := [.int (xs (i + 1)), .int (xs (i + 2))]) (rest := []) C (c_X8_weigh l X L' ad' (cSt X ad' (oSt X f2) ci2 ca2 cr2) fi fa hm9 (xs (i + 1)) (xs (i + 2)) (cr 13 1) r42 hp50 (lw_pq S)) tw_7_13 tw_7_14 tw_7_15 tw_1_10 tw_7_16 (by decide +kernel) ⟨(Nat.le_of_ble_eq_true rfl), (Nat.le_of_ble_eq_true rfl)⟩ hm9 hW hS rfl hl.1 rfl (Nat.le_of_ble_eq_true rfl) dL_law_1110 ⟨hcells, hslots⟩ (fun v fi9 fa9 H locs hr hW hS => ?_)
  have hSR : SR tot k (f2 0) v L' ci2 ca2 cr2 fi9 fa9 := sim_weigh S hc hr
  refine lv_istore (lv' := [(6, .int v), (5, .int k), (0, .ref b), (1, .ref (ad' (1, 0))), (2, .ref (ad' (100, 0))), (3, .ref (ad' (110, 0))), (4, .int (nI i))]) hx hb dL_law_1113 hl (by decide) rfl (fun ls hl => ?_)
  refine lv_aload_n hx hb dL_law_1115 rfl (lv_at hl 4 rfl) ?_
  refine m_callVi (k2 := 0) (As := []) (rest := []) C (c_X8_thrown l X L' ad' (cSt X ad' (oSt X f2) ci2 ca2 cr2) fi9 fa9 hm9) tw_6_105 tw_6_106 tw_6_107 tw_1_10 tw_6_108 (by decide +kernel) ⟨(Nat.le_of_ble_eq_true rfl), (Nat.le_of_ble_eq_true rfl)⟩ hm9 hW hS rfl hl.1 rfl (Nat.le_of_ble_eq_true rfl) dL_law_1116 ⟨hcells, hslots⟩ (fun v2 fi8 fa8 H locs ht hW hS => ?_)
  obtain ⟨e8, e9, ht⟩ := ht
  rw [e8, e9, ← wld_m] at hW
  refine lv_iload hx hb dL_law_1119 (lv_at hl 1 rfl) ?_
  refine lv_icmp_eq (tgt := 1126) hx hb dL_law_1121 (by decide) (fun _ => ?_) (fun c9 => absurd (ht.trans hSR.1) c9)
  refine lv_iload hx hb dL_law_1126 (lv_at hl 1 rfl) ?_
  obtain ⟨n2, w2, tot2, nt2, kp2, nx2, nc2, ht2, S2⟩ := hSR.2.2
  refine lv_if_ne (tgt := 1143) hx hb dL_law_1128 (by decide) (fun _ => ?_) (fun c9 => ?_)
  · refine lv_goto (tgt := 1482) hx hb dL_law_1143 (by decide) ?_
    exact K L' ad' ci2 ca2 cr2 n2 w2 tot2 nt2 kp2 nx2 nc2 fi9 fa9 f2 H locs ls ht2 S2 hm9 (hF.1 _ hO) hW hS (lv_sub hl [2, 3, 4, 5, 6] rfl)
  · have hk0 : k = 0 := c9
    refine lv_aload_n hx hb dL_law_1131 rfl (lv_at hl 5 rfl) ?_
    refine lv_iconst (v := 0) hx hb dL_law_1132 (by decide) ?_
    refine g_lald (r := (110, 0)) C hW (hF.1 _ hO) rfl (vp_in_nI (n := 0) (N := 1) (by decide) (by decide)) dL_law_1133 ?_
    refine lv_topV (y := .long (f2 0)) rfl ?_
    refine lv_iload hx hb dL_law_1134 (lv_at hl 0 rfl) ?_
    refine lv_i2l hx hb dL_law_1136 rfl ?_
    refine W.lcmp hx hb dL_law_1137 ?_
    refine lv_topE (y := 0) (by rw [hSR.2.1 hk0]; exact lg_self _) ?_
    refine lv_if_eq (tgt := 1143) hx hb dL_law_1138 (by decide) (fun _ => ?_) (fun c9 => absurd rfl c9)
    refine lv_goto (tgt := 1482) hx hb dL_law_1143 (by decide) ?_
    exact K L' ad' ci2 ca2 cr2 n2 w2 tot2 nt2 kp2 nx2 nc2 fi9 fa9 f2 H locs ls ht2 S2 hm9 (hF.1 _ hO) hW hS (lv_sub hl [2, 3, 4, 5, 6] rfl)

set_option maxHeartbeats 4000000 in
theorem lb_cancel (C : gCx p s m args meth c code 7 ret "RateGateLaw" mname X A) (hl0 : l.stackTraces = false) (hX : va_X b Ls xs s s.heap) (hbl : b < s.heap.size) (hbA : ¬ A b) (hi : i + 5 ≤ Ls) (hLs : Ls ≤ 2560) (hto : tot < 512) (hcells : cells + 10 ≤ 601024) (hslots : slots + 300 ≤ 7293034) (S : SV L ci ca cr n w tot nt kp nx nc fi fa) (hm : mL L) (hO : ((110, 0) : ro) ∈ L) (hW : gW X A L ad (wld X ad ci ca cr fi fa f) s H) (hS : va_S A s.heap H locs) (hl : lv_has ls 7 [(0, .ref b), (1, .ref (ad (1, 0))), (2, .ref (ad (100, 0))), (3, .ref (ad (110, 0))), (4, .int (nI i))]) (K : lwK p l e s m args below meth c Q X A b i tot cells slots) : W p l e room_1 s m args below meth c H locs cells slots Q (F0 m 1146 ls []) := by
  have hx := C.1.1
  have hb := C.1.2.1
  obtain ⟨r1, r3, r22, ⟨r23, rnc⟩, r32, r42⟩ := id S.2.1
  have h4 := S.2.2.1.2.1
  have h5 := S.2.2.1.2.2
  have hn60 := S.1.2.2.2.2.2.2.2.2.2.2.1.2.1
  have hw2 := S.1.2.2.2.2.2.2.2.2.2.2.2.1.2
  have hq100 := S.1.2.2.1.1
  have hp50 := S.1.2.2.1.2
  refine lv_aload_n hx hb dL_law_1146 rfl (lv_at hl 1 rfl) ?_
  refine lv_aload_n hx hb dL_law_1147 rfl (lv_at hl 0 rfl) ?_
  refine lv_iload hx hb dL_law_1148 (lv_at hl 4 rfl) ?_
  refine lv_iconst (v := 1) hx hb dL_law_1150 (by decide) ?_
  refine lv_iadd hx hb dL_law_1151 ?_
  refine lv_topE (y := nI (i + 1)) (nI_add i 1) ?_
  refine va_sld hx hb hX hbl hbA hS (vp_in_nI (n := i + 1) (N := Ls) (by omega) (by omega)) dL_law_1152 ?_
  refine lv_topE (y := xs (i + 1)) (by rw [nI_clamp (by omega)]) ?_
  refine lv_aload_n hx hb dL_law_1153 rfl (lv_at hl 3 rfl) ?_
  refine g_callSW (k2 := 3) (As := [.ref (ad (1, 0)), .int (xs (i + 1)), .ref (ad (110, 0))]) (rest := []) C (L_cancel l hl0 X L ad ci ca cr n w tot nt kp nx fi fa f S.1 hO (xs (i + 1))) tw_5_137 tw_5_138 tw_1_0 tw_5_139 (by decide +kernel) ⟨(Nat.le_of_ble_eq_true rfl), (Nat.le_of_ble_eq_true rfl)⟩ hW hS rfl hl.1 rfl (Nat.le_of_ble_eq_true rfl) dL_law_1154 ⟨hcells, hslots⟩ (fun k L9 ad9 st9 H locs hp hW hS => ?_)
  obtain ⟨L', ad', ci2, ca2, cr2, f2, z0, hF, hc⟩ := hp
  injection z0 with e1 e2
  injection e2 with e2 e3
  rw [e1, e2, e3] at hW
  have hm9 : mL L' := mL_of hF.1 hm
  have hl : lv_has ls 7 [(0, .ref b), (1, .ref (ad' (1, 0))), (2, .ref (ad' (100, 0))), (3, .ref (ad' (110, 0))), (4, .int (nI i))] := by rw [hF.2 (1, 0) (Or.inr rfl), hF.2 (100, 0) (Or.inl (by decide)), hF.2 (110, 0) (Or.inl (by decide))]; exact hl
  refine lv_istore (lv' := [(5, .int k), (0, .ref b), (1, .ref (ad' (1, 0))), (2, .ref (ad' (100, 0))), (3, .ref (ad' (110, 0))), (4, .int (nI i))]) hx hb dL_law_1157 hl (by decide) rfl (fun ls hl => ?_)
  refine lv_aload_n hx hb dL_law_1159 rfl (lv_at hl 3 rfl) ?_
  refine lv_aload_n hx hb dL_law_1160 rfl (lv_at hl 1 rfl) ?_
  refine lv_iload hx hb dL_law_1161 (lv_at hl 5 rfl) ?_
  refine lv_iconst (v := 1) hx hb dL_law_1163 (by decide) ?_
  refine lv_iadd hx hb dL_law_1164 ?_
  refine lv_topE (y := nI (i + 1)) (nI_add i 1) ?_
  refine va_sld hx hb hX hbl hbA hS (vp_in_nI (n := i + 1) (N := Ls) (by omega) (by omega)) dL_law_1165 ?_
  refine lv_topE (y := xs (i + 1)) (by rw [nI_clamp (by omega)]) ?_
  rw [wld_m] at hW
  refine m_callVi (k2 := 1) (As := [.int (xs (i + 1))]) (rest := []) C (c_X8_cancel l X L' ad' (cSt X ad' (oSt X f2) ci2 ca2 cr2) fi fa hm9 (xs (i + 1)) (cr 13 1) r42 hp50) tw_7_21 tw_7_22 tw_7_23 tw_1_10 tw_7_24 (by decide +kernel) ⟨(Nat.le_of_ble_eq_true rfl), (Nat.le_of_ble_eq_true rfl)⟩ hm9 hW hS rfl hl.1 rfl (Nat.le_of_ble_eq_true rfl) dL_law_1166 ⟨hcells, hslots⟩ (fun v fi9 fa9 H locs hr hW hS => ?_)
  have hSR : SR tot k (f2 0) v L' ci2 ca2 cr2 fi9 fa9 := sim_cancel S hc hr
  refine lv_istore (lv' := [(6, .int v), (5, .int k), (0, .ref b), (1, .ref (ad' (1, 0))), (2, .ref (ad' (100, 0))), (3, .ref (ad' (110, 0))), (4, .int (nI i))]) hx hb dL_law_1169 hl (by decide) rfl (fun ls hl => ?_)
  refine lv_aload_n hx hb dL_law_1171 rfl (lv_at hl 4 rfl) ?_
  refine m_callVi (k2 := 0) (As := []) (rest := []) C (c_X8_thrown l X L' ad' (cSt X ad' (oSt X f2) ci2 ca2 cr2) fi9 fa9 hm9) tw_6_105 tw_6_106 tw_6_107 tw_1_10 tw_6_108 (by decide +kernel) ⟨(Nat.le_of_ble_eq_true rfl), (Nat.le_of_ble_eq_true rfl)⟩ hm9 hW hS rfl hl.1 rfl (Nat.le_of_ble_eq_true rfl) dL_law_1172 ⟨hcells, hslots⟩ (fun v2 fi8 fa8 H locs ht hW hS => ?_)
  obtain ⟨e8, e9, ht⟩ := ht
  rw [e8, e9, ← wld_m] at hW
  refine lv_iload hx hb dL_law_1175 (lv_at hl 1 rfl) ?_
  refine lv_icmp_eq (tgt := 1182) hx hb dL_law_1177 (by decide) (fun _ => ?_) (fun c9 => absurd (ht.trans hSR.1) c9)
  refine lv_iload hx hb dL_law_1182 (lv_at hl 1 rfl) ?_
  obtain ⟨n2, w2, tot2, nt2, kp2, nx2, nc2, ht2, S2⟩ := hSR.2.2
  refine lv_if_ne (tgt := 1199) hx hb dL_law_1184 (by decide) (fun _ => ?_) (fun c9 => ?_)
  · refine lv_goto (tgt := 1482) hx hb dL_law_1199 (by decide) ?_
    exact K L' ad' ci2 ca2 cr2 n2 w2 tot2 nt2 kp2 nx2 nc2 fi9 fa9 f2 H locs ls ht2 S2 hm9 (hF.1 _ hO) hW hS (lv_sub hl [2, 3, 4, 5, 6] rfl)
  · have hk0 : k = 0 := c9
    refine lv_aload_n hx hb dL_law_1187 rfl (lv_at hl 5 rfl) ?_
    refine lv_iconst (v := 0) hx hb dL_law_1188 (by decide) ?_
    refine g_lald (r := (110, 0)) C hW (hF.1 _ hO) rfl (vp_in_nI (n := 0) (N := 1) (by decide) (by decide)) dL_law_1189 ?_
    refine lv_topV (y := .long (f2 0)) rfl ?_
    refine lv_iload hx hb dL_law_1190 (lv_at hl 0 rfl) ?_
    refine lv_i2l hx hb dL_law_1192 rfl ?_
    refine W.lcmp hx hb dL_law_1193 ?_
    refine lv_topE (y := 0) (by rw [hSR.2.1 hk0]; exact lg_self _) ?_
    refine lv_if_eq (tgt := 1199) hx hb dL_law_1194 (by decide) (fun _ => ?_) (fun c9 => absurd rfl c9)
    refine lv_goto (tgt := 1482) hx hb dL_law_1199 (by decide) ?_
    exact K L' ad' ci2 ca2 cr2 n2 w2 tot2 nt2 kp2 nx2 nc2 fi9 fa9 f2 H locs ls ht2 S2 hm9 (hF.1 _ hO) hW hS (lv_sub hl [2, 3, 4, 5, 6] rfl)

set_option maxHeartbeats 4000000 in
theorem lb_state (C : gCx p s m args meth c code 7 ret "RateGateLaw" mname X A) (hl0 : l.stackTraces = false) (hX : va_X b Ls xs s s.heap) (hbl : b < s.heap.size) (hbA : ¬ A b) (hi : i + 5 ≤ Ls) (hLs : Ls ≤ 2560) (hto : tot < 512) (hcells : cells + 10 ≤ 601024) (hslots : slots + 300 ≤ 7293034) (S : SV L ci ca cr n w tot nt kp nx nc fi fa) (hm : mL L) (hO : ((110, 0) : ro) ∈ L) (hW : gW X A L ad (wld X ad ci ca cr fi fa f) s H) (hS : va_S A s.heap H locs) (hl : lv_has ls 7 [(0, .ref b), (1, .ref (ad (1, 0))), (2, .ref (ad (100, 0))), (3, .ref (ad (110, 0))), (4, .int (nI i))]) (K : lwK p l e s m args below meth c Q X A b i tot cells slots) : W p l e room_1 s m args below meth c H locs cells slots Q (F0 m 1202 ls []) := by
  have hx := C.1.1
  have hb := C.1.2.1
  obtain ⟨r1, r3, r22, ⟨r23, rnc⟩, r32, r42⟩ := id S.2.1
  have h4 := S.2.2.1.2.1
  have h5 := S.2.2.1.2.2
  have hn60 := S.1.2.2.2.2.2.2.2.2.2.2.1.2.1
  have hw2 := S.1.2.2.2.2.2.2.2.2.2.2.2.1.2
  have hq100 := S.1.2.2.1.1
  have hp50 := S.1.2.2.1.2
  refine lv_aload_n hx hb dL_law_1202 rfl (lv_at hl 1 rfl) ?_
  refine lv_aload_n hx hb dL_law_1203 rfl (lv_at hl 0 rfl) ?_
  refine lv_iload hx hb dL_law_1204 (lv_at hl 4 rfl) ?_
  refine lv_iconst (v := 1) hx hb dL_law_1206 (by decide) ?_
  refine lv_iadd hx hb dL_law_1207 ?_
  refine lv_topE (y := nI (i + 1)) (nI_add i 1) ?_
  refine va_sld hx hb hX hbl hbA hS (vp_in_nI (n := i + 1) (N := Ls) (by omega) (by omega)) dL_law_1208 ?_
  refine lv_topE (y := xs (i + 1)) (by rw [nI_clamp (by omega)]) ?_
  refine lv_aload_n hx hb dL_law_1209 rfl (lv_at hl 3 rfl) ?_
  refine g_callSW (k2 := 3) (As := [.ref (ad (1, 0)), .int (xs (i + 1)), .ref (ad (110, 0))]) (rest := []) C (L_state l hl0 X L ad ci ca cr n w tot nt kp nx fi fa f S.1 hO (xs (i + 1))) tw_5_149 tw_5_150 tw_1_0 tw_5_151 (by decide +kernel) ⟨(Nat.le_of_ble_eq_true rfl), (Nat.le_of_ble_eq_true rfl)⟩ hW hS rfl hl.1 rfl (Nat.le_of_ble_eq_true rfl) dL_law_1210 ⟨hcells, hslots⟩ (fun k L9 ad9 st9 H locs hp hW hS => ?_)
  obtain ⟨L', ad', ci2, ca2, cr2, f2, z0, hF, hc⟩ := hp
  injection z0 with e1 e2
  injection e2 with e2 e3
  rw [e1, e2, e3] at hW
  have hm9 : mL L' := mL_of hF.1 hm
  have hl : lv_has ls 7 [(0, .ref b), (1, .ref (ad' (1, 0))), (2, .ref (ad' (100, 0))), (3, .ref (ad' (110, 0))), (4, .int (nI i))] := by rw [hF.2 (1, 0) (Or.inr rfl), hF.2 (100, 0) (Or.inl (by decide)), hF.2 (110, 0) (Or.inl (by decide))]; exact hl
  refine lv_istore (lv' := [(5, .int k), (0, .ref b), (1, .ref (ad' (1, 0))), (2, .ref (ad' (100, 0))), (3, .ref (ad' (110, 0))), (4, .int (nI i))]) hx hb dL_law_1213 hl (by decide) rfl (fun ls hl => ?_)
  refine lv_aload_n hx hb dL_law_1215 rfl (lv_at hl 3 rfl) ?_
  refine lv_aload_n hx hb dL_law_1216 rfl (lv_at hl 1 rfl) ?_
  refine lv_iload hx hb dL_law_1217 (lv_at hl 5 rfl) ?_
  refine lv_iconst (v := 1) hx hb dL_law_1219 (by decide) ?_
  refine lv_iadd hx hb dL_law_1220 ?_
  refine lv_topE (y := nI (i + 1)) (nI_add i 1) ?_
  refine va_sld hx hb hX hbl hbA hS (vp_in_nI (n := i + 1) (N := Ls) (by omega) (by omega)) dL_law_1221 ?_
  refine lv_topE (y := xs (i + 1)) (by rw [nI_clamp (by omega)]) ?_
  rw [wld_m] at hW
  refine m_callVi (k2 := 1) (As := [.int (xs (i + 1))]) (rest := []) C (c_X8_state l X L' ad' (cSt X ad' (oSt X f2) ci2 ca2 cr2) fi fa hm9 (xs (i + 1)) (cr 13 1) r42 hp50) tw_7_25 tw_7_26 tw_7_27 tw_1_10 tw_7_28 (by decide +kernel) ⟨(Nat.le_of_ble_eq_true rfl), (Nat.le_of_ble_eq_true rfl)⟩ hm9 hW hS rfl hl.1 rfl (Nat.le_of_ble_eq_true rfl) dL_law_1222 ⟨hcells, hslots⟩ (fun v fi9 fa9 H locs hr hW hS => ?_)
  have hSR : SR tot k (f2 0) v L' ci2 ca2 cr2 fi9 fa9 := sim_rd S (by omega) (hv_state S) hc hr
  refine lv_istore (lv' := [(6, .int v), (5, .int k), (0, .ref b), (1, .ref (ad' (1, 0))), (2, .ref (ad' (100, 0))), (3, .ref (ad' (110, 0))), (4, .int (nI i))]) hx hb dL_law_1225 hl (by decide) rfl (fun ls hl => ?_)
  refine lv_aload_n hx hb dL_law_1227 rfl (lv_at hl 4 rfl) ?_
  refine m_callVi (k2 := 0) (As := []) (rest := []) C (c_X8_thrown l X L' ad' (cSt X ad' (oSt X f2) ci2 ca2 cr2) fi9 fa9 hm9) tw_6_105 tw_6_106 tw_6_107 tw_1_10 tw_6_108 (by decide +kernel) ⟨(Nat.le_of_ble_eq_true rfl), (Nat.le_of_ble_eq_true rfl)⟩ hm9 hW hS rfl hl.1 rfl (Nat.le_of_ble_eq_true rfl) dL_law_1228 ⟨hcells, hslots⟩ (fun v2 fi8 fa8 H locs ht hW hS => ?_)
  obtain ⟨e8, e9, ht⟩ := ht
  rw [e8, e9, ← wld_m] at hW
  refine lv_iload hx hb dL_law_1231 (lv_at hl 1 rfl) ?_
  refine lv_icmp_eq (tgt := 1238) hx hb dL_law_1233 (by decide) (fun _ => ?_) (fun c9 => absurd (ht.trans hSR.1) c9)
  refine lv_iload hx hb dL_law_1238 (lv_at hl 1 rfl) ?_
  obtain ⟨n2, w2, tot2, nt2, kp2, nx2, nc2, ht2, S2⟩ := hSR.2.2
  refine lv_if_ne (tgt := 1255) hx hb dL_law_1240 (by decide) (fun _ => ?_) (fun c9 => ?_)
  · refine lv_goto (tgt := 1482) hx hb dL_law_1255 (by decide) ?_
    exact K L' ad' ci2 ca2 cr2 n2 w2 tot2 nt2 kp2 nx2 nc2 fi9 fa9 f2 H locs ls ht2 S2 hm9 (hF.1 _ hO) hW hS (lv_sub hl [2, 3, 4, 5, 6] rfl)
  · have hk0 : k = 0 := c9
    refine lv_aload_n hx hb dL_law_1243 rfl (lv_at hl 5 rfl) ?_
    refine lv_iconst (v := 0) hx hb dL_law_1244 (by decide) ?_
    refine g_lald (r := (110, 0)) C hW (hF.1 _ hO) rfl (vp_in_nI (n := 0) (N := 1) (by decide) (by decide)) dL_law_1245 ?_
    refine lv_topV (y := .long (f2 0)) rfl ?_
    refine lv_iload hx hb dL_law_1246 (lv_at hl 0 rfl) ?_
    refine lv_i2l hx hb dL_law_1248 rfl ?_
    refine W.lcmp hx hb dL_law_1249 ?_
    refine lv_topE (y := 0) (by rw [hSR.2.1 hk0]; exact lg_self _) ?_
    refine lv_if_eq (tgt := 1255) hx hb dL_law_1250 (by decide) (fun _ => ?_) (fun c9 => absurd rfl c9)
    refine lv_goto (tgt := 1482) hx hb dL_law_1255 (by decide) ?_
    exact K L' ad' ci2 ca2 cr2 n2 w2 tot2 nt2 kp2 nx2 nc2 fi9 fa9 f2 H locs ls ht2 S2 hm9 (hF.1 _ hO) hW hS (lv_sub hl [2, 3, 4, 5, 6] rfl)

set_option maxHeartbeats 4000000 in
theorem lb_cost (C : gCx p s m args meth c code 7 ret "RateGateLaw" mname X A) (hl0 : l.stackTraces = false) (hX : va_X b Ls xs s s.heap) (hbl : b < s.heap.size) (hbA : ¬ A b) (hi : i + 5 ≤ Ls) (hLs : Ls ≤ 2560) (hto : tot < 512) (hcells : cells + 10 ≤ 601024) (hslots : slots + 300 ≤ 7293034) (S : SV L ci ca cr n w tot nt kp nx nc fi fa) (hm : mL L) (hO : ((110, 0) : ro) ∈ L) (hW : gW X A L ad (wld X ad ci ca cr fi fa f) s H) (hS : va_S A s.heap H locs) (hl : lv_has ls 7 [(0, .ref b), (1, .ref (ad (1, 0))), (2, .ref (ad (100, 0))), (3, .ref (ad (110, 0))), (4, .int (nI i))]) (K : lwK p l e s m args below meth c Q X A b i tot cells slots) : W p l e room_1 s m args below meth c H locs cells slots Q (F0 m 1258 ls []) := by
  have hx := C.1.1
  have hb := C.1.2.1
  obtain ⟨r1, r3, r22, ⟨r23, rnc⟩, r32, r42⟩ := id S.2.1
  have h4 := S.2.2.1.2.1
  have h5 := S.2.2.1.2.2
  have hn60 := S.1.2.2.2.2.2.2.2.2.2.2.1.2.1
  have hw2 := S.1.2.2.2.2.2.2.2.2.2.2.2.1.2
  have hq100 := S.1.2.2.1.1
  have hp50 := S.1.2.2.1.2
  refine lv_aload_n hx hb dL_law_1258 rfl (lv_at hl 1 rfl) ?_
  refine lv_aload_n hx hb dL_law_1259 rfl (lv_at hl 0 rfl) ?_
  refine lv_iload hx hb dL_law_1260 (lv_at hl 4 rfl) ?_
  refine lv_iconst (v := 1) hx hb dL_law_1262 (by decide) ?_
  refine lv_iadd hx hb dL_law_1263 ?_
  refine lv_topE (y := nI (i + 1)) (nI_add i 1) ?_
  refine va_sld hx hb hX hbl hbA hS (vp_in_nI (n := i + 1) (N := Ls) (by omega) (by omega)) dL_law_1264 ?_
  refine lv_topE (y := xs (i + 1)) (by rw [nI_clamp (by omega)]) ?_
  refine lv_aload_n hx hb dL_law_1265 rfl (lv_at hl 3 rfl) ?_
  refine g_callSW (k2 := 3) (As := [.ref (ad (1, 0)), .int (xs (i + 1)), .ref (ad (110, 0))]) (rest := []) C (L_cost l hl0 X L ad ci ca cr n w tot nt kp nx fi fa f S.1 hO (xs (i + 1))) tw_5_156 tw_5_157 tw_1_0 tw_5_158 (by decide +kernel) ⟨(Nat.le_of_ble_eq_true rfl), (Nat.le_of_ble_eq_true rfl)⟩ hW hS rfl hl.1 rfl (Nat.le_of_ble_eq_true rfl) dL_law_1266 ⟨hcells, hslots⟩ (fun k L9 ad9 st9 H locs hp hW hS => ?_)
  obtain ⟨L', ad', ci2, ca2, cr2, f2, z0, hF, hc⟩ := hp
  injection z0 with e1 e2
  injection e2 with e2 e3
  rw [e1, e2, e3] at hW
  have hm9 : mL L' := mL_of hF.1 hm
  have hl : lv_has ls 7 [(0, .ref b), (1, .ref (ad' (1, 0))), (2, .ref (ad' (100, 0))), (3, .ref (ad' (110, 0))), (4, .int (nI i))] := by rw [hF.2 (1, 0) (Or.inr rfl), hF.2 (100, 0) (Or.inl (by decide)), hF.2 (110, 0) (Or.inl (by decide))]; exact hl
  refine lv_istore (lv' := [(5, .int k), (0, .ref b), (1, .ref (ad' (1, 0))), (2, .ref (ad' (100, 0))), (3, .ref (ad' (110, 0))), (4, .int (nI i))]) hx hb dL_law_1269 hl (by decide) rfl (fun ls hl => ?_)
  refine lv_aload_n hx hb dL_law_1271 rfl (lv_at hl 3 rfl) ?_
  refine lv_aload_n hx hb dL_law_1272 rfl (lv_at hl 1 rfl) ?_
  refine lv_iload hx hb dL_law_1273 (lv_at hl 5 rfl) ?_
  refine lv_iconst (v := 1) hx hb dL_law_1275 (by decide) ?_
  refine lv_iadd hx hb dL_law_1276 ?_
  refine lv_topE (y := nI (i + 1)) (nI_add i 1) ?_
  refine va_sld hx hb hX hbl hbA hS (vp_in_nI (n := i + 1) (N := Ls) (by omega) (by omega)) dL_law_1277 ?_
  refine lv_topE (y := xs (i + 1)) (by rw [nI_clamp (by omega)]) ?_
  rw [wld_m] at hW
  refine m_callVi (k2 := 1) (As := [.int (xs (i + 1))]) (rest := []) C (c_X8_cost l X L' ad' (cSt X ad' (oSt X f2) ci2 ca2 cr2) fi fa hm9 (xs (i + 1)) (cr 13 1) r42 hp50) tw_7_29 tw_7_30 tw_7_31 tw_1_10 tw_7_32 (by decide +kernel) ⟨(Nat.le_of_ble_eq_true rfl), (Nat.le_of_ble_eq_true rfl)⟩ hm9 hW hS rfl hl.1 rfl (Nat.le_of_ble_eq_true rfl) dL_law_1278 ⟨hcells, hslots⟩ (fun v fi9 fa9 H locs hr hW hS => ?_)
  have hSR : SR tot k (f2 0) v L' ci2 ca2 cr2 fi9 fa9 := sim_rd S (by omega) (hv_cost S) hc hr
  refine lv_istore (lv' := [(6, .int v), (5, .int k), (0, .ref b), (1, .ref (ad' (1, 0))), (2, .ref (ad' (100, 0))), (3, .ref (ad' (110, 0))), (4, .int (nI i))]) hx hb dL_law_1281 hl (by decide) rfl (fun ls hl => ?_)
  refine lv_aload_n hx hb dL_law_1283 rfl (lv_at hl 4 rfl) ?_
  refine m_callVi (k2 := 0) (As := []) (rest := []) C (c_X8_thrown l X L' ad' (cSt X ad' (oSt X f2) ci2 ca2 cr2) fi9 fa9 hm9) tw_6_105 tw_6_106 tw_6_107 tw_1_10 tw_6_108 (by decide +kernel) ⟨(Nat.le_of_ble_eq_true rfl), (Nat.le_of_ble_eq_true rfl)⟩ hm9 hW hS rfl hl.1 rfl (Nat.le_of_ble_eq_true rfl) dL_law_1284 ⟨hcells, hslots⟩ (fun v2 fi8 fa8 H locs ht hW hS => ?_)
  obtain ⟨e8, e9, ht⟩ := ht
  rw [e8, e9, ← wld_m] at hW
  refine lv_iload hx hb dL_law_1287 (lv_at hl 1 rfl) ?_
  refine lv_icmp_eq (tgt := 1294) hx hb dL_law_1289 (by decide) (fun _ => ?_) (fun c9 => absurd (ht.trans hSR.1) c9)
  refine lv_iload hx hb dL_law_1294 (lv_at hl 1 rfl) ?_
  obtain ⟨n2, w2, tot2, nt2, kp2, nx2, nc2, ht2, S2⟩ := hSR.2.2
  refine lv_if_ne (tgt := 1311) hx hb dL_law_1296 (by decide) (fun _ => ?_) (fun c9 => ?_)
  · refine lv_goto (tgt := 1482) hx hb dL_law_1311 (by decide) ?_
    exact K L' ad' ci2 ca2 cr2 n2 w2 tot2 nt2 kp2 nx2 nc2 fi9 fa9 f2 H locs ls ht2 S2 hm9 (hF.1 _ hO) hW hS (lv_sub hl [2, 3, 4, 5, 6] rfl)
  · have hk0 : k = 0 := c9
    refine lv_aload_n hx hb dL_law_1299 rfl (lv_at hl 5 rfl) ?_
    refine lv_iconst (v := 0) hx hb dL_law_1300 (by decide) ?_
    refine g_lald (r := (110, 0)) C hW (hF.1 _ hO) rfl (vp_in_nI (n := 0) (N := 1) (by decide) (by decide)) dL_law_1301 ?_
    refine lv_topV (y := .long (f2 0)) rfl ?_
    refine lv_iload hx hb dL_law_1302 (lv_at hl 0 rfl) ?_
    refine lv_i2l hx hb dL_law_1304 rfl ?_
    refine W.lcmp hx hb dL_law_1305 ?_
    refine lv_topE (y := 0) (by rw [hSR.2.1 hk0]; exact lg_self _) ?_
    refine lv_if_eq (tgt := 1311) hx hb dL_law_1306 (by decide) (fun _ => ?_) (fun c9 => absurd rfl c9)
    refine lv_goto (tgt := 1482) hx hb dL_law_1311 (by decide) ?_
    exact K L' ad' ci2 ca2 cr2 n2 w2 tot2 nt2 kp2 nx2 nc2 fi9 fa9 f2 H locs ls ht2 S2 hm9 (hF.1 _ hO) hW hS (lv_sub hl [2, 3, 4, 5, 6] rfl)

set_option maxHeartbeats 4000000 in
theorem lb_bill (C : gCx p s m args meth c code 7 ret "RateGateLaw" mname X A) (hl0 : l.stackTraces = false) (hX : va_X b Ls xs s s.heap) (hbl : b < s.heap.size) (hbA : ¬ A b) (hi : i + 5 ≤ Ls) (hLs : Ls ≤ 2560) (hto : tot < 512) (hcells : cells + 10 ≤ 601024) (hslots : slots + 300 ≤ 7293034) (S : SV L ci ca cr n w tot nt kp nx nc fi fa) (hm : mL L) (hO : ((110, 0) : ro) ∈ L) (hW : gW X A L ad (wld X ad ci ca cr fi fa f) s H) (hS : va_S A s.heap H locs) (hl : lv_has ls 7 [(0, .ref b), (1, .ref (ad (1, 0))), (2, .ref (ad (100, 0))), (3, .ref (ad (110, 0))), (4, .int (nI i))]) (K : lwK p l e s m args below meth c Q X A b i tot cells slots) : W p l e room_1 s m args below meth c H locs cells slots Q (F0 m 1314 ls []) := by
  have hx := C.1.1
  have hb := C.1.2.1
  obtain ⟨r1, r3, r22, ⟨r23, rnc⟩, r32, r42⟩ := id S.2.1
  have h4 := S.2.2.1.2.1
  have h5 := S.2.2.1.2.2
  have hn60 := S.1.2.2.2.2.2.2.2.2.2.2.1.2.1
  have hw2 := S.1.2.2.2.2.2.2.2.2.2.2.2.1.2
  have hq100 := S.1.2.2.1.1
  have hp50 := S.1.2.2.1.2
  refine lv_aload_n hx hb dL_law_1314 rfl (lv_at hl 1 rfl) ?_
  refine lv_aload_n hx hb dL_law_1315 rfl (lv_at hl 0 rfl) ?_
  refine lv_iload hx hb dL_law_1316 (lv_at hl 4 rfl) ?_
  refine lv_iconst (v := 1) hx hb dL_law_1318 (by decide) ?_
  refine lv_iadd hx hb dL_law_1319 ?_
  refine lv_topE (y := nI (i + 1)) (nI_add i 1) ?_
  refine va_sld hx hb hX hbl hbA hS (vp_in_nI (n := i + 1) (N := Ls) (by omega) (by omega)) dL_law_1320 ?_
  refine lv_topE (y := xs (i + 1)) (by rw [nI_clamp (by omega)]) ?_
  refine lv_aload_n hx hb dL_law_1321 rfl (lv_at hl 3 rfl) ?_
  refine g_callSW (k2 := 3) (As := [.ref (ad (1, 0)), .int (xs (i + 1)), .ref (ad (110, 0))]) (rest := []) C (L_bill l hl0 X L ad ci ca cr n w tot nt kp nx fi fa f S.1 hO (xs (i + 1))) tw_5_163 tw_5_164 tw_1_0 tw_5_165 (by decide +kernel) ⟨(Nat.le_of_ble_eq_true rfl), (Nat.le_of_ble_eq_true rfl)⟩ hW hS rfl hl.1 rfl (Nat.le_of_ble_eq_true rfl) dL_law_1322 ⟨hcells, hslots⟩ (fun k L9 ad9 st9 H locs hp hW hS => ?_)
  obtain ⟨L', ad', ci2, ca2, cr2, f2, z0, hF, hc⟩ := hp
  injection z0 with e1 e2
  injection e2 with e2 e3
  rw [e1, e2, e3] at hW
  have hm9 : mL L' := mL_of hF.1 hm
  have hl : lv_has ls 7 [(0, .ref b), (1, .ref (ad' (1, 0))), (2, .ref (ad' (100, 0))), (3, .ref (ad' (110, 0))), (4, .int (nI i))] := by rw [hF.2 (1, 0) (Or.inr rfl), hF.2 (100, 0) (Or.inl (by decide)), hF.2 (110, 0) (Or.inl (by decide))]; exact hl
  refine lv_istore (lv' := [(5, .int k), (0, .ref b), (1, .ref (ad' (1, 0))), (2, .ref (ad' (100, 0))), (3, .ref (ad' (110, 0))), (4, .int (nI i))]) hx hb dL_law_1325 hl (by decide) rfl (fun ls hl => ?_)
  refine lv_aload_n hx hb dL_law_1327 rfl (lv_at hl 3 rfl) ?_
  refine lv_aload_n hx hb dL_law_1328 rfl (lv_at hl 1 rfl) ?_
  refine lv_iload hx hb dL_law_1329 (lv_at hl 5 rfl) ?_
  refine lv_iconst (v := 1) hx hb dL_law_1331 (by decide) ?_
  refine lv_iadd hx hb dL_law_1332 ?_
  refine lv_topE (y := nI (i + 1)) (nI_add i 1) ?_
  refine va_sld hx hb hX hbl hbA hS (vp_in_nI (n := i + 1) (N := Ls) (by omega) (by omega)) dL_law_1333 ?_
  refine lv_topE (y := xs (i + 1)) (by rw [nI_clamp (by omega)]) ?_
  rw [wld_m] at hW
  refine m_callVi (k2 := 1) (As := [.int (xs (i + 1))]) (rest := []) C (c_X8_bill l X L' ad' (cSt X ad' (oSt X f2) ci2 ca2 cr2) fi fa hm9 (xs (i + 1)) (cr 13 1) r42 hp50 (lw_pq S)) tw_7_33 tw_7_34 tw_7_35 tw_1_10 tw_7_36 (by decide +kernel) ⟨(Nat.le_of_ble_eq_true rfl), (Nat.le_of_ble_eq_true rfl)⟩ hm9 hW hS rfl hl.1 rfl (Nat.le_of_ble_eq_true rfl) dL_law_1334 ⟨hcells, hslots⟩ (fun v fi9 fa9 H locs hr hW hS => ?_)
  have hSR : SR tot k (f2 0) v L' ci2 ca2 cr2 fi9 fa9 := sim_rd S (by omega) (hv_bill S) hc hr
  refine lv_istore (lv' := [(6, .int v), (5, .int k), (0, .ref b), (1, .ref (ad' (1, 0))), (2, .ref (ad' (100, 0))), (3, .ref (ad' (110, 0))), (4, .int (nI i))]) hx hb dL_law_1337 hl (by decide) rfl (fun ls hl => ?_)
  refine lv_aload_n hx hb dL_law_1339 rfl (lv_at hl 4 rfl) ?_
  refine m_callVi (k2 := 0) (As := []) (rest := []) C (c_X8_thrown l X L' ad' (cSt X ad' (oSt X f2) ci2 ca2 cr2) fi9 fa9 hm9) tw_6_105 tw_6_106 tw_6_107 tw_1_10 tw_6_108 (by decide +kernel) ⟨(Nat.le_of_ble_eq_true rfl), (Nat.le_of_ble_eq_true rfl)⟩ hm9 hW hS rfl hl.1 rfl (Nat.le_of_ble_eq_true rfl) dL_law_1340 ⟨hcells, hslots⟩ (fun v2 fi8 fa8 H locs ht hW hS => ?_)
  obtain ⟨e8, e9, ht⟩ := ht
  rw [e8, e9, ← wld_m] at hW
  refine lv_iload hx hb dL_law_1343 (lv_at hl 1 rfl) ?_
  refine lv_icmp_eq (tgt := 1350) hx hb dL_law_1345 (by decide) (fun _ => ?_) (fun c9 => absurd (ht.trans hSR.1) c9)
  refine lv_iload hx hb dL_law_1350 (lv_at hl 1 rfl) ?_
  obtain ⟨n2, w2, tot2, nt2, kp2, nx2, nc2, ht2, S2⟩ := hSR.2.2
  refine lv_if_ne (tgt := 1367) hx hb dL_law_1352 (by decide) (fun _ => ?_) (fun c9 => ?_)
  · refine lv_goto (tgt := 1482) hx hb dL_law_1367 (by decide) ?_
    exact K L' ad' ci2 ca2 cr2 n2 w2 tot2 nt2 kp2 nx2 nc2 fi9 fa9 f2 H locs ls ht2 S2 hm9 (hF.1 _ hO) hW hS (lv_sub hl [2, 3, 4, 5, 6] rfl)
  · have hk0 : k = 0 := c9
    refine lv_aload_n hx hb dL_law_1355 rfl (lv_at hl 5 rfl) ?_
    refine lv_iconst (v := 0) hx hb dL_law_1356 (by decide) ?_
    refine g_lald (r := (110, 0)) C hW (hF.1 _ hO) rfl (vp_in_nI (n := 0) (N := 1) (by decide) (by decide)) dL_law_1357 ?_
    refine lv_topV (y := .long (f2 0)) rfl ?_
    refine lv_iload hx hb dL_law_1358 (lv_at hl 0 rfl) ?_
    refine lv_i2l hx hb dL_law_1360 rfl ?_
    refine W.lcmp hx hb dL_law_1361 ?_
    refine lv_topE (y := 0) (by rw [hSR.2.1 hk0]; exact lg_self _) ?_
    refine lv_if_eq (tgt := 1367) hx hb dL_law_1362 (by decide) (fun _ => ?_) (fun c9 => absurd rfl c9)
    refine lv_goto (tgt := 1482) hx hb dL_law_1367 (by decide) ?_
    exact K L' ad' ci2 ca2 cr2 n2 w2 tot2 nt2 kp2 nx2 nc2 fi9 fa9 f2 H locs ls ht2 S2 hm9 (hF.1 _ hO) hW hS (lv_sub hl [2, 3, 4, 5, 6] rfl)

set_option maxHeartbeats 4000000 in
theorem lb_close (C : gCx p s m args meth c code 7 ret "RateGateLaw" mname X A) (hl0 : l.stackTraces = false) (hX : va_X b Ls xs s s.heap) (hbl : b < s.heap.size) (hbA : ¬ A b) (hi : i + 5 ≤ Ls) (hLs : Ls ≤ 2560) (hto : tot < 512) (hcells : cells + 10 ≤ 601024) (hslots : slots + 300 ≤ 7293034) (S : SV L ci ca cr n w tot nt kp nx nc fi fa) (hm : mL L) (hO : ((110, 0) : ro) ∈ L) (hW : gW X A L ad (wld X ad ci ca cr fi fa f) s H) (hS : va_S A s.heap H locs) (hl : lv_has ls 7 [(0, .ref b), (1, .ref (ad (1, 0))), (2, .ref (ad (100, 0))), (3, .ref (ad (110, 0))), (4, .int (nI i))]) (K : lwK p l e s m args below meth c Q X A b i tot cells slots) : W p l e room_1 s m args below meth c H locs cells slots Q (F0 m 1370 ls []) := by
  have hx := C.1.1
  have hb := C.1.2.1
  obtain ⟨r1, r3, r22, ⟨r23, rnc⟩, r32, r42⟩ := id S.2.1
  have h4 := S.2.2.1.2.1
  have h5 := S.2.2.1.2.2
  have hn60 := S.1.2.2.2.2.2.2.2.2.2.2.1.2.1
  have hw2 := S.1.2.2.2.2.2.2.2.2.2.2.2.1.2
  have hq100 := S.1.2.2.1.1
  have hp50 := S.1.2.2.1.2
  refine lv_aload_n hx hb dL_law_1370 rfl (lv_at hl 1 rfl) ?_
  refine lv_aload_n hx hb dL_law_1371 rfl (lv_at hl 0 rfl) ?_
  refine lv_iload hx hb dL_law_1372 (lv_at hl 4 rfl) ?_
  refine lv_iconst (v := 1) hx hb dL_law_1374 (by decide) ?_
  refine lv_iadd hx hb dL_law_1375 ?_
  refine lv_topE (y := nI (i + 1)) (nI_add i 1) ?_
  refine va_sld hx hb hX hbl hbA hS (vp_in_nI (n := i + 1) (N := Ls) (by omega) (by omega)) dL_law_1376 ?_
  refine lv_topE (y := xs (i + 1)) (by rw [nI_clamp (by omega)]) ?_
  refine lv_aload_n hx hb dL_law_1377 rfl (lv_at hl 3 rfl) ?_
  refine g_callSW (k2 := 3) (As := [.ref (ad (1, 0)), .int (xs (i + 1)), .ref (ad (110, 0))]) (rest := []) C (L_close l hl0 X L ad ci ca cr n w tot nt kp nx fi fa f S.1 hO (xs (i + 1))) tw_5_179 tw_5_180 tw_1_0 tw_5_181 (by decide +kernel) ⟨(Nat.le_of_ble_eq_true rfl), (Nat.le_of_ble_eq_true rfl)⟩ hW hS rfl hl.1 rfl (Nat.le_of_ble_eq_true rfl) dL_law_1378 ⟨hcells, hslots⟩ (fun k L9 ad9 st9 H locs hp hW hS => ?_)
  obtain ⟨L', ad', ci2, ca2, cr2, f2, z0, hF, hc⟩ := hp
  injection z0 with e1 e2
  injection e2 with e2 e3
  rw [e1, e2, e3] at hW
  have hm9 : mL L' := mL_of hF.1 hm
  have hl : lv_has ls 7 [(0, .ref b), (1, .ref (ad' (1, 0))), (2, .ref (ad' (100, 0))), (3, .ref (ad' (110, 0))), (4, .int (nI i))] := by rw [hF.2 (1, 0) (Or.inr rfl), hF.2 (100, 0) (Or.inl (by decide)), hF.2 (110, 0) (Or.inl (by decide))]; exact hl
  refine lv_istore (lv' := [(5, .int k), (0, .ref b), (1, .ref (ad' (1, 0))), (2, .ref (ad' (100, 0))), (3, .ref (ad' (110, 0))), (4, .int (nI i))]) hx hb dL_law_1381 hl (by decide) rfl (fun ls hl => ?_)
  refine lv_aload_n hx hb dL_law_1383 rfl (lv_at hl 3 rfl) ?_
  refine lv_aload_n hx hb dL_law_1384 rfl (lv_at hl 1 rfl) ?_
  refine lv_iload hx hb dL_law_1385 (lv_at hl 5 rfl) ?_
  refine lv_iconst (v := 1) hx hb dL_law_1387 (by decide) ?_
  refine lv_iadd hx hb dL_law_1388 ?_
  refine lv_topE (y := nI (i + 1)) (nI_add i 1) ?_
  refine va_sld hx hb hX hbl hbA hS (vp_in_nI (n := i + 1) (N := Ls) (by omega) (by omega)) dL_law_1389 ?_
  refine lv_topE (y := xs (i + 1)) (by rw [nI_clamp (by omega)]) ?_
  rw [wld_m] at hW
  refine m_callVi (k2 := 1) (As := [.int (xs (i + 1))]) (rest := []) C (c_X8_close l X L' ad' (cSt X ad' (oSt X f2) ci2 ca2 cr2) fi fa hm9 (xs (i + 1)) (cr 13 1) r42 hp50 (lw_pq S)) tw_7_45 tw_7_46 tw_7_47 tw_1_10 tw_7_48 (by decide +kernel) ⟨(Nat.le_of_ble_eq_true rfl), (Nat.le_of_ble_eq_true rfl)⟩ hm9 hW hS rfl hl.1 rfl (Nat.le_of_ble_eq_true rfl) dL_law_1390 ⟨hcells, hslots⟩ (fun v fi9 fa9 H locs hr hW hS => ?_)
  have hSR : SR tot k (f2 0) v L' ci2 ca2 cr2 fi9 fa9 := sim_close S hc hr
  refine lv_istore (lv' := [(6, .int v), (5, .int k), (0, .ref b), (1, .ref (ad' (1, 0))), (2, .ref (ad' (100, 0))), (3, .ref (ad' (110, 0))), (4, .int (nI i))]) hx hb dL_law_1393 hl (by decide) rfl (fun ls hl => ?_)
  refine lv_aload_n hx hb dL_law_1395 rfl (lv_at hl 4 rfl) ?_
  refine m_callVi (k2 := 0) (As := []) (rest := []) C (c_X8_thrown l X L' ad' (cSt X ad' (oSt X f2) ci2 ca2 cr2) fi9 fa9 hm9) tw_6_105 tw_6_106 tw_6_107 tw_1_10 tw_6_108 (by decide +kernel) ⟨(Nat.le_of_ble_eq_true rfl), (Nat.le_of_ble_eq_true rfl)⟩ hm9 hW hS rfl hl.1 rfl (Nat.le_of_ble_eq_true rfl) dL_law_1396 ⟨hcells, hslots⟩ (fun v2 fi8 fa8 H locs ht hW hS => ?_)
  obtain ⟨e8, e9, ht⟩ := ht
  rw [e8, e9, ← wld_m] at hW
  refine lv_iload hx hb dL_law_1399 (lv_at hl 1 rfl) ?_
  refine lv_icmp_eq (tgt := 1406) hx hb dL_law_1401 (by decide) (fun _ => ?_) (fun c9 => absurd (ht.trans hSR.1) c9)
  refine lv_iload hx hb dL_law_1406 (lv_at hl 1 rfl) ?_
  obtain ⟨n2, w2, tot2, nt2, kp2, nx2, nc2, ht2, S2⟩ := hSR.2.2
  refine lv_if_ne (tgt := 1423) hx hb dL_law_1408 (by decide) (fun _ => ?_) (fun c9 => ?_)
  · refine lv_goto (tgt := 1482) hx hb dL_law_1423 (by decide) ?_
    exact K L' ad' ci2 ca2 cr2 n2 w2 tot2 nt2 kp2 nx2 nc2 fi9 fa9 f2 H locs ls ht2 S2 hm9 (hF.1 _ hO) hW hS (lv_sub hl [2, 3, 4, 5, 6] rfl)
  · have hk0 : k = 0 := c9
    refine lv_aload_n hx hb dL_law_1411 rfl (lv_at hl 5 rfl) ?_
    refine lv_iconst (v := 0) hx hb dL_law_1412 (by decide) ?_
    refine g_lald (r := (110, 0)) C hW (hF.1 _ hO) rfl (vp_in_nI (n := 0) (N := 1) (by decide) (by decide)) dL_law_1413 ?_
    refine lv_topV (y := .long (f2 0)) rfl ?_
    refine lv_iload hx hb dL_law_1414 (lv_at hl 0 rfl) ?_
    refine lv_i2l hx hb dL_law_1416 rfl ?_
    refine W.lcmp hx hb dL_law_1417 ?_
    refine lv_topE (y := 0) (by rw [hSR.2.1 hk0]; exact lg_self _) ?_
    refine lv_if_eq (tgt := 1423) hx hb dL_law_1418 (by decide) (fun _ => ?_) (fun c9 => absurd rfl c9)
    refine lv_goto (tgt := 1482) hx hb dL_law_1423 (by decide) ?_
    exact K L' ad' ci2 ca2 cr2 n2 w2 tot2 nt2 kp2 nx2 nc2 fi9 fa9 f2 H locs ls ht2 S2 hm9 (hF.1 _ hO) hW hS (lv_sub hl [2, 3, 4, 5, 6] rfl)

set_option maxHeartbeats 4000000 in
theorem lb_billed (C : gCx p s m args meth c code 7 ret "RateGateLaw" mname X A) (hl0 : l.stackTraces = false) (hX : va_X b Ls xs s s.heap) (hbl : b < s.heap.size) (hbA : ¬ A b) (hi : i + 5 ≤ Ls) (hLs : Ls ≤ 2560) (hto : tot < 512) (hcells : cells + 10 ≤ 601024) (hslots : slots + 300 ≤ 7293034) (S : SV L ci ca cr n w tot nt kp nx nc fi fa) (hm : mL L) (hO : ((110, 0) : ro) ∈ L) (hW : gW X A L ad (wld X ad ci ca cr fi fa f) s H) (hS : va_S A s.heap H locs) (hl : lv_has ls 7 [(0, .ref b), (1, .ref (ad (1, 0))), (2, .ref (ad (100, 0))), (3, .ref (ad (110, 0))), (4, .int (nI i))]) (K : lwK p l e s m args below meth c Q X A b i tot cells slots) : W p l e room_1 s m args below meth c H locs cells slots Q (F0 m 1426 ls []) := by
  have hx := C.1.1
  have hb := C.1.2.1
  obtain ⟨r1, r3, r22, ⟨r23, rnc⟩, r32, r42⟩ := id S.2.1
  have h4 := S.2.2.1.2.1
  have h5 := S.2.2.1.2.2
  have hn60 := S.1.2.2.2.2.2.2.2.2.2.2.1.2.1
  have hw2 := S.1.2.2.2.2.2.2.2.2.2.2.2.1.2
  have hq100 := S.1.2.2.1.1
  have hp50 := S.1.2.2.1.2
  refine lv_aload_n hx hb dL_law_1426 rfl (lv_at hl 1 rfl) ?_
  refine lv_aload_n hx hb dL_law_1427 rfl (lv_at hl 0 rfl) ?_
  refine lv_iload hx hb dL_law_1428 (lv_at hl 4 rfl) ?_
  refine lv_iconst (v := 1) hx hb dL_law_1430 (by decide) ?_
  refine lv_iadd hx hb dL_law_1431 ?_
  refine lv_topE (y := nI (i + 1)) (nI_add i 1) ?_
  refine va_sld hx hb hX hbl hbA hS (vp_in_nI (n := i + 1) (N := Ls) (by omega) (by omega)) dL_law_1432 ?_
  refine lv_topE (y := xs (i + 1)) (by rw [nI_clamp (by omega)]) ?_
  refine lv_aload_n hx hb dL_law_1433 rfl (lv_at hl 3 rfl) ?_
  refine g_callSW (k2 := 3) (As := [.ref (ad (1, 0)), .int (xs (i + 1)), .ref (ad (110, 0))]) (rest := []) C (L_billed l hl0 X L ad ci ca cr n w tot nt kp nx fi fa f S.1 hO (xs (i + 1))) tw_5_190 tw_5_191 tw_1_0 tw_5_192 (by decide +kernel) ⟨(Nat.le_of_ble_eq_true rfl), (Nat.le_of_ble_eq_true rfl)⟩ hW hS rfl hl.1 rfl (Nat.le_of_ble_eq_true rfl) dL_law_1434 ⟨hcells, hslots⟩ (fun k L9 ad9 st9 H locs hp hW hS => ?_)
  obtain ⟨L', ad', ci2, ca2, cr2, f2, z0, hF, hc⟩ := hp
  injection z0 with e1 e2
  injection e2 with e2 e3
  rw [e1, e2, e3] at hW
  have hm9 : mL L' := mL_of hF.1 hm
  have hl : lv_has ls 7 [(0, .ref b), (1, .ref (ad' (1, 0))), (2, .ref (ad' (100, 0))), (3, .ref (ad' (110, 0))), (4, .int (nI i))] := by rw [hF.2 (1, 0) (Or.inr rfl), hF.2 (100, 0) (Or.inl (by decide)), hF.2 (110, 0) (Or.inl (by decide))]; exact hl
  refine lv_istore (lv' := [(5, .int k), (0, .ref b), (1, .ref (ad' (1, 0))), (2, .ref (ad' (100, 0))), (3, .ref (ad' (110, 0))), (4, .int (nI i))]) hx hb dL_law_1437 hl (by decide) rfl (fun ls hl => ?_)
  refine lv_aload_n hx hb dL_law_1439 rfl (lv_at hl 3 rfl) ?_
  refine lv_aload_n hx hb dL_law_1440 rfl (lv_at hl 1 rfl) ?_
  refine lv_iload hx hb dL_law_1441 (lv_at hl 5 rfl) ?_
  refine lv_iconst (v := 1) hx hb dL_law_1443 (by decide) ?_
  refine lv_iadd hx hb dL_law_1444 ?_
  refine lv_topE (y := nI (i + 1)) (nI_add i 1) ?_
  refine va_sld hx hb hX hbl hbA hS (vp_in_nI (n := i + 1) (N := Ls) (by omega) (by omega)) dL_law_1445 ?_
  refine lv_topE (y := xs (i + 1)) (by rw [nI_clamp (by omega)]) ?_
  rw [wld_m] at hW
  refine m_callVi (k2 := 1) (As := [.int (xs (i + 1))]) (rest := []) C (c_X8_billed l X L' ad' (cSt X ad' (oSt X f2) ci2 ca2 cr2) fi fa hm9 (xs (i + 1))) tw_7_49 tw_7_50 tw_7_51 tw_1_10 tw_7_52 (by decide +kernel) ⟨(Nat.le_of_ble_eq_true rfl), (Nat.le_of_ble_eq_true rfl)⟩ hm9 hW hS rfl hl.1 rfl (Nat.le_of_ble_eq_true rfl) dL_law_1446 ⟨hcells, hslots⟩ (fun v fi9 fa9 H locs hr hW hS => ?_)
  have hSR : SR tot k (f2 0) v L' ci2 ca2 cr2 fi9 fa9 := sim_rd S (by omega) (hv_billed S) hc hr
  refine lv_istore (lv' := [(6, .int v), (5, .int k), (0, .ref b), (1, .ref (ad' (1, 0))), (2, .ref (ad' (100, 0))), (3, .ref (ad' (110, 0))), (4, .int (nI i))]) hx hb dL_law_1449 hl (by decide) rfl (fun ls hl => ?_)
  refine lv_aload_n hx hb dL_law_1451 rfl (lv_at hl 4 rfl) ?_
  refine m_callVi (k2 := 0) (As := []) (rest := []) C (c_X8_thrown l X L' ad' (cSt X ad' (oSt X f2) ci2 ca2 cr2) fi9 fa9 hm9) tw_6_105 tw_6_106 tw_6_107 tw_1_10 tw_6_108 (by decide +kernel) ⟨(Nat.le_of_ble_eq_true rfl), (Nat.le_of_ble_eq_true rfl)⟩ hm9 hW hS rfl hl.1 rfl (Nat.le_of_ble_eq_true rfl) dL_law_1452 ⟨hcells, hslots⟩ (fun v2 fi8 fa8 H locs ht hW hS => ?_)
  obtain ⟨e8, e9, ht⟩ := ht
  rw [e8, e9, ← wld_m] at hW
  refine lv_iload hx hb dL_law_1455 (lv_at hl 1 rfl) ?_
  refine lv_icmp_eq (tgt := 1462) hx hb dL_law_1457 (by decide) (fun _ => ?_) (fun c9 => absurd (ht.trans hSR.1) c9)
  refine lv_iload hx hb dL_law_1462 (lv_at hl 1 rfl) ?_
  obtain ⟨n2, w2, tot2, nt2, kp2, nx2, nc2, ht2, S2⟩ := hSR.2.2
  refine lv_if_ne (tgt := 1479) hx hb dL_law_1464 (by decide) (fun _ => ?_) (fun c9 => ?_)
  · refine lv_goto (tgt := 1482) hx hb dL_law_1479 (by decide) ?_
    exact K L' ad' ci2 ca2 cr2 n2 w2 tot2 nt2 kp2 nx2 nc2 fi9 fa9 f2 H locs ls ht2 S2 hm9 (hF.1 _ hO) hW hS (lv_sub hl [2, 3, 4, 5, 6] rfl)
  · have hk0 : k = 0 := c9
    refine lv_aload_n hx hb dL_law_1467 rfl (lv_at hl 5 rfl) ?_
    refine lv_iconst (v := 0) hx hb dL_law_1468 (by decide) ?_
    refine g_lald (r := (110, 0)) C hW (hF.1 _ hO) rfl (vp_in_nI (n := 0) (N := 1) (by decide) (by decide)) dL_law_1469 ?_
    refine lv_topV (y := .long (f2 0)) rfl ?_
    refine lv_iload hx hb dL_law_1470 (lv_at hl 0 rfl) ?_
    refine lv_i2l hx hb dL_law_1472 rfl ?_
    refine W.lcmp hx hb dL_law_1473 ?_
    refine lv_topE (y := 0) (by rw [hSR.2.1 hk0]; exact lg_self _) ?_
    refine lv_if_eq (tgt := 1479) hx hb dL_law_1474 (by decide) (fun _ => ?_) (fun c9 => absurd rfl c9)
    refine lv_goto (tgt := 1482) hx hb dL_law_1479 (by decide) ?_
    exact K L' ad' ci2 ca2 cr2 n2 w2 tot2 nt2 kp2 nx2 nc2 fi9 fa9 f2 H locs ls ht2 S2 hm9 (hF.1 _ hO) hW hS (lv_sub hl [2, 3, 4, 5, 6] rfl)

end LAW
