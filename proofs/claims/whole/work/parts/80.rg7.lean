/-- the quote k fixes a rate for the lane of the request, still -/
def qfC (ci : Nat → Nat → Int32) (ca : Nat → Nat → Nat → Int32) (w k : Nat) : Prop := nI w < ci 46 k ∧ (ci 40 k = ca 4 0 0 ∧ ci 41 k = ca 4 0 1 ∧ ci 42 k = ca 4 0 2 ∧ ci 43 k = ca 4 0 3)
def updN (f : Nat → Nat) (i v : Nat) : Nat → Nat := fun s => if s = i then v else f s
def kcP (kp nx : Nat) : Nat := if kp < (if nx < 50 then nx else 0) + 1 then (if nx < 50 then nx else 0) + 1 else kp
/-- a call is kept -/
def kcI (ci : Nat → Nat → Int32) (i kp nx : Nat) : Nat → Nat → Int32 := up2 (up2 ci 25 i (nI ((if nx < 50 then nx else 0) + 1))) 24 i (nI (if kp < (if nx < 50 then nx else 0) + 1 then (if nx < 50 then nx else 0) + 1 else kp))
def kcA (ca : Nat → Nat → Nat → Int32) (i nx w : Nat) : Nat → Nat → Nat → Int32 := ua2 ca 21 i (upd (ca 21 i) (if nx < 50 then nx else 0) (nI w))
def costI (ci : Nat → Nat → Int32) (i : Nat) (d : Int32) : Nat → Nat → Int32 := up2 ci 22 i (ci 22 i + d)
/-- a quote is added -/
def addP (L : List ro) (ci : Nat → Nat → Int32) (ca : Nat → Nat → Nat → Int32) (cr : Nat → Nat → Nat) (t : Nat) (z9 : Int32) (v : Int32) (L' : List ro) (ci' : Nat → Nat → Int32) (ca' : Nat → Nat → Nat → Int32) (cr' : Nat → Nat → Nat) : Prop :=
  ∃ cap, cr 13 0 + 1 ≤ cap ∧ 10 ≤ cap ∧ cap ≤ 150 ∧ (∀ x : ro, x ∈ L' ↔ x ∈ L ∨ x = (40, cr 13 0) ∨ x = (12, 0)) ∧ ci' = ciL (qtC ci (cr 13 0) (ca 4 0) z9) 0 (cr 13 0) ∧ ca' = ca ∧ cr' = crL (ur2 cr 40 (cr 13 0) t) 0 (cr 13 0) cap ∧ v = nI (cr 13 0)
/-- what a call is answered, of shipper i by carrier j -/
def ansP (L : List ro) (ci : Nat → Nat → Int32) (ca : Nat → Nat → Nat → Int32) (cr : Nat → Nat → Nat) (w i j kp nx : Nat) (v : Int32) (L' : List ro) (ci' : Nat → Nat → Int32) (ca' : Nat → Nat → Nat → Int32) (cr' : Nat → Nat → Nat) : Prop :=
  (lftC (ci 20 i) (cntL (ca 21 i) (nI w - ci 21 i) kp) = 0 ∧ L' = L ∧ ci' = ci ∧ ca' = ca ∧ cr' = cr ∧ v = -2) ∨
  (¬ lftC (ci 20 i) (cntL (ca 21 i) (nI w - ci 21 i) kp) = 0 ∧
    ((∃ k, k < cr 13 0 ∧ qfC ci ca w k ∧ addP L (costI (kcI ci i kp nx) i 1) (kcA ca i nx w) cr (cr 40 k) (ci 46 k) v L' ci' ca' cr') ∨
     ((∀ k, k < cr 13 0 → ¬ qfC ci ca w k) ∧
       ((crcC (ci 34 j) (nI w) (ci 35 j) = 1 ∧ L' = L ∧ ci' = costI (kcI ci i kp nx) i 1 ∧ ca' = kcA ca i nx w ∧ cr' = cr ∧ v = -3) ∨
        (¬ crcC (ci 34 j) (nI w) (ci 35 j) = 1 ∧ (askC (nI w) (ci 30 j) (ci 31 j) 3 (ccr ci j)).1 = 0 ∧ L' = L ∧ ci' = costI (cset (kcI ci i kp nx) j (askC (nI w) (ci 30 j) (ci 31 j) 3 (ccr ci j)).2) i 1 ∧ ca' = kcA ca i nx w ∧ cr' = cr ∧ v = -4) ∨
        (¬ crcC (ci 34 j) (nI w) (ci 35 j) = 1 ∧ (askC (nI w) (ci 30 j) (ci 31 j) 3 (ccr ci j)).1 = 1 ∧ addP L (costI (cset (kcI ci i kp nx) j (askC (nI w) (ci 30 j) (ci 31 j) 3 (ccr ci j)).2) i 3) (kcA ca i nx w) cr (cr 30 j) (nI (w + 60)) v L' ci' ca' cr')))))
section CVX
variable {L : List ro} {ci : Nat → Nat → Int32} {ca : Nat → Nat → Nat → Int32} {cr : Nat → Nat → Nat} {n w tot nt : Nat} {kp nx : Nat → Nat}
theorem cV_22 {i : Nat} {v : Int32} (h : cV L ci ca cr n w tot nt kp nx) : cV L (up2 ci 22 i v) ca cr n w tot nt kp nx := h
theorem cV_cset {i : Nat} {s : CrS} (h : cV L ci ca cr n w tot nt kp nx) : cV L (cset ci i s) ca cr n w tot nt kp nx := h
theorem cV_keep {i : Nat} (hi : i < 6) (h : cV L ci ca cr n w tot nt kp nx) : cV L (kcI ci i (kp i) (nx i)) (kcA ca i (nx i) w) cr n w tot nt (updN kp i (kcP (kp i) (nx i))) (updN nx i ((if nx i < 50 then nx i else 0) + 1)) := by
  obtain ⟨vR, vA, vN, vq, vp, vt, vQ, vP, vC, vX, vT, vW, vG, vS⟩ := h
  refine ⟨vR, vA, vN, vq, vp, vt, vQ, vP, vC, vX, vT, vW, vG, fun s hs => ?_⟩
  obtain ⟨h1, h2, h3, h4⟩ := vS s hs
  by_cases e : s = i
  · subst e
    have q : (if nx s < 50 then nx s else 0) + 1 ≤ 50 := by split <;> omega
    refine ⟨?_, ?_, ?_, ?_⟩
    · show up2 (up2 ci 25 s _) 24 s _ 24 s = nI (updN kp s _ s)
      rw [up2_at, updN, if_pos rfl, kcP]
    · rw [updN, if_pos rfl, kcP]
      generalize (if nx s < 50 then nx s else 0) + 1 = z at q ⊢
      split <;> omega
    · show up2 ci 25 s _ 25 s = nI (updN nx s _ s)
      rw [up2_at, updN, if_pos rfl]
    · rw [updN, if_pos rfl]; exact q
  · refine ⟨?_, ?_, ?_, ?_⟩
    · show up2 (up2 ci 25 i _) 24 i _ 24 s = nI (updN kp i _ s)
      rw [up2_ne (fun q => e q.2), updN, if_neg e]
      exact h1
    · rw [updN, if_neg e]; exact h2
    · show up2 ci 25 i _ 25 s = nI (updN nx i _ s)
      rw [up2_ne (fun q => e q.2), updN, if_neg e]
      exact h3
    · rw [updN, if_neg e]; exact h4
end CVX
set_option maxHeartbeats 4000000 in
set_option maxRecDepth 100000 in
theorem c_X7_quoteFixingRequest (l : Launch) (X : GX) (L : List ro) (ad : ro → Nat) (st0 : ro → va_E) (ci : Nat → Nat → Int32) (ca : Nat → Nat → Nat → Int32) (cr : Nat → Nat → Nat) (n w tot nt : Nat) (kp nx : Nat → Nat) (hV : cV L ci ca cr n w tot nt kp nx) : gMq l yX7_quoteFixingRequest cX7_quoteFixingRequest 3 (some (.object "RateGate$Quote")) 3 64 0 0 X [.ref (ad (1, 0))] L ad (cSt X ad st0 ci ca cr) (fun v u => u = (L, ad, cSt X ad st0 ci ca cr) ∧ ((v = none ∧ ∀ j, j < cr 13 0 → ¬ qfC ci ca w j) ∨ ∃ k, k < cr 13 0 ∧ v = some (ad (40, k)) ∧ qfC ci ca w k)) := by
  intro sz
  refine gM_of2 (Qc := fun A => va_Qq _ (gB X A) A) (by decide) (Nat.le_of_ble_eq_true rfl) ?_ sz
  intro p e s m args below meth c A R Q hR hQ C hW hS ls hl
  obtain ⟨hR1, hR2, hR3, hR4⟩ := hR
  have hx := C.1.1
  have hb := C.1.2.1
  have hml := C.1.2.2.1
  have hl : lv_has ls 3 [(0, .ref (ad (1, 0)))] := hl
  obtain ⟨vR, vA, vN, vq, vp, vt, vQ, vP, vC, vX, vT, vW, vG, vS⟩ := id hV
  obtain ⟨vT1, vT2, vT3⟩ := vT
  obtain ⟨vW1, vW2⟩ := vW
  obtain ⟨vG1, vG2, vG3⟩ := vG
  obtain ⟨vN1, vN2⟩ := vN
  have loop : ∀ (f : Nat) (k : Nat), (cr 13 0 - k < f) → (k ≤ cr 13 0) → (∀ j, j < k → ¬ qfC ci ca w j) → ∀ (H : Heap) (locs : List Loc), gW X A L ad (cSt X ad st0 ci ca cr) s H → va_S A s.heap H locs → ∀ ls : Array Slot, lv_has ls 3 [(0, .ref (ad (1, 0))), (1, .int (nI k))] → W p l e R s m args below meth c H locs 0 0 Q (F0 m 2 ls []) := by
    intro f
    induction f with
    | zero =>
      intro k hf9
      exact absurd hf9 (Nat.not_lt_zero _)
    | succ f ih =>
      intro k hf hk hno H locs hW hS ls hl
      refine lv_iload_n hx hb dX7_quoteFixingRequest_2 rfl (lv_at hl 1 rfl) ?_
      refine lv_aload_n hx hb dX7_quoteFixingRequest_3 rfl (lv_at hl 0 rfl) ?_
      refine g_get (r := (1, 0)) (Cn := RX7) (T := TX7) (N := 7) (ci := 10) (v := .ref (ad (11, 0))) C tinX7 hW (hV.r (by decide)) rfl rfl 4 (by decide) tw_1_210 (fun _ h9 => h9) rfl dX7_quoteFixingRequest_4 ?_
      refine g_callFi (r := (11, 0)) (T := TJx4a65c) (N := 3) (x := ⟨"java/util/List", "size", "()I"⟩) (k2 := 0) (As := []) (rest := [.int (nI k)]) C (c_lsize l X L ad st0 ci ca cr 0 (cr 13 0) (hV.r (by decide)) (hV.2.1 0 (by decide)).1) tw_4_109 tw_4_113 tw_4_115 tw_1_6 (by decide +kernel) tw_4_117 (by decide +kernel) ⟨by rw [hR1]; exact Nat.le_of_ble_eq_true rfl, by rw [hR2]; exact Nat.le_of_ble_eq_true rfl⟩ hW hS (hV.r (by decide)) rfl rfl rfl hl.1 rfl (Nat.le_of_ble_eq_true rfl) dX7_quoteFixingRequest_7 ⟨by rw [hR3]; exact Nat.le_of_ble_eq_true rfl, by rw [hR4]; exact Nat.le_of_ble_eq_true rfl⟩ (fun x1 L9 ad9 st9 H locs hp hW hS => ?_)
      obtain ⟨z0, z1⟩ := hp
      cases z0
      subst z1
      refine lv_icmp_ge (tgt := 59) hx hb dX7_quoteFixingRequest_12 (by decide) (fun c2 => ?_) (fun c2 => ?_)
      · have c2n := q_le (a := (cr 13 0)) (b := k) (by omega) (by omega) c2
        refine lv_null hx hb dX7_quoteFixingRequest_59 ?_
        exact g_qret2 (v := none) C (Or.inl ⟨_, rfl⟩) hQ hW hS ⟨rfl, Or.inl ⟨rfl, fun j hj => hno j (by omega)⟩⟩ (Nat.le_of_ble_eq_true rfl) (Nat.le_of_ble_eq_true rfl) dX7_quoteFixingRequest_60
      · have c2n := q_nle (a := (cr 13 0)) (b := k) (by omega) (by omega) c2
        refine lv_aload_n hx hb dX7_quoteFixingRequest_15 rfl (lv_at hl 0 rfl) ?_
        refine g_get (r := (1, 0)) (Cn := RX7) (T := TX7) (N := 7) (ci := 10) (v := .ref (ad (11, 0))) C tinX7 hW (hV.r (by decide)) rfl rfl 4 (by decide) tw_1_210 (fun _ h9 => h9) rfl dX7_quoteFixingRequest_16 ?_
        refine lv_iload_n hx hb dX7_quoteFixingRequest_19 rfl (lv_at hl 1 rfl) ?_
        refine g_callFq (r := (11, 0)) (T := TJx4a65c) (N := 3) (x := ⟨"java/util/List", "get", "(I)Ljava/lang/Object;"⟩) (k2 := 1) (As := [.int (nI k)]) (rest := []) C (c_lget l X L ad st0 ci ca cr 0 k (hV.r (by decide)) (hV.lst (i := 0) (j := k) (by decide) (by first | omega | exact (hV.pc (by omega)).2)).1 (hV.2.1 0 (by decide)).1 (hV.lst (i := 0) (j := k) (by decide) (by first | omega | exact (hV.pc (by omega)).2)).2.1 (by first | omega | exact (hV.pc (by omega)).2) (hV.lst (i := 0) (j := k) (by decide) (by first | omega | exact (hV.pc (by omega)).2)).2.2.1 (by have h8 := (hV.lst (i := 0) (j := k) (by decide) (by first | omega | exact (hV.pc (by omega)).2)).2.2.2; omega)) tw_4_138 tw_4_141 tw_4_143 tw_1_6 (by decide +kernel) tw_4_145 (by decide +kernel) ⟨by rw [hR1]; exact Nat.le_of_ble_eq_true rfl, by rw [hR2]; exact Nat.le_of_ble_eq_true rfl⟩ hW hS (hV.r (by decide)) rfl rfl rfl hl.1 rfl (Nat.le_of_ble_eq_true rfl) dX7_quoteFixingRequest_20 ⟨by rw [hR3]; exact Nat.le_of_ble_eq_true rfl, by rw [hR4]; exact Nat.le_of_ble_eq_true rfl⟩ (fun v3 L9 ad9 st9 H locs hp hW hS => ?_)
        obtain ⟨z0, z1⟩ := hp
        cases z0
        subst z1
        refine lv_topV (y := .ref (ad (40, k))) (congrArg va_rf (if_pos (by first | omega | exact (hV.pc (by omega)).2))) ?_
        refine g_cst (r := (40, k)) (Cn := RX3) (T := TX3) (N := 8) (ci := 6) C hW (hV.qt (by first | omega | exact (hV.pc (by omega)).2)).1 rfl rfl tw_4_154 dX7_quoteFixingRequest_25 ?_
        refine lv_astore_n (lv' := [(2, .ref (ad (40, k))), (0, .ref (ad (1, 0))), (1, .int (nI k))]) hx hb dX7_quoteFixingRequest_28 rfl hl (by decide) rfl (fun ls hl => ?_)
        refine lv_aload_n hx hb dX7_quoteFixingRequest_29 rfl (lv_at hl 0 rfl) ?_
        refine lv_aload_n hx hb dX7_quoteFixingRequest_30 rfl (lv_at hl 1 rfl) ?_
        refine g_get (r := (1, 0)) (Cn := RX7) (T := TX7) (N := 7) (ci := 10) (v := .int (ci 1 0)) C tinX7 hW (hV.r (by decide)) rfl rfl 6 (by decide) tw_1_212 (fun _ h9 => h9) rfl dX7_quoteFixingRequest_31 ?_
        refine lv_topE (y := nI w) (by show ci 1 0 = nI w; exact hV.2.2.2.2.2.2.2.2.2.2.2.1.1) ?_
        refine g_callVi (r := (40, k)) (T := TX3) (N := 8) (k2 := 1) (As := [.int (nI w)]) (rest := []) C (c_X3_isFixedAt l X L ad st0 ci ca cr k (hV.qt (by first | omega | exact (hV.pc (by omega)).2)).1 (nI w)) tw_4_155 tw_4_156 tw_4_157 tw_1_31 tw_4_158 (by decide +kernel) ⟨by rw [hR1]; exact Nat.le_of_ble_eq_true rfl, by rw [hR2]; exact Nat.le_of_ble_eq_true rfl⟩ hW hS (hV.qt (by first | omega | exact (hV.pc (by omega)).2)).1 rfl rfl rfl hl.1 rfl (Nat.le_of_ble_eq_true rfl) dX7_quoteFixingRequest_34 ⟨by rw [hR3]; exact Nat.le_of_ble_eq_true rfl, by rw [hR4]; exact Nat.le_of_ble_eq_true rfl⟩ (fun v9 L9 ad9 st9 H locs hp hW hS => ?_)
        obtain ⟨ci9, ca9, cr9, z0, hp⟩ := hp
        cases z0
        obtain ⟨z1, z2, z3, h4⟩ := hp
        rw [z1, z2, z3] at hW
        rcases h4 with ⟨h4, e9⟩ | ⟨h4, e9⟩
        · subst e9
          refine lv_if_eq (tgt := 53) hx hb dX7_quoteFixingRequest_37 (by decide) (fun c9 => absurd c9 (by decide)) (fun _ => ?_)
          refine lv_aload_n hx hb dX7_quoteFixingRequest_40 rfl (lv_at hl 0 rfl) ?_
          refine lv_aload_n hx hb dX7_quoteFixingRequest_41 rfl (lv_at hl 1 rfl) ?_
          refine g_get (r := (1, 0)) (Cn := RX7) (T := TX7) (N := 7) (ci := 10) (v := .ref (ad (2, 0))) C tinX7 hW (hV.r (by decide)) rfl rfl 0 (by decide) tw_1_206 (fun _ h9 => h9) rfl dX7_quoteFixingRequest_42 ?_
          refine g_callVi (r := (40, k)) (T := TX3) (N := 8) (k2 := 1) (As := [.ref (ad (2, 0))]) (rest := []) C (c_X3_isOnLaneOf l X L ad st0 ci ca cr k (hV.qt (by first | omega | exact (hV.pc (by omega)).2)).1 (hV.r (by decide)) (hV.r (by decide))) tw_4_159 tw_4_160 tw_4_161 tw_1_31 tw_4_162 (by decide +kernel) ⟨by rw [hR1]; exact Nat.le_of_ble_eq_true rfl, by rw [hR2]; exact Nat.le_of_ble_eq_true rfl⟩ hW hS (hV.qt (by first | omega | exact (hV.pc (by omega)).2)).1 rfl rfl rfl hl.1 rfl (Nat.le_of_ble_eq_true rfl) dX7_quoteFixingRequest_45 ⟨by rw [hR3]; exact Nat.le_of_ble_eq_true rfl, by rw [hR4]; exact Nat.le_of_ble_eq_true rfl⟩ (fun v9 L9 ad9 st9 H locs hp hW hS => ?_)
          obtain ⟨ci9, ca9, cr9, z0, hp⟩ := hp
          cases z0
          obtain ⟨z1, z2, z3, h5⟩ := hp
          rw [z1, z2, z3] at hW
          rcases h5 with ⟨h5, e9⟩ | ⟨h5, e9⟩
          · subst e9
            refine lv_if_eq (tgt := 53) hx hb dX7_quoteFixingRequest_48 (by decide) (fun c9 => absurd c9 (by decide)) (fun _ => ?_)
            refine lv_aload_n hx hb dX7_quoteFixingRequest_51 rfl (lv_at hl 0 rfl) ?_
            exact g_qret2 (v := some (ad (40, k))) C (Or.inl ⟨_, rfl⟩) hQ hW hS ⟨rfl, Or.inr ⟨k, by omega, rfl, h4, h5⟩⟩ (Nat.le_of_ble_eq_true rfl) (Nat.le_of_ble_eq_true rfl) dX7_quoteFixingRequest_52
          · subst e9
            refine lv_if_eq (tgt := 53) hx hb dX7_quoteFixingRequest_48 (by decide) (fun _ => ?_) (fun c9 => absurd (by decide) c9)
            refine lv_iinc (v := nI (k + 1)) (lv' := [(1, .int (nI (k + 1))), (2, .ref (ad (40, k))), (0, .ref (ad (1, 0)))]) hx hb dX7_quoteFixingRequest_53 hl (k := 2) rfl (nI_1 k) (by decide) rfl (fun ls hl => ?_)
            refine lv_goto (tgt := 2) hx hb dX7_quoteFixingRequest_56 (by decide) ?_
            exact ih (k + 1) (by omega) (by omega) (fun j hj q => by rcases Nat.lt_succ_iff_lt_or_eq.mp hj with hj | hj; exact hno j hj q; subst hj; exact h5 q.2) _ _ hW hS _ (lv_sub hl [2, 0] rfl)
        · subst e9
          refine lv_if_eq (tgt := 53) hx hb dX7_quoteFixingRequest_37 (by decide) (fun _ => ?_) (fun c9 => absurd (by decide) c9)
          refine lv_iinc (v := nI (k + 1)) (lv' := [(1, .int (nI (k + 1))), (2, .ref (ad (40, k))), (0, .ref (ad (1, 0)))]) hx hb dX7_quoteFixingRequest_53 hl (k := 2) rfl (nI_1 k) (by decide) rfl (fun ls hl => ?_)
          refine lv_goto (tgt := 2) hx hb dX7_quoteFixingRequest_56 (by decide) ?_
          exact ih (k + 1) (by omega) (by omega) (fun j hj q => by rcases Nat.lt_succ_iff_lt_or_eq.mp hj with hj | hj; exact hno j hj q; subst hj; exact h4 q.1) _ _ hW hS _ (lv_sub hl [2, 0] rfl)
  refine lv_iconst (v := 0) hx hb dX7_quoteFixingRequest_0 (by decide) ?_
  refine lv_istore_n (lv' := [(1, .int 0), (0, .ref (ad (1, 0)))]) hx hb dX7_quoteFixingRequest_1 rfl hl (by decide) rfl (fun ls hl => ?_)
  exact loop _ 0 (Nat.lt_succ_self _) (Nat.zero_le _) (fun j hj => absurd hj (Nat.not_lt_zero _)) _ _ hW hS _ (lv_sub hl [1, 0] rfl)

set_option maxHeartbeats 4000000 in
set_option maxRecDepth 100000 in
theorem c_X7_answerTo (l : Launch) (X : GX) (L : List ro) (ad : ro → Nat) (st0 : ro → va_E) (ci : Nat → Nat → Int32) (ca : Nat → Nat → Nat → Int32) (cr : Nat → Nat → Nat) (n w tot nt : Nat) (kp nx : Nat → Nat) (hV : cV L ci ca cr n w tot nt kp nx) (i j : Nat) (hi : i < 6) (hj : j < 4) : gMi l yX7_answerTo cX7_answerTo 4 (some .int) 8 213 2 158 X [.ref (ad (1, 0)), .ref (ad (20, i)), .ref (ad (30, j))] L ad (cSt X ad st0 ci ca cr) (fun v u => ∃ L' ad' ci' ca' cr', u = (L', ad', cSt X ad' st0 ci' ca' cr') ∧ (∀ x : ro, x ≠ (40, cr 13 0) → x ≠ (12, 0) → ad' x = ad x) ∧ ansP L ci ca cr w i j (kp i) (nx i) v L' ci' ca' cr') := by
  intro sz
  refine gM_of2 (Qc := fun A => va_Qi _ (gB X A) A) (by decide) (Nat.le_of_ble_eq_true rfl) ?_ sz
  intro p e s m args below meth c A R Q hR hQ C hW hS ls hl
  obtain ⟨hR1, hR2, hR3, hR4⟩ := hR
  have hx := C.1.1
  have hb := C.1.2.1
  have hml := C.1.2.2.1
  have hl : lv_has ls 4 [(0, .ref (ad (1, 0))), (1, .ref (ad (20, i))), (2, .ref (ad (30, j)))] := hl
  obtain ⟨vR, vA, vN, vq, vp, vt, vQ, vP, vC, vX, vT, vW, vG, vS⟩ := id hV
  obtain ⟨vT1, vT2, vT3⟩ := vT
  obtain ⟨vW1, vW2⟩ := vW
  obtain ⟨vG1, vG2, vG3⟩ := vG
  obtain ⟨vN1, vN2⟩ := vN
  refine lv_aload_n hx hb dX7_answerTo_0 rfl (lv_at hl 1 rfl) ?_
  refine lv_aload_n hx hb dX7_answerTo_1 rfl (lv_at hl 0 rfl) ?_
  refine g_get (r := (1, 0)) (Cn := RX7) (T := TX7) (N := 7) (ci := 10) (v := .int (ci 1 0)) C tinX7 hW (hV.r (by decide)) rfl rfl 6 (by decide) tw_1_212 (fun _ h9 => h9) rfl dX7_answerTo_2 ?_
  refine lv_topE (y := nI w) (by show ci 1 0 = nI w; exact hV.2.2.2.2.2.2.2.2.2.2.2.1.1) ?_
  refine g_callVi (r := (20, i)) (T := TX5) (N := 7) (k2 := 1) (As := [.int (nI w)]) (rest := []) C (c_X5_callsLeft l X L ad st0 ci ca cr i (hV.ship (by first | omega | exact (hV.pc (by omega)).2)).1 (hV.ship (by first | omega | exact (hV.pc (by omega)).2)).2 (nI w) (kp i) (vS i (by first | omega | exact (hV.pc (by omega)).2)).1 (vS i (by first | omega | exact (hV.pc (by omega)).2)).2.1) tw_4_124 tw_4_125 tw_4_126 tw_1_7 tw_4_127 (by decide +kernel) ⟨by rw [hR1]; exact Nat.le_of_ble_eq_true rfl, by rw [hR2]; exact Nat.le_of_ble_eq_true rfl⟩ hW hS (hV.ship (by first | omega | exact (hV.pc (by omega)).2)).1 rfl rfl rfl hl.1 rfl (Nat.le_of_ble_eq_true rfl) dX7_answerTo_5 ⟨by rw [hR3]; exact Nat.le_of_ble_eq_true rfl, by rw [hR4]; exact Nat.le_of_ble_eq_true rfl⟩ (fun x1 L9 ad9 st9 H locs hp hW hS => ?_)
  obtain ⟨ci9, ca9, cr9, z0, hp⟩ := hp
  cases z0
  obtain ⟨z1, z2, z3, h2⟩ := hp
  rw [z1, z2, z3] at hW
  subst h2
  refine lv_topE (y := lftC (ci 20 i) (cntL (ca 21 i) (nI w - ci 21 i) (kp i))) rfl ?_
  refine lv_if_ne (tgt := 14) hx hb dX7_answerTo_8 (by decide) (fun c3 => ?_) (fun c3 => ?_)
  · refine lv_aload_n hx hb dX7_answerTo_14 rfl (lv_at hl 1 rfl) ?_
    refine lv_aload_n hx hb dX7_answerTo_15 rfl (lv_at hl 0 rfl) ?_
    refine g_get (r := (1, 0)) (Cn := RX7) (T := TX7) (N := 7) (ci := 10) (v := .int (ci 1 0)) C tinX7 hW (hV.r (by decide)) rfl rfl 6 (by decide) tw_1_212 (fun _ h9 => h9) rfl dX7_answerTo_16 ?_
    refine lv_topE (y := nI w) (by show ci 1 0 = nI w; exact hV.2.2.2.2.2.2.2.2.2.2.2.1.1) ?_
    refine g_callVv (r := (20, i)) (T := TX5) (N := 7) (k2 := 1) (As := [.int (nI w)]) (rest := []) C (c_X5_keepCall l X L ad st0 ci ca cr i (hV.ship (by first | omega | exact (hV.pc (by omega)).2)).1 (hV.ship (by first | omega | exact (hV.pc (by omega)).2)).2 (nI w) (kp i) (nx i) (vS i hi).1 (vS i hi).2.1 (vS i hi).2.2.1 (vS i hi).2.2.2) tw_4_129 tw_4_130 tw_4_131 tw_1_7 tw_4_132 (by decide +kernel) ⟨by rw [hR1]; exact Nat.le_of_ble_eq_true rfl, by rw [hR2]; exact Nat.le_of_ble_eq_true rfl⟩ hW hS (hV.ship (by first | omega | exact (hV.pc (by omega)).2)).1 rfl rfl rfl hl.1 rfl (Nat.le_of_ble_eq_true rfl) dX7_answerTo_19 ⟨by rw [hR3]; exact Nat.le_of_ble_eq_true rfl, by rw [hR4]; exact Nat.le_of_ble_eq_true rfl⟩ (fun L9 ad9 st9 H locs hp hW hS => ?_)
    obtain ⟨ci9, ca9, cr9, z0, hp⟩ := hp
    cases z0
    obtain ⟨z1, z2, z3⟩ := hp
    rw [z1, z2, z3] at hW
    refine lv_aload_n hx hb dX7_answerTo_22 rfl (lv_at hl 0 rfl) ?_
    refine g_callVq (r := (1, 0)) (T := TX7) (N := 7) (k2 := 0) (As := []) (rest := []) C (c_X7_quoteFixingRequest l X L ad st0 (kcI ci i (kp i) (nx i)) (kcA ca i (nx i) w) cr n w tot nt (updN kp i (kcP (kp i) (nx i))) (updN nx i ((if nx i < 50 then nx i else 0) + 1)) (cV_keep hi hV)) tw_4_133 tw_4_135 tw_0_15 tw_1_1 tw_4_136 (by decide +kernel) ⟨by rw [hR1]; exact Nat.le_of_ble_eq_true rfl, by rw [hR2]; exact Nat.le_of_ble_eq_true rfl⟩ hW hS (hV.r (by decide)) rfl rfl rfl hl.1 rfl (Nat.le_of_ble_eq_true rfl) dX7_answerTo_23 ⟨by rw [hR3]; exact Nat.le_of_ble_eq_true rfl, by rw [hR4]; exact Nat.le_of_ble_eq_true rfl⟩ (fun v5 L9 ad9 st9 H locs hp hW hS => ?_)
    obtain ⟨z0, hq9⟩ := hp
    cases z0
    rcases hq9 with ⟨hv9, hno⟩ | ⟨k, hk, hv9, hq9⟩
    · subst hv9
      refine lv_topV (y := .null) rfl ?_
      refine lv_astore_nN (lv' := [(3, .null), (0, .ref (ad (1, 0))), (1, .ref (ad (20, i))), (2, .ref (ad (30, j)))]) hx hb dX7_answerTo_26 rfl hl (by decide) rfl (fun ls hl => ?_)
      refine lv_aload_nN hx hb dX7_answerTo_27 rfl (lv_at hl 0 rfl) ?_
      refine lv_ifnullN (tgt := 54) hx hb dX7_answerTo_28 (by decide) ?_
      refine lv_aload_n hx hb dX7_answerTo_54 rfl (lv_at hl 3 rfl) ?_
      refine lv_aload_n hx hb dX7_answerTo_55 rfl (lv_at hl 1 rfl) ?_
      refine g_get (r := (1, 0)) (Cn := RX7) (T := TX7) (N := 7) (ci := 10) (v := .int ((kcI ci i (kp i) (nx i)) 1 0)) C tinX7 hW (hV.r (by decide)) rfl rfl 6 (by decide) tw_1_212 (fun _ h9 => h9) rfl dX7_answerTo_56 ?_
      refine lv_topE (y := nI w) (by show (kcI ci i (kp i) (nx i)) 1 0 = nI w; exact hV.2.2.2.2.2.2.2.2.2.2.2.1.1) ?_
      refine g_callVi (r := (30, j)) (T := TX1) (N := 7) (k2 := 1) (As := [.int (nI w)]) (rest := []) C (c_X1_circuitAt l X L ad st0 (kcI ci i (kp i) (nx i)) (kcA ca i (nx i) w) cr j (hV.carr (by first | omega | exact (hV.pc (by omega)).2)) (nI w)) tw_5_15 tw_5_16 tw_5_17 tw_1_8 tw_5_18 (by decide +kernel) ⟨by rw [hR1]; exact Nat.le_of_ble_eq_true rfl, by rw [hR2]; exact Nat.le_of_ble_eq_true rfl⟩ hW hS (hV.carr (by first | omega | exact (hV.pc (by omega)).2)) rfl rfl rfl hl.1 rfl (Nat.le_of_ble_eq_true rfl) dX7_answerTo_59 ⟨by rw [hR3]; exact Nat.le_of_ble_eq_true rfl, by rw [hR4]; exact Nat.le_of_ble_eq_true rfl⟩ (fun x7 L9 ad9 st9 H locs hp hW hS => ?_)
      obtain ⟨ci9, ca9, cr9, z0, hp⟩ := hp
      cases z0
      obtain ⟨z1, z2, z3, h8⟩ := hp
      rw [z1, z2, z3] at hW
      subst h8
      refine lv_topE (y := crcC (ci 34 j) (nI w) (ci 35 j)) rfl ?_
      refine lv_iconst (v := 1) hx hb dX7_answerTo_62 (by decide) ?_
      refine lv_icmp_ne (tgt := 79) hx hb dX7_answerTo_63 (by decide) (fun c9 => ?_) (fun c9 => ?_)
      · refine lv_aload_n hx hb dX7_answerTo_79 rfl (lv_at hl 3 rfl) ?_
        refine lv_aload_n hx hb dX7_answerTo_80 rfl (lv_at hl 1 rfl) ?_
        refine g_get (r := (1, 0)) (Cn := RX7) (T := TX7) (N := 7) (ci := 10) (v := .int ((kcI ci i (kp i) (nx i)) 1 0)) C tinX7 hW (hV.r (by decide)) rfl rfl 6 (by decide) tw_1_212 (fun _ h9 => h9) rfl dX7_answerTo_81 ?_
        refine lv_topE (y := nI w) (by show (kcI ci i (kp i) (nx i)) 1 0 = nI w; exact hV.2.2.2.2.2.2.2.2.2.2.2.1.1) ?_
        refine g_callVi (r := (30, j)) (T := TX1) (N := 7) (k2 := 1) (As := [.int (nI w)]) (rest := []) C (c_X1_answersAt l X L ad st0 (kcI ci i (kp i) (nx i)) (kcA ca i (nx i) w) cr j (hV.carr (by first | omega | exact (hV.pc (by omega)).2)) (nI w)) tw_5_19 tw_5_20 tw_5_21 tw_1_8 tw_5_22 (by decide +kernel) ⟨by rw [hR1]; exact Nat.le_of_ble_eq_true rfl, by rw [hR2]; exact Nat.le_of_ble_eq_true rfl⟩ hW hS (hV.carr (by first | omega | exact (hV.pc (by omega)).2)) rfl rfl rfl hl.1 rfl (Nat.le_of_ble_eq_true rfl) dX7_answerTo_84 ⟨by rw [hR3]; exact Nat.le_of_ble_eq_true rfl, by rw [hR4]; exact Nat.le_of_ble_eq_true rfl⟩ (fun v9 L9 ad9 st9 H locs hp hW hS => ?_)
        obtain ⟨ci9, ca9, cr9, z0, hp⟩ := hp
        cases z0
        obtain ⟨z1, z2, z3, h10⟩ := hp
        rw [z1, z2, z3] at hW
        rcases h10 with ⟨h10, e9⟩ | ⟨h10, e9⟩
        · subst e9
          refine lv_if_ne (tgt := 103) hx hb dX7_answerTo_87 (by decide) (fun _ => ?_) (fun c9 => absurd c9 (by decide))
          refine lv_aload_n hx hb dX7_answerTo_103 rfl (lv_at hl 2 rfl) ?_
          refine lv_dup hx hb dX7_answerTo_104 rfl ?_
          refine g_get (r := (20, i)) (Cn := RX5) (T := TX5) (N := 7) (ci := 8) (v := .int ((cset (kcI ci i (kp i) (nx i)) j (askC (nI w) (ci 30 j) (ci 31 j) 3 (ccr ci j)).2) 22 i)) C tinX5 hW (hV.ship (by first | omega | exact (hV.pc (by omega)).2)).1 rfl rfl 2 (by decide) tw_1_134 (fun _ h9 => h9) rfl dX7_answerTo_105 ?_
          refine lv_iconst (v := 3) hx hb dX7_answerTo_108 (by decide) ?_
          refine lv_iadd hx hb dX7_answerTo_109 ?_
          refine lv_topE (y := (cset (kcI ci i (kp i) (nx i)) j (askC (nI w) (ci 30 j) (ci 31 j) 3 (ccr ci j)).2) 22 i + 3) rfl ?_
          refine g_put (r := (20, i)) (Cn := RX5) (T := TX5) (N := 7) (ci := 8) (ty0 := tyX5) C tinX5 tyX5_ok nmX5 hW hS (hV.ship (by first | omega | exact (hV.pc (by omega)).2)).1 rfl rfl 2 (by decide) tw_1_134 (fun _ h9 => h9) rfl rfl rfl (Nat.le_of_ble_eq_true rfl) (cU_20_2 i _ _ rfl) dX7_answerTo_110 (fun H locs hW hS => ?_)
          refine lv_aload_n hx hb dX7_answerTo_113 rfl (lv_at hl 1 rfl) ?_
          refine lv_aload_n hx hb dX7_answerTo_114 rfl (lv_at hl 3 rfl) ?_
          refine g_get (r := (30, j)) (Cn := RX1) (T := TX1) (N := 7) (ci := 4) (v := .ref (ad (31, cr 30 j))) C tinX1 hW (hV.carr (by first | omega | exact (hV.pc (by omega)).2)) rfl rfl 3 (by decide) tw_1_187 (fun _ h9 => h9) rfl dX7_answerTo_115 ?_
          refine lv_aload_n hx hb dX7_answerTo_118 rfl (lv_at hl 1 rfl) ?_
          refine g_get (r := (1, 0)) (Cn := RX7) (T := TX7) (N := 7) (ci := 10) (v := .int ((cset (kcI ci i (kp i) (nx i)) j (askC (nI w) (ci 30 j) (ci 31 j) 3 (ccr ci j)).2) 1 0)) C tinX7 hW (hV.r (by decide)) rfl rfl 6 (by decide) tw_1_212 (fun _ h9 => h9) rfl dX7_answerTo_119 ?_
          refine lv_topE (y := nI w) (by show (cset (kcI ci i (kp i) (nx i)) j (askC (nI w) (ci 30 j) (ci 31 j) 3 (ccr ci j)).2) 1 0 = nI w; exact hV.2.2.2.2.2.2.2.2.2.2.2.1.1) ?_
          refine lv_bipush (v := 60) hx hb dX7_answerTo_122 (by decide) ?_
          refine lv_iadd hx hb dX7_answerTo_124 ?_
          refine lv_topE (y := nI (w + 60)) (nI_add w 60) ?_
          refine g_callVi (r := (1, 0)) (T := TX7) (N := 7) (k2 := 2) (As := [.ref (ad (31, cr 30 j)), .int (nI (w + 60))]) (rest := []) C (c_X7_addQuote l X L ad st0 (up2 (cset (kcI ci i (kp i) (nx i)) j (askC (nI w) (ci 30 j) (ci 31 j) 3 (ccr ci j)).2) 22 i ((cset (kcI ci i (kp i) (nx i)) j (askC (nI w) (ci 30 j) (ci 31 j) 3 (ccr ci j)).2) 22 i + 3)) (kcA ca i (nx i) w) cr n w tot nt (updN kp i (kcP (kp i) (nx i))) (updN nx i ((if nx i < 50 then nx i else 0) + 1)) (cV_22 (cV_cset (cV_keep hi hV))) (cr 30 j) (hV.ct j) (nI (w + 60))) tw_4_164 tw_4_166 tw_0_16 tw_1_1 tw_4_167 (by decide +kernel) ⟨by rw [hR1]; exact Nat.le_of_ble_eq_true rfl, by rw [hR2]; exact Nat.le_of_ble_eq_true rfl⟩ hW hS (hV.r (by decide)) rfl rfl rfl hl.1 rfl (Nat.le_of_ble_eq_true rfl) dX7_answerTo_125 ⟨by rw [hR3]; exact Nat.le_of_ble_eq_true rfl, by rw [hR4]; exact Nat.le_of_ble_eq_true rfl⟩ (fun x12 L9 ad9 st9 H locs hp hW hS => ?_)
          obtain ⟨L', ad', cap, z0, hL', had', hc1, hc2, hc3, hv9⟩ := hp
          cases z0
          subst hv9
          exact g_iret2 C hQ hW hS ⟨_, _, _, _, _, rfl, had', Or.inr ⟨(by assumption), Or.inr ⟨hno, Or.inr (Or.inr ⟨(by assumption), h10, ⟨cap, hc1, hc2, hc3, hL', rfl, rfl, rfl, rfl⟩⟩)⟩⟩⟩ rfl (Nat.le_of_ble_eq_true rfl) (Nat.le_of_ble_eq_true rfl) dX7_answerTo_128
        · subst e9
          refine lv_if_ne (tgt := 103) hx hb dX7_answerTo_87 (by decide) (fun c9 => absurd c9 (by decide)) (fun _ => ?_)
          refine lv_aload_n hx hb dX7_answerTo_90 rfl (lv_at hl 2 rfl) ?_
          refine lv_dup hx hb dX7_answerTo_91 rfl ?_
          refine g_get (r := (20, i)) (Cn := RX5) (T := TX5) (N := 7) (ci := 8) (v := .int ((cset (kcI ci i (kp i) (nx i)) j (askC (nI w) (ci 30 j) (ci 31 j) 3 (ccr ci j)).2) 22 i)) C tinX5 hW (hV.ship (by first | omega | exact (hV.pc (by omega)).2)).1 rfl rfl 2 (by decide) tw_1_134 (fun _ h9 => h9) rfl dX7_answerTo_92 ?_
          refine lv_iconst (v := 1) hx hb dX7_answerTo_95 (by decide) ?_
          refine lv_iadd hx hb dX7_answerTo_96 ?_
          refine lv_topE (y := (cset (kcI ci i (kp i) (nx i)) j (askC (nI w) (ci 30 j) (ci 31 j) 3 (ccr ci j)).2) 22 i + 1) rfl ?_
          refine g_put (r := (20, i)) (Cn := RX5) (T := TX5) (N := 7) (ci := 8) (ty0 := tyX5) C tinX5 tyX5_ok nmX5 hW hS (hV.ship (by first | omega | exact (hV.pc (by omega)).2)).1 rfl rfl 2 (by decide) tw_1_134 (fun _ h9 => h9) rfl rfl rfl (Nat.le_of_ble_eq_true rfl) (cU_20_2 i _ _ rfl) dX7_answerTo_97 (fun H locs hW hS => ?_)
          refine lv_bipush (v := (-4)) hx hb dX7_answerTo_100 (by decide) ?_
          exact g_iret2 C hQ hW hS ⟨_, _, _, _, _, rfl, fun _ _ _ => rfl, Or.inr ⟨(by assumption), Or.inr ⟨hno, Or.inr (Or.inl ⟨(by assumption), h10, rfl, rfl, rfl, rfl, rfl⟩)⟩⟩⟩ rfl (Nat.le_of_ble_eq_true rfl) (Nat.le_of_ble_eq_true rfl) dX7_answerTo_102
      · refine lv_aload_n hx hb dX7_answerTo_66 rfl (lv_at hl 2 rfl) ?_
        refine lv_dup hx hb dX7_answerTo_67 rfl ?_
        refine g_get (r := (20, i)) (Cn := RX5) (T := TX5) (N := 7) (ci := 8) (v := .int ((kcI ci i (kp i) (nx i)) 22 i)) C tinX5 hW (hV.ship (by first | omega | exact (hV.pc (by omega)).2)).1 rfl rfl 2 (by decide) tw_1_134 (fun _ h9 => h9) rfl dX7_answerTo_68 ?_
        refine lv_iconst (v := 1) hx hb dX7_answerTo_71 (by decide) ?_
        refine lv_iadd hx hb dX7_answerTo_72 ?_
        refine lv_topE (y := (kcI ci i (kp i) (nx i)) 22 i + 1) rfl ?_
        refine g_put (r := (20, i)) (Cn := RX5) (T := TX5) (N := 7) (ci := 8) (ty0 := tyX5) C tinX5 tyX5_ok nmX5 hW hS (hV.ship (by first | omega | exact (hV.pc (by omega)).2)).1 rfl rfl 2 (by decide) tw_1_134 (fun _ h9 => h9) rfl rfl rfl (Nat.le_of_ble_eq_true rfl) (cU_20_2 i _ _ rfl) dX7_answerTo_73 (fun H locs hW hS => ?_)
        refine lv_bipush (v := (-3)) hx hb dX7_answerTo_76 (by decide) ?_
        exact g_iret2 C hQ hW hS ⟨_, _, _, _, _, rfl, fun _ _ _ => rfl, Or.inr ⟨(by assumption), Or.inr ⟨hno, Or.inl ⟨(by assumption), rfl, rfl, rfl, rfl, rfl⟩⟩⟩⟩ rfl (Nat.le_of_ble_eq_true rfl) (Nat.le_of_ble_eq_true rfl) dX7_answerTo_78
    · subst hv9
      refine lv_topV (y := .ref (ad (40, k))) rfl ?_
      refine lv_astore_n (lv' := [(3, .ref (ad (40, k))), (0, .ref (ad (1, 0))), (1, .ref (ad (20, i))), (2, .ref (ad (30, j)))]) hx hb dX7_answerTo_26 rfl hl (by decide) rfl (fun ls hl => ?_)
      refine lv_aload_n hx hb dX7_answerTo_27 rfl (lv_at hl 0 rfl) ?_
      refine lv_ifnull hx hb dX7_answerTo_28 ?_
      refine lv_aload_n hx hb dX7_answerTo_31 rfl (lv_at hl 2 rfl) ?_
      refine lv_dup hx hb dX7_answerTo_32 rfl ?_
      refine g_get (r := (20, i)) (Cn := RX5) (T := TX5) (N := 7) (ci := 8) (v := .int ((kcI ci i (kp i) (nx i)) 22 i)) C tinX5 hW (hV.ship (by first | omega | exact (hV.pc (by omega)).2)).1 rfl rfl 2 (by decide) tw_1_134 (fun _ h9 => h9) rfl dX7_answerTo_33 ?_
      refine lv_iconst (v := 1) hx hb dX7_answerTo_36 (by decide) ?_
      refine lv_iadd hx hb dX7_answerTo_37 ?_
      refine lv_topE (y := (kcI ci i (kp i) (nx i)) 22 i + 1) rfl ?_
      refine g_put (r := (20, i)) (Cn := RX5) (T := TX5) (N := 7) (ci := 8) (ty0 := tyX5) C tinX5 tyX5_ok nmX5 hW hS (hV.ship (by first | omega | exact (hV.pc (by omega)).2)).1 rfl rfl 2 (by decide) tw_1_134 (fun _ h9 => h9) rfl rfl rfl (Nat.le_of_ble_eq_true rfl) (cU_20_2 i _ _ rfl) dX7_answerTo_38 (fun H locs hW hS => ?_)
      refine lv_aload_n hx hb dX7_answerTo_41 rfl (lv_at hl 1 rfl) ?_
      refine lv_aload_n hx hb dX7_answerTo_42 rfl (lv_at hl 0 rfl) ?_
      refine g_get (r := (40, k)) (Cn := RX3) (T := TX3) (N := 8) (ci := 6) (v := .ref (ad (31, cr 40 k))) C tinX3 hW (hV.qt (by first | omega | exact (hV.pc (by omega)).2)).1 rfl rfl 6 (by decide) tw_4_183 (fun _ h9 => h9) rfl dX7_answerTo_43 ?_
      refine lv_aload_n hx hb dX7_answerTo_46 rfl (lv_at hl 0 rfl) ?_
      refine g_get (r := (40, k)) (Cn := RX3) (T := TX3) (N := 8) (ci := 6) (v := .int ((kcI ci i (kp i) (nx i)) 46 k)) C tinX3 hW (hV.qt (by first | omega | exact (hV.pc (by omega)).2)).1 rfl rfl 7 (by decide) tw_4_185 (fun _ h9 => h9) rfl dX7_answerTo_47 ?_
      refine g_callVi (r := (1, 0)) (T := TX7) (N := 7) (k2 := 2) (As := [.ref (ad (31, cr 40 k)), .int ((kcI ci i (kp i) (nx i)) 46 k)]) (rest := []) C (c_X7_addQuote l X L ad st0 (up2 (kcI ci i (kp i) (nx i)) 22 i ((kcI ci i (kp i) (nx i)) 22 i + 1)) (kcA ca i (nx i) w) cr n w tot nt (updN kp i (kcP (kp i) (nx i))) (updN nx i ((if nx i < 50 then nx i else 0) + 1)) (cV_22 (cV_keep hi hV)) (cr 40 k) ((hV.2.2.2.2.2.1 _).mpr (hV.2.2.2.2.2.2.1 k hk).1) ((kcI ci i (kp i) (nx i)) 46 k)) tw_4_164 tw_4_166 tw_0_16 tw_1_1 tw_4_167 (by decide +kernel) ⟨by rw [hR1]; exact Nat.le_of_ble_eq_true rfl, by rw [hR2]; exact Nat.le_of_ble_eq_true rfl⟩ hW hS (hV.r (by decide)) rfl rfl rfl hl.1 rfl (Nat.le_of_ble_eq_true rfl) dX7_answerTo_50 ⟨by rw [hR3]; exact Nat.le_of_ble_eq_true rfl, by rw [hR4]; exact Nat.le_of_ble_eq_true rfl⟩ (fun x14 L9 ad9 st9 H locs hp hW hS => ?_)
      obtain ⟨L', ad', cap, z0, hL', had', hc1, hc2, hc3, hv9⟩ := hp
      cases z0
      subst hv9
      exact g_iret2 C hQ hW hS ⟨_, _, _, _, _, rfl, had', Or.inr ⟨(by assumption), Or.inl ⟨k, hk, hq9, ⟨cap, hc1, hc2, hc3, hL', rfl, rfl, rfl, rfl⟩⟩⟩⟩ rfl (Nat.le_of_ble_eq_true rfl) (Nat.le_of_ble_eq_true rfl) dX7_answerTo_53
  · refine lv_bipush (v := (-2)) hx hb dX7_answerTo_11 (by decide) ?_
    exact g_iret2 C hQ hW hS ⟨_, _, _, _, _, rfl, fun _ _ _ => rfl, Or.inl ⟨(by assumption), rfl, rfl, rfl, rfl, rfl⟩⟩ rfl (Nat.le_of_ble_eq_true rfl) (Nat.le_of_ble_eq_true rfl) dX7_answerTo_13

