section CN
variable {p : Program} {l : Launch} {e : Env} {R : Room} {s : State} {m : MethodId} {args : Array Value} {below : List Frame} {meth : Method} {c : Code} {H : Heap} {locs : List Loc} {cells slots : Nat} {Q : State → Prop}
variable {cc : ByteArray} {nL : Nat} {ret : Option FieldType} {own mname : String} {pc : Nat} {ls : Array Slot} {rest : List Value} {X : GX} {A : Nat → Prop} {L : List ro} {ad : ro → Nat} {st : ro → va_E}
/-- a static call over a link between classes of one nest -/
theorem g_callSiN {index n2 fr2 lc2 mc2 ms2 k2 : Nat} {host : String} {z : MethodName} {b2 : ByteArray} {ret2 : Option FieldType} {As st0 : List Value} {post : Int32 → WS → Prop} (C : gCx p s m args meth c cc nL ret own mname X A) (hM : gMi l z b2 n2 ret2 fr2 lc2 mc2 ms2 X As L ad st post)
    (h1 : va_Nw (.methodLinkNest own index z host) s) (h2 : Cond.static z ∈ TB) (h4 : Cond.initialized z.cls ∈ TB) (h5 : Cond.code z b2 n2 ret2 ∈ TB) (hd : z.cls ≠ "java/lang/invoke/MethodHandle" ∧ z.cls ≠ "java/lang/invoke/VarHandle" ∧ (parseMethodDescriptor z.desc).map (fun d => d.parameters.length) = some k2) (hR : fr2 + 1 ≤ R.frames ∧ 8 + (n2 + 11) + lc2 ≤ R.locals)
    (hW : gW X A L ad st s H) (hS : va_S A s.heap H locs) (hk : As.length = k2) (hsz : ls.size = nL) (hst : st0 = As.reverse ++ rest) (hcat : (rest.map fun v => v.category).sum ≤ 8) (hdg : decode cc pc = .ok (.invokestatic index, 3)) (hcs : cells + mc2 ≤ R.cells ∧ slots + ms2 ≤ R.slots)
    (kk : ∀ (v : Int32) (L' : List ro) (ad' : ro → Nat) (st' : ro → va_E) (H1 : Heap) (locs1 : List Loc), post v (L', ad', st') → gW X A L' ad' st' s H1 → va_S A s.heap H1 locs1 → W p l e R s m args below meth c H1 locs1 (cells + mc2) (slots + ms2) Q (F0 m (pc + 3) ls (.int v :: rest))) : W p l e R s m args below meth c H locs cells slots Q (F0 m pc ls st0) := by
  have hf := g_free C hW hS
  have hts := C.1.2.2.2.2
  exact va_calli (va_runSN (As := As) (rest := rest) C.1 (hM H.size) ⟨va_cnB k2 hts (tW_good h5) rfl rfl rfl h1 (hts _ h4) hd hR, hts _ h2, trivial⟩ ⟨gPre_blind, g_pre C hW hS⟩ rfl hk hsz hst (lv_room hcat) hdg hcs) hS (fun q _ h => hf q h) hf (fun v u t H1 locs1 ht hvm hp hB _ _ hS1 => kk v u.1 u.2.1 u.2.2 H1 locs1 hp (g_back hf ht hvm hB) hS1)
theorem g_callSpN {index n2 fr2 lc2 k2 : Nat} {host : String} {z : MethodName} {b2 : ByteArray} {ret2 : Option FieldType} {As st1 : List Value} {P : Int32 → Prop} (C : gCx p s m args meth c cc nL ret own mname X A) (hM : gS l z b2 n2 ret2 fr2 lc2 X As L ad st P)
    (h1 : va_Nw (.methodLinkNest own index z host) s) (h2 : Cond.static z ∈ TB) (h4 : Cond.initialized z.cls ∈ TB) (h5 : Cond.code z b2 n2 ret2 ∈ TB) (hd : z.cls ≠ "java/lang/invoke/MethodHandle" ∧ z.cls ≠ "java/lang/invoke/VarHandle" ∧ (parseMethodDescriptor z.desc).map (fun d => d.parameters.length) = some k2) (hR : fr2 + 1 ≤ R.frames ∧ 8 + (n2 + 11) + lc2 ≤ R.locals)
    (hW : gW X A L ad st s H) (hS : va_S A s.heap H locs) (hk : As.length = k2) (hsz : ls.size = nL) (hst : st1 = As.reverse ++ rest) (hcat : (rest.map fun v => v.category).sum ≤ 8) (hdg : decode cc pc = .ok (.invokestatic index, 3)) (hcs : cells ≤ R.cells ∧ slots ≤ R.slots)
    (kk : ∀ (v : Int32) (H1 : Heap) (locs1 : List Loc), P v → gW X A L ad st s H1 → va_S A s.heap H1 locs1 → W p l e R s m args below meth c H1 locs1 cells slots Q (F0 m (pc + 3) ls (.int v :: rest))) : W p l e R s m args below meth c H locs cells slots Q (F0 m pc ls st1) :=
  g_callSiN C hM h1 h2 h4 h5 hd hR hW hS hk hsz hst hcat hdg hcs (fun v L' ad' st' H1 locs1 hp hW1 hS1 => by
    obtain ⟨eq, hp⟩ := hp
    cases eq
    exact kk v H1 locs1 hp hW1 hS1)
end CN
/-- the value that a part of key kk has -/
def rdvC (t : Nat → Int32) (kk a b : Nat) : Int32 := match kk with | 0 => rdgC t a b 5 | 1 => rdgC t a b 3 | 2 => rdgC t a b 7 | 3 => rdgC t a b 7 | 4 => rdwC t a b | _ => rdxC t a b
set_option maxHeartbeats 4000000 in
set_option maxRecDepth 100000 in
theorem c_X4_readWeight (l : Launch) (X : GX) (L : List ro) (ad : ro → Nat) (st0 : ro → va_E) (ci : Nat → Nat → Int32) (ca : Nat → Nat → Nat → Int32) (cr : Nat → Nat → Nat) (mA2 : (2, 0) ∈ L) (mA3 : (3, 0) ∈ L) (n : Nat) (hn : ci 2 0 = nI n) (hn60 : n ≤ 60) (hch : ∀ j, ∃ q : Nat, q < 65536 ∧ ca 3 0 j = nI q) (a b : Nat) (hab : a ≤ b) (hbn : b ≤ n) : cM l yX4_readWeight cX4_readWeight 6 (some .int) 1 22 X [.ref (ad (2, 0)), .int (nI a), .int (nI b)] L ad st0 ci ca cr (fun v ci' ca' cr' => ci' = ci ∧ ca' = ca ∧ cr' = cr ∧ v = rdwC (ca 3 0) a b) := by
  intro sz
  refine gM_of2 (Qc := fun A => va_Qi _ (gB X A) A) (by decide) (Nat.le_of_ble_eq_true rfl) ?_ sz
  intro p e s m args below meth c A R Q hR hQ C hW hS ls hl
  obtain ⟨hR1, hR2, hR3, hR4⟩ := hR
  have hx := C.1.1
  have hb := C.1.2.1
  have hml := C.1.2.2.1
  have hl : lv_has ls 6 [(0, .ref (ad (2, 0))), (1, .int (nI a)), (2, .int (nI b))] := hl
  have loop : ∀ (f : Nat) (k : Nat) (its : Int32), (b - k < f) → (a ≤ k ∧ k ≤ b) → (rd_num (ca 3 0) (b - a) a 0 = rd_num (ca 3 0) (b - k) k its) → (a < b ∧ b - a ≤ 5) → ∀ (H : Heap) (locs : List Loc), gW X A L ad (cSt X ad st0 ci ca cr) s H → va_S A s.heap H locs → ∀ ls : Array Slot, lv_has ls 6 [(0, .ref (ad (2, 0))), (1, .int (nI a)), (2, .int (nI b)), (3, .int its), (4, .int (nI k))] → W p l e R s m args below meth c H locs 0 0 Q (F0 m 18 ls []) := by
    intro f
    induction f with
    | zero =>
      intro k its hf9
      exact absurd hf9 (Nat.not_lt_zero _)
    | succ f ih =>
      intro k its hf hk hF hw H locs hW hS ls hl
      refine lv_iload hx hb dX4_readWeight_18 (lv_at hl 4 rfl) ?_
      refine lv_iload_n hx hb dX4_readWeight_20 rfl (lv_at hl 2 rfl) ?_
      refine lv_icmp_ge (tgt := 59) hx hb dX4_readWeight_21 (by decide) (fun c1 => ?_) (fun c1 => ?_)
      · have c1n := q_le (a := b) (b := k) (by omega) (by omega) c1
        refine lv_iload_n hx hb dX4_readWeight_59 rfl (lv_at hl 3 rfl) ?_
        refine lv_iconst (v := 1) hx hb dX4_readWeight_60 (by decide) ?_
        refine lv_sipush (v := 30000) hx hb dX4_readWeight_61 (by decide) ?_
        refine g_callSpN (k2 := 3) (As := [.int its, .int 1, .int 30000]) (rest := []) C (c_X7_isWithin l X L ad _ its 1 30000) (C.2.2.2.2.2.2.2.1 ("RateGate$Request", 116, ⟨"RateGate", "isWithin", "(III)Z"⟩, "RateGate") (by decide +kernel)) tw_2_160 tw_1_1 tw_2_161 (by decide +kernel) ⟨by rw [hR1]; exact Nat.le_of_ble_eq_true rfl, by rw [hR2]; exact Nat.le_of_ble_eq_true rfl⟩ hW hS rfl hl.1 rfl (Nat.le_of_ble_eq_true rfl) dX4_readWeight_64 ⟨Nat.zero_le _, Nat.zero_le _⟩ (fun v9 H locs hp hW hS => ?_)
        have h2 := hp
        rcases h2 with ⟨h2, e9⟩ | ⟨h2, e9⟩
        · subst e9
          refine lv_if_eq (tgt := 74) hx hb dX4_readWeight_67 (by decide) (fun c9 => absurd c9 (by decide)) (fun _ => ?_)
          refine lv_iload_n hx hb dX4_readWeight_70 rfl (lv_at hl 3 rfl) ?_
          refine lv_goto (tgt := 75) hx hb dX4_readWeight_71 (by decide) ?_
          exact g_iret2 C hQ hW hS ⟨_, _, _, rfl, rfl, rfl, rfl, by have e9 : rd_num (ca 3 0) (b - a) a 0 = its := by { rw [hF, rd_done (by omega)] }; unfold rdwC; grind⟩ rfl (Nat.zero_le _) (Nat.zero_le _) dX4_readWeight_75
        · subst e9
          refine lv_if_eq (tgt := 74) hx hb dX4_readWeight_67 (by decide) (fun _ => ?_) (fun c9 => absurd (by decide) c9)
          refine lv_iconst (v := (-1)) hx hb dX4_readWeight_74 (by decide) ?_
          exact g_iret2 C hQ hW hS ⟨_, _, _, rfl, rfl, rfl, rfl, by have e9 : rd_num (ca 3 0) (b - a) a 0 = its := by { rw [hF, rd_done (by omega)] }; unfold rdwC; grind⟩ rfl (Nat.zero_le _) (Nat.zero_le _) dX4_readWeight_75
      · have c1n := q_nle (a := b) (b := k) (by omega) (by omega) c1
        refine lv_aload_n hx hb dX4_readWeight_24 rfl (lv_at hl 0 rfl) ?_
        refine lv_iload hx hb dX4_readWeight_25 (lv_at hl 4 rfl) ?_
        refine g_callVi (r := (2, 0)) (T := TX4) (N := 5) (k2 := 1) (As := [.int (nI k)]) (rest := []) C (c_X4_signAt l X L ad st0 ci ca cr mA2 mA3 k (by omega) n hn hn60 hch) tw_2_19 tw_2_21 tw_0_2 tw_1_2 tw_2_22 (by decide +kernel) ⟨by rw [hR1]; exact Nat.le_of_ble_eq_true rfl, by rw [hR2]; exact Nat.le_of_ble_eq_true rfl⟩ hW hS mA2 rfl rfl rfl hl.1 rfl (Nat.le_of_ble_eq_true rfl) dX4_readWeight_27 ⟨Nat.zero_le _, Nat.zero_le _⟩ (fun x3 L9 ad9 st9 H locs hp hW hS => ?_)
        obtain ⟨ci9, ca9, cr9, z0, hp⟩ := hp
        cases z0
        obtain ⟨z1, z2, z3, h4⟩ := hp
        rw [z1, z2, z3] at hW
        refine lv_istore (lv' := [(5, .int x3), (0, .ref (ad (2, 0))), (1, .int (nI a)), (2, .int (nI b)), (3, .int its), (4, .int (nI k))]) hx hb dX4_readWeight_30 hl (by decide) rfl (fun ls hl => ?_)
        refine lv_iload hx hb dX4_readWeight_32 (lv_at hl 0 rfl) ?_
        refine g_callSp (k2 := 1) (As := [.int x3]) (rest := []) C (c_X4_isDigit l X L ad _ x3) tw_2_152 tw_2_153 tw_1_2 tw_2_154 (by decide +kernel) ⟨by rw [hR1]; exact Nat.le_of_ble_eq_true rfl, by rw [hR2]; exact Nat.le_of_ble_eq_true rfl⟩ hW hS rfl hl.1 rfl (Nat.le_of_ble_eq_true rfl) dX4_readWeight_34 ⟨Nat.zero_le _, Nat.zero_le _⟩ (fun v9 H locs hp hW hS => ?_)
        have h5 := hp
        rcases h5 with ⟨h5, e9⟩ | ⟨h5, e9⟩
        · subst e9
          refine lv_if_ne (tgt := 42) hx hb dX4_readWeight_37 (by decide) (fun _ => ?_) (fun c9 => absurd c9 (by decide))
          refine lv_iload_n hx hb dX4_readWeight_42 rfl (lv_at hl 4 rfl) ?_
          refine lv_bipush (v := 10) hx hb dX4_readWeight_43 (by decide) ?_
          refine lv_imul hx hb dX4_readWeight_45 ?_
          refine lv_topi (fun x6 ex6 => ?_)
          refine lv_iload hx hb dX4_readWeight_46 (lv_at hl 0 rfl) ?_
          refine lv_bipush (v := 48) hx hb dX4_readWeight_48 (by decide) ?_
          refine lv_isub hx hb dX4_readWeight_50 ?_
          refine lv_topi (fun x7 ex7 => ?_)
          refine lv_iadd hx hb dX4_readWeight_51 ?_
          refine lv_topi (fun x8 ex8 => ?_)
          refine lv_istore_n (lv' := [(3, .int x8), (5, .int x3), (0, .ref (ad (2, 0))), (1, .int (nI a)), (2, .int (nI b)), (4, .int (nI k))]) hx hb dX4_readWeight_52 rfl hl (by decide) rfl (fun ls hl => ?_)
          refine lv_iinc (v := nI (k + 1)) (lv' := [(4, .int (nI (k + 1))), (3, .int x8), (5, .int x3), (0, .ref (ad (2, 0))), (1, .int (nI a)), (2, .int (nI b))]) hx hb dX4_readWeight_53 hl (k := 5) rfl (nI_1 k) (by decide) rfl (fun ls hl => ?_)
          refine lv_goto (tgt := 18) hx hb dX4_readWeight_56 (by decide) ?_
          exact ih (k + 1) x8 (by omega) (by omega) (by rw [hF, rd_step (by omega), if_pos (by grind)]; congr 1; grind) hw _ _ hW hS _ (lv_sub hl [3, 4, 5, 1, 0] rfl)
        · subst e9
          refine lv_if_ne (tgt := 42) hx hb dX4_readWeight_37 (by decide) (fun c9 => absurd c9 (by decide)) (fun _ => ?_)
          refine lv_iconst (v := (-1)) hx hb dX4_readWeight_40 (by decide) ?_
          exact g_iret2 C hQ hW hS ⟨_, _, _, rfl, rfl, rfl, rfl, by rw [rdwC, if_neg]; intro q; apply q.2.1; rw [hF, rd_step (by omega), if_neg (by grind)]⟩ rfl (Nat.zero_le _) (Nat.zero_le _) dX4_readWeight_41
  refine lv_iload_n hx hb dX4_readWeight_0 rfl (lv_at hl 2 rfl) ?_
  refine lv_iload_n hx hb dX4_readWeight_1 rfl (lv_at hl 1 rfl) ?_
  refine lv_isub hx hb dX4_readWeight_2 ?_
  refine lv_topE (y := nI (b - a)) (pk_sub (by omega)) ?_
  refine lv_iconst (v := 1) hx hb dX4_readWeight_3 (by decide) ?_
  refine lv_iconst (v := 5) hx hb dX4_readWeight_4 (by decide) ?_
  refine g_callSpN (k2 := 3) (As := [.int (nI (b - a)), .int 1, .int 5]) (rest := []) C (c_X7_isWithin l X L ad _ (nI (b - a)) 1 5) (C.2.2.2.2.2.2.2.1 ("RateGate$Request", 116, ⟨"RateGate", "isWithin", "(III)Z"⟩, "RateGate") (by decide +kernel)) tw_2_160 tw_1_1 tw_2_161 (by decide +kernel) ⟨by rw [hR1]; exact Nat.le_of_ble_eq_true rfl, by rw [hR2]; exact Nat.le_of_ble_eq_true rfl⟩ hW hS rfl hl.1 rfl (Nat.le_of_ble_eq_true rfl) dX4_readWeight_5 ⟨Nat.zero_le _, Nat.zero_le _⟩ (fun v9 H locs hp hW hS => ?_)
  have h10 := hp
  rcases h10 with ⟨h10, e9⟩ | ⟨h10, e9⟩
  · subst e9
    have hw : a < b ∧ b - a ≤ 5 := wiN (by omega) h10
    refine lv_if_ne (tgt := 13) hx hb dX4_readWeight_8 (by decide) (fun _ => ?_) (fun c9 => absurd c9 (by decide))
    refine lv_iconst (v := 0) hx hb dX4_readWeight_13 (by decide) ?_
    refine lv_istore_n (lv' := [(3, .int 0), (0, .ref (ad (2, 0))), (1, .int (nI a)), (2, .int (nI b))]) hx hb dX4_readWeight_14 rfl hl (by decide) rfl (fun ls hl => ?_)
    refine lv_iload_n hx hb dX4_readWeight_15 rfl (lv_at hl 2 rfl) ?_
    refine lv_istore (lv' := [(4, .int (nI a)), (3, .int 0), (0, .ref (ad (2, 0))), (1, .int (nI a)), (2, .int (nI b))]) hx hb dX4_readWeight_16 hl (by decide) rfl (fun ls hl => ?_)
    exact loop _ a 0 (Nat.lt_succ_self _) (⟨Nat.le_refl _, hab⟩) rfl hw _ _ hW hS _ (lv_sub hl [2, 3, 4, 1, 0] rfl)
  · subst e9
    have hw : ¬ (a < b ∧ b - a ≤ 5) := wiNn (by omega) h10
    refine lv_if_ne (tgt := 13) hx hb dX4_readWeight_8 (by decide) (fun c9 => absurd c9 (by decide)) (fun _ => ?_)
    refine lv_iconst (v := (-1)) hx hb dX4_readWeight_11 (by decide) ?_
    exact g_iret2 C hQ hW hS ⟨_, _, _, rfl, rfl, rfl, rfl, by rw [rdwC, if_neg (fun q => hw q.1)]⟩ rfl (Nat.zero_le _) (Nat.zero_le _) dX4_readWeight_12

set_option maxHeartbeats 4000000 in
set_option maxRecDepth 100000 in
theorem c_X4_readValue (l : Launch) (X : GX) (L : List ro) (ad : ro → Nat) (st0 : ro → va_E) (ci : Nat → Nat → Int32) (ca : Nat → Nat → Nat → Int32) (cr : Nat → Nat → Nat) (mA2 : (2, 0) ∈ L) (mA3 : (3, 0) ∈ L) (n : Nat) (hn : ci 2 0 = nI n) (hn60 : n ≤ 60) (hch : ∀ j, ∃ q : Nat, q < 65536 ∧ ca 3 0 j = nI q) (kk : Nat) (hkk6 : kk < 6) (a b : Nat) (hab : a ≤ b) (hbn : b ≤ n) : cM l yX4_readValue cX4_readValue 4 (some .int) 2 47 X [.ref (ad (2, 0)), .int (nI kk), .int (nI a), .int (nI b)] L ad st0 ci ca cr (fun v ci' ca' cr' => ci' = ci ∧ ca' = ca ∧ cr' = cr ∧ v = rdvC (ca 3 0) kk a b) := by
  intro sz
  refine gM_of2 (Qc := fun A => va_Qi _ (gB X A) A) (by decide) (Nat.le_of_ble_eq_true rfl) ?_ sz
  intro p e s m args below meth c A R Q hR hQ C hW hS ls hl
  obtain ⟨hR1, hR2, hR3, hR4⟩ := hR
  have hx := C.1.1
  have hb := C.1.2.1
  have hml := C.1.2.2.1
  have hl : lv_has ls 4 [(0, .ref (ad (2, 0))), (1, .int (nI kk)), (2, .int (nI a)), (3, .int (nI b))] := hl
  rcases (show kk = 0 ∨ kk = 1 ∨ kk = 2 ∨ kk = 3 ∨ kk = 4 ∨ kk = 5 by omega) with hkk | hkk | hkk | hkk | hkk | hkk
  · subst hkk
    refine lv_iload_n hx hb dX4_readValue_0 rfl (lv_at hl 1 rfl) ?_
    refine lv_tableIn (off := 35) (tgt := 36) hx hb dX4_readValue_1 (by decide) (by decide) rfl (by decide) ?_
    refine lv_aload_n hx hb dX4_readValue_36 rfl (lv_at hl 0 rfl) ?_
    refine lv_iload_n hx hb dX4_readValue_37 rfl (lv_at hl 2 rfl) ?_
    refine lv_iload_n hx hb dX4_readValue_38 rfl (lv_at hl 3 rfl) ?_
    refine lv_iconst (v := 5) hx hb dX4_readValue_39 (by decide) ?_
    refine g_callVi (r := (2, 0)) (T := TX4) (N := 5) (k2 := 3) (As := [.int (nI a), .int (nI b), .int 5]) (rest := []) C (c_X4_readDigit l X L ad st0 ci ca cr mA2 mA3 n hn hn60 hch a b (by omega) (by omega) 5) tw_2_148 tw_2_150 tw_0_7 tw_1_2 tw_2_151 (by decide +kernel) ⟨by rw [hR1]; exact Nat.le_of_ble_eq_true rfl, by rw [hR2]; exact Nat.le_of_ble_eq_true rfl⟩ hW hS mA2 rfl rfl rfl hl.1 rfl (Nat.le_of_ble_eq_true rfl) dX4_readValue_40 ⟨Nat.zero_le _, Nat.zero_le _⟩ (fun x1 L9 ad9 st9 H locs hp hW hS => ?_)
    obtain ⟨ci9, ca9, cr9, z0, hp⟩ := hp
    cases z0
    obtain ⟨z1, z2, z3, h2⟩ := hp
    rw [z1, z2, z3] at hW
    exact g_iret2 C hQ hW hS ⟨_, _, _, rfl, rfl, rfl, rfl, by rw [h2]; rfl⟩ rfl (Nat.zero_le _) (Nat.zero_le _) dX4_readValue_43
  · subst hkk
    refine lv_iload_n hx hb dX4_readValue_0 rfl (lv_at hl 1 rfl) ?_
    refine lv_tableIn (off := 43) (tgt := 44) hx hb dX4_readValue_1 (by decide) (by decide) rfl (by decide) ?_
    refine lv_aload_n hx hb dX4_readValue_44 rfl (lv_at hl 0 rfl) ?_
    refine lv_iload_n hx hb dX4_readValue_45 rfl (lv_at hl 2 rfl) ?_
    refine lv_iload_n hx hb dX4_readValue_46 rfl (lv_at hl 3 rfl) ?_
    refine lv_iconst (v := 3) hx hb dX4_readValue_47 (by decide) ?_
    refine g_callVi (r := (2, 0)) (T := TX4) (N := 5) (k2 := 3) (As := [.int (nI a), .int (nI b), .int 3]) (rest := []) C (c_X4_readDigit l X L ad st0 ci ca cr mA2 mA3 n hn hn60 hch a b (by omega) (by omega) 3) tw_2_148 tw_2_150 tw_0_7 tw_1_2 tw_2_151 (by decide +kernel) ⟨by rw [hR1]; exact Nat.le_of_ble_eq_true rfl, by rw [hR2]; exact Nat.le_of_ble_eq_true rfl⟩ hW hS mA2 rfl rfl rfl hl.1 rfl (Nat.le_of_ble_eq_true rfl) dX4_readValue_48 ⟨Nat.zero_le _, Nat.zero_le _⟩ (fun x3 L9 ad9 st9 H locs hp hW hS => ?_)
    obtain ⟨ci9, ca9, cr9, z0, hp⟩ := hp
    cases z0
    obtain ⟨z1, z2, z3, h4⟩ := hp
    rw [z1, z2, z3] at hW
    exact g_iret2 C hQ hW hS ⟨_, _, _, rfl, rfl, rfl, rfl, by rw [h4]; rfl⟩ rfl (Nat.zero_le _) (Nat.zero_le _) dX4_readValue_51
  · subst hkk
    refine lv_iload_n hx hb dX4_readValue_0 rfl (lv_at hl 1 rfl) ?_
    refine lv_tableIn (off := 51) (tgt := 52) hx hb dX4_readValue_1 (by decide) (by decide) rfl (by decide) ?_
    refine lv_aload_n hx hb dX4_readValue_52 rfl (lv_at hl 0 rfl) ?_
    refine lv_iload_n hx hb dX4_readValue_53 rfl (lv_at hl 2 rfl) ?_
    refine lv_iload_n hx hb dX4_readValue_54 rfl (lv_at hl 3 rfl) ?_
    refine lv_bipush (v := 7) hx hb dX4_readValue_55 (by decide) ?_
    refine g_callVi (r := (2, 0)) (T := TX4) (N := 5) (k2 := 3) (As := [.int (nI a), .int (nI b), .int 7]) (rest := []) C (c_X4_readDigit l X L ad st0 ci ca cr mA2 mA3 n hn hn60 hch a b (by omega) (by omega) 7) tw_2_148 tw_2_150 tw_0_7 tw_1_2 tw_2_151 (by decide +kernel) ⟨by rw [hR1]; exact Nat.le_of_ble_eq_true rfl, by rw [hR2]; exact Nat.le_of_ble_eq_true rfl⟩ hW hS mA2 rfl rfl rfl hl.1 rfl (Nat.le_of_ble_eq_true rfl) dX4_readValue_57 ⟨Nat.zero_le _, Nat.zero_le _⟩ (fun x5 L9 ad9 st9 H locs hp hW hS => ?_)
    obtain ⟨ci9, ca9, cr9, z0, hp⟩ := hp
    cases z0
    obtain ⟨z1, z2, z3, h6⟩ := hp
    rw [z1, z2, z3] at hW
    exact g_iret2 C hQ hW hS ⟨_, _, _, rfl, rfl, rfl, rfl, by rw [h6]; rfl⟩ rfl (Nat.zero_le _) (Nat.zero_le _) dX4_readValue_60
  · subst hkk
    refine lv_iload_n hx hb dX4_readValue_0 rfl (lv_at hl 1 rfl) ?_
    refine lv_tableIn (off := 51) (tgt := 52) hx hb dX4_readValue_1 (by decide) (by decide) rfl (by decide) ?_
    refine lv_aload_n hx hb dX4_readValue_52 rfl (lv_at hl 0 rfl) ?_
    refine lv_iload_n hx hb dX4_readValue_53 rfl (lv_at hl 2 rfl) ?_
    refine lv_iload_n hx hb dX4_readValue_54 rfl (lv_at hl 3 rfl) ?_
    refine lv_bipush (v := 7) hx hb dX4_readValue_55 (by decide) ?_
    refine g_callVi (r := (2, 0)) (T := TX4) (N := 5) (k2 := 3) (As := [.int (nI a), .int (nI b), .int 7]) (rest := []) C (c_X4_readDigit l X L ad st0 ci ca cr mA2 mA3 n hn hn60 hch a b (by omega) (by omega) 7) tw_2_148 tw_2_150 tw_0_7 tw_1_2 tw_2_151 (by decide +kernel) ⟨by rw [hR1]; exact Nat.le_of_ble_eq_true rfl, by rw [hR2]; exact Nat.le_of_ble_eq_true rfl⟩ hW hS mA2 rfl rfl rfl hl.1 rfl (Nat.le_of_ble_eq_true rfl) dX4_readValue_57 ⟨Nat.zero_le _, Nat.zero_le _⟩ (fun x7 L9 ad9 st9 H locs hp hW hS => ?_)
    obtain ⟨ci9, ca9, cr9, z0, hp⟩ := hp
    cases z0
    obtain ⟨z1, z2, z3, h8⟩ := hp
    rw [z1, z2, z3] at hW
    exact g_iret2 C hQ hW hS ⟨_, _, _, rfl, rfl, rfl, rfl, by rw [h8]; rfl⟩ rfl (Nat.zero_le _) (Nat.zero_le _) dX4_readValue_60
  · subst hkk
    refine lv_iload_n hx hb dX4_readValue_0 rfl (lv_at hl 1 rfl) ?_
    refine lv_tableIn (off := 60) (tgt := 61) hx hb dX4_readValue_1 (by decide) (by decide) rfl (by decide) ?_
    refine lv_aload_n hx hb dX4_readValue_61 rfl (lv_at hl 0 rfl) ?_
    refine lv_iload_n hx hb dX4_readValue_62 rfl (lv_at hl 2 rfl) ?_
    refine lv_iload_n hx hb dX4_readValue_63 rfl (lv_at hl 3 rfl) ?_
    refine g_callVi (r := (2, 0)) (T := TX4) (N := 5) (k2 := 2) (As := [.int (nI a), .int (nI b)]) (rest := []) C (c_X4_readWeight l X L ad st0 ci ca cr mA2 mA3 n hn hn60 hch a b (by omega) (by omega)) tw_2_155 tw_2_157 tw_0_8 tw_1_2 tw_2_158 (by decide +kernel) ⟨by rw [hR1]; exact Nat.le_of_ble_eq_true rfl, by rw [hR2]; exact Nat.le_of_ble_eq_true rfl⟩ hW hS mA2 rfl rfl rfl hl.1 rfl (Nat.le_of_ble_eq_true rfl) dX4_readValue_64 ⟨Nat.zero_le _, Nat.zero_le _⟩ (fun x9 L9 ad9 st9 H locs hp hW hS => ?_)
    obtain ⟨ci9, ca9, cr9, z0, hp⟩ := hp
    cases z0
    obtain ⟨z1, z2, z3, h10⟩ := hp
    rw [z1, z2, z3] at hW
    exact g_iret2 C hQ hW hS ⟨_, _, _, rfl, rfl, rfl, rfl, by rw [h10]; rfl⟩ rfl (Nat.zero_le _) (Nat.zero_le _) dX4_readValue_67
  · subst hkk
    refine lv_iload_n hx hb dX4_readValue_0 rfl (lv_at hl 1 rfl) ?_
    refine lv_tableOut (tgt := 68) hx hb dX4_readValue_1 (by decide) (by decide) ?_
    refine lv_aload_n hx hb dX4_readValue_68 rfl (lv_at hl 0 rfl) ?_
    refine lv_iload_n hx hb dX4_readValue_69 rfl (lv_at hl 2 rfl) ?_
    refine lv_iload_n hx hb dX4_readValue_70 rfl (lv_at hl 3 rfl) ?_
    refine g_callVi (r := (2, 0)) (T := TX4) (N := 5) (k2 := 2) (As := [.int (nI a), .int (nI b)]) (rest := []) C (c_X4_readExpress l X L ad st0 ci ca cr mA2 mA3 n hn hn60 hch a b (by omega) (by omega)) tw_2_162 tw_2_164 tw_0_9 tw_1_2 tw_2_165 (by decide +kernel) ⟨by rw [hR1]; exact Nat.le_of_ble_eq_true rfl, by rw [hR2]; exact Nat.le_of_ble_eq_true rfl⟩ hW hS mA2 rfl rfl rfl hl.1 rfl (Nat.le_of_ble_eq_true rfl) dX4_readValue_71 ⟨Nat.zero_le _, Nat.zero_le _⟩ (fun x11 L9 ad9 st9 H locs hp hW hS => ?_)
    obtain ⟨ci9, ca9, cr9, z0, hp⟩ := hp
    cases z0
    obtain ⟨z1, z2, z3, h12⟩ := hp
    rw [z1, z2, z3] at hW
    exact g_iret2 C hQ hW hS ⟨_, _, _, rfl, rfl, rfl, rfl, by rw [h12]; rfl⟩ rfl (Nat.zero_le _) (Nat.zero_le _) dX4_readValue_74

