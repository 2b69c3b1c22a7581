section TXT
variable {p : Program} {l : Launch} {e : Env} {R : Room} {s : State} {m : MethodId} {args : Array Value} {below : List Frame} {meth : Method} {c : Code} {H : Heap} {locs : List Loc} {cells slots : Nat} {Q : State → Prop}
variable {cc : ByteArray} {nL : Nat} {ret : Option FieldType} {own mname : String} {pc : Nat} {ls : Array Slot} {rest : List Value} {X : GX} {A : Nat → Prop} {L : List ro} {ad : ro → Nat} {st : ro → va_E}
theorem g_tx (C : gCx p s m args meth c cc nL ret own mname X A) {k : Nat} (hk : k < 6) : va_O "java/lang/String" (X.2.2 k) A s s.heap ∧ va_OF "java/lang/String" "coder" "B" (.int 0) (X.2.2 k) A s s.heap ∧ va_OF "java/lang/String" "value" "[B" (.ref (X.2.2 (10 + k))) (X.2.2 k) A s s.heap ∧ va_T .byte (X.2.2 (10 + k)) (gsLen.getD k 0) (fun j => .int ((gsByt.getD k []).getD j 0)) A s s.heap := C.2.2.2.2.2.1.2.2.2.2 k hk
/-- a method of a constant text is called; it changes nothing -/
theorem g_callTi {k index n2 fr2 lc2 k2 : Nat} {z : MethodName} {b2 : ByteArray} {ret2 : Option FieldType} {As st0 : List Value} {P : Int32 → Prop} (hk6 : k < 6) (C : gCx p s m args meth c cc nL ret own mname X A) (hM : gS l z b2 n2 ret2 fr2 lc2 X (.ref (X.2.2 k) :: As) L ad st P)
    (h1 : Cond.methodLink own index z ∈ TB) (h2 : Cond.instanceMethod z ∈ TB) (h3 : Cond.selects "java/lang/String" z z ∈ TB) (h4 : Cond.initialized "java/lang/String" ∈ TB) (h5 : Cond.code z b2 n2 ret2 ∈ TB) (hd : z.cls = "java/lang/String" ∧ z.cls ≠ "java/lang/invoke/MethodHandle" ∧ z.cls ≠ "java/lang/invoke/VarHandle" ∧ (parseMethodDescriptor z.desc).map (fun d => d.parameters.length) = some k2) (hR : fr2 + 1 ≤ R.frames ∧ 8 + (n2 + 11) + lc2 ≤ R.locals)
    (hW : gW X A L ad st s H) (hS : va_S A s.heap H locs) (hk : As.length = k2) (hsz : ls.size = nL) (hst : st0 = As.reverse ++ .ref (X.2.2 k) :: rest) (hcat : (rest.map fun v => v.category).sum ≤ 8) (hdg : decode cc pc = .ok (.invokevirtual index, 3)) (hcs : cells ≤ R.cells ∧ slots ≤ R.slots)
    (kk : ∀ (v : Int32) (H1 : Heap) (locs1 : List Loc), P v → gW X A L ad st s H1 → va_S A s.heap H1 locs1 → W p l e R s m args below meth c H1 locs1 cells slots Q (F0 m (pc + 3) ls (.int v :: rest))) : W p l e R s m args below meth c H locs cells slots Q (F0 m pc ls st0) := by
  have hf := g_free C hW hS
  have hrv : ∃ cell : Cell, H[X.2.2 k]? = some cell ∧ cell.vm.isStatics = false ∧ s.vm.findClass "java/lang/String" = some cell.cls := by
    obtain ⟨cell, q1, q2, q3, -⟩ := (g_tx C hk6).1.kept hS.2.1
    exact ⟨cell, q1, q2, q3⟩
  refine va_calli (va_runV (As := As) (rest := rest) C.1 (hM H.size) (tcV C.1.2.2.2.2 h1 h2 h3 h4 h5 rfl rfl hd hR) ⟨gPre_blind, hrv, g_pre C hW hS⟩ rfl hk hsz hst (lv_room hcat) hdg hcs) hS (fun q _ h => hf q h) hf (fun v u t H1 locs1 ht hvm hp hB _ _ hS1 => ?_)
  obtain ⟨eq, hp⟩ := hp
  have hb9 := g_back hf ht hvm hB
  cases eq
  exact kk v H1 locs1 hp hb9 hS1
end TXT
theorem gs_small (k : Nat) : gsLen.getD k 0 < 100 := by
  unfold gsLen
  rcases k with _ | _ | _ | _ | _ | _ | k <;> simp
theorem shr0 (a : Int32) : a >>> 0 = a := by
  apply Int32.toBitVec_inj.mp
  simp
set_option maxHeartbeats 4000000 in
set_option maxRecDepth 100000 in
theorem c_J0_isEmpty_aae02 (l : Launch) (X : GX) (L : List ro) (ad : ro → Nat) (st : ro → va_E) (k : Nat) (hk : k < 6) : gS l yJ0_isEmpty_aae02 cJ0_isEmpty_aae02 1 (some .boolean) 0 0 X [.ref (X.2.2 k)] L ad st (fun v => (gsLen.getD k 0 = 0 ∧ v = 1) ∨ (¬ gsLen.getD k 0 = 0 ∧ v = 0)) := by
  have hg9 := gs_small k
  intro sz
  refine gM_of2 (Qc := fun A => va_Qi _ (gB X A) A) (by decide) (Nat.le_of_ble_eq_true rfl) ?_ sz
  intro p e s m args below meth c A R Q hR hQ C hW hS ls hl
  obtain ⟨hR1, hR2, hR3, hR4⟩ := hR
  have hx := C.1.1
  have hb := C.1.2.1
  have hml := C.1.2.2.1
  have hl : lv_has ls 1 [(0, .ref (X.2.2 k))] := hl
  refine lv_aload_n hx hb dJ0_isEmpty_aae02_0 rfl (lv_at hl 0 rfl) ?_
  refine vk_getf hx hb (g_tx C hk).2.2.1 hS C.1.2.2.2.1 (C.1.2.2.2.2 _ tw_3_209) (fun _ h9 => h9) dJ0_isEmpty_aae02_1 ?_
  refine va_tlen (v := nI (gsLen.getD k 0)) hx hb (g_tx C hk).2.2.2 hS rfl dJ0_isEmpty_aae02_4 ?_
  refine lv_if_ne (tgt := 12) hx hb dJ0_isEmpty_aae02_5 (by decide) (fun c1 => ?_) (fun c1 => ?_)
  · have c1n := q_ne (a := (gsLen.getD k 0)) (b := 0) (by omega) (by omega) c1
    refine lv_iconst (v := 0) hx hb dJ0_isEmpty_aae02_12 (by decide) ?_
    exact g_iret2 C hQ hW hS ⟨rfl, Or.inr ⟨by omega, rfl⟩⟩ (by decide) (Nat.zero_le _) (Nat.zero_le _) dJ0_isEmpty_aae02_13
  · have c1n := q_eq (a := (gsLen.getD k 0)) (b := 0) (by omega) (by omega) c1
    refine lv_iconst (v := 1) hx hb dJ0_isEmpty_aae02_8 (by decide) ?_
    refine lv_goto (tgt := 13) hx hb dJ0_isEmpty_aae02_9 (by decide) ?_
    exact g_iret2 C hQ hW hS ⟨rfl, Or.inl ⟨by omega, rfl⟩⟩ (by decide) (Nat.zero_le _) (Nat.zero_le _) dJ0_isEmpty_aae02_13

set_option maxHeartbeats 4000000 in
set_option maxRecDepth 100000 in
theorem c_J0_coder_7d493 (l : Launch) (X : GX) (L : List ro) (ad : ro → Nat) (st : ro → va_E) (k : Nat) (hk : k < 6) : gS l yJ0_coder_7d493 cJ0_coder_7d493 1 (some .byte) 0 0 X [.ref (X.2.2 k)] L ad st (fun v => v = 0) := by
  intro sz
  refine gM_of2 (Qc := fun A => va_Qi _ (gB X A) A) (by decide) (Nat.le_of_ble_eq_true rfl) ?_ sz
  intro p e s m args below meth c A R Q hR hQ C hW hS ls hl
  obtain ⟨hR1, hR2, hR3, hR4⟩ := hR
  have hx := C.1.1
  have hb := C.1.2.1
  have hml := C.1.2.2.1
  have hl : lv_has ls 1 [(0, .ref (X.2.2 k))] := hl
  refine va_gets hx hb C.2.2.2.2.2.1.1 hS C.1.2.2.2.1 (C.1.2.2.2.2 _ tw_2_44) (fun _ h9 => h9) dJ0_coder_7d493_0 ?_
  refine lv_if_eq (tgt := 13) hx hb dJ0_coder_7d493_3 (by decide) (fun c9 => absurd c9 (by decide)) (fun _ => ?_)
  refine lv_aload_n hx hb dJ0_coder_7d493_6 rfl (lv_at hl 0 rfl) ?_
  refine vk_getf hx hb (g_tx C hk).2.1 hS C.1.2.2.2.1 (C.1.2.2.2.2 _ tw_3_210) (fun _ h9 => h9) dJ0_coder_7d493_7 ?_
  refine lv_goto (tgt := 14) hx hb dJ0_coder_7d493_10 (by decide) ?_
  exact g_iret2 C hQ hW hS ⟨rfl, rfl⟩ (by decide) (Nat.zero_le _) (Nat.zero_le _) dJ0_coder_7d493_14

set_option maxHeartbeats 4000000 in
set_option maxRecDepth 100000 in
theorem c_J0_isLatin1_aae02 (l : Launch) (X : GX) (L : List ro) (ad : ro → Nat) (st : ro → va_E) (k : Nat) (hk : k < 6) : gS l yJ0_isLatin1_aae02 cJ0_isLatin1_aae02 1 (some .boolean) 0 0 X [.ref (X.2.2 k)] L ad st (fun v => v = 1) := by
  intro sz
  refine gM_of2 (Qc := fun A => va_Qi _ (gB X A) A) (by decide) (Nat.le_of_ble_eq_true rfl) ?_ sz
  intro p e s m args below meth c A R Q hR hQ C hW hS ls hl
  obtain ⟨hR1, hR2, hR3, hR4⟩ := hR
  have hx := C.1.1
  have hb := C.1.2.1
  have hml := C.1.2.2.1
  have hl : lv_has ls 1 [(0, .ref (X.2.2 k))] := hl
  refine va_gets hx hb C.2.2.2.2.2.1.1 hS C.1.2.2.2.1 (C.1.2.2.2.2 _ tw_2_44) (fun _ h9 => h9) dJ0_isLatin1_aae02_0 ?_
  refine lv_if_eq (tgt := 17) hx hb dJ0_isLatin1_aae02_3 (by decide) (fun c9 => absurd c9 (by decide)) (fun _ => ?_)
  refine lv_aload_n hx hb dJ0_isLatin1_aae02_6 rfl (lv_at hl 0 rfl) ?_
  refine vk_getf hx hb (g_tx C hk).2.1 hS C.1.2.2.2.1 (C.1.2.2.2.2 _ tw_3_210) (fun _ h9 => h9) dJ0_isLatin1_aae02_7 ?_
  refine lv_if_ne (tgt := 17) hx hb dJ0_isLatin1_aae02_10 (by decide) (fun c9 => absurd c9 (by decide)) (fun _ => ?_)
  refine lv_iconst (v := 1) hx hb dJ0_isLatin1_aae02_13 (by decide) ?_
  refine lv_goto (tgt := 18) hx hb dJ0_isLatin1_aae02_14 (by decide) ?_
  exact g_iret2 C hQ hW hS ⟨rfl, rfl⟩ (by decide) (Nat.zero_le _) (Nat.zero_le _) dJ0_isLatin1_aae02_18

set_option maxHeartbeats 4000000 in
set_option maxRecDepth 100000 in
theorem c_J0_length_8abf5 (l : Launch) (X : GX) (L : List ro) (ad : ro → Nat) (st : ro → va_E) (k : Nat) (hk : k < 6) : gS l yJ0_length_8abf5 cJ0_length_8abf5 1 (some .int) 1 20 X [.ref (X.2.2 k)] L ad st (fun v => v = nI (gsLen.getD k 0)) := by
  intro sz
  refine gM_of2 (Qc := fun A => va_Qi _ (gB X A) A) (by decide) (Nat.le_of_ble_eq_true rfl) ?_ sz
  intro p e s m args below meth c A R Q hR hQ C hW hS ls hl
  obtain ⟨hR1, hR2, hR3, hR4⟩ := hR
  have hx := C.1.1
  have hb := C.1.2.1
  have hml := C.1.2.2.1
  have hl : lv_has ls 1 [(0, .ref (X.2.2 k))] := hl
  refine lv_aload_n hx hb dJ0_length_8abf5_0 rfl (lv_at hl 0 rfl) ?_
  refine vk_getf hx hb (g_tx C hk).2.2.1 hS C.1.2.2.2.1 (C.1.2.2.2.2 _ tw_3_209) (fun _ h9 => h9) dJ0_length_8abf5_1 ?_
  refine va_tlen (v := nI (gsLen.getD k 0)) hx hb (g_tx C hk).2.2.2 hS rfl dJ0_length_8abf5_4 ?_
  refine lv_aload_n hx hb dJ0_length_8abf5_5 rfl (lv_at hl 0 rfl) ?_
  refine g_callTi (k := k) (k2 := 0) (As := []) (rest := [.int (nI (gsLen.getD k 0))]) hk C (c_J0_coder_7d493 l X L ad st k hk) tw_2_50 tw_2_51 tw_2_52 tw_1_17 tw_2_53 (by decide +kernel) ⟨by rw [hR1]; exact Nat.le_of_ble_eq_true rfl, by rw [hR2]; exact Nat.le_of_ble_eq_true rfl⟩ hW hS rfl hl.1 rfl (Nat.le_of_ble_eq_true rfl) dJ0_length_8abf5_6 ⟨Nat.zero_le _, Nat.zero_le _⟩ (fun x1 H locs hp hW hS => ?_)
  subst hp
  refine lv_ishr hx hb dJ0_length_8abf5_9 ?_
  refine lv_topE (y := nI (gsLen.getD k 0)) (by rw [show (0 : Int32) &&& 31 = 0 from by decide, shr0]) ?_
  exact g_iret2 C hQ hW hS ⟨rfl, rfl⟩ rfl (Nat.zero_le _) (Nat.zero_le _) dJ0_length_8abf5_10

