theorem gs_all (P : Int32 → Prop) (h0 : P 0) (h : ∀ x ∈ ([85, 78, 75, 79, 87, 68, 66, 76, 69, 65, 77, 73, 83, 71, 67, 70, 84, 88] : List Int32), P x) (k j : Nat) : P ((gsByt.getD k []).getD j 0) := by
  have hm : ∀ (l : List Int32), (∀ x ∈ l, x ∈ ([85, 78, 75, 79, 87, 68, 66, 76, 69, 65, 77, 73, 83, 71, 67, 70, 84, 88] : List Int32)) → P (l.getD j 0) := by
    intro l hl
    rw [List.getD_eq_getElem?_getD]
    cases hj : l[j]? with
    | none => exact h0
    | some x => exact h x (hl x (List.mem_of_getElem? hj))
  apply hm
  unfold gsByt
  rcases k with _ | _ | _ | _ | _ | _ | k
  · simp
  · decide
  · decide
  · decide
  · decide
  · decide
  · simp
theorem gs_by (k j : Nat) : (gsByt.getD k []).getD j 0 &&& 255 = (gsByt.getD k []).getD j 0 := gs_all (fun x => x &&& 255 = x) (by decide) (by decide) k j
theorem gs_nar (k j : Nat) : narrow .char (.int ((gsByt.getD k []).getD j 0)) = .int ((gsByt.getD k []).getD j 0) := gs_all (fun x => narrow .char (.int x) = .int x) (by decide) (by decide) k j
theorem gs_by2 (k j : Nat) : vp_nar .char ((gsByt.getD k []).getD j 0) = (gsByt.getD k []).getD j 0 := gs_all (fun x => vp_nar .char x = x) (by decide) (by decide) k j
abbrev gSv (l : Launch) (z : MethodName) (b : ByteArray) (n : Nat) (ret : Option FieldType) (fr lc : Nat) (X : GX) (As : List Value) (L : List ro) (ad : ro → Nat) (st : ro → va_E) : Prop :=
  gMv l z b n ret fr lc 0 0 X As L ad st (fun u => u = (L, ad, st))
section SVC
variable {p : Program} {l : Launch} {e : Env} {R : Room} {s : State} {m : MethodId} {args : Array Value} {below : List Frame} {meth : Method} {c : Code} {H : Heap} {locs : List Loc} {cells slots : Nat} {Q : State → Prop}
variable {cc : ByteArray} {nL : Nat} {ret : Option FieldType} {own mname : String} {pc : Nat} {ls : Array Slot} {rest : List Value} {X : GX} {A : Nat → Prop} {L : List ro} {ad : ro → Nat} {st : ro → va_E}
/-- a static method without answer, that changes nothing -/
theorem g_callSv0 {index n2 fr2 lc2 k2 : Nat} {z : MethodName} {b2 : ByteArray} {ret2 : Option FieldType} {As st0 : List Value} (C : gCx p s m args meth c cc nL ret own mname X A) (hM : gSv l z b2 n2 ret2 fr2 lc2 X As L ad st)
    (h1 : Cond.methodLink own index z ∈ TB) (h2 : Cond.static z ∈ TB) (h4 : Cond.initialized z.cls ∈ TB) (h5 : Cond.code z b2 n2 ret2 ∈ TB) (hd : z.cls ≠ "java/lang/invoke/MethodHandle" ∧ z.cls ≠ "java/lang/invoke/VarHandle" ∧ (parseMethodDescriptor z.desc).map (fun d => d.parameters.length) = some k2) (hR : fr2 + 1 ≤ R.frames ∧ 8 + (n2 + 11) + lc2 ≤ R.locals)
    (hW : gW X A L ad st s H) (hS : va_S A s.heap H locs) (hk : As.length = k2) (hsz : ls.size = nL) (hst : st0 = As.reverse ++ rest) (hcat : (rest.map fun v => v.category).sum ≤ 8) (hdg : decode cc pc = .ok (.invokestatic index, 3)) (hcs : cells ≤ R.cells ∧ slots ≤ R.slots)
    (kk : ∀ (H1 : Heap) (locs1 : List Loc), gW X A L ad st s H1 → va_S A s.heap H1 locs1 → W p l e R s m args below meth c H1 locs1 cells slots Q (F0 m (pc + 3) ls rest)) : W p l e R s m args below meth c H locs cells slots Q (F0 m pc ls st0) := by
  have hf := g_free C hW hS
  refine va_callv (va_runS (As := As) (rest := rest) C.1 (hM H.size) (tcS C.1.2.2.2.2 h1 h2 h4 h5 rfl rfl hd hR) ⟨gPre_blind, g_pre C hW hS⟩ rfl hk hsz hst (lv_room hcat) hdg hcs) hS (fun q _ h => hf q h) hf (fun u t H1 locs1 ht hvm hp hB _ _ hS1 => ?_)
  have hb9 := g_back hf ht hvm hB
  cases hp
  exact kk H1 locs1 hb9 hS1
end SVC
set_option maxHeartbeats 4000000 in
theorem c_J3_checkIndex_8e157_0 (l : Launch) (X : GX) (L : List ro) (ad : ro → Nat) (st : ro → va_E) (a b : Nat) (hab : a < b) (hb2 : b < 2 ^ 31) : gS l yJ3_checkIndex_8e157 cJ3_checkIndex_8e157 3 (some .int) 0 0 X [.int (nI a), .int (nI b), .null] L ad st (fun v => v = nI a) := by
  intro sz
  refine gM_of2 (Qc := fun A => va_Qi _ (gB X A) A) (by decide) (Nat.le_of_ble_eq_true rfl) ?_ sz
  intro p e s m args below meth c A R Q hR hQ C hW hS ls hl
  obtain ⟨hR1, hR2, hR3, hR4⟩ := hR
  have hx := C.1.1
  have hb := C.1.2.1
  have hml := C.1.2.2.1
  have hl : lv_has ls 3 [(0, .int (nI a)), (1, .int (nI b)), (2, .null)] := hl
  refine lv_iload_n hx hb dJ3_checkIndex_8e157_0 rfl (lv_at hl 0 rfl) ?_
  refine lv_if_lt (tgt := 9) hx hb dJ3_checkIndex_8e157_1 (by decide) (fun c9 => absurd c9 (nI_pos (by omega))) (fun _ => ?_)
  refine lv_iload_n hx hb dJ3_checkIndex_8e157_4 rfl (lv_at hl 0 rfl) ?_
  refine lv_iload_n hx hb dJ3_checkIndex_8e157_5 rfl (lv_at hl 1 rfl) ?_
  refine lv_icmp_lt (tgt := 16) hx hb dJ3_checkIndex_8e157_6 (by decide) (fun _ => ?_) (fun c9 => absurd (nI_lt (a := a) (b := b) hab hb2) c9)
  refine lv_iload_n hx hb dJ3_checkIndex_8e157_16 rfl (lv_at hl 0 rfl) ?_
  exact g_iret2 C hQ hW hS ⟨rfl, rfl⟩ rfl (Nat.zero_le _) (Nat.zero_le _) dJ3_checkIndex_8e157_17

set_option maxHeartbeats 4000000 in
theorem c_J3_checkIndex_8e157_r (l : Launch) (X : GX) (L : List ro) (ad : ro → Nat) (st : ro → va_E) (a b t9 : Nat) (hab : a < b) (hb2 : b < 2 ^ 31) : gS l yJ3_checkIndex_8e157 cJ3_checkIndex_8e157 3 (some .int) 0 0 X [.int (nI a), .int (nI b), .ref t9] L ad st (fun v => v = nI a) := by
  intro sz
  refine gM_of2 (Qc := fun A => va_Qi _ (gB X A) A) (by decide) (Nat.le_of_ble_eq_true rfl) ?_ sz
  intro p e s m args below meth c A R Q hR hQ C hW hS ls hl
  obtain ⟨hR1, hR2, hR3, hR4⟩ := hR
  have hx := C.1.1
  have hb := C.1.2.1
  have hml := C.1.2.2.1
  have hl : lv_has ls 3 [(0, .int (nI a)), (1, .int (nI b)), (2, .ref t9)] := hl
  refine lv_iload_n hx hb dJ3_checkIndex_8e157_0 rfl (lv_at hl 0 rfl) ?_
  refine lv_if_lt (tgt := 9) hx hb dJ3_checkIndex_8e157_1 (by decide) (fun c9 => absurd c9 (nI_pos (by omega))) (fun _ => ?_)
  refine lv_iload_n hx hb dJ3_checkIndex_8e157_4 rfl (lv_at hl 0 rfl) ?_
  refine lv_iload_n hx hb dJ3_checkIndex_8e157_5 rfl (lv_at hl 1 rfl) ?_
  refine lv_icmp_lt (tgt := 16) hx hb dJ3_checkIndex_8e157_6 (by decide) (fun _ => ?_) (fun c9 => absurd (nI_lt (a := a) (b := b) hab hb2) c9)
  refine lv_iload_n hx hb dJ3_checkIndex_8e157_16 rfl (lv_at hl 0 rfl) ?_
  exact g_iret2 C hQ hW hS ⟨rfl, rfl⟩ rfl (Nat.zero_le _) (Nat.zero_le _) dJ3_checkIndex_8e157_17

set_option maxHeartbeats 4000000 in
theorem c_J0_checkIndex_df160 (l : Launch) (X : GX) (L : List ro) (ad : ro → Nat) (st : ro → va_E) (a b : Nat) (hab : a < b) (hb2 : b < 2 ^ 31) : gSv l yJ0_checkIndex_df160 cJ0_checkIndex_df160 2 none 1 22 X [.int (nI a), .int (nI b)] L ad st := by
  intro sz
  refine gM_of2 (Qc := fun A => va_Qv _ (gB X A) A) (by decide) (Nat.le_of_ble_eq_true rfl) ?_ sz
  intro p e s m args below meth c A R Q hR hQ C hW hS ls hl
  obtain ⟨hR1, hR2, hR3, hR4⟩ := hR
  have hx := C.1.1
  have hb := C.1.2.1
  have hml := C.1.2.2.1
  have hl : lv_has ls 2 [(0, .int (nI a)), (1, .int (nI b))] := hl
  refine lv_iload_n hx hb dJ0_checkIndex_df160_0 rfl (lv_at hl 0 rfl) ?_
  refine lv_iload_n hx hb dJ0_checkIndex_df160_1 rfl (lv_at hl 1 rfl) ?_
  rcases C.2.2.2.2.2.1.2.1 with hz | ⟨t9, hz⟩
  · refine va_gets hx hb hz hS C.1.2.2.2.1 (C.1.2.2.2.2 _ tw_2_87) (fun _ h9 => h9) dJ0_checkIndex_df160_2 ?_
    refine g_callSp (k2 := 3) (As := [.int (nI a), .int (nI b), .null]) (rest := []) C (c_J3_checkIndex_8e157_0 l X L ad st a b hab hb2) tw_2_134 tw_2_135 tw_1_21 tw_2_136 (by decide +kernel) ⟨by rw [hR1]; exact Nat.le_of_ble_eq_true rfl, by rw [hR2]; exact Nat.le_of_ble_eq_true rfl⟩ hW hS rfl hl.1 rfl (Nat.le_of_ble_eq_true rfl) dJ0_checkIndex_df160_5 ⟨Nat.zero_le _, Nat.zero_le _⟩ (fun x1 H locs hp hW hS => ?_)
    subst hp
    refine lv_pop hx hb dJ0_checkIndex_df160_8 rfl ?_
    exact g_vret2 C hQ hW hS rfl (Nat.zero_le _) (Nat.zero_le _) dJ0_checkIndex_df160_9
  · refine va_gets hx hb hz hS C.1.2.2.2.1 (C.1.2.2.2.2 _ tw_2_87) (fun _ h9 => h9) dJ0_checkIndex_df160_2 ?_
    refine g_callSp (k2 := 3) (As := [.int (nI a), .int (nI b), .ref t9]) (rest := []) C (c_J3_checkIndex_8e157_r l X L ad st a b t9 hab hb2) tw_2_134 tw_2_135 tw_1_21 tw_2_136 (by decide +kernel) ⟨by rw [hR1]; exact Nat.le_of_ble_eq_true rfl, by rw [hR2]; exact Nat.le_of_ble_eq_true rfl⟩ hW hS rfl hl.1 rfl (Nat.le_of_ble_eq_true rfl) dJ0_checkIndex_df160_5 ⟨Nat.zero_le _, Nat.zero_le _⟩ (fun x2 H locs hp hW hS => ?_)
    subst hp
    refine lv_pop hx hb dJ0_checkIndex_df160_8 rfl ?_
    exact g_vret2 C hQ hW hS rfl (Nat.zero_le _) (Nat.zero_le _) dJ0_checkIndex_df160_9

set_option maxHeartbeats 4000000 in
theorem c_J1_charAt_3b067 (l : Launch) (X : GX) (L : List ro) (ad : ro → Nat) (st : ro → va_E) (k : Nat) (hk : k < 6) (j : Nat) (hj : j < gsLen.getD k 0) : gS l yJ1_charAt_3b067 cJ1_charAt_3b067 2 (some .char) 2 43 X [.ref (X.2.2 (10 + k)), .int (nI j)] L ad st (fun v => v = (gsByt.getD k []).getD j 0) := by
  intro sz
  refine gM_of2 (Qc := fun A => va_Qi _ (gB X A) A) (by decide) (Nat.le_of_ble_eq_true rfl) ?_ sz
  intro p e s m args below meth c A R Q hR hQ C hW hS ls hl
  obtain ⟨hR1, hR2, hR3, hR4⟩ := hR
  have hx := C.1.1
  have hb := C.1.2.1
  have hml := C.1.2.2.1
  have hl : lv_has ls 2 [(0, .ref (X.2.2 (10 + k))), (1, .int (nI j))] := hl
  refine lv_iload_n hx hb dJ1_charAt_3b067_0 rfl (lv_at hl 1 rfl) ?_
  refine lv_aload_n hx hb dJ1_charAt_3b067_1 rfl (lv_at hl 0 rfl) ?_
  refine va_tlen (v := nI (gsLen.getD k 0)) hx hb (g_tx C hk).2.2.2 hS rfl dJ1_charAt_3b067_2 ?_
  refine g_callSv0 (k2 := 2) (As := [.int (nI j), .int (nI (gsLen.getD k 0))]) (rest := []) C (c_J0_checkIndex_df160 l X L ad st j (gsLen.getD k 0) hj (by have := gs_small k; omega)) tw_2_131 tw_2_132 tw_1_17 tw_2_133 (by decide +kernel) ⟨by rw [hR1]; exact Nat.le_of_ble_eq_true rfl, by rw [hR2]; exact Nat.le_of_ble_eq_true rfl⟩ hW hS rfl hl.1 rfl (Nat.le_of_ble_eq_true rfl) dJ1_charAt_3b067_3 ⟨Nat.zero_le _, Nat.zero_le _⟩ (fun H locs hW hS => ?_)
  refine lv_aload_n hx hb dJ1_charAt_3b067_6 rfl (lv_at hl 0 rfl) ?_
  refine lv_iload_n hx hb dJ1_charAt_3b067_7 rfl (lv_at hl 1 rfl) ?_
  refine va_tb (v := .int ((gsByt.getD k []).getD j 0)) hx hb (g_tx C hk).2.2.2 hS (vp_in_nI (N := gsLen.getD k 0) hj (by have := gs_small k; omega)) (by rw [nI_clamp (by have := gs_small k; omega)]) dJ1_charAt_3b067_8 ?_
  refine lv_sipush (v := 255) hx hb dJ1_charAt_3b067_9 (by decide) ?_
  refine lv_iand hx hb dJ1_charAt_3b067_12 ?_
  refine lv_topE (y := ((gsByt.getD k []).getD j 0)) (gs_by k j) ?_
  refine lv_i2c hx hb dJ1_charAt_3b067_13 rfl ?_
  refine lv_topE (y := ((gsByt.getD k []).getD j 0)) (gs_by2 k j) ?_
  exact g_iret2 C hQ hW hS ⟨rfl, rfl⟩ (gs_nar k j) (Nat.zero_le _) (Nat.zero_le _) dJ1_charAt_3b067_14

set_option maxHeartbeats 4000000 in
theorem c_J0_charAt_5068e (l : Launch) (X : GX) (L : List ro) (ad : ro → Nat) (st : ro → va_E) (k : Nat) (hk : k < 6) (j : Nat) (hj : j < gsLen.getD k 0) : gS l yJ0_charAt_5068e cJ0_charAt_5068e 2 (some .char) 3 64 X [.ref (X.2.2 k), .int (nI j)] L ad st (fun v => v = (gsByt.getD k []).getD j 0) := by
  intro sz
  refine gM_of2 (Qc := fun A => va_Qi _ (gB X A) A) (by decide) (Nat.le_of_ble_eq_true rfl) ?_ sz
  intro p e s m args below meth c A R Q hR hQ C hW hS ls hl
  obtain ⟨hR1, hR2, hR3, hR4⟩ := hR
  have hx := C.1.1
  have hb := C.1.2.1
  have hml := C.1.2.2.1
  have hl : lv_has ls 2 [(0, .ref (X.2.2 k)), (1, .int (nI j))] := hl
  refine lv_aload_n hx hb dJ0_charAt_5068e_0 rfl (lv_at hl 0 rfl) ?_
  refine g_callTi (k := k) (k2 := 0) (As := []) (rest := []) hk C (c_J0_isLatin1_aae02 l X L ad st k hk) tw_2_40 tw_2_41 tw_2_42 tw_1_17 tw_2_43 (by decide +kernel) ⟨by rw [hR1]; exact Nat.le_of_ble_eq_true rfl, by rw [hR2]; exact Nat.le_of_ble_eq_true rfl⟩ hW hS rfl hl.1 rfl (Nat.le_of_ble_eq_true rfl) dJ0_charAt_5068e_1 ⟨Nat.zero_le _, Nat.zero_le _⟩ (fun x1 H locs hp hW hS => ?_)
  subst hp
  refine lv_if_eq (tgt := 16) hx hb dJ0_charAt_5068e_4 (by decide) (fun c9 => absurd c9 (by decide)) (fun _ => ?_)
  refine lv_aload_n hx hb dJ0_charAt_5068e_7 rfl (lv_at hl 0 rfl) ?_
  refine vk_getf hx hb (g_tx C hk).2.2.1 hS C.1.2.2.2.1 (C.1.2.2.2.2 _ tw_3_209) (fun _ h9 => h9) dJ0_charAt_5068e_8 ?_
  refine lv_iload_n hx hb dJ0_charAt_5068e_11 rfl (lv_at hl 1 rfl) ?_
  refine g_callSp (k2 := 2) (As := [.ref (X.2.2 (10 + k)), .int (nI j)]) (rest := []) C (c_J1_charAt_3b067 l X L ad st k hk j hj) tw_2_128 tw_2_129 tw_1_18 tw_2_130 (by decide +kernel) ⟨by rw [hR1]; exact Nat.le_of_ble_eq_true rfl, by rw [hR2]; exact Nat.le_of_ble_eq_true rfl⟩ hW hS rfl hl.1 rfl (Nat.le_of_ble_eq_true rfl) dJ0_charAt_5068e_12 ⟨Nat.zero_le _, Nat.zero_le _⟩ (fun x2 H locs hp hW hS => ?_)
  subst hp
  exact g_iret2 C hQ hW hS ⟨rfl, rfl⟩ (gs_nar k j) (Nat.zero_le _) (Nat.zero_le _) dJ0_charAt_5068e_15

