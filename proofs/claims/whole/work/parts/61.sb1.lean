theorem le16 {q : Nat} (h : q ≤ 16) : nI q - 16 ≤ 0 := by
  have key : ∀ x : Fin 17, nI x.1 - 16 ≤ 0 := by decide +kernel
  exact key ⟨q, by omega⟩
section TXV
variable {p : Program} {l : Launch} {e : Env} {R : Room} {s : State} {m : MethodId} {args : Array Value} {below : List Frame} {meth : Method} {c : Code} {H : Heap} {locs : List Loc} {cells slots : Nat} {Q : State → Prop}
variable {cc : ByteArray} {nL : Nat} {ret : Option FieldType} {own mname : String} {pc : Nat} {ls : Array Slot} {rest : List Value} {X : GX} {A : Nat → Prop} {L : List ro} {ad : ro → Nat} {st : ro → va_E}
/-- a method of a constant text, without answer -/
theorem g_callTv {k index n2 fr2 lc2 mc2 ms2 k2 : Nat} {z : MethodName} {b2 : ByteArray} {ret2 : Option FieldType} {As st0 : List Value} {post : WS → Prop} (hk6 : k < 6) (C : gCx p s m args meth c cc nL ret own mname X A) (hM : gMv l z b2 n2 ret2 fr2 lc2 mc2 ms2 X (.ref (X.2.2 k) :: As) L ad st post)
    (h1 : Cond.methodLink own index z ∈ TB) (h2 : Cond.instanceMethod z ∈ TB) (h3 : Cond.selects "java/lang/String" z z ∈ TB) (h4 : Cond.initialized "java/lang/String" ∈ TB) (h5 : Cond.code z b2 n2 ret2 ∈ TB) (hd : z.cls = "java/lang/String" ∧ z.cls ≠ "java/lang/invoke/MethodHandle" ∧ z.cls ≠ "java/lang/invoke/VarHandle" ∧ (parseMethodDescriptor z.desc).map (fun d => d.parameters.length) = some k2) (hR : fr2 + 1 ≤ R.frames ∧ 8 + (n2 + 11) + lc2 ≤ R.locals)
    (hW : gW X A L ad st s H) (hS : va_S A s.heap H locs) (hk : As.length = k2) (hsz : ls.size = nL) (hst : st0 = As.reverse ++ .ref (X.2.2 k) :: rest) (hcat : (rest.map fun v => v.category).sum ≤ 8) (hdg : decode cc pc = .ok (.invokevirtual index, 3)) (hcs : cells + mc2 ≤ R.cells ∧ slots + ms2 ≤ R.slots)
    (kk : ∀ (L' : List ro) (ad' : ro → Nat) (st' : ro → va_E) (H1 : Heap) (locs1 : List Loc), post (L', ad', st') → gW X A L' ad' st' s H1 → va_S A s.heap H1 locs1 → W p l e R s m args below meth c H1 locs1 (cells + mc2) (slots + ms2) Q (F0 m (pc + 3) ls rest)) : W p l e R s m args below meth c H locs cells slots Q (F0 m pc ls st0) := by
  have hf := g_free C hW hS
  have hrv : ∃ cell : Cell, H[X.2.2 k]? = some cell ∧ cell.vm.isStatics = false ∧ s.vm.findClass "java/lang/String" = some cell.cls := by
    obtain ⟨cell, q1, q2, q3, -⟩ := (g_tx C hk6).1.kept hS.2.1
    exact ⟨cell, q1, q2, q3⟩
  exact va_callv (va_runV (As := As) (rest := rest) C.1 (hM H.size) (tcV C.1.2.2.2.2 h1 h2 h3 h4 h5 rfl rfl hd hR) ⟨gPre_blind, hrv, g_pre C hW hS⟩ rfl hk hsz hst (lv_room hcat) hdg hcs) hS (fun q _ h => hf q h) hf (fun u t H1 locs1 ht hvm hp hB _ _ hS1 => kk u.1 u.2.1 u.2.2 H1 locs1 hp (g_back hf ht hvm hB) hS1)
end TXV
set_option maxHeartbeats 4000000 in
set_option maxRecDepth 100000 in
theorem c_J5_init_d00df (l : Launch) (X : GX) (L : List ro) (ad : ro → Nat) (st : ro → va_E)  (m64 : (64, 0) ∈ L) (n61 : (61, 0) ∉ L) (e64 : st (64, 0) = .inr (1, [.null, .int 0, .int 0, .int 0]))  : gMv l yJ5_init_d00df cJ5_init_d00df 2 none 1 12 1 16 X [.ref (ad (64, 0)), .int 16] L ad st (fun u => ∃ ad' st', u = (L ++ [(61, 0)], ad', st') ∧ (∀ x : ro, x ≠ (61, 0) → ad' x = ad x) ∧ (∀ x : ro, x ≠ (61, 0) → x ≠ (64, 0) → st' x = st x) ∧ st' (64, 0) = .inr (1, [.ref (ad' (61, 0)), .int 0, .int 0, .int 0]) ∧ st' (61, 0) = .inl (X.2.1 0, 16, .inl (fun _ => 0))) := by
  intro sz
  refine gM_of2 (Qc := fun A => va_Qv _ (gB X A) A) (by decide) (Nat.le_of_ble_eq_true rfl) ?_ sz
  intro p e s m args below meth c A R Q hR hQ C hW hS ls hl
  obtain ⟨hR1, hR2, hR3, hR4⟩ := hR
  have hx := C.1.1
  have hb := C.1.2.1
  have hml := C.1.2.2.1
  have hl : lv_has ls 2 [(0, .ref (ad (64, 0))), (1, .int 16)] := hl
  refine lv_aload_n hx hb dJ5_init_d00df_0 rfl (lv_at hl 0 rfl) ?_
  refine W.objInit hx hb C.1.2.2.2.1 (C.1.2.2.2.2 _ tw_2_184) (C.1.2.2.2.2 _ oi_inst) (C.1.2.2.2.2 _ oi_code) rfl (by rw [hml]; exact hl.1) rfl dJ5_init_d00df_1 (by rw [hR1]; exact Nat.le_of_ble_eq_true rfl) (by rw [hR2]; exact Nat.le_of_ble_eq_true rfl) ?_
  refine W.eq (g2 := F0 m 4 ls []) rfl ?_
  refine va_gets hx hb C.2.2.2.2.2.1.1 hS C.1.2.2.2.1 (C.1.2.2.2.2 _ tw_2_185) (fun _ h9 => h9) dJ5_init_d00df_4 ?_
  refine lv_if_eq (tgt := 25) hx hb dJ5_init_d00df_7 (by decide) (fun c9 => absurd c9 (by decide)) (fun _ => ?_)
  refine lv_aload_n hx hb dJ5_init_d00df_10 rfl (lv_at hl 0 rfl) ?_
  refine lv_iload_n hx hb dJ5_init_d00df_11 rfl (lv_at hl 1 rfl) ?_
  refine g_newb (r := (61, 0)) (atype := .byte) (ty := .byte) (t0 := 0) (N' := 16) (a0 := (16, .inl (fun _ => 0))) C hW hS n61 tw_1_66 rfl rfl (fun _ => rfl) (by decide) (by decide) (by decide) (by rw [hR3]; exact Nat.le_of_ble_eq_true rfl) (by rw [hR4]; exact Nat.le_of_ble_eq_true rfl) dJ5_init_d00df_12 (fun ad1 st2 H ha3 fk4 hs5 hW hS => ?_)
  have hl : lv_has ls 2 [(0, .ref (ad1 (64, 0))), (1, .int 16)] := by rw [ha3 (64, 0) (by decide)]; exact hl
  refine W.eq (g2 := F0 m 14 ls [.ref (ad1 (61, 0)), .ref (ad1 (64, 0))]) (by rw [ha3 (64, 0) (by decide)] <;> rfl) ?_
  have fk6 : st2 (64, 0) = .inr (1, [.null, .int 0, .int 0, .int 0]) := (hs5 (64, 0) (by decide)).trans e64
  have af7 : ∀ x : ro, x ≠ (61, 0) → ad1 x = ad x := fun x a0 => ha3 x a0
  have sf8 : ∀ x : ro, x ≠ (61, 0) → st2 x = st x := fun x a0 => hs5 x a0
  refine g_putx (r := (64, 0)) (Cn := RJ4) (T := TJ4) (N := 4) (ci := 1) (ty0 := tyJ4) (fs2 := [.ref (ad1 (61, 0)), .int 0, .int 0, .int 0]) C tinJ4 tyJ4_ok nmJ4 hW hS (List.mem_append_left _ m64) fk6 rfl 0 (by decide) tw_2_193 (fun _ h9 => h9) rfl rfl rfl (Nat.le_of_ble_eq_true rfl) rfl dJ5_init_d00df_14 (fun st9 H locs fk10 hs11 hW hS => ?_)
  have fk12 : st9 (61, 0) = .inl (X.2.1 0, 16, .inl (fun _ => 0)) := (hs11 (61, 0) (by decide)).trans fk4
  have sf13 : ∀ x : ro, x ≠ (61, 0) → x ≠ (64, 0) → st9 x = st x := fun x a0 a1 => (hs11 x a1).trans (sf8 x a0)
  refine lv_aload_n hx hb dJ5_init_d00df_17 rfl (lv_at hl 0 rfl) ?_
  refine lv_iconst (v := 0) hx hb dJ5_init_d00df_18 (by decide) ?_
  refine g_putx (r := (64, 0)) (Cn := RJ4) (T := TJ4) (N := 4) (ci := 1) (ty0 := tyJ4) (fs2 := [.ref (ad1 (61, 0)), .int 0, .int 0, .int 0]) C tinJ4 tyJ4_ok nmJ4 hW hS (List.mem_append_left _ m64) fk10 rfl 1 (by decide) tw_2_194 (fun _ h9 => h9) rfl (by decide) (by decide) (Nat.le_of_ble_eq_true rfl) rfl dJ5_init_d00df_19 (fun st14 H locs fk15 hs16 hW hS => ?_)
  have fk17 : st14 (61, 0) = .inl (X.2.1 0, 16, .inl (fun _ => 0)) := (hs16 (61, 0) (by decide)).trans fk12
  have sf18 : ∀ x : ro, x ≠ (61, 0) → x ≠ (64, 0) → st14 x = st x := fun x a0 a1 => (hs16 x a1).trans (sf13 x a0 a1)
  refine lv_goto (tgt := 38) hx hb dJ5_init_d00df_22 (by decide) ?_
  exact g_vret2 C hQ hW hS ⟨_, _, rfl, (fun x b0 => af7 x b0), (fun x b0 b1 => sf18 x b0 b1), fk15, fk17⟩ (Nat.le_of_ble_eq_true rfl) (Nat.le_of_ble_eq_true rfl) dJ5_init_d00df_38

set_option maxHeartbeats 4000000 in
set_option maxRecDepth 100000 in
theorem c_J4_init_da8c8 (l : Launch) (X : GX) (L : List ro) (ad : ro → Nat) (st : ro → va_E)  (m64 : (64, 0) ∈ L) (n61 : (61, 0) ∉ L) (e64 : st (64, 0) = .inr (1, [.null, .int 0, .int 0, .int 0]))  : gMv l yJ4_init_da8c8 cJ4_init_da8c8 1 none 2 33 1 16 X [.ref (ad (64, 0))] L ad st (fun u => ∃ ad' st', u = (L ++ [(61, 0)], ad', st') ∧ (∀ x : ro, x ≠ (61, 0) → ad' x = ad x) ∧ (∀ x : ro, x ≠ (61, 0) → x ≠ (64, 0) → st' x = st x) ∧ st' (64, 0) = .inr (1, [.ref (ad' (61, 0)), .int 0, .int 0, .int 0]) ∧ st' (61, 0) = .inl (X.2.1 0, 16, .inl (fun _ => 0))) := by
  intro sz
  refine gM_of2 (Qc := fun A => va_Qv _ (gB X A) A) (by decide) (Nat.le_of_ble_eq_true rfl) ?_ sz
  intro p e s m args below meth c A R Q hR hQ C hW hS ls hl
  obtain ⟨hR1, hR2, hR3, hR4⟩ := hR
  have hx := C.1.1
  have hb := C.1.2.1
  have hml := C.1.2.2.1
  have hl : lv_has ls 1 [(0, .ref (ad (64, 0)))] := hl
  refine lv_aload_n hx hb dJ4_init_da8c8_0 rfl (lv_at hl 0 rfl) ?_
  refine lv_bipush (v := 16) hx hb dJ4_init_da8c8_1 (by decide) ?_
  refine g_callIv (k2 := 1) (As := [.int 16]) (rest := []) C (c_J5_init_d00df l X L ad st m64 n61 e64) tw_2_181 tw_2_182 tw_1_23 tw_2_183 (by decide +kernel) ⟨by rw [hR1]; exact Nat.le_of_ble_eq_true rfl, by rw [hR2]; exact Nat.le_of_ble_eq_true rfl⟩ hW hS rfl hl.1 rfl (Nat.le_of_ble_eq_true rfl) dJ4_init_da8c8_3 ⟨by rw [hR3]; exact Nat.le_of_ble_eq_true rfl, by rw [hR4]; exact Nat.le_of_ble_eq_true rfl⟩ (fun  L9 ad1 st2 H locs hp hW hS => ?_)
  obtain ⟨adq, stq, z0, ha3, hs4, fk5, fk6⟩ := hp
  cases z0
  have hl : lv_has ls 1 [(0, .ref (ad1 (64, 0)))] := by rw [ha3 (64, 0) (by decide)]; exact hl
  have af7 : ∀ x : ro, x ≠ (61, 0) → ad1 x = ad x := fun x a0 => ha3 x a0
  have sf8 : ∀ x : ro, x ≠ (61, 0) → x ≠ (64, 0) → st2 x = st x := fun x a0 a1 => hs4 x a0 a1
  exact g_vret2 C hQ hW hS ⟨_, _, rfl, (fun x b0 => af7 x b0), (fun x b0 b1 => sf8 x b0 b1), fk5, fk6⟩ (Nat.le_of_ble_eq_true rfl) (Nat.le_of_ble_eq_true rfl) dJ4_init_da8c8_6

set_option maxHeartbeats 4000000 in
set_option maxRecDepth 100000 in
theorem c_J5_isLatin1_aae02 (l : Launch) (X : GX) (L : List ro) (ad : ro → Nat) (st : ro → va_E) (c9 : Int32) (m64 : (64, 0) ∈ L)  (e64 : st (64, 0) = .inr (1, [.ref (ad (61, 0)), .int 0, .int 0, .int c9]))  : gMi l yJ5_isLatin1_aae02 cJ5_isLatin1_aae02 1 (some .boolean) 0 0 0 0 X [.ref (ad (64, 0))] L ad st (fun v u => u = (L, ad, st) ∧ v = 1) := by
  intro sz
  refine gM_of2 (Qc := fun A => va_Qi _ (gB X A) A) (by decide) (Nat.le_of_ble_eq_true rfl) ?_ sz
  intro p e s m args below meth c A R Q hR hQ C hW hS ls hl
  obtain ⟨hR1, hR2, hR3, hR4⟩ := hR
  have hx := C.1.1
  have hb := C.1.2.1
  have hml := C.1.2.2.1
  have hl : lv_has ls 1 [(0, .ref (ad (64, 0)))] := hl
  refine va_gets hx hb C.2.2.2.2.2.1.1 hS C.1.2.2.2.1 (C.1.2.2.2.2 _ tw_2_185) (fun _ h9 => h9) dJ5_isLatin1_aae02_0 ?_
  refine lv_if_eq (tgt := 17) hx hb dJ5_isLatin1_aae02_3 (by decide) (fun c9 => absurd c9 (by decide)) (fun _ => ?_)
  refine lv_aload_n hx hb dJ5_isLatin1_aae02_6 rfl (lv_at hl 0 rfl) ?_
  refine g_get (r := (64, 0)) (Cn := RJ4) (T := TJ4) (N := 4) (ci := 1) (v := .int 0) C tinJ4 hW m64 e64 rfl 1 (by decide) tw_2_194 (fun _ h9 => h9) rfl dJ5_isLatin1_aae02_7 ?_
  refine lv_if_ne (tgt := 17) hx hb dJ5_isLatin1_aae02_10 (by decide) (fun c9 => absurd c9 (by decide)) (fun _ => ?_)
  refine lv_iconst (v := 1) hx hb dJ5_isLatin1_aae02_13 (by decide) ?_
  refine lv_goto (tgt := 18) hx hb dJ5_isLatin1_aae02_14 (by decide) ?_
  exact g_iret2 C hQ hW hS ⟨rfl, rfl⟩ (by decide) (Nat.zero_le _) (Nat.zero_le _) dJ5_isLatin1_aae02_18

set_option maxHeartbeats 4000000 in
set_option maxRecDepth 100000 in
theorem c_J5_getValue_6d5f1 (l : Launch) (X : GX) (L : List ro) (ad : ro → Nat) (st : ro → va_E) (c9 : Int32) (m64 : (64, 0) ∈ L)  (e64 : st (64, 0) = .inr (1, [.ref (ad (61, 0)), .int 0, .int 0, .int c9]))  : gMq l yJ5_getValue_6d5f1 cJ5_getValue_6d5f1 1 (some (.array .byte)) 0 0 0 0 X [.ref (ad (64, 0))] L ad st (fun v u => u = (L, ad, st) ∧ v = some (ad (61, 0))) := by
  intro sz
  refine gM_of2 (Qc := fun A => va_Qq _ (gB X A) A) (by decide) (Nat.le_of_ble_eq_true rfl) ?_ sz
  intro p e s m args below meth c A R Q hR hQ C hW hS ls hl
  obtain ⟨hR1, hR2, hR3, hR4⟩ := hR
  have hx := C.1.1
  have hb := C.1.2.1
  have hml := C.1.2.2.1
  have hl : lv_has ls 1 [(0, .ref (ad (64, 0)))] := hl
  refine lv_aload_n hx hb dJ5_getValue_6d5f1_0 rfl (lv_at hl 0 rfl) ?_
  refine g_get (r := (64, 0)) (Cn := RJ4) (T := TJ4) (N := 4) (ci := 1) (v := .ref (ad (61, 0))) C tinJ4 hW m64 e64 rfl 0 (by decide) tw_2_193 (fun _ h9 => h9) rfl dJ5_getValue_6d5f1_1 ?_
  exact g_qret2 (v := some (ad (61, 0))) C (Or.inr ⟨_, rfl⟩) hQ hW hS ⟨rfl, rfl⟩ (Nat.zero_le _) (Nat.zero_le _) dJ5_getValue_6d5f1_4

set_option maxHeartbeats 4000000 in
set_option maxRecDepth 100000 in
theorem c_J5_length_8abf5 (l : Launch) (X : GX) (L : List ro) (ad : ro → Nat) (st : ro → va_E) (c9 : Int32) (m64 : (64, 0) ∈ L)  (e64 : st (64, 0) = .inr (1, [.ref (ad (61, 0)), .int 0, .int 0, .int c9]))  : gMi l yJ5_length_8abf5 cJ5_length_8abf5 1 (some .int) 0 0 0 0 X [.ref (ad (64, 0))] L ad st (fun v u => u = (L, ad, st) ∧ v = c9) := by
  intro sz
  refine gM_of2 (Qc := fun A => va_Qi _ (gB X A) A) (by decide) (Nat.le_of_ble_eq_true rfl) ?_ sz
  intro p e s m args below meth c A R Q hR hQ C hW hS ls hl
  obtain ⟨hR1, hR2, hR3, hR4⟩ := hR
  have hx := C.1.1
  have hb := C.1.2.1
  have hml := C.1.2.2.1
  have hl : lv_has ls 1 [(0, .ref (ad (64, 0)))] := hl
  refine lv_aload_n hx hb dJ5_length_8abf5_0 rfl (lv_at hl 0 rfl) ?_
  refine g_get (r := (64, 0)) (Cn := RJ4) (T := TJ4) (N := 4) (ci := 1) (v := .int c9) C tinJ4 hW m64 e64 rfl 3 (by decide) tw_2_196 (fun _ h9 => h9) rfl dJ5_length_8abf5_1 ?_
  exact g_iret2 C hQ hW hS ⟨rfl, rfl⟩ rfl (Nat.zero_le _) (Nat.zero_le _) dJ5_length_8abf5_4

set_option maxHeartbeats 4000000 in
set_option maxRecDepth 100000 in
theorem c_J5_ensureCapacityInternal_d00df (l : Launch) (X : GX) (L : List ro) (ad : ro → Nat) (st : ro → va_E) (c9 : Int32) (f9 : Nat → Int32) (q : Nat) (m64 : (64, 0) ∈ L) (m61 : (61, 0) ∈ L)  (e64 : st (64, 0) = .inr (1, [.ref (ad (61, 0)), .int 0, .int 0, .int c9])) (e61 : st (61, 0) = .inl (X.2.1 0, 16, .inl f9)) (hq : q ≤ 16) : gMv l yJ5_ensureCapacityInternal_d00df cJ5_ensureCapacityInternal_d00df 3 none 0 0 0 0 X [.ref (ad (64, 0)), .int (nI q)] L ad st (fun u => u = (L, ad, st)) := by
  intro sz
  refine gM_of2 (Qc := fun A => va_Qv _ (gB X A) A) (by decide) (Nat.le_of_ble_eq_true rfl) ?_ sz
  intro p e s m args below meth c A R Q hR hQ C hW hS ls hl
  obtain ⟨hR1, hR2, hR3, hR4⟩ := hR
  have hx := C.1.1
  have hb := C.1.2.1
  have hml := C.1.2.2.1
  have hl : lv_has ls 3 [(0, .ref (ad (64, 0))), (1, .int (nI q))] := hl
  refine lv_aload_n hx hb dJ5_ensureCapacityInternal_d00df_0 rfl (lv_at hl 0 rfl) ?_
  refine g_get (r := (64, 0)) (Cn := RJ4) (T := TJ4) (N := 4) (ci := 1) (v := .ref (ad (61, 0))) C tinJ4 hW m64 e64 rfl 0 (by decide) tw_2_193 (fun _ h9 => h9) rfl dJ5_ensureCapacityInternal_d00df_1 ?_
  refine g_alen (r := (61, 0)) (t0 := 0) (v := 16) C hW m61 e61 rfl rfl dJ5_ensureCapacityInternal_d00df_4 ?_
  refine lv_aload_n hx hb dJ5_ensureCapacityInternal_d00df_5 rfl (lv_at hl 0 rfl) ?_
  refine g_get (r := (64, 0)) (Cn := RJ4) (T := TJ4) (N := 4) (ci := 1) (v := .int 0) C tinJ4 hW m64 e64 rfl 1 (by decide) tw_2_194 (fun _ h9 => h9) rfl dJ5_ensureCapacityInternal_d00df_6 ?_
  refine lv_ishr hx hb dJ5_ensureCapacityInternal_d00df_9 ?_
  refine lv_topE (y := 16) (by decide) ?_
  refine lv_istore_n (lv' := [(2, .int 16), (0, .ref (ad (64, 0))), (1, .int (nI q))]) hx hb dJ5_ensureCapacityInternal_d00df_10 rfl hl (by decide) rfl (fun ls hl => ?_)
  refine lv_iload_n hx hb dJ5_ensureCapacityInternal_d00df_11 rfl (lv_at hl 2 rfl) ?_
  refine lv_iload_n hx hb dJ5_ensureCapacityInternal_d00df_12 rfl (lv_at hl 0 rfl) ?_
  refine lv_isub hx hb dJ5_ensureCapacityInternal_d00df_13 ?_
  refine lv_topE (y := nI q - 16) rfl ?_
  refine lv_if_le (tgt := 38) hx hb dJ5_ensureCapacityInternal_d00df_14 (by decide) (fun _ => ?_) (fun c9 => absurd (le16 hq) c9)
  exact g_vret2 C hQ hW hS rfl (Nat.zero_le _) (Nat.zero_le _) dJ5_ensureCapacityInternal_d00df_38

set_option maxHeartbeats 4000000 in
set_option maxRecDepth 100000 in
theorem c_J5_inflateIfNeededFor_a7421 (l : Launch) (X : GX) (L : List ro) (ad : ro → Nat) (st : ro → va_E) (c9 : Int32) (k : Nat) (m64 : (64, 0) ∈ L)  (e64 : st (64, 0) = .inr (1, [.ref (ad (61, 0)), .int 0, .int 0, .int c9])) (hk : k < 6) : gMv l yJ5_inflateIfNeededFor_a7421 cJ5_inflateIfNeededFor_a7421 2 none 1 20 0 0 X [.ref (ad (64, 0)), .ref (X.2.2 k)] L ad st (fun u => u = (L, ad, st)) := by
  intro sz
  refine gM_of2 (Qc := fun A => va_Qv _ (gB X A) A) (by decide) (Nat.le_of_ble_eq_true rfl) ?_ sz
  intro p e s m args below meth c A R Q hR hQ C hW hS ls hl
  obtain ⟨hR1, hR2, hR3, hR4⟩ := hR
  have hx := C.1.1
  have hb := C.1.2.1
  have hml := C.1.2.2.1
  have hl : lv_has ls 2 [(0, .ref (ad (64, 0))), (1, .ref (X.2.2 k))] := hl
  refine va_gets hx hb C.2.2.2.2.2.1.1 hS C.1.2.2.2.1 (C.1.2.2.2.2 _ tw_2_185) (fun _ h9 => h9) dJ5_inflateIfNeededFor_a7421_0 ?_
  refine lv_if_eq (tgt := 21) hx hb dJ5_inflateIfNeededFor_a7421_3 (by decide) (fun c9 => absurd c9 (by decide)) (fun _ => ?_)
  refine lv_aload_n hx hb dJ5_inflateIfNeededFor_a7421_6 rfl (lv_at hl 0 rfl) ?_
  refine g_get (r := (64, 0)) (Cn := RJ4) (T := TJ4) (N := 4) (ci := 1) (v := .int 0) C tinJ4 hW m64 e64 rfl 1 (by decide) tw_2_194 (fun _ h9 => h9) rfl dJ5_inflateIfNeededFor_a7421_7 ?_
  refine lv_aload_n hx hb dJ5_inflateIfNeededFor_a7421_10 rfl (lv_at hl 1 rfl) ?_
  refine g_callTi (k := k) (k2 := 0) (As := []) (rest := [.int 0]) hk C (c_J0_coder_7d493 l X L ad st k hk) tw_3_28 tw_2_51 tw_2_52 tw_1_17 tw_2_53 (by decide +kernel) ⟨by rw [hR1]; exact Nat.le_of_ble_eq_true rfl, by rw [hR2]; exact Nat.le_of_ble_eq_true rfl⟩ hW hS rfl hl.1 rfl (Nat.le_of_ble_eq_true rfl) dJ5_inflateIfNeededFor_a7421_11 ⟨Nat.zero_le _, Nat.zero_le _⟩ (fun x1 H locs hp hW hS => ?_)
  subst hp
  refine lv_icmp_eq (tgt := 21) hx hb dJ5_inflateIfNeededFor_a7421_14 (by decide) (fun _ => ?_) (fun c9 => absurd (by decide) c9)
  exact g_vret2 C hQ hW hS rfl (Nat.zero_le _) (Nat.zero_le _) dJ5_inflateIfNeededFor_a7421_21

set_option maxHeartbeats 4000000 in
set_option maxRecDepth 100000 in
theorem c_J0_getBytes_840e7 (l : Launch) (X : GX) (L : List ro) (ad : ro → Nat) (st : ro → va_E) (k n : Nat) (f9 : Nat → Int32) (m61 : (61, 0) ∈ L)  (e61 : st (61, 0) = .inl (X.2.1 0, 16, .inl f9)) (hk : k < 6) (hn : n + (gsLen.getD k 0) ≤ 16) : gMv l yJ0_getBytes_840e7 cJ0_getBytes_840e7 4 none 1 60 0 0 X [.ref (X.2.2 k), .ref (ad (61, 0)), .int (nI n), .int 0] L ad st (fun u => ∃ st', u = (L, ad, st') ∧ (∀ x : ro, x ≠ (61, 0) → st' x = st x) ∧ st' (61, 0) = .inl (X.2.1 0, 16, .inl (va_cpy (fun j => (gsByt.getD k []).getD j 0) f9 0 n (gsLen.getD k 0)))) := by
  intro sz
  refine gM_of2 (Qc := fun A => va_Qv _ (gB X A) A) (by decide) (Nat.le_of_ble_eq_true rfl) ?_ sz
  intro p e s m args below meth c A R Q hR hQ C hW hS ls hl
  obtain ⟨hR1, hR2, hR3, hR4⟩ := hR
  have hx := C.1.1
  have hb := C.1.2.1
  have hml := C.1.2.2.1
  have hl : lv_has ls 4 [(0, .ref (X.2.2 k)), (1, .ref (ad (61, 0))), (2, .int (nI n)), (3, .int 0)] := hl
  refine lv_aload_n hx hb dJ0_getBytes_840e7_0 rfl (lv_at hl 0 rfl) ?_
  refine g_callTi (k := k) (k2 := 0) (As := []) (rest := []) hk C (c_J0_coder_7d493 l X L ad st k hk) tw_2_50 tw_2_51 tw_2_52 tw_1_17 tw_2_53 (by decide +kernel) ⟨by rw [hR1]; exact Nat.le_of_ble_eq_true rfl, by rw [hR2]; exact Nat.le_of_ble_eq_true rfl⟩ hW hS rfl hl.1 rfl (Nat.le_of_ble_eq_true rfl) dJ0_getBytes_840e7_1 ⟨Nat.zero_le _, Nat.zero_le _⟩ (fun x1 H locs hp hW hS => ?_)
  subst hp
  refine lv_iload_n hx hb dJ0_getBytes_840e7_4 rfl (lv_at hl 3 rfl) ?_
  refine lv_icmp_ne (tgt := 28) hx hb dJ0_getBytes_840e7_5 (by decide) (fun c9 => absurd c9 (by decide)) (fun _ => ?_)
  refine lv_aload_n hx hb dJ0_getBytes_840e7_8 rfl (lv_at hl 0 rfl) ?_
  refine vk_getf hx hb (g_tx C hk).2.2.1 hS C.1.2.2.2.1 (C.1.2.2.2.2 _ tw_3_209) (fun _ h9 => h9) dJ0_getBytes_840e7_9 ?_
  refine lv_iconst (v := 0) hx hb dJ0_getBytes_840e7_12 (by decide) ?_
  refine lv_aload_n hx hb dJ0_getBytes_840e7_13 rfl (lv_at hl 1 rfl) ?_
  refine lv_iload_n hx hb dJ0_getBytes_840e7_14 rfl (lv_at hl 2 rfl) ?_
  refine lv_iload_n hx hb dJ0_getBytes_840e7_15 rfl (lv_at hl 3 rfl) ?_
  refine lv_ishl hx hb dJ0_getBytes_840e7_16 ?_
  refine lv_topE (y := nI n) (sb_shl0 _) ?_
  refine lv_aload_n hx hb dJ0_getBytes_840e7_17 rfl (lv_at hl 0 rfl) ?_
  refine vk_getf hx hb (g_tx C hk).2.2.1 hS C.1.2.2.2.1 (C.1.2.2.2.2 _ tw_3_209) (fun _ h9 => h9) dJ0_getBytes_840e7_18 ?_
  refine va_tlen (v := nI (gsLen.getD k 0)) hx hb (g_tx C hk).2.2.2 hS rfl dJ0_getBytes_840e7_21 ?_
  refine g_copyt (r := (61, 0)) hk C hW hS hl.1 tw_3_52 m61 e61 (sp := 0) (dp := n) (n := (gsLen.getD k 0)) rfl rfl rfl (by omega) (by omega) (by omega) (by rw [hR1]; exact Nat.le_of_ble_eq_true rfl) (by rw [hR2]; exact Nat.le_of_ble_eq_true rfl) dJ0_getBytes_840e7_22 (fun st4 H locs fk5 hs6 hW hS => ?_)
  have sf7 : ∀ x : ro, x ≠ (61, 0) → st4 x = st x := fun x a0 => hs6 x a0
  refine lv_goto (tgt := 43) hx hb dJ0_getBytes_840e7_25 (by decide) ?_
  exact g_vret2 C hQ hW hS ⟨_, rfl, (fun x b0 => sf7 x b0), fk5⟩ (Nat.zero_le _) (Nat.zero_le _) dJ0_getBytes_840e7_43

set_option maxHeartbeats 4000000 in
set_option maxRecDepth 100000 in
theorem c_J5_putStringAt_47b60 (l : Launch) (X : GX) (L : List ro) (ad : ro → Nat) (st : ro → va_E) (n : Nat) (c9 : Int32) (f9 : Nat → Int32) (k : Nat) (m64 : (64, 0) ∈ L) (m61 : (61, 0) ∈ L)  (e64 : st (64, 0) = .inr (1, [.ref (ad (61, 0)), .int 0, .int 0, .int c9])) (e61 : st (61, 0) = .inl (X.2.1 0, 16, .inl f9)) (hk : k < 6) (hn : n + (gsLen.getD k 0) ≤ 16) : gMv l yJ5_putStringAt_47b60 cJ5_putStringAt_47b60 3 none 2 83 0 0 X [.ref (ad (64, 0)), .int (nI n), .ref (X.2.2 k)] L ad st (fun u => ∃ st', u = (L, ad, st') ∧ (∀ x : ro, x ≠ (61, 0) → st' x = st x) ∧ st' (61, 0) = .inl (X.2.1 0, 16, .inl (va_cpy (fun j => (gsByt.getD k []).getD j 0) f9 0 n (gsLen.getD k 0))) ∧ st' (64, 0) = .inr (1, [.ref (ad (61, 0)), .int 0, .int 0, .int c9])) := by
  intro sz
  refine gM_of2 (Qc := fun A => va_Qv _ (gB X A) A) (by decide) (Nat.le_of_ble_eq_true rfl) ?_ sz
  intro p e s m args below meth c A R Q hR hQ C hW hS ls hl
  obtain ⟨hR1, hR2, hR3, hR4⟩ := hR
  have hx := C.1.1
  have hb := C.1.2.1
  have hml := C.1.2.2.1
  have hl : lv_has ls 3 [(0, .ref (ad (64, 0))), (1, .int (nI n)), (2, .ref (X.2.2 k))] := hl
  refine lv_aload_n hx hb dJ5_putStringAt_47b60_0 rfl (lv_at hl 0 rfl) ?_
  refine lv_aload_n hx hb dJ5_putStringAt_47b60_1 rfl (lv_at hl 2 rfl) ?_
  refine g_callUv (r := (64, 0)) (T := TJ4) (N := 4) (k2 := 1) (As := [.ref (X.2.2 k)]) (rest := []) C (c_J5_inflateIfNeededFor_a7421 l X L ad st c9 k m64 e64 hk) tw_3_24 tw_7_59 tw_3_26 tw_9_2 tw_1_23 tw_3_27 (by decide +kernel) ⟨by rw [hR1]; exact Nat.le_of_ble_eq_true rfl, by rw [hR2]; exact Nat.le_of_ble_eq_true rfl⟩ hW hS m64 e64 rfl rfl hl.1 rfl (Nat.le_of_ble_eq_true rfl) dJ5_putStringAt_47b60_2 ⟨Nat.zero_le _, Nat.zero_le _⟩ (fun  L9 ad1 st2 H locs hp hW hS => ?_)
  cases hp
  refine lv_aload_n hx hb dJ5_putStringAt_47b60_5 rfl (lv_at hl 2 rfl) ?_
  refine lv_aload_n hx hb dJ5_putStringAt_47b60_6 rfl (lv_at hl 0 rfl) ?_
  refine g_get (r := (64, 0)) (Cn := RJ4) (T := TJ4) (N := 4) (ci := 1) (v := .ref (ad (61, 0))) C tinJ4 hW m64 e64 rfl 0 (by decide) tw_2_193 (fun _ h9 => h9) rfl dJ5_putStringAt_47b60_7 ?_
  refine lv_iload_n hx hb dJ5_putStringAt_47b60_10 rfl (lv_at hl 1 rfl) ?_
  refine lv_aload_n hx hb dJ5_putStringAt_47b60_11 rfl (lv_at hl 0 rfl) ?_
  refine g_get (r := (64, 0)) (Cn := RJ4) (T := TJ4) (N := 4) (ci := 1) (v := .int 0) C tinJ4 hW m64 e64 rfl 1 (by decide) tw_2_194 (fun _ h9 => h9) rfl dJ5_putStringAt_47b60_12 ?_
  refine g_callTv (k := k) (k2 := 3) (As := [.ref (ad (61, 0)), .int (nI n), .int 0]) (rest := []) hk C (c_J0_getBytes_840e7 l X L ad st k n f9 m61 e61 hk (by omega)) tw_3_48 tw_3_49 tw_3_50 tw_1_17 tw_3_51 (by decide +kernel) ⟨by rw [hR1]; exact Nat.le_of_ble_eq_true rfl, by rw [hR2]; exact Nat.le_of_ble_eq_true rfl⟩ hW hS rfl hl.1 rfl (Nat.le_of_ble_eq_true rfl) dJ5_putStringAt_47b60_15 ⟨Nat.zero_le _, Nat.zero_le _⟩ (fun L9 ad3 st4 H locs hp hW hS => ?_)
  obtain ⟨stq, z0, hs5, fk6⟩ := hp
  cases z0
  have fk7 : st4 (64, 0) = .inr (1, [.ref (ad (61, 0)), .int 0, .int 0, .int c9]) := (hs5 (64, 0) (by decide)).trans e64
  have sf8 : ∀ x : ro, x ≠ (61, 0) → st4 x = st x := fun x a0 => hs5 x a0
  exact g_vret2 C hQ hW hS ⟨_, rfl, (fun x b0 => sf8 x b0), fk6, fk7⟩ (Nat.zero_le _) (Nat.zero_le _) dJ5_putStringAt_47b60_18

set_option maxHeartbeats 4000000 in
set_option maxRecDepth 100000 in
theorem c_J5_append_cf1ce (l : Launch) (X : GX) (L : List ro) (ad : ro → Nat) (st : ro → va_E) (n : Nat) (f9 : Nat → Int32) (k : Nat) (m64 : (64, 0) ∈ L) (m61 : (61, 0) ∈ L)  (e64 : st (64, 0) = .inr (1, [.ref (ad (61, 0)), .int 0, .int 0, .int (nI n)])) (e61 : st (61, 0) = .inl (X.2.1 0, 16, .inl f9)) (hk : k < 6) (hn : n + (gsLen.getD k 0) ≤ 16) : gMq l yJ5_append_cf1ce cJ5_append_cf1ce 3 (some (.object "java/lang/AbstractStringBuilder")) 3 105 0 0 X [.ref (ad (64, 0)), .ref (X.2.2 k)] L ad st (fun v u => ∃ st', u = (L, ad, st') ∧ (∀ x : ro, x ≠ (61, 0) → x ≠ (64, 0) → st' x = st x) ∧ st' (61, 0) = .inl (X.2.1 0, 16, .inl (va_cpy (fun j => (gsByt.getD k []).getD j 0) f9 0 n (gsLen.getD k 0))) ∧ st' (64, 0) = .inr (1, [.ref (ad (61, 0)), .int 0, .int 0, .int (nI (n + (gsLen.getD k 0)))]) ∧ v = some (ad (64, 0))) := by
  intro sz
  refine gM_of2 (Qc := fun A => va_Qq _ (gB X A) A) (by decide) (Nat.le_of_ble_eq_true rfl) ?_ sz
  intro p e s m args below meth c A R Q hR hQ C hW hS ls hl
  obtain ⟨hR1, hR2, hR3, hR4⟩ := hR
  have hx := C.1.1
  have hb := C.1.2.1
  have hml := C.1.2.2.1
  have hl : lv_has ls 3 [(0, .ref (ad (64, 0))), (1, .ref (X.2.2 k))] := hl
  refine lv_aload_n hx hb dJ5_append_cf1ce_0 rfl (lv_at hl 1 rfl) ?_
  refine lv_ifnonnull (tgt := 9) hx hb dJ5_append_cf1ce_1 (by decide) ?_
  refine lv_aload_n hx hb dJ5_append_cf1ce_9 rfl (lv_at hl 1 rfl) ?_
  refine g_callTi (k := k) (k2 := 0) (As := []) (rest := []) hk C (c_J0_length_8abf5 l X L ad st k hk) tw_3_19 tw_2_47 tw_2_48 tw_1_17 tw_2_49 (by decide +kernel) ⟨by rw [hR1]; exact Nat.le_of_ble_eq_true rfl, by rw [hR2]; exact Nat.le_of_ble_eq_true rfl⟩ hW hS rfl hl.1 rfl (Nat.le_of_ble_eq_true rfl) dJ5_append_cf1ce_10 ⟨Nat.zero_le _, Nat.zero_le _⟩ (fun x1 H locs hp hW hS => ?_)
  subst hp
  refine lv_istore_n (lv' := [(2, .int (nI (gsLen.getD k 0))), (0, .ref (ad (64, 0))), (1, .ref (X.2.2 k))]) hx hb dJ5_append_cf1ce_13 rfl hl (by decide) rfl (fun ls hl => ?_)
  refine lv_aload_n hx hb dJ5_append_cf1ce_14 rfl (lv_at hl 1 rfl) ?_
  refine lv_aload_n hx hb dJ5_append_cf1ce_15 rfl (lv_at hl 1 rfl) ?_
  refine g_get (r := (64, 0)) (Cn := RJ4) (T := TJ4) (N := 4) (ci := 1) (v := .int (nI n)) C tinJ4 hW m64 e64 rfl 3 (by decide) tw_2_196 (fun _ h9 => h9) rfl dJ5_append_cf1ce_16 ?_
  refine lv_iload_n hx hb dJ5_append_cf1ce_19 rfl (lv_at hl 0 rfl) ?_
  refine lv_iadd hx hb dJ5_append_cf1ce_20 ?_
  refine lv_topE (y := nI (n + (gsLen.getD k 0))) (nI_add _ _) ?_
  refine g_callUv (r := (64, 0)) (T := TJ4) (N := 4) (k2 := 1) (As := [.int (nI (n + (gsLen.getD k 0)))]) (rest := []) C (c_J5_ensureCapacityInternal_d00df l X L ad st (nI n) f9 (n + (gsLen.getD k 0)) m64 m61 e64 e61 (by omega)) tw_2_217 tw_7_56 tw_2_219 tw_9_0 tw_1_23 tw_2_220 (by decide +kernel) ⟨by rw [hR1]; exact Nat.le_of_ble_eq_true rfl, by rw [hR2]; exact Nat.le_of_ble_eq_true rfl⟩ hW hS m64 e64 rfl rfl hl.1 rfl (Nat.le_of_ble_eq_true rfl) dJ5_append_cf1ce_21 ⟨Nat.zero_le _, Nat.zero_le _⟩ (fun  L9 ad4 st5 H locs hp hW hS => ?_)
  cases hp
  refine lv_aload_n hx hb dJ5_append_cf1ce_24 rfl (lv_at hl 1 rfl) ?_
  refine lv_aload_n hx hb dJ5_append_cf1ce_25 rfl (lv_at hl 1 rfl) ?_
  refine g_get (r := (64, 0)) (Cn := RJ4) (T := TJ4) (N := 4) (ci := 1) (v := .int (nI n)) C tinJ4 hW m64 e64 rfl 3 (by decide) tw_2_196 (fun _ h9 => h9) rfl dJ5_append_cf1ce_26 ?_
  refine lv_aload_n hx hb dJ5_append_cf1ce_29 rfl (lv_at hl 2 rfl) ?_
  refine g_callUv (r := (64, 0)) (T := TJ4) (N := 4) (k2 := 2) (As := [.int (nI n), .ref (X.2.2 k)]) (rest := []) C (c_J5_putStringAt_47b60 l X L ad st n (nI n) f9 k m64 m61 e64 e61 hk (by omega)) tw_3_20 tw_7_58 tw_3_22 tw_9_1 tw_1_23 tw_3_23 (by decide +kernel) ⟨by rw [hR1]; exact Nat.le_of_ble_eq_true rfl, by rw [hR2]; exact Nat.le_of_ble_eq_true rfl⟩ hW hS m64 e64 rfl rfl hl.1 rfl (Nat.le_of_ble_eq_true rfl) dJ5_append_cf1ce_30 ⟨Nat.zero_le _, Nat.zero_le _⟩ (fun  L9 ad6 st7 H locs hp hW hS => ?_)
  obtain ⟨stq, z0, hs8, fk9, fk10⟩ := hp
  cases z0
  have sf11 : ∀ x : ro, x ≠ (61, 0) → st7 x = st x := fun x a0 => hs8 x a0
  refine lv_aload_n hx hb dJ5_append_cf1ce_33 rfl (lv_at hl 1 rfl) ?_
  refine lv_dup hx hb dJ5_append_cf1ce_34 rfl ?_
  refine g_get (r := (64, 0)) (Cn := RJ4) (T := TJ4) (N := 4) (ci := 1) (v := .int (nI n)) C tinJ4 hW m64 fk10 rfl 3 (by decide) tw_2_196 (fun _ h9 => h9) rfl dJ5_append_cf1ce_35 ?_
  refine lv_iload_n hx hb dJ5_append_cf1ce_38 rfl (lv_at hl 0 rfl) ?_
  refine lv_iadd hx hb dJ5_append_cf1ce_39 ?_
  refine lv_topE (y := nI (n + (gsLen.getD k 0))) (nI_add _ _) ?_
  refine g_putx (r := (64, 0)) (Cn := RJ4) (T := TJ4) (N := 4) (ci := 1) (ty0 := tyJ4) (fs2 := [.ref (ad (61, 0)), .int 0, .int 0, .int (nI (n + (gsLen.getD k 0)))]) C tinJ4 tyJ4_ok nmJ4 hW hS m64 fk10 rfl 3 (by decide) tw_2_196 (fun _ h9 => h9) rfl rfl rfl (Nat.le_of_ble_eq_true rfl) rfl dJ5_append_cf1ce_40 (fun st12 H locs fk13 hs14 hW hS => ?_)
  have fk15 : st12 (61, 0) = .inl (X.2.1 0, 16, .inl (va_cpy (fun j => (gsByt.getD k []).getD j 0) f9 0 n (gsLen.getD k 0))) := (hs14 (61, 0) (by decide)).trans fk9
  have sf16 : ∀ x : ro, x ≠ (61, 0) → x ≠ (64, 0) → st12 x = st x := fun x a0 a1 => (hs14 x a1).trans (sf11 x a0)
  refine lv_aload_n hx hb dJ5_append_cf1ce_43 rfl (lv_at hl 1 rfl) ?_
  exact g_qret2 (v := some (ad (64, 0))) C (Or.inl ⟨_, rfl⟩) hQ hW hS ⟨_, rfl, (fun x b0 b1 => sf16 x b0 b1), fk15, fk13, rfl⟩ (Nat.zero_le _) (Nat.zero_le _) dJ5_append_cf1ce_44

set_option maxHeartbeats 4000000 in
set_option maxRecDepth 100000 in
theorem c_J4_append_15ec4 (l : Launch) (X : GX) (L : List ro) (ad : ro → Nat) (st : ro → va_E) (n : Nat) (f9 : Nat → Int32) (k : Nat) (m64 : (64, 0) ∈ L) (m61 : (61, 0) ∈ L)  (e64 : st (64, 0) = .inr (1, [.ref (ad (61, 0)), .int 0, .int 0, .int (nI n)])) (e61 : st (61, 0) = .inl (X.2.1 0, 16, .inl f9)) (hk : k < 6) (hn : n + (gsLen.getD k 0) ≤ 16) : gMq l yJ4_append_15ec4 cJ4_append_15ec4 2 (some (.object "java/lang/StringBuilder")) 4 127 0 0 X [.ref (ad (64, 0)), .ref (X.2.2 k)] L ad st (fun v u => ∃ st', u = (L, ad, st') ∧ (∀ x : ro, x ≠ (61, 0) → x ≠ (64, 0) → st' x = st x) ∧ st' (61, 0) = .inl (X.2.1 0, 16, .inl (va_cpy (fun j => (gsByt.getD k []).getD j 0) f9 0 n (gsLen.getD k 0))) ∧ st' (64, 0) = .inr (1, [.ref (ad (61, 0)), .int 0, .int 0, .int (nI (n + (gsLen.getD k 0)))]) ∧ v = some (ad (64, 0))) := by
  intro sz
  refine gM_of2 (Qc := fun A => va_Qq _ (gB X A) A) (by decide) (Nat.le_of_ble_eq_true rfl) ?_ sz
  intro p e s m args below meth c A R Q hR hQ C hW hS ls hl
  obtain ⟨hR1, hR2, hR3, hR4⟩ := hR
  have hx := C.1.1
  have hb := C.1.2.1
  have hml := C.1.2.2.1
  have hl : lv_has ls 2 [(0, .ref (ad (64, 0))), (1, .ref (X.2.2 k))] := hl
  refine lv_aload_n hx hb dJ4_append_15ec4_0 rfl (lv_at hl 0 rfl) ?_
  refine lv_aload_n hx hb dJ4_append_15ec4_1 rfl (lv_at hl 1 rfl) ?_
  refine g_callSUq (r := (64, 0)) (T := TJ4) (N := 4) (k2 := 1) (As := [.ref (X.2.2 k)]) (rest := []) C (c_J5_append_cf1ce l X L ad st n f9 k m64 m61 e64 e61 hk (by omega)) tw_2_210 tw_7_54 tw_2_205 tw_2_211 tw_1_23 tw_2_212 (by decide +kernel) ⟨by rw [hR1]; exact Nat.le_of_ble_eq_true rfl, by rw [hR2]; exact Nat.le_of_ble_eq_true rfl⟩ hW hS m64 e64 rfl rfl hl.1 rfl (Nat.le_of_ble_eq_true rfl) dJ4_append_15ec4_2 ⟨Nat.zero_le _, Nat.zero_le _⟩ (fun v1 L9 ad2 st3 H locs hp hW hS => ?_)
  obtain ⟨stq, z0, hs4, fk5, fk6, h7⟩ := hp
  cases z0
  subst h7
  have sf8 : ∀ x : ro, x ≠ (61, 0) → x ≠ (64, 0) → st3 x = st x := fun x a0 a1 => hs4 x a0 a1
  refine lv_topV (y := .ref (ad (64, 0))) rfl ?_
  refine lv_pop hx hb dJ4_append_15ec4_5 rfl ?_
  refine lv_aload_n hx hb dJ4_append_15ec4_6 rfl (lv_at hl 0 rfl) ?_
  exact g_qret2 (v := some (ad (64, 0))) C (Or.inl ⟨_, rfl⟩) hQ hW hS ⟨_, rfl, (fun x b0 b1 => sf8 x b0 b1), fk5, fk6, rfl⟩ (Nat.zero_le _) (Nat.zero_le _) dJ4_append_15ec4_7

