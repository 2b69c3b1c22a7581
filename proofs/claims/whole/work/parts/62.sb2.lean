section GC9
variable {p : Program} {l : Launch} {e : Env} {R : Room} {s : State} {m : MethodId} {args : Array Value} {below : List Frame} {meth : Method} {c : Code} {H : Heap} {locs : List Loc} {cells slots : Nat} {Q : State → Prop}
variable {cc : ByteArray} {nL : Nat} {ret : Option FieldType} {own mname : String} {pc : Nat} {ls : Array Slot} {rest : List Value} {X : GX} {A : Nat → Prop} {L : List ro} {ad : ro → Nat} {st : ro → va_E} {r : ro}
theorem g_callSUi {index n2 fr2 lc2 mc2 ms2 k2 : Nat} {z : MethodName} {b2 : ByteArray} {ret2 : Option FieldType} {Cn : String} {T : u_T} {N ci : Nat} {fs : List Value} {As st0 : List Value} {post : Int32 → WS → Prop} (C : gCx p s m args meth c cc nL ret own mname X A) (hM : gMi l z b2 n2 ret2 fr2 lc2 mc2 ms2 X (.ref (ad r) :: As) L ad st post)
    (h1 : Cond.methodLink own index z ∈ TB) (h6 : Cond.sameMethod z.cls z.cls z.name z.desc ∈ TB) (h7 : Cond.superclass own z.cls ∈ TB) (h2 : Cond.instanceMethod z ∈ TB) (h4 : Cond.initialized z.cls ∈ TB) (h5 : Cond.code z b2 n2 ret2 ∈ TB) (hd : z.name ≠ "<init>" ∧ (parseMethodDescriptor z.desc).map (fun d => d.parameters.length) = some k2) (hR : fr2 + 1 ≤ R.frames ∧ 8 + (n2 + 11) + lc2 ≤ R.locals)
    (hW : gW X A L ad st s H) (hS : va_S A s.heap H locs) (hr : r ∈ L) (he : st r = .inr (ci, fs)) (hci : vwCl[ci]? = some (Cn, T, N)) (hk : As.length = k2) (hsz : ls.size = nL) (hst : st0 = As.reverse ++ .ref (ad r) :: rest) (hcat : (rest.map fun v => v.category).sum ≤ 8) (hdg : decode cc pc = .ok (.invokespecial index, 3)) (hcs : cells + mc2 ≤ R.cells ∧ slots + ms2 ≤ R.slots)
    (kk : ∀ (v : Int32) (L' : List ro) (ad' : ro → Nat) (st' : ro → va_E) (H1 : Heap) (locs1 : List Loc), post v (L', ad', st') → gW X A L' ad' st' s H1 → va_S A s.heap H1 locs1 → W p l e R s m args below meth c H1 locs1 (cells + mc2) (slots + ms2) Q (F0 m (pc + 3) ls (.int v :: rest))) : W p l e R s m args below meth c H locs cells slots Q (F0 m pc ls st0) := by
  obtain ⟨q0, -, h0⟩ := rw_get (ad := ad) (st := st) hr
  rw [he] at h0
  have hf := g_free C hW hS
  have hts := C.1.2.2.2.2
  exact va_calli (va_runSU (As := As) (rest := rest) (hW.2.1.1 ci _ hci).2 C.1 (hM H.size) (va_cwSU k2 hts (fun w hw => by unfold va_wsSU at hw; exact (List.mem_append.mp hw).elim (fun h => by have hb : w ∈ TB := (by simp only [List.mem_cons, List.not_mem_nil, or_false] at h; rcases h with h | h | h | h | h <;> subst h <;> assumption); exact ⟨hb, good_of_word (tB_ok hb)⟩) (fun h => tW_good h5 w h)) rfl rfl rfl hd hR) ⟨gPre_blind, va_recv hW.2.1 hW.1 hci h0, g_pre C hW hS⟩ rfl hk hsz hst (lv_room hcat) hdg hcs) hS (fun q _ h => hf q h) hf (fun v u t H1 locs1 ht hvm hp hB _ _ hS1 => kk v u.1 u.2.1 u.2.2 H1 locs1 hp (g_back hf ht hvm hB) hS1)
theorem g_callOi {index n2 fr2 lc2 mc2 ms2 k2 : Nat} {z x : MethodName} {b2 b0 : ByteArray} {ret2 : Option FieldType} {Cn : String} {T : u_T} {N ci : Nat} {fs : List Value} {m0 : Nat} {r0 : Option FieldType} {As st0 : List Value} {post : Int32 → WS → Prop} (C : gCx p s m args meth c cc nL ret own mname X A) (hM : gMi l z b2 n2 ret2 fr2 lc2 mc2 ms2 X (.ref (ad r) :: As) L ad st post)
    (h1 : Cond.methodLink own index x ∈ TB) (h6 : Cond.sameMethod x.cls x.cls x.name x.desc ∈ TB) (h7 : Cond.instanceMethod x ∈ TB) (h3 : Cond.selects Cn x z ∈ TB) (h2 : Cond.instanceMethod z ∈ TB) (h4 : Cond.initialized z.cls ∈ TB) (h8 : Cond.code x b0 m0 r0 ∈ TB) (h5 : Cond.code z b2 n2 ret2 ∈ TB) (hd : x.cls ≠ "java/lang/invoke/MethodHandle" ∧ x.cls ≠ "java/lang/invoke/VarHandle" ∧ (parseMethodDescriptor x.desc).map (fun d => d.parameters.length) = some k2) (hR : fr2 + 1 ≤ R.frames ∧ 8 + (n2 + 11) + lc2 ≤ R.locals)
    (hW : gW X A L ad st s H) (hS : va_S A s.heap H locs) (hr : r ∈ L) (he : st r = .inr (ci, fs)) (hci : vwCl[ci]? = some (Cn, T, N)) (hk : As.length = k2) (hsz : ls.size = nL) (hst : st0 = As.reverse ++ .ref (ad r) :: rest) (hcat : (rest.map fun v => v.category).sum ≤ 8) (hdg : decode cc pc = .ok (.invokevirtual index, 3)) (hcs : cells + mc2 ≤ R.cells ∧ slots + ms2 ≤ R.slots)
    (kk : ∀ (v : Int32) (L' : List ro) (ad' : ro → Nat) (st' : ro → va_E) (H1 : Heap) (locs1 : List Loc), post v (L', ad', st') → gW X A L' ad' st' s H1 → va_S A s.heap H1 locs1 → W p l e R s m args below meth c H1 locs1 (cells + mc2) (slots + ms2) Q (F0 m (pc + 3) ls (.int v :: rest))) : W p l e R s m args below meth c H locs cells slots Q (F0 m pc ls st0) := by
  obtain ⟨q0, -, h0⟩ := rw_get (ad := ad) (st := st) hr
  rw [he] at h0
  have hf := g_free C hW hS
  have hts := C.1.2.2.2.2
  exact va_calli (va_runU (As := As) (rest := rest) C.1 (hM H.size) (va_cwO (owner := x.cls) (x := x) (y := z) k2 hts (fun w hw => by unfold va_wsO at hw; exact (List.mem_append.mp hw).elim (fun h => by have hb : w ∈ TB := (by simp only [List.mem_cons, List.not_mem_nil, or_false] at h; rcases h with h | h | h | h | h | h <;> subst h <;> assumption); exact ⟨hb, good_of_word (tB_ok hb)⟩) (fun h => tW_good h5 w h)) rfl rfl rfl h8 hd hR) ⟨gPre_blind, va_recv hW.2.1 hW.1 hci h0, g_pre C hW hS⟩ rfl hk hsz hst (lv_room hcat) hdg hcs) hS (fun q _ h => hf q h) hf (fun v u t H1 locs1 ht hvm hp hB _ _ hS1 => kk v u.1 u.2.1 u.2.2 H1 locs1 hp (g_back hf ht hvm hB) hS1)
end GC9
theorem min16 {n : Nat} (h : n < 16) : (if nI n < 16 then nI n else 16) = nI n := by
  have key : ∀ x : Fin 16, (if nI x.1 < 16 then nI x.1 else 16) = nI x.1 := by decide +kernel
  exact key ⟨n, h⟩
theorem ne16 {n : Nat} (h : n < 16) : ¬ nI n = 16 := by
  have key : ∀ x : Fin 16, ¬ nI x.1 = 16 := by decide +kernel
  exact key ⟨n, h⟩
theorem nmem_app {L : List ro} {r x : ro} (h : r ∉ L) (hne : r ≠ x) : r ∉ L ++ [x] := fun q => (List.mem_append.mp q).elim h (fun z => hne (List.mem_singleton.mp z))
theorem nar_i2c {x : Int32} (h : narrow .char (.int x) = .int x) : (x.toUInt32 % 65536).toInt32 = x := Value.int.inj h
set_option maxHeartbeats 4000000 in
set_option maxRecDepth 100000 in
theorem c_J1_canEncode_fc78d (l : Launch) (X : GX) (L : List ro) (ad : ro → Nat) (st : ro → va_E) (ch : Int32)    (hch : ¬ 255 < ch) : gMi l yJ1_canEncode_fc78d cJ1_canEncode_fc78d 1 (some .boolean) 0 0 0 0 X [.int ch] L ad st (fun v u => u = (L, ad, st) ∧ v = 1) := by
  intro sz
  refine gM_of2 (Qc := fun A => va_Qi _ (gB X A) A) (by decide) (Nat.le_of_ble_eq_true rfl) ?_ sz
  intro p e s m args below meth c A R Q hR hQ C hW hS ls hl
  obtain ⟨hR1, hR2, hR3, hR4⟩ := hR
  have hx := C.1.1
  have hb := C.1.2.1
  have hml := C.1.2.2.1
  have hl : lv_has ls 1 [(0, .int ch)] := hl
  refine lv_iload_n hx hb dJ1_canEncode_fc78d_0 rfl (lv_at hl 0 rfl) ?_
  refine lv_sipush (v := 255) hx hb dJ1_canEncode_fc78d_1 (by decide) ?_
  refine lv_icmp_gt (tgt := 11) hx hb dJ1_canEncode_fc78d_4 (by decide) (fun c9 => absurd c9 hch) (fun _ => ?_)
  refine lv_iconst (v := 1) hx hb dJ1_canEncode_fc78d_7 (by decide) ?_
  refine lv_goto (tgt := 12) hx hb dJ1_canEncode_fc78d_8 (by decide) ?_
  exact g_iret2 C hQ hW hS ⟨rfl, rfl⟩ (by decide) (Nat.zero_le _) (Nat.zero_le _) dJ1_canEncode_fc78d_12

set_option maxHeartbeats 4000000 in
set_option maxRecDepth 100000 in
theorem c_J5_append_3fe6f (l : Launch) (X : GX) (L : List ro) (ad : ro → Nat) (st : ro → va_E) (n : Nat) (f9 : Nat → Int32) (ch : Int32) (m64 : (64, 0) ∈ L) (m61 : (61, 0) ∈ L)  (e64 : st (64, 0) = .inr (1, [.ref (ad (61, 0)), .int 0, .int 0, .int (nI n)])) (e61 : st (61, 0) = .inl (X.2.1 0, 16, .inl f9)) (hch : ¬ 255 < ch) (hch2 : ch.toInt8.toInt32 = ch) (hn : n + 1 ≤ 16) : gMq l yJ5_append_3fe6f cJ5_append_3fe6f 2 (some (.object "java/lang/AbstractStringBuilder")) 1 22 0 0 X [.ref (ad (64, 0)), .int ch] L ad st (fun v u => ∃ st', u = (L, ad, st') ∧ (∀ x : ro, x ≠ (61, 0) → x ≠ (64, 0) → st' x = st x) ∧ st' (61, 0) = .inl (X.2.1 0, 16, .inl (upd f9 n (vp_nar .byte ch))) ∧ st' (64, 0) = .inr (1, [.ref (ad (61, 0)), .int 0, .int 0, .int (nI (n + 1))]) ∧ v = some (ad (64, 0))) := by
  intro sz
  refine gM_of2 (Qc := fun A => va_Qq _ (gB X A) A) (by decide) (Nat.le_of_ble_eq_true rfl) ?_ sz
  intro p e s m args below meth c A R Q hR hQ C hW hS ls hl
  obtain ⟨hR1, hR2, hR3, hR4⟩ := hR
  have hx := C.1.1
  have hb := C.1.2.1
  have hml := C.1.2.2.1
  have hl : lv_has ls 2 [(0, .ref (ad (64, 0))), (1, .int ch)] := hl
  refine lv_aload_n hx hb dJ5_append_3fe6f_0 rfl (lv_at hl 0 rfl) ?_
  refine lv_aload_n hx hb dJ5_append_3fe6f_1 rfl (lv_at hl 0 rfl) ?_
  refine g_get (r := (64, 0)) (Cn := RJ4) (T := TJ4) (N := 4) (ci := 1) (v := .int (nI n)) C tinJ4 hW m64 e64 rfl 3 (by decide) tw_2_196 (fun _ h9 => h9) rfl dJ5_append_3fe6f_2 ?_
  refine lv_iconst (v := 1) hx hb dJ5_append_3fe6f_5 (by decide) ?_
  refine lv_iadd hx hb dJ5_append_3fe6f_6 ?_
  refine lv_topE (y := nI (n + 1)) (nI_1 n) ?_
  refine g_callUv (r := (64, 0)) (T := TJ4) (N := 4) (k2 := 1) (As := [.int (nI (n + 1))]) (rest := []) C (c_J5_ensureCapacityInternal_d00df l X L ad st (nI n) f9 (n + 1) m64 m61 e64 e61 (by omega)) tw_2_217 tw_7_56 tw_2_219 tw_9_0 tw_1_23 tw_2_220 (by decide +kernel) ⟨by rw [hR1]; exact Nat.le_of_ble_eq_true rfl, by rw [hR2]; exact Nat.le_of_ble_eq_true rfl⟩ hW hS m64 e64 rfl rfl hl.1 rfl (Nat.le_of_ble_eq_true rfl) dJ5_append_3fe6f_7 ⟨Nat.zero_le _, Nat.zero_le _⟩ (fun  L9 ad1 st2 H locs hp hW hS => ?_)
  cases hp
  refine lv_aload_n hx hb dJ5_append_3fe6f_10 rfl (lv_at hl 0 rfl) ?_
  refine g_callUi (r := (64, 0)) (T := TJ4) (N := 4) (k2 := 0) (As := []) (rest := []) C (c_J5_isLatin1_aae02 l X L ad st (nI n) m64 e64) tw_3_8 tw_3_10 tw_3_9 tw_3_11 tw_1_23 tw_3_12 (by decide +kernel) ⟨by rw [hR1]; exact Nat.le_of_ble_eq_true rfl, by rw [hR2]; exact Nat.le_of_ble_eq_true rfl⟩ hW hS m64 e64 rfl rfl hl.1 rfl (Nat.le_of_ble_eq_true rfl) dJ5_append_3fe6f_11 ⟨Nat.zero_le _, Nat.zero_le _⟩ (fun x3 L9 ad4 st5 H locs hp hW hS => ?_)
  obtain ⟨z0, h6⟩ := hp
  cases z0
  subst h6
  refine lv_if_eq (tgt := 45) hx hb dJ5_append_3fe6f_14 (by decide) (fun c9 => absurd c9 (by decide)) (fun _ => ?_)
  refine lv_iload_n hx hb dJ5_append_3fe6f_17 rfl (lv_at hl 1 rfl) ?_
  refine g_callSi (k2 := 1) (As := [.int ch]) (rest := []) C (c_J1_canEncode_fc78d l X L ad st ch hch) tw_3_61 tw_3_62 tw_1_18 tw_3_63 (by decide +kernel) ⟨by rw [hR1]; exact Nat.le_of_ble_eq_true rfl, by rw [hR2]; exact Nat.le_of_ble_eq_true rfl⟩ hW hS rfl hl.1 rfl (Nat.le_of_ble_eq_true rfl) dJ5_append_3fe6f_18 ⟨Nat.zero_le _, Nat.zero_le _⟩ (fun x7 L9 ad8 st9 H locs hp hW hS => ?_)
  obtain ⟨z0, h10⟩ := hp
  cases z0
  subst h10
  refine lv_if_eq (tgt := 45) hx hb dJ5_append_3fe6f_21 (by decide) (fun c9 => absurd c9 (by decide)) (fun _ => ?_)
  refine lv_aload_n hx hb dJ5_append_3fe6f_24 rfl (lv_at hl 0 rfl) ?_
  refine g_get (r := (64, 0)) (Cn := RJ4) (T := TJ4) (N := 4) (ci := 1) (v := .ref (ad (61, 0))) C tinJ4 hW m64 e64 rfl 0 (by decide) tw_2_193 (fun _ h9 => h9) rfl dJ5_append_3fe6f_25 ?_
  refine lv_aload_n hx hb dJ5_append_3fe6f_28 rfl (lv_at hl 0 rfl) ?_
  refine lv_dup hx hb dJ5_append_3fe6f_29 rfl ?_
  refine g_get (r := (64, 0)) (Cn := RJ4) (T := TJ4) (N := 4) (ci := 1) (v := .int (nI n)) C tinJ4 hW m64 e64 rfl 3 (by decide) tw_2_196 (fun _ h9 => h9) rfl dJ5_append_3fe6f_30 ?_
  refine lv_dup_x1 hx hb dJ5_append_3fe6f_33 rfl rfl ?_
  refine lv_iconst (v := 1) hx hb dJ5_append_3fe6f_34 (by decide) ?_
  refine lv_iadd hx hb dJ5_append_3fe6f_35 ?_
  refine lv_topE (y := nI (n + 1)) (nI_1 n) ?_
  refine g_putx (r := (64, 0)) (Cn := RJ4) (T := TJ4) (N := 4) (ci := 1) (ty0 := tyJ4) (fs2 := [.ref (ad (61, 0)), .int 0, .int 0, .int (nI (n + 1))]) C tinJ4 tyJ4_ok nmJ4 hW hS m64 e64 rfl 3 (by decide) tw_2_196 (fun _ h9 => h9) rfl rfl rfl (Nat.le_of_ble_eq_true rfl) rfl dJ5_append_3fe6f_36 (fun st11 H locs fk12 hs13 hW hS => ?_)
  have fk14 : st11 (61, 0) = .inl (X.2.1 0, 16, .inl f9) := (hs13 (61, 0) (by decide)).trans e61
  have sf15 : ∀ x : ro, x ≠ (64, 0) → st11 x = st x := fun x a0 => hs13 x a0
  refine lv_iload_n hx hb dJ5_append_3fe6f_39 rfl (lv_at hl 1 rfl) ?_
  refine lv_i2b hx hb dJ5_append_3fe6f_40 rfl ?_
  refine lv_topE (y := ch) hch2 ?_
  refine g_bast (r := (61, 0)) C hW hS m61 fk14 (vp_in_nI (N := 16) (by omega) (by omega)) dJ5_append_3fe6f_41 (fun st16 H locs fk17 hs18 hW hS => ?_)
  rw [nI_clamp (by omega)] at fk17
  have fk19 : st16 (64, 0) = .inr (1, [.ref (ad (61, 0)), .int 0, .int 0, .int (nI (n + 1))]) := (hs18 (64, 0) (by decide)).trans fk12
  have sf20 : ∀ x : ro, x ≠ (64, 0) → x ≠ (61, 0) → st16 x = st x := fun x a0 a1 => (hs18 x a1).trans (sf15 x a0)
  refine lv_goto (tgt := 75) hx hb dJ5_append_3fe6f_42 (by decide) ?_
  refine lv_aload_n hx hb dJ5_append_3fe6f_75 rfl (lv_at hl 0 rfl) ?_
  exact g_qret2 (v := some (ad (64, 0))) C (Or.inl ⟨_, rfl⟩) hQ hW hS ⟨_, rfl, (fun x b0 b1 => sf20 x b1 b0), fk17, fk19, rfl⟩ (Nat.zero_le _) (Nat.zero_le _) dJ5_append_3fe6f_76

set_option maxHeartbeats 4000000 in
set_option maxRecDepth 100000 in
theorem c_J4_append_cf468 (l : Launch) (X : GX) (L : List ro) (ad : ro → Nat) (st : ro → va_E) (n : Nat) (f9 : Nat → Int32) (ch : Int32) (m64 : (64, 0) ∈ L) (m61 : (61, 0) ∈ L)  (e64 : st (64, 0) = .inr (1, [.ref (ad (61, 0)), .int 0, .int 0, .int (nI n)])) (e61 : st (61, 0) = .inl (X.2.1 0, 16, .inl f9)) (hch : ¬ 255 < ch) (hch2 : ch.toInt8.toInt32 = ch) (hn : n + 1 ≤ 16) : gMq l yJ4_append_cf468 cJ4_append_cf468 2 (some (.object "java/lang/StringBuilder")) 2 43 0 0 X [.ref (ad (64, 0)), .int ch] L ad st (fun v u => ∃ st', u = (L, ad, st') ∧ (∀ x : ro, x ≠ (61, 0) → x ≠ (64, 0) → st' x = st x) ∧ st' (61, 0) = .inl (X.2.1 0, 16, .inl (upd f9 n (vp_nar .byte ch))) ∧ st' (64, 0) = .inr (1, [.ref (ad (61, 0)), .int 0, .int 0, .int (nI (n + 1))]) ∧ v = some (ad (64, 0))) := by
  intro sz
  refine gM_of2 (Qc := fun A => va_Qq _ (gB X A) A) (by decide) (Nat.le_of_ble_eq_true rfl) ?_ sz
  intro p e s m args below meth c A R Q hR hQ C hW hS ls hl
  obtain ⟨hR1, hR2, hR3, hR4⟩ := hR
  have hx := C.1.1
  have hb := C.1.2.1
  have hml := C.1.2.2.1
  have hl : lv_has ls 2 [(0, .ref (ad (64, 0))), (1, .int ch)] := hl
  refine lv_aload_n hx hb dJ4_append_cf468_0 rfl (lv_at hl 0 rfl) ?_
  refine lv_iload_n hx hb dJ4_append_cf468_1 rfl (lv_at hl 1 rfl) ?_
  refine g_callSUq (r := (64, 0)) (T := TJ4) (N := 4) (k2 := 1) (As := [.int ch]) (rest := []) C (c_J5_append_3fe6f l X L ad st n f9 ch m64 m61 e64 e61 hch hch2 (by omega)) tw_3_58 tw_7_61 tw_2_205 tw_3_59 tw_1_23 tw_3_60 (by decide +kernel) ⟨by rw [hR1]; exact Nat.le_of_ble_eq_true rfl, by rw [hR2]; exact Nat.le_of_ble_eq_true rfl⟩ hW hS m64 e64 rfl rfl hl.1 rfl (Nat.le_of_ble_eq_true rfl) dJ4_append_cf468_2 ⟨Nat.zero_le _, Nat.zero_le _⟩ (fun v1 L9 ad2 st3 H locs hp hW hS => ?_)
  obtain ⟨stq, z0, hs4, fk5, fk6, h7⟩ := hp
  cases z0
  subst h7
  have sf8 : ∀ x : ro, x ≠ (61, 0) → x ≠ (64, 0) → st3 x = st x := fun x a0 a1 => hs4 x a0 a1
  refine lv_topV (y := .ref (ad (64, 0))) rfl ?_
  refine lv_pop hx hb dJ4_append_cf468_5 rfl ?_
  refine lv_aload_n hx hb dJ4_append_cf468_6 rfl (lv_at hl 0 rfl) ?_
  exact g_qret2 (v := some (ad (64, 0))) C (Or.inl ⟨_, rfl⟩) hQ hW hS ⟨_, rfl, (fun x b0 b1 => sf8 x b0 b1), fk5, fk6, rfl⟩ (Nat.zero_le _) (Nat.zero_le _) dJ4_append_cf468_7

set_option maxHeartbeats 4000000 in
set_option maxRecDepth 100000 in
theorem c_J7_checkLength_df160 (l : Launch) (X : GX) (L : List ro) (ad : ro → Nat) (st : ro → va_E) (n : Nat)    (hn : n < 16) : gMv l yJ7_checkLength_df160 cJ7_checkLength_df160 2 none 0 0 0 0 X [.int 0, .int (nI n)] L ad st (fun u => u = (L, ad, st)) := by
  intro sz
  refine gM_of2 (Qc := fun A => va_Qv _ (gB X A) A) (by decide) (Nat.le_of_ble_eq_true rfl) ?_ sz
  intro p e s m args below meth c A R Q hR hQ C hW hS ls hl
  obtain ⟨hR1, hR2, hR3, hR4⟩ := hR
  have hx := C.1.1
  have hb := C.1.2.1
  have hml := C.1.2.2.1
  have hl : lv_has ls 2 [(0, .int 0), (1, .int (nI n))] := hl
  refine lv_iload_n hx hb dJ7_checkLength_df160_0 rfl (lv_at hl 1 rfl) ?_
  refine lv_iload_n hx hb dJ7_checkLength_df160_1 rfl (lv_at hl 0 rfl) ?_
  refine lv_icmp_ge (tgt := 37) hx hb dJ7_checkLength_df160_2 (by decide) (fun _ => ?_) (fun c9 => absurd (nI_pos' (by omega)) c9)
  exact g_vret2 C hQ hW hS rfl (Nat.zero_le _) (Nat.zero_le _) dJ7_checkLength_df160_37

set_option maxHeartbeats 4000000 in
set_option maxRecDepth 100000 in
theorem c_J7_copyOfRangeByte_39247 (l : Launch) (X : GX) (L : List ro) (ad : ro → Nat) (st : ro → va_E) (n : Nat) (f9 : Nat → Int32) (m61 : (61, 0) ∈ L) (n63 : (63, 0) ∉ L) (e61 : st (61, 0) = .inl (X.2.1 0, 16, .inl f9)) (hfit : ∀ j, fits .byte (.int (f9 j)) = true) (hn : n < 16) : gMq l yJ7_copyOfRangeByte_39247 cJ7_copyOfRangeByte_39247 5 (some (.array .byte)) 1 60 1 16 X [.ref (ad (61, 0)), .int 0, .int (nI n)] L ad st (fun v u => ∃ ad' st', u = (L ++ [(63, 0)], ad', st') ∧ (∀ x : ro, x ≠ (63, 0) → ad' x = ad x) ∧ (∀ x : ro, x ≠ (63, 0) → st' x = st x) ∧ st' (63, 0) = .inl (X.2.1 0, n, .inl (va_cpy f9 (fun _ => 0) 0 0 n)) ∧ v = some (ad' (63, 0))) := by
  intro sz
  refine gM_of2 (Qc := fun A => va_Qq _ (gB X A) A) (by decide) (Nat.le_of_ble_eq_true rfl) ?_ sz
  intro p e s m args below meth c A R Q hR hQ C hW hS ls hl
  obtain ⟨hR1, hR2, hR3, hR4⟩ := hR
  have hx := C.1.1
  have hb := C.1.2.1
  have hml := C.1.2.2.1
  have hl : lv_has ls 5 [(0, .ref (ad (61, 0))), (1, .int 0), (2, .int (nI n))] := hl
  refine lv_iload_n hx hb dJ7_copyOfRangeByte_39247_0 rfl (lv_at hl 1 rfl) ?_
  refine lv_iload_n hx hb dJ7_copyOfRangeByte_39247_1 rfl (lv_at hl 2 rfl) ?_
  refine g_callSv (k2 := 2) (As := [.int 0, .int (nI n)]) (rest := []) C (c_J7_checkLength_df160 l X L ad st n hn) tw_3_100 tw_3_101 tw_1_16 tw_3_102 (by decide +kernel) ⟨by rw [hR1]; exact Nat.le_of_ble_eq_true rfl, by rw [hR2]; exact Nat.le_of_ble_eq_true rfl⟩ hW hS rfl hl.1 rfl (Nat.le_of_ble_eq_true rfl) dJ7_copyOfRangeByte_39247_2 ⟨Nat.zero_le _, Nat.zero_le _⟩ (fun  L9 ad1 st2 H locs hp hW hS => ?_)
  cases hp
  refine lv_iload_n hx hb dJ7_copyOfRangeByte_39247_5 rfl (lv_at hl 2 rfl) ?_
  refine lv_iload_n hx hb dJ7_copyOfRangeByte_39247_6 rfl (lv_at hl 1 rfl) ?_
  refine lv_isub hx hb dJ7_copyOfRangeByte_39247_7 ?_
  refine lv_topE (y := nI n) (by simp) ?_
  refine lv_istore_n (lv' := [(3, .int (nI n)), (0, .ref (ad (61, 0))), (1, .int 0), (2, .int (nI n))]) hx hb dJ7_copyOfRangeByte_39247_8 rfl hl (by decide) rfl (fun ls hl => ?_)
  refine lv_iload_n hx hb dJ7_copyOfRangeByte_39247_9 rfl (lv_at hl 0 rfl) ?_
  refine g_newb (r := (63, 0)) (atype := .byte) (ty := .byte) (t0 := 0) (N' := n) (a0 := (n, .inl (fun _ => 0))) C hW hS n63 tw_1_66 rfl rfl (fun _ => rfl) (nI_pos (by omega)) (nI_clamp (by omega)) (by show n * 1 ≤ _; omega) (by rw [hR3]; exact Nat.le_of_ble_eq_true rfl) (by rw [hR4]; omega) dJ7_copyOfRangeByte_39247_10 (fun ad3 st4 H ha5 fk6 hs7 hW hS => ?_)
  have hl : lv_has ls 5 [(3, .int (nI n)), (0, .ref (ad3 (61, 0))), (1, .int 0), (2, .int (nI n))] := by rw [ha5 (61, 0) (by decide)]; exact hl
  have fk8 : st4 (61, 0) = .inl (X.2.1 0, 16, .inl f9) := (hs7 (61, 0) (by decide)).trans e61
  have af9 : ∀ x : ro, x ≠ (63, 0) → ad3 x = ad x := fun x a0 => ha5 x a0
  have sf10 : ∀ x : ro, x ≠ (63, 0) → st4 x = st x := fun x a0 => hs7 x a0
  refine lv_astore (lv' := [(4, .ref (ad3 (63, 0))), (3, .int (nI n)), (0, .ref (ad3 (61, 0))), (1, .int 0), (2, .int (nI n))]) hx hb dJ7_copyOfRangeByte_39247_12 hl (by decide) rfl (fun ls hl => ?_)
  refine lv_aload_n hx hb dJ7_copyOfRangeByte_39247_14 rfl (lv_at hl 2 rfl) ?_
  refine lv_iload_n hx hb dJ7_copyOfRangeByte_39247_15 rfl (lv_at hl 3 rfl) ?_
  refine lv_aload hx hb dJ7_copyOfRangeByte_39247_16 (lv_at hl 0 rfl) ?_
  refine lv_iconst (v := 0) hx hb dJ7_copyOfRangeByte_39247_18 (by decide) ?_
  refine lv_aload_n hx hb dJ7_copyOfRangeByte_39247_19 rfl (lv_at hl 2 rfl) ?_
  refine g_alen (r := (61, 0)) (t0 := 0) (v := 16) C hW (List.mem_append_left _ m61) fk8 rfl rfl dJ7_copyOfRangeByte_39247_20 ?_
  refine lv_iload_n hx hb dJ7_copyOfRangeByte_39247_21 rfl (lv_at hl 3 rfl) ?_
  refine lv_isub hx hb dJ7_copyOfRangeByte_39247_22 ?_
  refine lv_topE (y := 16) (by decide) ?_
  refine lv_iload_n hx hb dJ7_copyOfRangeByte_39247_23 rfl (lv_at hl 1 rfl) ?_
  refine va_mmin hx hb (hml.trans hl.1.symm) C.1.2.2.2.1 (C.1.2.2.2.2 _ tw_3_4) (C.1.2.2.2.2 _ tw_2_64) (C.1.2.2.2.2 _ tw_1_19) (C.1.2.2.2.2 _ tw_2_65) (by rw [hR1]; exact Nat.le_of_ble_eq_true rfl) (by rw [hR2]; exact Nat.le_of_ble_eq_true rfl) (by rw [hR3]; first | exact Nat.zero_le _ | exact Nat.le_of_ble_eq_true rfl | omega) (by rw [hR4]; first | exact Nat.zero_le _ | exact Nat.le_of_ble_eq_true rfl | omega) dJ7_copyOfRangeByte_39247_24 ?_
  refine lv_topE (y := nI n) (min16 (by omega)) ?_
  refine g_copyb (r0 := (61, 0)) (r := (63, 0)) C hW hS hl.1 tw_3_5 (List.mem_append_left _ m61) fk8 (List.mem_append_right _ (List.mem_singleton.mpr rfl)) fk6 (sp := 0) (dp := 0) (n := n) rfl rfl rfl (by omega) (by omega) (by omega) (by omega) hfit (by rw [hR1]; exact Nat.le_of_ble_eq_true rfl) (by rw [hR2]; exact Nat.le_of_ble_eq_true rfl) dJ7_copyOfRangeByte_39247_27 (fun st11 H locs fk12 hs13 hW hS => ?_)
  have fk14 : st11 (61, 0) = .inl (X.2.1 0, 16, .inl f9) := (hs13 (61, 0) (by decide)).trans fk8
  have sf15 : ∀ x : ro, x ≠ (63, 0) → st11 x = st x := fun x a0 => (hs13 x a0).trans (sf10 x a0)
  refine lv_aload hx hb dJ7_copyOfRangeByte_39247_30 (lv_at hl 0 rfl) ?_
  exact g_qret2 (v := some (ad3 (63, 0))) C (Or.inr ⟨_, rfl⟩) hQ hW hS ⟨_, _, rfl, (fun x b0 => af9 x b0), (fun x b0 => sf15 x b0), fk12, rfl⟩ (by omega) (by omega) dJ7_copyOfRangeByte_39247_32

set_option maxHeartbeats 4000000 in
set_option maxRecDepth 100000 in
theorem c_J7_copyOfRange_39247 (l : Launch) (X : GX) (L : List ro) (ad : ro → Nat) (st : ro → va_E) (n : Nat) (f9 : Nat → Int32) (m61 : (61, 0) ∈ L) (n63 : (63, 0) ∉ L) (e61 : st (61, 0) = .inl (X.2.1 0, 16, .inl f9)) (hfit : ∀ j, fits .byte (.int (f9 j)) = true) (hn : n < 16) : gMq l yJ7_copyOfRange_39247 cJ7_copyOfRange_39247 3 (some (.array .byte)) 2 84 1 16 X [.ref (ad (61, 0)), .int 0, .int (nI n)] L ad st (fun v u => ∃ ad' st', u = (L ++ [(63, 0)], ad', st') ∧ (∀ x : ro, x ≠ (63, 0) → ad' x = ad x) ∧ (∀ x : ro, x ≠ (63, 0) → st' x = st x) ∧ st' (63, 0) = .inl (X.2.1 0, n, .inl (va_cpy f9 (fun _ => 0) 0 0 n)) ∧ v = some (ad' (63, 0))) := by
  intro sz
  refine gM_of2 (Qc := fun A => va_Qq _ (gB X A) A) (by decide) (Nat.le_of_ble_eq_true rfl) ?_ sz
  intro p e s m args below meth c A R Q hR hQ C hW hS ls hl
  obtain ⟨hR1, hR2, hR3, hR4⟩ := hR
  have hx := C.1.1
  have hb := C.1.2.1
  have hml := C.1.2.2.1
  have hl : lv_has ls 3 [(0, .ref (ad (61, 0))), (1, .int 0), (2, .int (nI n))] := hl
  refine lv_iload_n hx hb dJ7_copyOfRange_39247_0 rfl (lv_at hl 1 rfl) ?_
  refine lv_if_ne (tgt := 10) hx hb dJ7_copyOfRange_39247_1 (by decide) (fun c9 => absurd c9 (by decide)) (fun _ => ?_)
  refine lv_iload_n hx hb dJ7_copyOfRange_39247_4 rfl (lv_at hl 2 rfl) ?_
  refine lv_aload_n hx hb dJ7_copyOfRange_39247_5 rfl (lv_at hl 0 rfl) ?_
  refine g_alen (r := (61, 0)) (t0 := 0) (v := 16) C hW m61 e61 rfl rfl dJ7_copyOfRange_39247_6 ?_
  refine lv_icmp_eq (tgt := 17) hx hb dJ7_copyOfRange_39247_7 (by decide) (fun c9 => absurd c9 (ne16 (by omega))) (fun _ => ?_)
  refine lv_aload_n hx hb dJ7_copyOfRange_39247_10 rfl (lv_at hl 0 rfl) ?_
  refine lv_iload_n hx hb dJ7_copyOfRange_39247_11 rfl (lv_at hl 1 rfl) ?_
  refine lv_iload_n hx hb dJ7_copyOfRange_39247_12 rfl (lv_at hl 2 rfl) ?_
  refine g_callSq (k2 := 3) (As := [.ref (ad (61, 0)), .int 0, .int (nI n)]) (rest := []) C (c_J7_copyOfRangeByte_39247 l X L ad st n f9 m61 n63 e61 hfit hn) tw_3_97 tw_3_98 tw_1_16 tw_3_99 (by decide +kernel) ⟨by rw [hR1]; exact Nat.le_of_ble_eq_true rfl, by rw [hR2]; exact Nat.le_of_ble_eq_true rfl⟩ hW hS rfl hl.1 rfl (Nat.le_of_ble_eq_true rfl) dJ7_copyOfRange_39247_13 ⟨by rw [hR3]; exact Nat.le_of_ble_eq_true rfl, by rw [hR4]; exact Nat.le_of_ble_eq_true rfl⟩ (fun v1 L9 ad2 st3 H locs hp hW hS => ?_)
  obtain ⟨adq, stq, z0, ha4, hs5, fk6, h7⟩ := hp
  cases z0
  subst h7
  have hl : lv_has ls 3 [(0, .ref (ad2 (61, 0))), (1, .int 0), (2, .int (nI n))] := by rw [ha4 (61, 0) (by decide)]; exact hl
  have fk8 : st3 (61, 0) = .inl (X.2.1 0, 16, .inl f9) := (hs5 (61, 0) (by decide)).trans e61
  have af9 : ∀ x : ro, x ≠ (63, 0) → ad2 x = ad x := fun x a0 => ha4 x a0
  have sf10 : ∀ x : ro, x ≠ (63, 0) → st3 x = st x := fun x a0 => hs5 x a0
  refine lv_topV (y := .ref (ad2 (63, 0))) rfl ?_
  exact g_qret2 (v := some (ad2 (63, 0))) C (Or.inr ⟨_, rfl⟩) hQ hW hS ⟨_, _, rfl, (fun x b0 => af9 x b0), (fun x b0 => sf10 x b0), fk6, rfl⟩ (Nat.le_of_ble_eq_true rfl) (Nat.le_of_ble_eq_true rfl) dJ7_copyOfRange_39247_16

set_option maxHeartbeats 4000000 in
set_option maxRecDepth 100000 in
theorem c_J4_length_8abf5 (l : Launch) (X : GX) (L : List ro) (ad : ro → Nat) (st : ro → va_E) (c9 : Int32) (m64 : (64, 0) ∈ L)  (e64 : st (64, 0) = .inr (1, [.ref (ad (61, 0)), .int 0, .int 0, .int c9]))  : gMi l yJ4_length_8abf5 cJ4_length_8abf5 1 (some .int) 1 20 0 0 X [.ref (ad (64, 0))] L ad st (fun v u => u = (L, ad, st) ∧ v = c9) := by
  intro sz
  refine gM_of2 (Qc := fun A => va_Qi _ (gB X A) A) (by decide) (Nat.le_of_ble_eq_true rfl) ?_ sz
  intro p e s m args below meth c A R Q hR hQ C hW hS ls hl
  obtain ⟨hR1, hR2, hR3, hR4⟩ := hR
  have hx := C.1.1
  have hb := C.1.2.1
  have hml := C.1.2.2.1
  have hl : lv_has ls 1 [(0, .ref (ad (64, 0)))] := hl
  refine lv_aload_n hx hb dJ4_length_8abf5_0 rfl (lv_at hl 0 rfl) ?_
  refine g_callSUi (r := (64, 0)) (T := TJ4) (N := 4) (k2 := 0) (As := []) (rest := []) C (c_J5_length_8abf5 l X L ad st c9 m64 e64) tw_3_91 tw_3_87 tw_2_205 tw_3_86 tw_1_23 tw_3_92 (by decide +kernel) ⟨by rw [hR1]; exact Nat.le_of_ble_eq_true rfl, by rw [hR2]; exact Nat.le_of_ble_eq_true rfl⟩ hW hS m64 e64 rfl rfl hl.1 rfl (Nat.le_of_ble_eq_true rfl) dJ4_length_8abf5_1 ⟨Nat.zero_le _, Nat.zero_le _⟩ (fun x1 L9 ad2 st3 H locs hp hW hS => ?_)
  obtain ⟨z0, h4⟩ := hp
  cases z0
  subst h4
  exact g_iret2 C hQ hW hS ⟨rfl, rfl⟩ rfl (Nat.zero_le _) (Nat.zero_le _) dJ4_length_8abf5_4

set_option maxHeartbeats 4000000 in
set_option maxRecDepth 100000 in
theorem c_J0_init_db425 (l : Launch) (X : GX) (L : List ro) (ad : ro → Nat) (st : ro → va_E) (n : Nat) (f9 : Nat → Int32) (m62 : (62, 0) ∈ L) (m64 : (64, 0) ∈ L) (m61 : (61, 0) ∈ L) (n63 : (63, 0) ∉ L) (e62 : st (62, 0) = .inr (0, [.null, .int 0, .int 0, .int 0])) (e64 : st (64, 0) = .inr (1, [.ref (ad (61, 0)), .int 0, .int 0, .int (nI n)])) (e61 : st (61, 0) = .inl (X.2.1 0, 16, .inl f9)) (hfit : ∀ j, fits .byte (.int (f9 j)) = true) (hn : n < 16) : gMv l yJ0_init_db425 cJ0_init_db425 5 none 3 106 1 16 X [.ref (ad (62, 0)), .ref (ad (64, 0)), .null] L ad st (fun u => ∃ ad' st', u = (L ++ [(63, 0)], ad', st') ∧ (∀ x : ro, x ≠ (63, 0) → ad' x = ad x) ∧ (∀ x : ro, x ≠ (62, 0) → x ≠ (63, 0) → st' x = st x) ∧ st' (62, 0) = .inr (0, [.ref (ad' (63, 0)), .int 0, .int 0, .int 0]) ∧ st' (63, 0) = .inl (X.2.1 0, n, .inl (va_cpy f9 (fun _ => 0) 0 0 n))) := by
  intro sz
  refine gM_of2 (Qc := fun A => va_Qv _ (gB X A) A) (by decide) (Nat.le_of_ble_eq_true rfl) ?_ sz
  intro p e s m args below meth c A R Q hR hQ C hW hS ls hl
  obtain ⟨hR1, hR2, hR3, hR4⟩ := hR
  have hx := C.1.1
  have hb := C.1.2.1
  have hml := C.1.2.2.1
  have hl : lv_has ls 5 [(0, .ref (ad (62, 0))), (1, .ref (ad (64, 0))), (2, .null)] := hl
  refine lv_aload_n hx hb dJ0_init_db425_0 rfl (lv_at hl 0 rfl) ?_
  refine W.objInit hx hb C.1.2.2.2.1 (C.1.2.2.2.2 _ tw_3_79) (C.1.2.2.2.2 _ oi_inst) (C.1.2.2.2.2 _ oi_code) rfl (by rw [hml]; exact hl.1) rfl dJ0_init_db425_1 (by rw [hR1]; exact Nat.le_of_ble_eq_true rfl) (by rw [hR2]; exact Nat.le_of_ble_eq_true rfl) ?_
  refine W.eq (g2 := F0 m 4 ls []) rfl ?_
  refine lv_aload_n hx hb dJ0_init_db425_4 rfl (lv_at hl 1 rfl) ?_
  refine g_callUq (r := (64, 0)) (T := TJ4) (N := 4) (k2 := 0) (As := []) (rest := []) C (c_J5_getValue_6d5f1 l X L ad st (nI n) m64 e64) tw_3_80 tw_3_82 tw_3_81 tw_3_83 tw_1_23 tw_3_84 (by decide +kernel) ⟨by rw [hR1]; exact Nat.le_of_ble_eq_true rfl, by rw [hR2]; exact Nat.le_of_ble_eq_true rfl⟩ hW hS m64 e64 rfl rfl hl.1 rfl (Nat.le_of_ble_eq_true rfl) dJ0_init_db425_5 ⟨Nat.zero_le _, Nat.zero_le _⟩ (fun v1 L9 ad2 st3 H locs hp hW hS => ?_)
  obtain ⟨z0, h4⟩ := hp
  cases z0
  subst h4
  refine lv_topV (y := .ref (ad (61, 0))) rfl ?_
  refine lv_astore_n (lv' := [(3, .ref (ad (61, 0))), (0, .ref (ad (62, 0))), (1, .ref (ad (64, 0))), (2, .null)]) hx hb dJ0_init_db425_8 rfl hl (by decide) rfl (fun ls hl => ?_)
  refine lv_aload_n hx hb dJ0_init_db425_9 rfl (lv_at hl 2 rfl) ?_
  refine g_callOi (r := (64, 0)) (T := TJ4) (N := 4) (x := ⟨"java/lang/AbstractStringBuilder", "length", "()I"⟩) (k2 := 0) (As := []) (rest := []) C (c_J4_length_8abf5 l X L ad st (nI n) m64 e64) tw_3_85 tw_3_87 tw_3_86 tw_3_88 tw_3_89 tw_1_24 tw_3_92 tw_3_90 (by decide +kernel) ⟨by rw [hR1]; exact Nat.le_of_ble_eq_true rfl, by rw [hR2]; exact Nat.le_of_ble_eq_true rfl⟩ hW hS m64 e64 rfl rfl hl.1 rfl (Nat.le_of_ble_eq_true rfl) dJ0_init_db425_10 ⟨Nat.zero_le _, Nat.zero_le _⟩ (fun x5 L9 ad6 st7 H locs hp hW hS => ?_)
  obtain ⟨z0, h8⟩ := hp
  cases z0
  subst h8
  refine lv_istore (lv' := [(4, .int (nI n)), (3, .ref (ad (61, 0))), (0, .ref (ad (62, 0))), (1, .ref (ad (64, 0))), (2, .null)]) hx hb dJ0_init_db425_13 hl (by decide) rfl (fun ls hl => ?_)
  refine lv_aload_n hx hb dJ0_init_db425_15 rfl (lv_at hl 3 rfl) ?_
  refine g_callUi (r := (64, 0)) (T := TJ4) (N := 4) (k2 := 0) (As := []) (rest := []) C (c_J5_isLatin1_aae02 l X L ad st (nI n) m64 e64) tw_3_93 tw_3_10 tw_3_9 tw_3_11 tw_1_23 tw_3_12 (by decide +kernel) ⟨by rw [hR1]; exact Nat.le_of_ble_eq_true rfl, by rw [hR2]; exact Nat.le_of_ble_eq_true rfl⟩ hW hS m64 e64 rfl rfl hl.1 rfl (Nat.le_of_ble_eq_true rfl) dJ0_init_db425_16 ⟨Nat.zero_le _, Nat.zero_le _⟩ (fun x9 L9 ad10 st11 H locs hp hW hS => ?_)
  obtain ⟨z0, h12⟩ := hp
  cases z0
  subst h12
  refine lv_if_eq (tgt := 41) hx hb dJ0_init_db425_19 (by decide) (fun c9 => absurd c9 (by decide)) (fun _ => ?_)
  refine lv_aload_n hx hb dJ0_init_db425_22 rfl (lv_at hl 2 rfl) ?_
  refine lv_iconst (v := 0) hx hb dJ0_init_db425_23 (by decide) ?_
  refine g_putxF (r := (62, 0)) (Cn := RJ0) (T := TJ0) (N := 4) (ci := 0) (ty0 := tyJ0) (fs2 := [.null, .int 0, .int 0, .int 0]) C tinJ0 tyJ0_ok nmJ0 hW hS m62 e62 rfl 1 (by decide) tw_3_210 rfl rfl (by decide) (by decide) (Nat.le_of_ble_eq_true rfl) rfl dJ0_init_db425_24 (fun st13 H locs fk14 hs15 hW hS => ?_)
  have fk16 : st13 (64, 0) = .inr (1, [.ref (ad (61, 0)), .int 0, .int 0, .int (nI n)]) := (hs15 (64, 0) (by decide)).trans e64
  have fk17 : st13 (61, 0) = .inl (X.2.1 0, 16, .inl f9) := (hs15 (61, 0) (by decide)).trans e61
  have sf18 : ∀ x : ro, x ≠ (62, 0) → st13 x = st x := fun x a0 => hs15 x a0
  refine lv_aload_n hx hb dJ0_init_db425_27 rfl (lv_at hl 2 rfl) ?_
  refine lv_aload_n hx hb dJ0_init_db425_28 rfl (lv_at hl 1 rfl) ?_
  refine lv_iconst (v := 0) hx hb dJ0_init_db425_29 (by decide) ?_
  refine lv_iload hx hb dJ0_init_db425_30 (lv_at hl 0 rfl) ?_
  refine g_callSq (k2 := 3) (As := [.ref (ad (61, 0)), .int 0, .int (nI n)]) (rest := [.ref (ad (62, 0))]) C (c_J7_copyOfRange_39247 l X L ad st13 n f9 m61 n63 fk17 hfit hn) tw_3_94 tw_3_95 tw_1_16 tw_3_96 (by decide +kernel) ⟨by rw [hR1]; exact Nat.le_of_ble_eq_true rfl, by rw [hR2]; exact Nat.le_of_ble_eq_true rfl⟩ hW hS rfl hl.1 rfl (Nat.le_of_ble_eq_true rfl) dJ0_init_db425_32 ⟨by rw [hR3]; exact Nat.le_of_ble_eq_true rfl, by rw [hR4]; exact Nat.le_of_ble_eq_true rfl⟩ (fun v19 L9 ad20 st21 H locs hp hW hS => ?_)
  obtain ⟨adq, stq, z0, ha22, hs23, fk24, h25⟩ := hp
  cases z0
  subst h25
  have hl : lv_has ls 5 [(4, .int (nI n)), (3, .ref (ad20 (61, 0))), (0, .ref (ad20 (62, 0))), (1, .ref (ad20 (64, 0))), (2, .null)] := by rw [ha22 (61, 0) (by decide), ha22 (62, 0) (by decide), ha22 (64, 0) (by decide)]; exact hl
  refine W.eq (g2 := F0 m 35 ls [.ref (ad20 (63, 0)), .ref (ad20 (62, 0))]) (by rw [ha22 (62, 0) (by decide)] <;> rfl) ?_
  have fk26 : st21 (64, 0) = .inr (1, [.ref (ad20 (61, 0)), .int 0, .int 0, .int (nI n)]) := ((hs23 (64, 0) (by decide)).trans fk16).trans (by rw [ha22 (61, 0) (by decide)])
  have fk27 : st21 (61, 0) = .inl (X.2.1 0, 16, .inl f9) := (hs23 (61, 0) (by decide)).trans fk17
  have fk28 : st21 (62, 0) = .inr (0, [.null, .int 0, .int 0, .int 0]) := (hs23 (62, 0) (by decide)).trans fk14
  have af29 : ∀ x : ro, x ≠ (63, 0) → ad20 x = ad x := fun x a0 => ha22 x a0
  have sf30 : ∀ x : ro, x ≠ (62, 0) → x ≠ (63, 0) → st21 x = st x := fun x a0 a1 => (hs23 x a1).trans (sf18 x a0)
  refine lv_topV (y := .ref (ad20 (63, 0))) rfl ?_
  refine g_putxF (r := (62, 0)) (Cn := RJ0) (T := TJ0) (N := 4) (ci := 0) (ty0 := tyJ0) (fs2 := [.ref (ad20 (63, 0)), .int 0, .int 0, .int 0]) C tinJ0 tyJ0_ok nmJ0 hW hS (List.mem_append_left _ m62) fk28 rfl 0 (by decide) tw_3_209 rfl rfl rfl rfl (Nat.le_of_ble_eq_true rfl) rfl dJ0_init_db425_35 (fun st31 H locs fk32 hs33 hW hS => ?_)
  have fk34 : st31 (64, 0) = .inr (1, [.ref (ad20 (61, 0)), .int 0, .int 0, .int (nI n)]) := (hs33 (64, 0) (by decide)).trans fk26
  have fk35 : st31 (61, 0) = .inl (X.2.1 0, 16, .inl f9) := (hs33 (61, 0) (by decide)).trans fk27
  have fk36 : st31 (63, 0) = .inl (X.2.1 0, n, .inl (va_cpy f9 (fun _ => 0) 0 0 n)) := (hs33 (63, 0) (by decide)).trans fk24
  have sf37 : ∀ x : ro, x ≠ (62, 0) → x ≠ (63, 0) → st31 x = st x := fun x a0 a1 => (hs33 x a0).trans (sf30 x a0 a1)
  refine lv_goto (tgt := 97) hx hb dJ0_init_db425_38 (by decide) ?_
  exact g_vret2 C hQ hW hS ⟨_, _, rfl, (fun x b0 => af29 x b0), (fun x b0 b1 => sf37 x b0 b1), fk32, fk36⟩ (Nat.le_of_ble_eq_true rfl) (Nat.le_of_ble_eq_true rfl) dJ0_init_db425_97

set_option maxHeartbeats 4000000 in
set_option maxRecDepth 100000 in
theorem c_J0_init_81219 (l : Launch) (X : GX) (L : List ro) (ad : ro → Nat) (st : ro → va_E) (n : Nat) (f9 : Nat → Int32) (m62 : (62, 0) ∈ L) (m64 : (64, 0) ∈ L) (m61 : (61, 0) ∈ L) (n63 : (63, 0) ∉ L) (e62 : st (62, 0) = .inr (0, [.null, .int 0, .int 0, .int 0])) (e64 : st (64, 0) = .inr (1, [.ref (ad (61, 0)), .int 0, .int 0, .int (nI n)])) (e61 : st (61, 0) = .inl (X.2.1 0, 16, .inl f9)) (hfit : ∀ j, fits .byte (.int (f9 j)) = true) (hn : n < 16) : gMv l yJ0_init_81219 cJ0_init_81219 2 none 4 130 1 16 X [.ref (ad (62, 0)), .ref (ad (64, 0))] L ad st (fun u => ∃ ad' st', u = (L ++ [(63, 0)], ad', st') ∧ (∀ x : ro, x ≠ (63, 0) → ad' x = ad x) ∧ (∀ x : ro, x ≠ (62, 0) → x ≠ (63, 0) → st' x = st x) ∧ st' (62, 0) = .inr (0, [.ref (ad' (63, 0)), .int 0, .int 0, .int 0]) ∧ st' (63, 0) = .inl (X.2.1 0, n, .inl (va_cpy f9 (fun _ => 0) 0 0 n))) := by
  intro sz
  refine gM_of2 (Qc := fun A => va_Qv _ (gB X A) A) (by decide) (Nat.le_of_ble_eq_true rfl) ?_ sz
  intro p e s m args below meth c A R Q hR hQ C hW hS ls hl
  obtain ⟨hR1, hR2, hR3, hR4⟩ := hR
  have hx := C.1.1
  have hb := C.1.2.1
  have hml := C.1.2.2.1
  have hl : lv_has ls 2 [(0, .ref (ad (62, 0))), (1, .ref (ad (64, 0)))] := hl
  refine lv_aload_n hx hb dJ0_init_81219_0 rfl (lv_at hl 0 rfl) ?_
  refine lv_aload_n hx hb dJ0_init_81219_1 rfl (lv_at hl 1 rfl) ?_
  refine lv_null hx hb dJ0_init_81219_2 ?_
  refine g_callIv (k2 := 2) (As := [.ref (ad (64, 0)), .null]) (rest := []) C (c_J0_init_db425 l X L ad st n f9 m62 m64 m61 n63 e62 e64 e61 hfit hn) tw_3_76 tw_3_77 tw_1_17 tw_3_78 (by decide +kernel) ⟨by rw [hR1]; exact Nat.le_of_ble_eq_true rfl, by rw [hR2]; exact Nat.le_of_ble_eq_true rfl⟩ hW hS rfl hl.1 rfl (Nat.le_of_ble_eq_true rfl) dJ0_init_81219_3 ⟨by rw [hR3]; exact Nat.le_of_ble_eq_true rfl, by rw [hR4]; exact Nat.le_of_ble_eq_true rfl⟩ (fun  L9 ad1 st2 H locs hp hW hS => ?_)
  obtain ⟨adq, stq, z0, ha3, hs4, fk5, fk6⟩ := hp
  cases z0
  have hl : lv_has ls 2 [(0, .ref (ad1 (62, 0))), (1, .ref (ad1 (64, 0)))] := by rw [ha3 (62, 0) (by decide), ha3 (64, 0) (by decide)]; exact hl
  have fk7 : st2 (64, 0) = .inr (1, [.ref (ad1 (61, 0)), .int 0, .int 0, .int (nI n)]) := ((hs4 (64, 0) (by decide) (by decide)).trans e64).trans (by rw [ha3 (61, 0) (by decide)])
  have fk8 : st2 (61, 0) = .inl (X.2.1 0, 16, .inl f9) := (hs4 (61, 0) (by decide) (by decide)).trans e61
  have af9 : ∀ x : ro, x ≠ (63, 0) → ad1 x = ad x := fun x a0 => ha3 x a0
  have sf10 : ∀ x : ro, x ≠ (62, 0) → x ≠ (63, 0) → st2 x = st x := fun x a0 a1 => hs4 x a0 a1
  exact g_vret2 C hQ hW hS ⟨_, _, rfl, (fun x b0 => af9 x b0), (fun x b0 b1 => sf10 x b0 b1), fk5, fk6⟩ (Nat.le_of_ble_eq_true rfl) (Nat.le_of_ble_eq_true rfl) dJ0_init_81219_6

set_option maxHeartbeats 4000000 in
set_option maxRecDepth 100000 in
theorem c_J4_toString_0e30d (l : Launch) (X : GX) (L : List ro) (ad : ro → Nat) (st : ro → va_E) (n : Nat) (f9 : Nat → Int32) (m64 : (64, 0) ∈ L) (m61 : (61, 0) ∈ L) (n62 : (62, 0) ∉ L) (n63 : (63, 0) ∉ L) (e64 : st (64, 0) = .inr (1, [.ref (ad (61, 0)), .int 0, .int 0, .int (nI n)])) (e61 : st (61, 0) = .inl (X.2.1 0, 16, .inl f9)) (hfit : ∀ j, fits .byte (.int (f9 j)) = true) (hn : n < 16) : gMq l yJ4_toString_0e30d cJ4_toString_0e30d 1 (some (.object "java/lang/String")) 5 151 2 20 X [.ref (ad (64, 0))] L ad st (fun v u => ∃ ad' st', u = (L ++ [(62, 0)] ++ [(63, 0)], ad', st') ∧ (∀ x : ro, x ≠ (62, 0) → x ≠ (63, 0) → ad' x = ad x) ∧ (∀ x : ro, x ≠ (62, 0) → x ≠ (63, 0) → st' x = st x) ∧ st' (62, 0) = .inr (0, [.ref (ad' (63, 0)), .int 0, .int 0, .int 0]) ∧ st' (63, 0) = .inl (X.2.1 0, n, .inl (va_cpy f9 (fun _ => 0) 0 0 n)) ∧ v = some (ad' (62, 0))) := by
  intro sz
  refine gM_of2 (Qc := fun A => va_Qq _ (gB X A) A) (by decide) (Nat.le_of_ble_eq_true rfl) ?_ sz
  intro p e s m args below meth c A R Q hR hQ C hW hS ls hl
  obtain ⟨hR1, hR2, hR3, hR4⟩ := hR
  have hx := C.1.1
  have hb := C.1.2.1
  have hml := C.1.2.2.1
  have hl : lv_has ls 1 [(0, .ref (ad (64, 0)))] := hl
  refine g_newo (r := (62, 0)) (Cn := RJ0) (T := TJ0) (N := 4) (ci := 0) (ty0 := tyJ0) (fs := [.null, .int 0, .int 0, .int 0]) C tinJ0 tyJ0_ok hW hS n62 rfl tw_3_71 tw_3_72 tw_1_17 (by intro j hj; rcases (show j = 0 ∨ j = 1 ∨ j = 2 ∨ j = 3 by omega) with rfl | rfl | rfl | rfl <;> rfl) (by rw [hR3]; exact Nat.le_of_ble_eq_true rfl) (by rw [hR4]; exact Nat.le_of_ble_eq_true rfl) dJ4_toString_0e30d_0 (fun ad1 st2 H ha3 fk4 hs5 hW hS => ?_)
  have hl : lv_has ls 1 [(0, .ref (ad1 (64, 0)))] := by rw [ha3 (64, 0) (by decide)]; exact hl
  have fk6 : st2 (64, 0) = .inr (1, [.ref (ad1 (61, 0)), .int 0, .int 0, .int (nI n)]) := ((hs5 (64, 0) (by decide)).trans e64).trans (by rw [ha3 (61, 0) (by decide)])
  have fk7 : st2 (61, 0) = .inl (X.2.1 0, 16, .inl f9) := (hs5 (61, 0) (by decide)).trans e61
  have af8 : ∀ x : ro, x ≠ (62, 0) → ad1 x = ad x := fun x a0 => ha3 x a0
  have sf9 : ∀ x : ro, x ≠ (62, 0) → st2 x = st x := fun x a0 => hs5 x a0
  refine lv_dup hx hb dJ4_toString_0e30d_3 rfl ?_
  refine lv_aload_n hx hb dJ4_toString_0e30d_4 rfl (lv_at hl 0 rfl) ?_
  refine g_callIv (k2 := 1) (As := [.ref (ad1 (64, 0))]) (rest := [.ref (ad1 (62, 0))]) C (c_J0_init_81219 l X (L ++ [(62, 0)]) ad1 st2 n f9 (List.mem_append_right _ (List.mem_singleton.mpr rfl)) (List.mem_append_left _ m64) (List.mem_append_left _ m61) (nmem_app n63 (by decide)) fk4 fk6 fk7 hfit hn) tw_3_73 tw_3_74 tw_1_17 tw_3_75 (by decide +kernel) ⟨by rw [hR1]; exact Nat.le_of_ble_eq_true rfl, by rw [hR2]; exact Nat.le_of_ble_eq_true rfl⟩ hW hS rfl hl.1 rfl (Nat.le_of_ble_eq_true rfl) dJ4_toString_0e30d_5 ⟨by rw [hR3]; exact Nat.le_of_ble_eq_true rfl, by rw [hR4]; exact Nat.le_of_ble_eq_true rfl⟩ (fun  L9 ad10 st11 H locs hp hW hS => ?_)
  obtain ⟨adq, stq, z0, ha12, hs13, fk14, fk15⟩ := hp
  cases z0
  have hl : lv_has ls 1 [(0, .ref (ad10 (64, 0)))] := by rw [ha12 (64, 0) (by decide)]; exact hl
  refine W.eq (g2 := F0 m 8 ls [.ref (ad10 (62, 0))]) (by rw [ha12 (62, 0) (by decide)] <;> rfl) ?_
  have fk16 : st11 (64, 0) = .inr (1, [.ref (ad10 (61, 0)), .int 0, .int 0, .int (nI n)]) := ((hs13 (64, 0) (by decide) (by decide)).trans fk6).trans (by rw [ha12 (61, 0) (by decide)])
  have fk17 : st11 (61, 0) = .inl (X.2.1 0, 16, .inl f9) := (hs13 (61, 0) (by decide) (by decide)).trans fk7
  have af18 : ∀ x : ro, x ≠ (62, 0) → x ≠ (63, 0) → ad10 x = ad x := fun x a0 a1 => (ha12 x a1).trans (af8 x a0)
  have sf19 : ∀ x : ro, x ≠ (62, 0) → x ≠ (63, 0) → st11 x = st x := fun x a0 a1 => (hs13 x a0 a1).trans (sf9 x a0)
  exact g_qret2 (v := some (ad10 (62, 0))) C (Or.inl ⟨_, rfl⟩) hQ hW hS ⟨_, _, rfl, (fun x b0 b1 => af18 x b0 b1), (fun x b0 b1 => sf19 x b0 b1), fk14, fk15, rfl⟩ (Nat.le_of_ble_eq_true rfl) (Nat.le_of_ble_eq_true rfl) dJ4_toString_0e30d_8

set_option maxHeartbeats 4000000 in
set_option maxRecDepth 100000 in
theorem c_S_coder (l : Launch) (X : GX) (L : List ro) (ad : ro → Nat) (st : ro → va_E) (n : Nat) (f9 : Nat → Int32) (m62 : (62, 0) ∈ L) (m63 : (63, 0) ∈ L)  (e62 : st (62, 0) = .inr (0, [.ref (ad (63, 0)), .int 0, .int 0, .int 0])) (e63 : st (63, 0) = .inl (X.2.1 0, n, .inl f9))  : gMi l yJ0_coder_7d493 cJ0_coder_7d493 1 (some .byte) 0 0 0 0 X [.ref (ad (62, 0))] L ad st (fun v u => u = (L, ad, st) ∧ v = 0) := by
  intro sz
  refine gM_of2 (Qc := fun A => va_Qi _ (gB X A) A) (by decide) (Nat.le_of_ble_eq_true rfl) ?_ sz
  intro p e s m args below meth c A R Q hR hQ C hW hS ls hl
  obtain ⟨hR1, hR2, hR3, hR4⟩ := hR
  have hx := C.1.1
  have hb := C.1.2.1
  have hml := C.1.2.2.1
  have hl : lv_has ls 1 [(0, .ref (ad (62, 0)))] := hl
  refine va_gets hx hb C.2.2.2.2.2.1.1 hS C.1.2.2.2.1 (C.1.2.2.2.2 _ tw_2_44) (fun _ h9 => h9) dJ0_coder_7d493_0 ?_
  refine lv_if_eq (tgt := 13) hx hb dJ0_coder_7d493_3 (by decide) (fun c9 => absurd c9 (by decide)) (fun _ => ?_)
  refine lv_aload_n hx hb dJ0_coder_7d493_6 rfl (lv_at hl 0 rfl) ?_
  refine g_get (r := (62, 0)) (Cn := RJ0) (T := TJ0) (N := 4) (ci := 0) (v := .int 0) C tinJ0 hW m62 e62 rfl 1 (by decide) tw_3_210 (fun _ h9 => h9) rfl dJ0_coder_7d493_7 ?_
  refine lv_goto (tgt := 14) hx hb dJ0_coder_7d493_10 (by decide) ?_
  exact g_iret2 C hQ hW hS ⟨rfl, rfl⟩ (by decide) (Nat.zero_le _) (Nat.zero_le _) dJ0_coder_7d493_14

set_option maxHeartbeats 4000000 in
set_option maxRecDepth 100000 in
theorem c_S_isLatin1 (l : Launch) (X : GX) (L : List ro) (ad : ro → Nat) (st : ro → va_E) (n : Nat) (f9 : Nat → Int32) (m62 : (62, 0) ∈ L) (m63 : (63, 0) ∈ L)  (e62 : st (62, 0) = .inr (0, [.ref (ad (63, 0)), .int 0, .int 0, .int 0])) (e63 : st (63, 0) = .inl (X.2.1 0, n, .inl f9))  : gMi l yJ0_isLatin1_aae02 cJ0_isLatin1_aae02 1 (some .boolean) 0 0 0 0 X [.ref (ad (62, 0))] L ad st (fun v u => u = (L, ad, st) ∧ v = 1) := by
  intro sz
  refine gM_of2 (Qc := fun A => va_Qi _ (gB X A) A) (by decide) (Nat.le_of_ble_eq_true rfl) ?_ sz
  intro p e s m args below meth c A R Q hR hQ C hW hS ls hl
  obtain ⟨hR1, hR2, hR3, hR4⟩ := hR
  have hx := C.1.1
  have hb := C.1.2.1
  have hml := C.1.2.2.1
  have hl : lv_has ls 1 [(0, .ref (ad (62, 0)))] := hl
  refine va_gets hx hb C.2.2.2.2.2.1.1 hS C.1.2.2.2.1 (C.1.2.2.2.2 _ tw_2_44) (fun _ h9 => h9) dJ0_isLatin1_aae02_0 ?_
  refine lv_if_eq (tgt := 17) hx hb dJ0_isLatin1_aae02_3 (by decide) (fun c9 => absurd c9 (by decide)) (fun _ => ?_)
  refine lv_aload_n hx hb dJ0_isLatin1_aae02_6 rfl (lv_at hl 0 rfl) ?_
  refine g_get (r := (62, 0)) (Cn := RJ0) (T := TJ0) (N := 4) (ci := 0) (v := .int 0) C tinJ0 hW m62 e62 rfl 1 (by decide) tw_3_210 (fun _ h9 => h9) rfl dJ0_isLatin1_aae02_7 ?_
  refine lv_if_ne (tgt := 17) hx hb dJ0_isLatin1_aae02_10 (by decide) (fun c9 => absurd c9 (by decide)) (fun _ => ?_)
  refine lv_iconst (v := 1) hx hb dJ0_isLatin1_aae02_13 (by decide) ?_
  refine lv_goto (tgt := 18) hx hb dJ0_isLatin1_aae02_14 (by decide) ?_
  exact g_iret2 C hQ hW hS ⟨rfl, rfl⟩ (by decide) (Nat.zero_le _) (Nat.zero_le _) dJ0_isLatin1_aae02_18

set_option maxHeartbeats 4000000 in
set_option maxRecDepth 100000 in
theorem c_S_isEmpty (l : Launch) (X : GX) (L : List ro) (ad : ro → Nat) (st : ro → va_E) (n : Nat) (f9 : Nat → Int32) (m62 : (62, 0) ∈ L) (m63 : (63, 0) ∈ L)  (e62 : st (62, 0) = .inr (0, [.ref (ad (63, 0)), .int 0, .int 0, .int 0])) (e63 : st (63, 0) = .inl (X.2.1 0, n, .inl f9)) (hn0 : 0 < n) (hn : n < 2 ^ 31) : gMi l yJ0_isEmpty_aae02 cJ0_isEmpty_aae02 1 (some .boolean) 0 0 0 0 X [.ref (ad (62, 0))] L ad st (fun v u => u = (L, ad, st) ∧ v = 0) := by
  intro sz
  refine gM_of2 (Qc := fun A => va_Qi _ (gB X A) A) (by decide) (Nat.le_of_ble_eq_true rfl) ?_ sz
  intro p e s m args below meth c A R Q hR hQ C hW hS ls hl
  obtain ⟨hR1, hR2, hR3, hR4⟩ := hR
  have hx := C.1.1
  have hb := C.1.2.1
  have hml := C.1.2.2.1
  have hl : lv_has ls 1 [(0, .ref (ad (62, 0)))] := hl
  refine lv_aload_n hx hb dJ0_isEmpty_aae02_0 rfl (lv_at hl 0 rfl) ?_
  refine g_get (r := (62, 0)) (Cn := RJ0) (T := TJ0) (N := 4) (ci := 0) (v := .ref (ad (63, 0))) C tinJ0 hW m62 e62 rfl 0 (by decide) tw_3_209 (fun _ h9 => h9) rfl dJ0_isEmpty_aae02_1 ?_
  refine g_alen (r := (63, 0)) (t0 := 0) (v := nI n) C hW m63 e63 rfl rfl dJ0_isEmpty_aae02_4 ?_
  refine lv_if_ne (tgt := 12) hx hb dJ0_isEmpty_aae02_5 (by decide) (fun _ => ?_) (fun c9 => absurd c9 (nI_ne0 hn0 hn))
  refine lv_iconst (v := 0) hx hb dJ0_isEmpty_aae02_12 (by decide) ?_
  exact g_iret2 C hQ hW hS ⟨rfl, rfl⟩ (by decide) (Nat.zero_le _) (Nat.zero_le _) dJ0_isEmpty_aae02_13

set_option maxHeartbeats 4000000 in
set_option maxRecDepth 100000 in
theorem c_S_length (l : Launch) (X : GX) (L : List ro) (ad : ro → Nat) (st : ro → va_E) (n : Nat) (f9 : Nat → Int32) (m62 : (62, 0) ∈ L) (m63 : (63, 0) ∈ L)  (e62 : st (62, 0) = .inr (0, [.ref (ad (63, 0)), .int 0, .int 0, .int 0])) (e63 : st (63, 0) = .inl (X.2.1 0, n, .inl f9))  : gMi l yJ0_length_8abf5 cJ0_length_8abf5 1 (some .int) 1 20 0 0 X [.ref (ad (62, 0))] L ad st (fun v u => u = (L, ad, st) ∧ v = nI n) := by
  intro sz
  refine gM_of2 (Qc := fun A => va_Qi _ (gB X A) A) (by decide) (Nat.le_of_ble_eq_true rfl) ?_ sz
  intro p e s m args below meth c A R Q hR hQ C hW hS ls hl
  obtain ⟨hR1, hR2, hR3, hR4⟩ := hR
  have hx := C.1.1
  have hb := C.1.2.1
  have hml := C.1.2.2.1
  have hl : lv_has ls 1 [(0, .ref (ad (62, 0)))] := hl
  refine lv_aload_n hx hb dJ0_length_8abf5_0 rfl (lv_at hl 0 rfl) ?_
  refine g_get (r := (62, 0)) (Cn := RJ0) (T := TJ0) (N := 4) (ci := 0) (v := .ref (ad (63, 0))) C tinJ0 hW m62 e62 rfl 0 (by decide) tw_3_209 (fun _ h9 => h9) rfl dJ0_length_8abf5_1 ?_
  refine g_alen (r := (63, 0)) (t0 := 0) (v := nI n) C hW m63 e63 rfl rfl dJ0_length_8abf5_4 ?_
  refine lv_aload_n hx hb dJ0_length_8abf5_5 rfl (lv_at hl 0 rfl) ?_
  refine g_callVi (r := (62, 0)) (T := TJ0) (N := 4) (k2 := 0) (As := []) (rest := [.int (nI n)]) C (c_S_coder l X L ad st n f9 m62 m63 e62 e63) tw_2_50 tw_2_51 tw_2_52 tw_1_17 tw_2_53 (by decide +kernel) ⟨by rw [hR1]; exact Nat.le_of_ble_eq_true rfl, by rw [hR2]; exact Nat.le_of_ble_eq_true rfl⟩ hW hS m62 e62 rfl rfl hl.1 rfl (Nat.le_of_ble_eq_true rfl) dJ0_length_8abf5_6 ⟨Nat.zero_le _, Nat.zero_le _⟩ (fun x1 L9 ad2 st3 H locs hp hW hS => ?_)
  obtain ⟨z0, h4⟩ := hp
  cases z0
  subst h4
  refine lv_ishr hx hb dJ0_length_8abf5_9 ?_
  refine lv_topE (y := nI n) (by rw [show (0 : Int32) &&& 31 = 0 from by decide, shr0]) ?_
  exact g_iret2 C hQ hW hS ⟨rfl, rfl⟩ rfl (Nat.zero_le _) (Nat.zero_le _) dJ0_length_8abf5_10

set_option maxHeartbeats 4000000 in
set_option maxRecDepth 100000 in
theorem c_S_charAt1 (l : Launch) (X : GX) (L : List ro) (ad : ro → Nat) (st : ro → va_E) (n : Nat) (f9 : Nat → Int32) (j : Nat) (m63 : (63, 0) ∈ L)  (e63 : st (63, 0) = .inl (X.2.1 0, n, .inl f9)) (hj : j < n) (hn : n < 2 ^ 31) (h255 : f9 j &&& 255 = f9 j) (hch : narrow .char (.int (f9 j)) = .int (f9 j)) : gMi l yJ1_charAt_3b067 cJ1_charAt_3b067 2 (some .char) 2 43 0 0 X [.ref (ad (63, 0)), .int (nI j)] L ad st (fun v u => u = (L, ad, st) ∧ v = f9 j) := by
  intro sz
  refine gM_of2 (Qc := fun A => va_Qi _ (gB X A) A) (by decide) (Nat.le_of_ble_eq_true rfl) ?_ sz
  intro p e s m args below meth c A R Q hR hQ C hW hS ls hl
  obtain ⟨hR1, hR2, hR3, hR4⟩ := hR
  have hx := C.1.1
  have hb := C.1.2.1
  have hml := C.1.2.2.1
  have hl : lv_has ls 2 [(0, .ref (ad (63, 0))), (1, .int (nI j))] := hl
  refine lv_iload_n hx hb dJ1_charAt_3b067_0 rfl (lv_at hl 1 rfl) ?_
  refine lv_aload_n hx hb dJ1_charAt_3b067_1 rfl (lv_at hl 0 rfl) ?_
  refine g_alen (r := (63, 0)) (t0 := 0) (v := nI n) C hW m63 e63 rfl rfl dJ1_charAt_3b067_2 ?_
  refine g_callSv (k2 := 2) (As := [.int (nI j), .int (nI n)]) (rest := []) C (c_J0_checkIndex_df160 l X L ad st j n hj (by omega)) tw_2_131 tw_2_132 tw_1_17 tw_2_133 (by decide +kernel) ⟨by rw [hR1]; exact Nat.le_of_ble_eq_true rfl, by rw [hR2]; exact Nat.le_of_ble_eq_true rfl⟩ hW hS rfl hl.1 rfl (Nat.le_of_ble_eq_true rfl) dJ1_charAt_3b067_3 ⟨Nat.zero_le _, Nat.zero_le _⟩ (fun  L9 ad1 st2 H locs hp hW hS => ?_)
  cases hp
  refine lv_aload_n hx hb dJ1_charAt_3b067_6 rfl (lv_at hl 0 rfl) ?_
  refine lv_iload_n hx hb dJ1_charAt_3b067_7 rfl (lv_at hl 1 rfl) ?_
  refine g_bald (r := (63, 0)) (n := n) (f := f9) C hW m63 e63 (vp_in_nI (N := n) (by omega) (by omega)) dJ1_charAt_3b067_8 ?_
  refine lv_topE (y := f9 j) (by rw [nI_clamp (by omega)]) ?_
  refine lv_topE (y := f9 j) rfl ?_
  refine lv_sipush (v := 255) hx hb dJ1_charAt_3b067_9 (by decide) ?_
  refine lv_iand hx hb dJ1_charAt_3b067_12 ?_
  refine lv_topE (y := f9 j) h255 ?_
  refine lv_i2c hx hb dJ1_charAt_3b067_13 rfl ?_
  refine lv_topE (y := f9 j) (nar_i2c hch) ?_
  exact g_iret2 C hQ hW hS ⟨rfl, rfl⟩ hch (Nat.zero_le _) (Nat.zero_le _) dJ1_charAt_3b067_14

set_option maxHeartbeats 4000000 in
set_option maxRecDepth 100000 in
theorem c_S_charAt (l : Launch) (X : GX) (L : List ro) (ad : ro → Nat) (st : ro → va_E) (n : Nat) (f9 : Nat → Int32) (j : Nat) (m62 : (62, 0) ∈ L) (m63 : (63, 0) ∈ L)  (e62 : st (62, 0) = .inr (0, [.ref (ad (63, 0)), .int 0, .int 0, .int 0])) (e63 : st (63, 0) = .inl (X.2.1 0, n, .inl f9)) (hj : j < n) (hn : n < 2 ^ 31) (h255 : f9 j &&& 255 = f9 j) (hch : narrow .char (.int (f9 j)) = .int (f9 j)) : gMi l yJ0_charAt_5068e cJ0_charAt_5068e 2 (some .char) 3 64 0 0 X [.ref (ad (62, 0)), .int (nI j)] L ad st (fun v u => u = (L, ad, st) ∧ v = f9 j) := by
  intro sz
  refine gM_of2 (Qc := fun A => va_Qi _ (gB X A) A) (by decide) (Nat.le_of_ble_eq_true rfl) ?_ sz
  intro p e s m args below meth c A R Q hR hQ C hW hS ls hl
  obtain ⟨hR1, hR2, hR3, hR4⟩ := hR
  have hx := C.1.1
  have hb := C.1.2.1
  have hml := C.1.2.2.1
  have hl : lv_has ls 2 [(0, .ref (ad (62, 0))), (1, .int (nI j))] := hl
  refine lv_aload_n hx hb dJ0_charAt_5068e_0 rfl (lv_at hl 0 rfl) ?_
  refine g_callVi (r := (62, 0)) (T := TJ0) (N := 4) (k2 := 0) (As := []) (rest := []) C (c_S_isLatin1 l X L ad st n f9 m62 m63 e62 e63) tw_2_40 tw_2_41 tw_2_42 tw_1_17 tw_2_43 (by decide +kernel) ⟨by rw [hR1]; exact Nat.le_of_ble_eq_true rfl, by rw [hR2]; exact Nat.le_of_ble_eq_true rfl⟩ hW hS m62 e62 rfl rfl hl.1 rfl (Nat.le_of_ble_eq_true rfl) dJ0_charAt_5068e_1 ⟨Nat.zero_le _, Nat.zero_le _⟩ (fun x1 L9 ad2 st3 H locs hp hW hS => ?_)
  obtain ⟨z0, h4⟩ := hp
  cases z0
  subst h4
  refine lv_if_eq (tgt := 16) hx hb dJ0_charAt_5068e_4 (by decide) (fun c9 => absurd c9 (by decide)) (fun _ => ?_)
  refine lv_aload_n hx hb dJ0_charAt_5068e_7 rfl (lv_at hl 0 rfl) ?_
  refine g_get (r := (62, 0)) (Cn := RJ0) (T := TJ0) (N := 4) (ci := 0) (v := .ref (ad (63, 0))) C tinJ0 hW m62 e62 rfl 0 (by decide) tw_3_209 (fun _ h9 => h9) rfl dJ0_charAt_5068e_8 ?_
  refine lv_iload_n hx hb dJ0_charAt_5068e_11 rfl (lv_at hl 1 rfl) ?_
  refine g_callSi (k2 := 2) (As := [.ref (ad (63, 0)), .int (nI j)]) (rest := []) C (c_S_charAt1 l X L ad st n f9 j m63 e63 hj hn h255 hch) tw_2_128 tw_2_129 tw_1_18 tw_2_130 (by decide +kernel) ⟨by rw [hR1]; exact Nat.le_of_ble_eq_true rfl, by rw [hR2]; exact Nat.le_of_ble_eq_true rfl⟩ hW hS rfl hl.1 rfl (Nat.le_of_ble_eq_true rfl) dJ0_charAt_5068e_12 ⟨Nat.zero_le _, Nat.zero_le _⟩ (fun x5 L9 ad6 st7 H locs hp hW hS => ?_)
  obtain ⟨z0, h8⟩ := hp
  cases z0
  subst h8
  exact g_iret2 C hQ hW hS ⟨rfl, rfl⟩ hch (Nat.zero_le _) (Nat.zero_le _) dJ0_charAt_5068e_15

