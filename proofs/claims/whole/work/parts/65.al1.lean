/-! ArrayList: number i holds the things (40 + 10 i, 0), (40 + 10 i, 1) .. -/
def fE (ad : ro → Nat) (i n : Nat) : Nat → Option Nat := fun j => if j < n then some (ad (40 + 10 * i, j)) else none
def elC (i : Nat) : Nat := if i = 0 then 6 else 5
theorem max1 {b : Nat} (h : 1 ≤ b) (h2 : b < 2 ^ 31) : (if 1 < nI b then nI b else 1) = nI b := by
  by_cases e : b = 1
  · subst e; rfl
  · rw [if_pos (show (1 : Int32) < nI b from (nI_ltI (a := 1) (by decide) h2).mpr (by omega))]
theorem minN {n m : Nat} (h : n < m) (h2 : m < 2 ^ 31) : (if nI m < nI n then nI m else nI n) = nI n := by
  rw [if_neg (fun q => absurd (q_lt h2 (by omega) q) (by omega))]
theorem gc_inst : Cond.instanceMethod ⟨"java/lang/Object", "getClass", "()Ljava/lang/Class;"⟩ ∈ TB := tB_of (by decide +kernel) (by decide +kernel)
section GA5
variable {p : Program} {l : Launch} {e : Env} {R : Room} {s : State} {m : MethodId} {args : Array Value} {below : List Frame} {meth : Method} {c : Code} {H : Heap} {locs : List Loc} {cells slots : Nat} {Q : State → Prop}
variable {cc : ByteArray} {nL : Nat} {ret : Option FieldType} {own mname : String} {pc : Nat} {ls : Array Slot} {rest : List Value} {X : GX} {A : Nat → Prop} {L : List ro} {ad : ro → Nat} {st : ro → va_E} {r : ro}
theorem g_elany {i : Nat} {fs : List Value} (C : gCx p s m args meth c cc nL ret own mname X A) (hW : gW X A L ad st s H) (hi : i < 2) (hr : r ∈ L) (he : st r = .inr (elC i, fs)) : va_Any "java/lang/Object" s H (ad r) := by
  rcases (show i = 0 ∨ i = 1 by omega) with e | e <;> subst e
  · exact g_any (Cn := RX3) (ci := 6) C hW hr he rfl (by decide +kernel)
  · exact g_any (Cn := RX2) (ci := 5) C hW hr he rfl (by decide +kernel)
theorem g_recvA {n : Nat} {f : Nat → Option Nat} {cA : ClassId} (C : gCx p s m args meth c cc nL ret own mname X A) (hW : gW X A L ad st s H) (hr : r ∈ L) (he : st r = .inl (cA, n, .inr (.inr (.inr (.inr f))))) (ht : (wTy X.2.1)[5]? = some (cA, .object "java/lang/Object")) : ∃ cell : Cell, H[ad r]? = some cell ∧ cell.vm.isStatics = false ∧ s.vm.findClass "[Ljava/lang/Object;" = some cell.cls := by
  obtain ⟨q0, hq0, h0⟩ := rw_get (ad := ad) (st := st) hr
  rw [he] at h0
  obtain ⟨kA, comp, k1, k2, k3, k4⟩ := (hW.2.1.2 5 _ ht).2
  exact ⟨_, hW.1 q0 _ h0, rfl, k4⟩
end GA5
set_option maxHeartbeats 4000000 in
set_option maxRecDepth 100000 in
theorem c_J15_checkIndex_7cf53 (l : Launch) (X : GX) (L : List ro) (ad : ro → Nat) (st : ro → va_E) (a b : Nat)    (hab : a < b) (hb2 : b < 2 ^ 31) : gMi l yJ15_checkIndex_7cf53 cJ15_checkIndex_7cf53 2 (some .int) 1 22 0 0 X [.int (nI a), .int (nI b)] L ad st (fun v u => u = (L, ad, st) ∧ v = nI a) := by
  intro sz
  refine gM_of2 (Qc := fun A => va_Qi _ (gB X A) A) (by decide) (Nat.le_of_ble_eq_true rfl) ?_ sz
  intro p e s m args below meth c A R Q hR hQ C hW hS ls hl
  obtain ⟨hR1, hR2, hR3, hR4⟩ := hR
  have hx := C.1.1
  have hb := C.1.2.1
  have hml := C.1.2.2.1
  have hl : lv_has ls 2 [(0, .int (nI a)), (1, .int (nI b))] := hl
  refine lv_iload_n hx hb dJ15_checkIndex_7cf53_0 rfl (lv_at hl 0 rfl) ?_
  refine lv_iload_n hx hb dJ15_checkIndex_7cf53_1 rfl (lv_at hl 1 rfl) ?_
  refine lv_null hx hb dJ15_checkIndex_7cf53_2 ?_
  refine g_callSi (k2 := 3) (As := [.int (nI a), .int (nI b), .null]) (rest := []) C (c_J3_checkIndex_8e157_0 l X L ad st a b hab hb2) tw_4_149 tw_2_135 tw_1_21 tw_2_136 (by decide +kernel) ⟨by rw [hR1]; exact Nat.le_of_ble_eq_true rfl, by rw [hR2]; exact Nat.le_of_ble_eq_true rfl⟩ hW hS rfl hl.1 rfl (Nat.le_of_ble_eq_true rfl) dJ15_checkIndex_7cf53_3 ⟨Nat.zero_le _, Nat.zero_le _⟩ (fun x1 L9 ad2 st3 H locs hp hW hS => ?_)
  obtain ⟨z0, h4⟩ := hp
  cases z0
  subst h4
  exact g_iret2 C hQ hW hS ⟨rfl, rfl⟩ rfl (Nat.zero_le _) (Nat.zero_le _) dJ15_checkIndex_7cf53_6

set_option maxHeartbeats 4000000 in
set_option maxRecDepth 100000 in
theorem c_Jx4a65c_size_8abf5 (l : Launch) (X : GX) (L : List ro) (ad : ro → Nat) (st : ro → va_E) (i : Nat) (m9 : Int32) (v9 : Value) (n : Nat) (mA : (11, i) ∈ L)  (eA : st (11, i) = .inr (2, [.int m9, v9, .int (nI n)]))  : gMi l yJx4a65c_size_8abf5 cJx4a65c_size_8abf5 1 (some .int) 0 0 0 0 X [.ref (ad (11, i))] L ad st (fun v u => u = (L, ad, st) ∧ v = nI n) := by
  intro sz
  refine gM_of2 (Qc := fun A => va_Qi _ (gB X A) A) (by decide) (Nat.le_of_ble_eq_true rfl) ?_ sz
  intro p e s m args below meth c A R Q hR hQ C hW hS ls hl
  obtain ⟨hR1, hR2, hR3, hR4⟩ := hR
  have hx := C.1.1
  have hb := C.1.2.1
  have hml := C.1.2.2.1
  have hl : lv_has ls 1 [(0, .ref (ad (11, i)))] := hl
  refine lv_aload_n hx hb dJx4a65c_size_8abf5_0 rfl (lv_at hl 0 rfl) ?_
  refine g_get (r := (11, i)) (Cn := RJx4a65c) (T := TJx4a65c) (N := 3) (ci := 2) (v := .int (nI n)) C tinJx4a65c hW mA eA rfl 2 (by decide) tw_1_113 (fun _ h9 => h9) rfl dJx4a65c_size_8abf5_1 ?_
  exact g_iret2 C hQ hW hS ⟨rfl, rfl⟩ rfl (Nat.zero_le _) (Nat.zero_le _) dJx4a65c_size_8abf5_4

set_option maxHeartbeats 4000000 in
set_option maxRecDepth 100000 in
theorem c_Jx4a65c_elementData_915e3 (l : Launch) (X : GX) (L : List ro) (ad : ro → Nat) (st : ro → va_E) (i : Nat) (m9 : Int32) (n c0 : Nat) (f9 : Nat → Option Nat) (j : Nat) (mA : (11, i) ∈ L) (mB : (12, i) ∈ L)  (eA : st (11, i) = .inr (2, [.int m9, .ref (ad (12, i)), .int (nI n)])) (eB : st (12, i) = .inl (X.2.1 5, c0, .inr (.inr (.inr (.inr f9))))) (hj : j < n) (hc0 : n ≤ c0) (hc1 : c0 < 2 ^ 31) : gMq l yJx4a65c_elementData_915e3 cJx4a65c_elementData_915e3 2 (some (.object "java/lang/Object")) 0 0 0 0 X [.ref (ad (11, i)), .int (nI j)] L ad st (fun v u => u = (L, ad, st) ∧ v = f9 j) := by
  intro sz
  refine gM_of2 (Qc := fun A => va_Qq _ (gB X A) A) (by decide) (Nat.le_of_ble_eq_true rfl) ?_ sz
  intro p e s m args below meth c A R Q hR hQ C hW hS ls hl
  obtain ⟨hR1, hR2, hR3, hR4⟩ := hR
  have hx := C.1.1
  have hb := C.1.2.1
  have hml := C.1.2.2.1
  have hl : lv_has ls 2 [(0, .ref (ad (11, i))), (1, .int (nI j))] := hl
  refine lv_aload_n hx hb dJx4a65c_elementData_915e3_0 rfl (lv_at hl 0 rfl) ?_
  refine g_get (r := (11, i)) (Cn := RJx4a65c) (T := TJx4a65c) (N := 3) (ci := 2) (v := .ref (ad (12, i))) C tinJx4a65c hW mA eA rfl 1 (by decide) tw_1_112 (fun _ h9 => h9) rfl dJx4a65c_elementData_915e3_1 ?_
  refine lv_iload_n hx hb dJx4a65c_elementData_915e3_4 rfl (lv_at hl 1 rfl) ?_
  refine g_aldq (r := (12, i)) (t0 := 5) (n := c0) (f := f9) C hW mB eB rfl (vp_in_nI (N := c0) (by omega) (by omega)) dJx4a65c_elementData_915e3_5 ?_
  refine lv_topV (y := va_rf (f9 j)) (by rw [nI_clamp (by omega)]) ?_
  exact g_qret2 (v := f9 j) C (Or.inl ⟨_, rfl⟩) hQ hW hS ⟨rfl, rfl⟩ (Nat.zero_le _) (Nat.zero_le _) dJx4a65c_elementData_915e3_6

set_option maxHeartbeats 4000000 in
set_option maxRecDepth 100000 in
theorem c_Jx4a65c_get_915e3 (l : Launch) (X : GX) (L : List ro) (ad : ro → Nat) (st : ro → va_E) (i : Nat) (m9 : Int32) (n c0 : Nat) (f9 : Nat → Option Nat) (j : Nat) (mA : (11, i) ∈ L) (mB : (12, i) ∈ L)  (eA : st (11, i) = .inr (2, [.int m9, .ref (ad (12, i)), .int (nI n)])) (eB : st (12, i) = .inl (X.2.1 5, c0, .inr (.inr (.inr (.inr f9))))) (hj : j < n) (hc0 : n ≤ c0) (hc1 : c0 < 2 ^ 31) : gMq l yJx4a65c_get_915e3 cJx4a65c_get_915e3 2 (some (.object "java/lang/Object")) 2 43 0 0 X [.ref (ad (11, i)), .int (nI j)] L ad st (fun v u => u = (L, ad, st) ∧ v = f9 j) := by
  intro sz
  refine gM_of2 (Qc := fun A => va_Qq _ (gB X A) A) (by decide) (Nat.le_of_ble_eq_true rfl) ?_ sz
  intro p e s m args below meth c A R Q hR hQ C hW hS ls hl
  obtain ⟨hR1, hR2, hR3, hR4⟩ := hR
  have hx := C.1.1
  have hb := C.1.2.1
  have hml := C.1.2.2.1
  have hl : lv_has ls 2 [(0, .ref (ad (11, i))), (1, .int (nI j))] := hl
  refine lv_iload_n hx hb dJx4a65c_get_915e3_0 rfl (lv_at hl 1 rfl) ?_
  refine lv_aload_n hx hb dJx4a65c_get_915e3_1 rfl (lv_at hl 0 rfl) ?_
  refine g_get (r := (11, i)) (Cn := RJx4a65c) (T := TJx4a65c) (N := 3) (ci := 2) (v := .int (nI n)) C tinJx4a65c hW mA eA rfl 2 (by decide) tw_1_113 (fun _ h9 => h9) rfl dJx4a65c_get_915e3_2 ?_
  refine g_callSi (k2 := 2) (As := [.int (nI j), .int (nI n)]) (rest := []) C (c_J15_checkIndex_7cf53 l X L ad st j n (by omega) (by omega)) tw_4_146 tw_4_147 tw_1_30 tw_4_148 (by decide +kernel) ⟨by rw [hR1]; exact Nat.le_of_ble_eq_true rfl, by rw [hR2]; exact Nat.le_of_ble_eq_true rfl⟩ hW hS rfl hl.1 rfl (Nat.le_of_ble_eq_true rfl) dJx4a65c_get_915e3_5 ⟨Nat.zero_le _, Nat.zero_le _⟩ (fun x1 L9 ad2 st3 H locs hp hW hS => ?_)
  obtain ⟨z0, h4⟩ := hp
  cases z0
  subst h4
  refine lv_pop hx hb dJx4a65c_get_915e3_8 rfl ?_
  refine lv_aload_n hx hb dJx4a65c_get_915e3_9 rfl (lv_at hl 0 rfl) ?_
  refine lv_iload_n hx hb dJx4a65c_get_915e3_10 rfl (lv_at hl 1 rfl) ?_
  refine g_callVq (r := (11, i)) (T := TJx4a65c) (N := 3) (k2 := 1) (As := [.int (nI j)]) (rest := []) C (c_Jx4a65c_elementData_915e3 l X L ad st i m9 n c0 f9 j mA mB eA eB hj hc0 hc1) tw_4_150 tw_4_151 tw_4_152 tw_1_6 tw_4_153 (by decide +kernel) ⟨by rw [hR1]; exact Nat.le_of_ble_eq_true rfl, by rw [hR2]; exact Nat.le_of_ble_eq_true rfl⟩ hW hS mA eA rfl rfl hl.1 rfl (Nat.le_of_ble_eq_true rfl) dJx4a65c_get_915e3_11 ⟨Nat.zero_le _, Nat.zero_le _⟩ (fun v5 L9 ad6 st7 H locs hp hW hS => ?_)
  obtain ⟨z0, z1⟩ := hp
  cases z0
  subst z1
  exact g_qret2 (v := f9 j) C (Or.inl ⟨_, rfl⟩) hQ hW hS ⟨rfl, rfl⟩ (Nat.zero_le _) (Nat.zero_le _) dJx4a65c_get_915e3_14

set_option maxHeartbeats 4000000 in
set_option maxRecDepth 100000 in
theorem c_J8_newLength_cabcc (l : Launch) (X : GX) (L : List ro) (ad : ro → Nat) (st : ro → va_E) (a b : Nat)    (ha : a ≤ 1000) (hb1 : 1 ≤ b) (hb2 : b ≤ 1000) : gMi l yJ8_newLength_cabcc cJ8_newLength_cabcc 4 (some .int) 1 14 0 0 X [.int (nI a), .int 1, .int (nI b)] L ad st (fun v u => u = (L, ad, st) ∧ v = nI (a + b)) := by
  intro sz
  refine gM_of2 (Qc := fun A => va_Qi _ (gB X A) A) (by decide) (Nat.le_of_ble_eq_true rfl) ?_ sz
  intro p e s m args below meth c A R Q hR hQ C hW hS ls hl
  obtain ⟨hR1, hR2, hR3, hR4⟩ := hR
  have hx := C.1.1
  have hb := C.1.2.1
  have hml := C.1.2.2.1
  have hl : lv_has ls 4 [(0, .int (nI a)), (1, .int 1), (2, .int (nI b))] := hl
  refine lv_iload_n hx hb dJ8_newLength_cabcc_0 rfl (lv_at hl 0 rfl) ?_
  refine lv_iload_n hx hb dJ8_newLength_cabcc_1 rfl (lv_at hl 1 rfl) ?_
  refine lv_iload_n hx hb dJ8_newLength_cabcc_2 rfl (lv_at hl 2 rfl) ?_
  refine va_mmax hx hb (hml.trans hl.1.symm) C.1.2.2.2.1 (C.1.2.2.2.2 _ tw_2_228) (C.1.2.2.2.2 _ tw_2_61) (C.1.2.2.2.2 _ tw_1_19) (C.1.2.2.2.2 _ tw_2_62) (by rw [hR1]; exact Nat.le_of_ble_eq_true rfl) (by rw [hR2]; exact Nat.le_of_ble_eq_true rfl) (by rw [hR3]; first | exact Nat.zero_le _ | exact Nat.le_of_ble_eq_true rfl | omega) (by rw [hR4]; first | exact Nat.zero_le _ | exact Nat.le_of_ble_eq_true rfl | omega) dJ8_newLength_cabcc_3 ?_
  refine lv_topE (y := nI b) (max1 hb1 (by omega)) ?_
  refine lv_iadd hx hb dJ8_newLength_cabcc_6 ?_
  refine lv_topE (y := nI (a + b)) (nI_add _ _) ?_
  refine lv_istore_n (lv' := [(3, .int (nI (a + b))), (0, .int (nI a)), (1, .int 1), (2, .int (nI b))]) hx hb dJ8_newLength_cabcc_7 rfl hl (by decide) rfl (fun ls hl => ?_)
  refine lv_iconst (v := 0) hx hb dJ8_newLength_cabcc_8 (by decide) ?_
  refine lv_iload_n hx hb dJ8_newLength_cabcc_9 rfl (lv_at hl 0 rfl) ?_
  refine lv_icmp_ge (tgt := 21) hx hb dJ8_newLength_cabcc_10 (by decide) (fun c9 => absurd c9 (fun q => absurd (q_le (a := a + b) (b := 0) (by omega) (by decide) q) (by omega))) (fun _ => ?_)
  refine lv_iload_n hx hb dJ8_newLength_cabcc_13 rfl (lv_at hl 0 rfl) ?_
  refine lv_ldc (v := 2147483639) hx hb C.1.2.2.2.1 (C.1.2.2.2.2 _ tw_2_229) dJ8_newLength_cabcc_14 ?_
  refine lv_icmp_gt (tgt := 21) hx hb dJ8_newLength_cabcc_16 (by decide) (fun c9 => absurd c9 (fun q => absurd (q_lt (a := 2147483639) (b := a + b) (by decide) (by omega) q) (by omega))) (fun _ => ?_)
  refine lv_iload_n hx hb dJ8_newLength_cabcc_19 rfl (lv_at hl 0 rfl) ?_
  exact g_iret2 C hQ hW hS ⟨rfl, rfl⟩ rfl (Nat.zero_le _) (Nat.zero_le _) dJ8_newLength_cabcc_20

set_option maxHeartbeats 4000000 in
set_option maxRecDepth 100000 in
theorem c_J7_copyOf_6403c (l : Launch) (X : GX) (L : List ro) (ad : ro → Nat) (st : ro → va_E) (i n m9 : Nat) (mB : (12, i) ∈ L) (nT : (65, 0) ∉ L) (eB : st (12, i) = .inl (X.2.1 5, n, .inr (.inr (.inr (.inr (fE ad i n)))))) (hi : i < 2) (hE : ∀ k, k < n → ((40 + 10 * i, k) : ro) ∈ L ∧ ∃ fs, st (40 + 10 * i, k) = .inr (elC i, fs)) (hn : n ≤ 100) (hm : n < m9) (hm2 : m9 ≤ 150) : gMq l yJ7_copyOf_6403c cJ7_copyOf_6403c 4 (some (.array (.object "java/lang/Object"))) 1 60 1 150 X [.ref (ad (12, i)), .int (nI m9), .ref (X.2.2 31)] L ad st (fun v u => ∃ ad' st', u = (L ++ [(65, 0)], ad', st') ∧ (∀ x : ro, x ≠ (65, 0) → ad' x = ad x) ∧ (∀ x : ro, x ≠ (65, 0) → st' x = st x) ∧ st' (65, 0) = .inl (X.2.1 5, m9, .inr (.inr (.inr (.inr (va_cpy (fE ad i n) (fun _ => none) 0 0 n))))) ∧ v = some (ad' (65, 0))) := by
  intro sz
  refine gM_of2 (Qc := fun A => va_Qq _ (gB X A) A) (by decide) (Nat.le_of_ble_eq_true rfl) ?_ sz
  intro p e s m args below meth c A R Q hR hQ C hW hS ls hl
  obtain ⟨hR1, hR2, hR3, hR4⟩ := hR
  have hx := C.1.1
  have hb := C.1.2.1
  have hml := C.1.2.2.1
  have hl : lv_has ls 4 [(0, .ref (ad (12, i))), (1, .int (nI m9)), (2, .ref (X.2.2 31))] := hl
  refine lv_aload_n hx hb dJ7_copyOf_6403c_0 rfl (lv_at hl 2 rfl) ?_
  refine va_ldcM hx hb C.1.2.2.2.1 (C.1.2.2.2.2 _ tw_5_10) (g_gt C).2.2.2.2.2.2.1 dJ7_copyOf_6403c_1 ?_
  refine lv_acmp_ne (rx := some (X.2.2 31)) (ry := some (X.2.2 31)) (tgt := 13) hx hb dJ7_copyOf_6403c_3 (by decide) (fun c8 => absurd rfl c8) (fun c8 => ?_)
  refine lv_iload_n hx hb dJ7_copyOf_6403c_6 rfl (lv_at hl 1 rfl) ?_
  refine g_newr (r := (65, 0)) (Cn := "java/lang/Object") (t0 := 5) (N' := m9) C hW hS nT tw_5_12 (by decide) rfl (nI_pos (by omega)) (nI_clamp (by omega)) (by show m9 * 4 ≤ _; omega) (by rw [hR3]; exact Nat.le_of_ble_eq_true rfl) (by rw [hR4]; omega) dJ7_copyOf_6403c_7 (fun ad1 st2 H ha3 fk4 hs5 hW hS => ?_)
  have hl : lv_has ls 4 [(0, .ref (ad1 (12, i))), (1, .int (nI m9)), (2, .ref (X.2.2 31))] := by rw [ha3 (12, i) (rne (by omega))]; exact hl
  have fk6 : st2 (12, i) = .inl (X.2.1 5, n, .inr (.inr (.inr (.inr (fE ad i n))))) := (hs5 (12, i) (rne (by omega))).trans eB
  have af7 : ∀ x : ro, x ≠ (65, 0) → ad1 x = ad x := fun x a0 => ha3 x a0
  have sf8 : ∀ x : ro, x ≠ (65, 0) → st2 x = st x := fun x a0 => hs5 x a0
  refine lv_goto (tgt := 24) hx hb dJ7_copyOf_6403c_10 (by decide) ?_
  refine lv_astore_n (lv' := [(3, .ref (ad1 (65, 0))), (0, .ref (ad1 (12, i))), (1, .int (nI m9)), (2, .ref (X.2.2 31))]) hx hb dJ7_copyOf_6403c_24 rfl hl (by decide) rfl (fun ls hl => ?_)
  refine lv_aload_n hx hb dJ7_copyOf_6403c_25 rfl (lv_at hl 1 rfl) ?_
  refine lv_iconst (v := 0) hx hb dJ7_copyOf_6403c_26 (by decide) ?_
  refine lv_aload_n hx hb dJ7_copyOf_6403c_27 rfl (lv_at hl 0 rfl) ?_
  refine lv_iconst (v := 0) hx hb dJ7_copyOf_6403c_28 (by decide) ?_
  refine lv_aload_n hx hb dJ7_copyOf_6403c_29 rfl (lv_at hl 1 rfl) ?_
  refine g_alen (r := (12, i)) (t0 := 5) (v := nI n) C hW (List.mem_append_left _ mB) fk6 rfl rfl dJ7_copyOf_6403c_30 ?_
  refine lv_iload_n hx hb dJ7_copyOf_6403c_31 rfl (lv_at hl 2 rfl) ?_
  refine va_mmin hx hb (hml.trans hl.1.symm) C.1.2.2.2.1 (C.1.2.2.2.2 _ tw_3_4) (C.1.2.2.2.2 _ tw_2_64) (C.1.2.2.2.2 _ tw_1_19) (C.1.2.2.2.2 _ tw_2_65) (by rw [hR1]; exact Nat.le_of_ble_eq_true rfl) (by rw [hR2]; exact Nat.le_of_ble_eq_true rfl) (by rw [hR3]; first | exact Nat.zero_le _ | exact Nat.le_of_ble_eq_true rfl | omega) (by rw [hR4]; first | exact Nat.zero_le _ | exact Nat.le_of_ble_eq_true rfl | omega) dJ7_copyOf_6403c_32 ?_
  refine lv_topE (y := nI n) (minN (by omega) (by omega)) ?_
  refine g_copyo (r0 := (12, i)) (r := (65, 0)) (t0 := 5) (t1 := 5) C hW hS hl.1 tw_3_5 (List.mem_append_left _ mB) fk6 rfl (List.mem_append_right _ (List.mem_singleton.mpr rfl)) fk4 rfl (sp := 0) (dp := 0) (n := n) rfl rfl rfl (by omega) (by omega) (by omega) (by omega) (fun k hk q hq => by obtain ⟨q1, fs, q2⟩ := hE k hk; rw [Nat.zero_add] at hq; unfold fE at hq; rw [if_pos hk] at hq; cases hq; have h8 := g_elany C hW hi (r := (40 + 10 * i, k)) (List.mem_append_left _ q1) ((sf8 (40 + 10 * i, k) (rne (by omega))).trans q2); rwa [af7 (40 + 10 * i, k) (rne (by omega))] at h8) (by rw [hR1]; exact Nat.le_of_ble_eq_true rfl) (by rw [hR2]; exact Nat.le_of_ble_eq_true rfl) dJ7_copyOf_6403c_35 (fun st9 H locs fk10 hs11 hW hS => ?_)
  have fk12 : st9 (12, i) = .inl (X.2.1 5, n, .inr (.inr (.inr (.inr (fE ad i n))))) := (hs11 (12, i) (rne (by omega))).trans fk6
  have sf13 : ∀ x : ro, x ≠ (65, 0) → st9 x = st x := fun x a0 => (hs11 x a0).trans (sf8 x a0)
  refine lv_aload_n hx hb dJ7_copyOf_6403c_38 rfl (lv_at hl 0 rfl) ?_
  exact g_qret2 (v := some (ad1 (65, 0))) C (Or.inr ⟨_, rfl⟩) hQ hW hS ⟨_, _, rfl, (fun x b0 => af7 x b0), (fun x b0 => sf13 x b0), fk10, rfl⟩ (by omega) (by omega) dJ7_copyOf_6403c_39

set_option maxHeartbeats 4000000 in
set_option maxRecDepth 100000 in
theorem c_J7_copyOf_1904c (l : Launch) (X : GX) (L : List ro) (ad : ro → Nat) (st : ro → va_E) (i n m9 : Nat) (mB : (12, i) ∈ L) (nT : (65, 0) ∉ L) (eB : st (12, i) = .inl (X.2.1 5, n, .inr (.inr (.inr (.inr (fE ad i n)))))) (hi : i < 2) (hE : ∀ k, k < n → ((40 + 10 * i, k) : ro) ∈ L ∧ ∃ fs, st (40 + 10 * i, k) = .inr (elC i, fs)) (hn : n ≤ 100) (hm : n < m9) (hm2 : m9 ≤ 150) : gMq l yJ7_copyOf_1904c cJ7_copyOf_1904c 2 (some (.array (.object "java/lang/Object"))) 2 83 1 150 X [.ref (ad (12, i)), .int (nI m9)] L ad st (fun v u => ∃ ad' st', u = (L ++ [(65, 0)], ad', st') ∧ (∀ x : ro, x ≠ (65, 0) → ad' x = ad x) ∧ (∀ x : ro, x ≠ (65, 0) → st' x = st x) ∧ st' (65, 0) = .inl (X.2.1 5, m9, .inr (.inr (.inr (.inr (va_cpy (fE ad i n) (fun _ => none) 0 0 n))))) ∧ v = some (ad' (65, 0))) := by
  intro sz
  refine gM_of2 (Qc := fun A => va_Qq _ (gB X A) A) (by decide) (Nat.le_of_ble_eq_true rfl) ?_ sz
  intro p e s m args below meth c A R Q hR hQ C hW hS ls hl
  obtain ⟨hR1, hR2, hR3, hR4⟩ := hR
  have hx := C.1.1
  have hb := C.1.2.1
  have hml := C.1.2.2.1
  have hl : lv_has ls 2 [(0, .ref (ad (12, i))), (1, .int (nI m9))] := hl
  refine lv_aload_n hx hb dJ7_copyOf_1904c_0 rfl (lv_at hl 0 rfl) ?_
  refine lv_iload_n hx hb dJ7_copyOf_1904c_1 rfl (lv_at hl 1 rfl) ?_
  refine lv_aload_n hx hb dJ7_copyOf_1904c_2 rfl (lv_at hl 0 rfl) ?_
  refine va_getC (C := "[Ljava/lang/Object;") (mi := X.2.2 31) hx hb (hml.trans hl.1.symm) C.1.2.2.2.1 (C.1.2.2.2.2 _ tw_4_228) (va_Nw.use rfl ((g_gt C).2.2.2.2.2.2.2 ⟨"java/lang/Object", "getClass", "()Ljava/lang/Class;"⟩ (by decide))) (C.1.2.2.2.2 _ tw_7_81) (C.1.2.2.2.2 _ gc_inst) (C.1.2.2.2.2 _ tw_5_6) (g_gt C).2.2.2.2.2.2.1 (g_recvA C hW mB eB rfl) (by rw [hR1]; exact Nat.le_of_ble_eq_true rfl) (by rw [hR2]; exact Nat.le_of_ble_eq_true rfl) dJ7_copyOf_1904c_3 ?_
  refine g_callSq (k2 := 3) (As := [.ref (ad (12, i)), .int (nI m9), .ref (X.2.2 31)]) (rest := []) C (c_J7_copyOf_6403c l X L ad st i n m9 mB nT eB hi hE hn (by omega) (by omega)) tw_5_7 tw_5_8 tw_1_16 tw_5_9 (by decide +kernel) ⟨by rw [hR1]; exact Nat.le_of_ble_eq_true rfl, by rw [hR2]; exact Nat.le_of_ble_eq_true rfl⟩ hW hS rfl hl.1 rfl (Nat.le_of_ble_eq_true rfl) dJ7_copyOf_1904c_6 ⟨by rw [hR3]; exact Nat.le_of_ble_eq_true rfl, by rw [hR4]; exact Nat.le_of_ble_eq_true rfl⟩ (fun v1 L9 ad2 st3 H locs hp hW hS => ?_)
  obtain ⟨adq, stq, z0, ha4, hs5, fk6, h7⟩ := hp
  cases z0
  subst h7
  have hl : lv_has ls 2 [(0, .ref (ad2 (12, i))), (1, .int (nI m9))] := by rw [ha4 (12, i) (rne (by omega))]; exact hl
  have fk8 : st3 (12, i) = .inl (X.2.1 5, n, .inr (.inr (.inr (.inr (fE ad i n))))) := (hs5 (12, i) (rne (by omega))).trans eB
  have af9 : ∀ x : ro, x ≠ (65, 0) → ad2 x = ad x := fun x a0 => ha4 x a0
  have sf10 : ∀ x : ro, x ≠ (65, 0) → st3 x = st x := fun x a0 => hs5 x a0
  refine lv_topV (y := .ref (ad2 (65, 0))) rfl ?_
  exact g_qret2 (v := some (ad2 (65, 0))) C (Or.inr ⟨_, rfl⟩) hQ hW hS ⟨_, _, rfl, (fun x b0 => af9 x b0), (fun x b0 => sf10 x b0), fk6, rfl⟩ (Nat.le_of_ble_eq_true rfl) (Nat.le_of_ble_eq_true rfl) dJ7_copyOf_1904c_9

