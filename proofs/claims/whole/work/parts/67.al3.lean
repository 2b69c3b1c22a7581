theorem nI_neq {a b : Nat} (h : a < b) (h2 : b < 2 ^ 31) : ¬ nI a = nI b := fun q => absurd ((nI_eq (by omega) h2).mp q) (by omega)
theorem fE_up {ad : ro → Nat} {i n : Nat} : va_up (fE ad i n) n (some (ad (40 + 10 * i, n))) = fE ad i (n + 1) := by
  funext j
  unfold va_up fE
  by_cases h : j = n
  · subst h; rw [if_pos rfl, if_pos (by omega)]
  · rw [if_neg h]
    by_cases h2 : j < n
    · rw [if_pos h2, if_pos (by omega)]
    · rw [if_neg h2, if_neg (by omega)]
theorem fE_A {ad : ro → Nat} {i : Nat} : va_up (fun _ => none) 0 (some (ad (40 + 10 * i, 0))) = fE ad i (0 + 1) := by
  funext j
  unfold va_up fE
  by_cases h : j = 0
  · subst h; rfl
  · rw [if_neg h, if_neg (by omega)]
theorem fE_B {ad : ro → Nat} {i n : Nat} : va_up (va_cpy (fE ad i n) (fun _ => none) 0 0 n) n (some (ad (40 + 10 * i, n))) = fE ad i (n + 1) := by
  rw [← fE_up]
  congr 1
  funext j
  unfold va_cpy fE
  by_cases h : j < n
  · rw [if_pos ⟨by omega, by omega⟩, show 0 + (j - 0) = j by omega]
  · rw [if_neg (by omega), if_neg h]
/-- a thing was added to list i -/
def alP (X : GX) (L : List ro) (ad : ro → Nat) (st : ro → va_E) (i : Nat) (m9 : Int32) (n : Nat) (L' : List ro) (ad' : ro → Nat) (st' : ro → va_E) : Prop :=
  (∀ x : ro, x ∈ L' ↔ x ∈ L ∨ x = (12, i)) ∧ (∀ x : ro, x ≠ (12, i) → ad' x = ad x) ∧ (∀ x : ro, x ≠ (11, i) → x ≠ (12, i) → st' x = st x) ∧ st' (11, i) = .inr (2, [.int m9, .ref (ad' (12, i)), .int (nI (n + 1))]) ∧ ∃ cap : Nat, n + 1 ≤ cap ∧ 10 ≤ cap ∧ cap ≤ 150 ∧ st' (12, i) = .inl (X.2.1 5, cap, .inr (.inr (.inr (.inr (fE ad i (n + 1))))))
theorem al_ren {X : GX} {A : Nat → Prop} {L : List ro} {ad ad9 : ro → Nat} {st st9 : ro → va_E} {s : State} {H : Heap} {i : Nat} {E1 E2 : va_E} (hT : (65, 0) ∉ L) (hA : (11, i) ∈ L) (hW : gW X A (L ++ [(65, 0)]) ad9 st9 s H) (ha : ∀ x : ro, x ≠ (65, 0) → ad9 x = ad x) (hs : ∀ x : ro, x ≠ (65, 0) → x ≠ (11, i) → st9 x = st x) (e1 : st9 (11, i) = E1) (e2 : st9 (65, 0) = E2) :
    ∃ L3 : List ro, (∀ x : ro, x ∈ L3 ↔ x ∈ L ∨ x = (12, i)) ∧ gW X A L3 (aup ad (12, i) (ad9 (65, 0))) (sup (sup st (11, i) E1) (12, i) E2) s H := by
  have hnd : L.Nodup := (gW_nodup hW).sublist (List.sublist_append_left _ _)
  refine ⟨L.filter (fun x => !decide (x = (12, i))) ++ [(12, i)], fun x => ?_, gW_map (fun x => if x = (12, i) then (65, 0) else x) (fun x hx => ?_) (fun x hx y hy hxy => ?_) ?_ hW⟩
  · simp only [List.mem_append, List.mem_filter, List.mem_singleton, Bool.not_eq_true', decide_eq_false_iff_not]
    by_cases h : x = (12, i)
    · simp [h]
    · simp [h]
  · simp only [List.mem_append, List.mem_filter, List.mem_singleton, Bool.not_eq_true', decide_eq_false_iff_not] at hx
    by_cases h : x = (12, i)
    · simp only [h, if_true]
      refine ⟨by simp, aup_at, sup_at.trans e2.symm⟩
    · simp only [h, if_false]
      have hxL : x ∈ L := (hx.resolve_right h).1
      have hx5 : x ≠ (65, 0) := fun q => hT (q ▸ hxL)
      refine ⟨List.mem_append_left _ hxL, (aup_ne h).trans (ha x hx5).symm, (sup_ne h).trans ?_⟩
      by_cases h1 : x = (11, i)
      · rw [h1]; exact sup_at.trans e1.symm
      · exact (sup_ne h1).trans (hs x hx5 h1).symm
  · simp only [List.mem_append, List.mem_filter, List.mem_singleton, Bool.not_eq_true', decide_eq_false_iff_not] at hx hy
    by_cases h : x = (12, i) <;> by_cases h2 : y = (12, i)
    · rw [h, h2]
    · simp only [h, h2, if_true, if_false] at hxy
      exact absurd (hxy ▸ (hy.resolve_right h2).1) hT
    · simp only [h, h2, if_true, if_false] at hxy
      exact absurd (hxy ▸ (hx.resolve_right h).1) hT
    · simp only [h, h2, if_false] at hxy
      exact hxy
  · refine List.nodup_append.mpr ⟨hnd.filter _, by simp, fun a ha b hb e => ?_⟩
    simp only [List.mem_filter, List.mem_singleton, Bool.not_eq_true', decide_eq_false_iff_not] at ha hb
    exact ha.2 (e.trans hb)
set_option maxHeartbeats 4000000 in
set_option maxRecDepth 100000 in
theorem c_Jx4a65c_addN (l : Launch) (X : GX) (L : List ro) (ad : ro → Nat) (st : ro → va_E) (i n c0 : Nat) (m9 : Int32) (mA : (11, i) ∈ L) (mB : (12, i) ∈ L)  (eA : st (11, i) = .inr (2, [.int m9, .ref (ad (12, i)), .int (nI n)])) (eB : st (12, i) = .inl (X.2.1 5, c0, .inr (.inr (.inr (.inr (fE ad i n)))))) (hi : i < 2) (hE : ∀ k, k < n + 1 → ((40 + 10 * i, k) : ro) ∈ L ∧ ∃ fs, st (40 + 10 * i, k) = .inr (elC i, fs)) (hc0 : n < c0) (hc1 : 10 ≤ c0) (hc2 : c0 ≤ 150) : gMv l yJx4a65c_add_72be8 cJx4a65c_add_72be8 4 none 0 0 0 0 X [.ref (ad (11, i)), .ref (ad (40 + 10 * i, n)), .ref (ad (12, i)), .int (nI n)] L ad st (fun u => ∃ L' ad' st', u = (L', ad', st') ∧ alP X L ad st i m9 n L' ad' st') := by
  intro sz
  refine gM_of2 (Qc := fun A => va_Qv _ (gB X A) A) (by decide) (Nat.le_of_ble_eq_true rfl) ?_ sz
  intro p e s m args below meth c A R Q hR hQ C hW hS ls hl
  obtain ⟨hR1, hR2, hR3, hR4⟩ := hR
  have hx := C.1.1
  have hb := C.1.2.1
  have hml := C.1.2.2.1
  have hl : lv_has ls 4 [(0, .ref (ad (11, i))), (1, .ref (ad (40 + 10 * i, n))), (2, .ref (ad (12, i))), (3, .int (nI n))] := hl
  obtain ⟨fsn, hfn⟩ := (hE n (by omega)).2
  refine lv_iload_n hx hb dJx4a65c_add_72be8_0 rfl (lv_at hl 3 rfl) ?_
  refine lv_aload_n hx hb dJx4a65c_add_72be8_1 rfl (lv_at hl 2 rfl) ?_
  refine g_alen (r := (12, i)) (t0 := 5) (v := nI c0) C hW mB eB rfl rfl dJx4a65c_add_72be8_2 ?_
  refine lv_icmp_ne (tgt := 11) hx hb dJx4a65c_add_72be8_3 (by decide) (fun _ => ?_) (fun c9 => absurd c9 (nI_neq (by omega) (by omega)))
  refine lv_aload_n hx hb dJx4a65c_add_72be8_11 rfl (lv_at hl 2 rfl) ?_
  refine lv_iload_n hx hb dJx4a65c_add_72be8_12 rfl (lv_at hl 3 rfl) ?_
  refine lv_aload_n hx hb dJx4a65c_add_72be8_13 rfl (lv_at hl 1 rfl) ?_
  refine g_astq (r := (12, i)) (t0 := 5) C hW hS mB eB rfl (g_elany C hW hi (hE n (by omega)).1 hfn) (vp_in_nI (N := c0) (by omega) (by omega)) dJx4a65c_add_72be8_14 (fun st1 H locs fk2 hs3 hW hS => ?_)
  rw [nI_clamp (by omega)] at fk2
  have fk4 : st1 (11, i) = .inr (2, [.int m9, .ref (ad (12, i)), .int (nI n)]) := (hs3 (11, i) (rne (by omega))).trans eA
  have sf5 : ∀ x : ro, x ≠ (12, i) → st1 x = st x := fun x a0 => hs3 x a0
  refine lv_aload_n hx hb dJx4a65c_add_72be8_15 rfl (lv_at hl 0 rfl) ?_
  refine lv_iload_n hx hb dJx4a65c_add_72be8_16 rfl (lv_at hl 3 rfl) ?_
  refine lv_iconst (v := 1) hx hb dJx4a65c_add_72be8_17 (by decide) ?_
  refine lv_iadd hx hb dJx4a65c_add_72be8_18 ?_
  refine lv_topE (y := nI (n + 1)) (nI_1 n) ?_
  refine g_putx (r := (11, i)) (Cn := RJx4a65c) (T := TJx4a65c) (N := 3) (ci := 2) (ty0 := tyJx4a65c) (fs2 := [.int m9, .ref (ad (12, i)), .int (nI (n + 1))]) C tinJx4a65c tyJx4a65c_ok nmJx4a65c hW hS mA fk4 rfl 2 (by decide) tw_1_113 (fun _ h9 => h9) rfl rfl rfl (Nat.le_of_ble_eq_true rfl) rfl dJx4a65c_add_72be8_19 (fun st6 H locs fk7 hs8 hW hS => ?_)
  have fk9 : st6 (12, i) = .inl (X.2.1 5, c0, .inr (.inr (.inr (.inr (va_up (fE ad i n) n (some (ad (40 + 10 * i, n)))))))) := (hs8 (12, i) (rne (by omega))).trans fk2
  have sf10 : ∀ x : ro, x ≠ (12, i) → x ≠ (11, i) → st6 x = st x := fun x a0 a1 => (hs8 x a1).trans (sf5 x a0)
  exact g_vret2 C hQ hW hS ⟨L, ad, st6, rfl, (fun x => ⟨Or.inl, fun h => h.elim id (fun e => e ▸ mB)⟩), (fun _ _ => rfl), (fun x a1 a2 => sf10 x a2 a1), fk7, c0, by omega, hc1, hc2, fk9.trans (by rw [fE_up])⟩ (Nat.zero_le _) (Nat.zero_le _) dJx4a65c_add_72be8_22

set_option maxHeartbeats 4000000 in
set_option maxRecDepth 100000 in
theorem c_Jx4a65c_addA (l : Launch) (X : GX) (L : List ro) (ad : ro → Nat) (st : ro → va_E) (i : Nat) (m9 : Int32) (mA : (11, i) ∈ L) (nB : (12, i) ∉ L) (eA : st (11, i) = .inr (2, [.int m9, .ref (X.2.2 30), .int 0])) (hi : i < 2) (hE : ∀ k, k < 0 + 1 → ((40 + 10 * i, k) : ro) ∈ L ∧ ∃ fs, st (40 + 10 * i, k) = .inr (elC i, fs)) : gMv l yJx4a65c_add_72be8 cJx4a65c_add_72be8 4 none 3 57 1 150 X [.ref (ad (11, i)), .ref (ad (40 + 10 * i, 0)), .ref (X.2.2 30), .int 0] L ad st (fun u => ∃ L' ad' st', u = (L', ad', st') ∧ alP X L ad st i m9 0 L' ad' st') := by
  intro sz
  refine gM_of2 (Qc := fun A => va_Qv _ (gB X A) A) (by decide) (Nat.le_of_ble_eq_true rfl) ?_ sz
  intro p e s m args below meth c A R Q hR hQ C hW hS ls hl
  obtain ⟨hR1, hR2, hR3, hR4⟩ := hR
  have hx := C.1.1
  have hb := C.1.2.1
  have hml := C.1.2.2.1
  have hl : lv_has ls 4 [(0, .ref (ad (11, i))), (1, .ref (ad (40 + 10 * i, 0))), (2, .ref (X.2.2 30)), (3, .int 0)] := hl
  obtain ⟨fsn, hfn⟩ := (hE 0 (by omega)).2
  refine lv_iload_n hx hb dJx4a65c_add_72be8_0 rfl (lv_at hl 3 rfl) ?_
  refine lv_aload_n hx hb dJx4a65c_add_72be8_1 rfl (lv_at hl 2 rfl) ?_
  refine va_tlen (v := 0) hx hb (g_sf C).2.2.1.2 hS rfl dJx4a65c_add_72be8_2 ?_
  refine lv_icmp_ne (tgt := 11) hx hb dJx4a65c_add_72be8_3 (by decide) (fun c9 => absurd c9 (by decide)) (fun _ => ?_)
  refine lv_aload_n hx hb dJx4a65c_add_72be8_6 rfl (lv_at hl 0 rfl) ?_
  refine g_callVq (r := (11, i)) (T := TJx4a65c) (N := 3) (k2 := 0) (As := []) (rest := []) C (c_Jx4a65c_growA0 l X L ad st i m9 mA nB eA) tw_4_216 tw_4_218 tw_0_18 tw_1_6 tw_4_219 (by decide +kernel) ⟨by rw [hR1]; exact Nat.le_of_ble_eq_true rfl, by rw [hR2]; exact Nat.le_of_ble_eq_true rfl⟩ hW hS mA eA rfl rfl hl.1 rfl (Nat.le_of_ble_eq_true rfl) dJx4a65c_add_72be8_7 ⟨by rw [hR3]; exact Nat.le_of_ble_eq_true rfl, by rw [hR4]; exact Nat.le_of_ble_eq_true rfl⟩ (fun v1 L9 ad2 st3 H locs hp hW hS => ?_)
  obtain ⟨adq, stq, z0, ha4, hs5, fk6, fk7, h8⟩ := hp
  cases z0
  subst h8
  have hl : lv_has ls 4 [(0, .ref (ad2 (11, i))), (1, .ref (ad2 (40 + 10 * i, 0))), (2, .ref (X.2.2 30)), (3, .int 0)] := by rw [ha4 (11, i) (rne (by omega)), ha4 (40 + 10 * i, 0) (rne (by omega))]; exact hl
  have af9 : ∀ x : ro, x ≠ (12, i) → ad2 x = ad x := fun x a0 => ha4 x a0
  have sf10 : ∀ x : ro, x ≠ (12, i) → x ≠ (11, i) → st3 x = st x := fun x a0 a1 => hs5 x a0 a1
  refine lv_topV (y := .ref (ad2 (12, i))) rfl ?_
  refine lv_astore_n (lv' := [(2, .ref (ad2 (12, i))), (0, .ref (ad2 (11, i))), (1, .ref (ad2 (40 + 10 * i, 0))), (3, .int 0)]) hx hb dJx4a65c_add_72be8_10 rfl hl (by decide) rfl (fun ls hl => ?_)
  refine lv_aload_n hx hb dJx4a65c_add_72be8_11 rfl (lv_at hl 0 rfl) ?_
  refine lv_iload_n hx hb dJx4a65c_add_72be8_12 rfl (lv_at hl 3 rfl) ?_
  refine lv_aload_n hx hb dJx4a65c_add_72be8_13 rfl (lv_at hl 2 rfl) ?_
  refine g_astq (r := (12, i)) (t0 := 5) C hW hS (List.mem_append_right _ (List.mem_singleton.mpr rfl)) fk7 rfl (g_elany C hW hi (List.mem_append_left _ (hE 0 (by omega)).1) ((sf10 (40 + 10 * i, 0) (rne (by omega)) (rne (by omega))).trans hfn)) (vp_in_nI (n := 0) (N := 10) (by decide) (by decide)) dJx4a65c_add_72be8_14 (fun st11 H locs fk12 hs13 hW hS => ?_)
  rw [show (0 : Int32).toNatClampNeg = 0 from by decide] at fk12
  have fk14 : st11 (11, i) = .inr (2, [.int m9, .ref (ad2 (12, i)), .int 0]) := (hs13 (11, i) (rne (by omega))).trans fk6
  have sf15 : ∀ x : ro, x ≠ (12, i) → x ≠ (11, i) → st11 x = st x := fun x a0 a1 => (hs13 x a0).trans (sf10 x a0 a1)
  refine lv_aload_n hx hb dJx4a65c_add_72be8_15 rfl (lv_at hl 1 rfl) ?_
  refine lv_iload_n hx hb dJx4a65c_add_72be8_16 rfl (lv_at hl 3 rfl) ?_
  refine lv_iconst (v := 1) hx hb dJx4a65c_add_72be8_17 (by decide) ?_
  refine lv_iadd hx hb dJx4a65c_add_72be8_18 ?_
  refine lv_topE (y := 1) (by decide) ?_
  refine g_putx (r := (11, i)) (Cn := RJx4a65c) (T := TJx4a65c) (N := 3) (ci := 2) (ty0 := tyJx4a65c) (fs2 := [.int m9, .ref (ad2 (12, i)), .int 1]) C tinJx4a65c tyJx4a65c_ok nmJx4a65c hW hS (List.mem_append_left _ mA) fk14 rfl 2 (by decide) tw_1_113 (fun _ h9 => h9) rfl rfl rfl (Nat.le_of_ble_eq_true rfl) rfl dJx4a65c_add_72be8_19 (fun st16 H locs fk17 hs18 hW hS => ?_)
  have fk19 : st16 (12, i) = .inl (X.2.1 5, 10, .inr (.inr (.inr (.inr (va_up (fun _ => none) 0 (some (ad2 (40 + 10 * i, 0)))))))) := (hs18 (12, i) (rne (by omega))).trans fk12
  have sf20 : ∀ x : ro, x ≠ (12, i) → x ≠ (11, i) → st16 x = st x := fun x a0 a1 => (hs18 x a1).trans (sf15 x a0 a1)
  exact g_vret2 C hQ hW hS ⟨L ++ [(12, i)], ad2, st16, rfl, (fun x => by simp [List.mem_append]), (fun x a1 => af9 x a1), (fun x a1 a2 => sf20 x a2 a1), fk17, 10, by omega, by omega, by omega, fk19.trans (by rw [af9 (40 + 10 * i, 0) (rne (by omega)), fE_A])⟩ (Nat.le_of_ble_eq_true rfl) (Nat.le_of_ble_eq_true rfl) dJx4a65c_add_72be8_22

set_option maxHeartbeats 4000000 in
set_option maxRecDepth 100000 in
theorem c_Jx4a65c_addB (l : Launch) (X : GX) (L : List ro) (ad : ro → Nat) (st : ro → va_E) (i n : Nat) (m9 : Int32) (mA : (11, i) ∈ L) (mB : (12, i) ∈ L) (nT : (65, 0) ∉ L) (eA : st (11, i) = .inr (2, [.int m9, .ref (ad (12, i)), .int (nI n)])) (eB : st (12, i) = .inl (X.2.1 5, n, .inr (.inr (.inr (.inr (fE ad i n)))))) (hi : i < 2) (hE : ∀ k, k < n + 1 → ((40 + 10 * i, k) : ro) ∈ L ∧ ∃ fs, st (40 + 10 * i, k) = .inr (elC i, fs)) (hn10 : 10 ≤ n) (hn : n ≤ 100) : gMv l yJx4a65c_add_72be8 cJx4a65c_add_72be8 4 none 5 147 1 150 X [.ref (ad (11, i)), .ref (ad (40 + 10 * i, n)), .ref (ad (12, i)), .int (nI n)] L ad st (fun u => ∃ L' ad' st', u = (L', ad', st') ∧ alP X L ad st i m9 n L' ad' st') := by
  intro sz
  refine gM_of2 (Qc := fun A => va_Qv _ (gB X A) A) (by decide) (Nat.le_of_ble_eq_true rfl) ?_ sz
  intro p e s m args below meth c A R Q hR hQ C hW hS ls hl
  obtain ⟨hR1, hR2, hR3, hR4⟩ := hR
  have hx := C.1.1
  have hb := C.1.2.1
  have hml := C.1.2.2.1
  have hl : lv_has ls 4 [(0, .ref (ad (11, i))), (1, .ref (ad (40 + 10 * i, n))), (2, .ref (ad (12, i))), (3, .int (nI n))] := hl
  obtain ⟨fsn, hfn⟩ := (hE n (by omega)).2
  refine lv_iload_n hx hb dJx4a65c_add_72be8_0 rfl (lv_at hl 3 rfl) ?_
  refine lv_aload_n hx hb dJx4a65c_add_72be8_1 rfl (lv_at hl 2 rfl) ?_
  refine g_alen (r := (12, i)) (t0 := 5) (v := nI n) C hW mB eB rfl rfl dJx4a65c_add_72be8_2 ?_
  refine lv_icmp_ne (tgt := 11) hx hb dJx4a65c_add_72be8_3 (by decide) (fun c9 => absurd rfl c9) (fun _ => ?_)
  refine lv_aload_n hx hb dJx4a65c_add_72be8_6 rfl (lv_at hl 0 rfl) ?_
  refine g_callVq (r := (11, i)) (T := TJx4a65c) (N := 3) (k2 := 0) (As := []) (rest := []) C (c_Jx4a65c_growB0 l X L ad st i n m9 mA mB nT eA eB hi (fun k hk => hE k (by omega)) (by omega) (by omega)) tw_4_216 tw_4_218 tw_0_18 tw_1_6 tw_4_219 (by decide +kernel) ⟨by rw [hR1]; exact Nat.le_of_ble_eq_true rfl, by rw [hR2]; exact Nat.le_of_ble_eq_true rfl⟩ hW hS mA eA rfl rfl hl.1 rfl (Nat.le_of_ble_eq_true rfl) dJx4a65c_add_72be8_7 ⟨by rw [hR3]; exact Nat.le_of_ble_eq_true rfl, by rw [hR4]; exact Nat.le_of_ble_eq_true rfl⟩ (fun v1 L9 ad2 st3 H locs hp hW hS => ?_)
  obtain ⟨adq, stq, z0, ha4, hs5, fk6, fk7, h8⟩ := hp
  cases z0
  subst h8
  have hl : lv_has ls 4 [(0, .ref (ad2 (11, i))), (1, .ref (ad2 (40 + 10 * i, n))), (2, .ref (ad2 (12, i))), (3, .int (nI n))] := by rw [ha4 (11, i) (rne (by omega)), ha4 (40 + 10 * i, n) (rne (by omega)), ha4 (12, i) (rne (by omega))]; exact hl
  have fk9 : st3 (12, i) = .inl (X.2.1 5, n, .inr (.inr (.inr (.inr (fE ad i n))))) := (hs5 (12, i) (rne (by omega)) (rne (by omega))).trans eB
  have af10 : ∀ x : ro, x ≠ (65, 0) → ad2 x = ad x := fun x a0 => ha4 x a0
  have sf11 : ∀ x : ro, x ≠ (65, 0) → x ≠ (11, i) → st3 x = st x := fun x a0 a1 => hs5 x a0 a1
  refine lv_topV (y := .ref (ad2 (65, 0))) rfl ?_
  refine lv_astore_n (lv' := [(2, .ref (ad2 (65, 0))), (0, .ref (ad2 (11, i))), (1, .ref (ad2 (40 + 10 * i, n))), (3, .int (nI n))]) hx hb dJx4a65c_add_72be8_10 rfl hl (by decide) rfl (fun ls hl => ?_)
  refine lv_aload_n hx hb dJx4a65c_add_72be8_11 rfl (lv_at hl 0 rfl) ?_
  refine lv_iload_n hx hb dJx4a65c_add_72be8_12 rfl (lv_at hl 3 rfl) ?_
  refine lv_aload_n hx hb dJx4a65c_add_72be8_13 rfl (lv_at hl 2 rfl) ?_
  refine g_astq (r := (65, 0)) (t0 := 5) C hW hS (List.mem_append_right _ (List.mem_singleton.mpr rfl)) fk7 rfl (g_elany C hW hi (List.mem_append_left _ (hE n (by omega)).1) ((sf11 (40 + 10 * i, n) (rne (by omega)) (rne (by omega))).trans hfn)) (vp_in_nI (N := (n + n / 2)) (by omega) (by omega)) dJx4a65c_add_72be8_14 (fun st12 H locs fk13 hs14 hW hS => ?_)
  rw [nI_clamp (by omega)] at fk13
  have fk15 : st12 (12, i) = .inl (X.2.1 5, n, .inr (.inr (.inr (.inr (fE ad i n))))) := (hs14 (12, i) (rne (by omega))).trans fk9
  have fk16 : st12 (11, i) = .inr (2, [.int m9, .ref (ad2 (65, 0)), .int (nI n)]) := (hs14 (11, i) (rne (by omega))).trans fk6
  have sf17 : ∀ x : ro, x ≠ (65, 0) → x ≠ (11, i) → st12 x = st x := fun x a0 a1 => (hs14 x a0).trans (sf11 x a0 a1)
  refine lv_aload_n hx hb dJx4a65c_add_72be8_15 rfl (lv_at hl 1 rfl) ?_
  refine lv_iload_n hx hb dJx4a65c_add_72be8_16 rfl (lv_at hl 3 rfl) ?_
  refine lv_iconst (v := 1) hx hb dJx4a65c_add_72be8_17 (by decide) ?_
  refine lv_iadd hx hb dJx4a65c_add_72be8_18 ?_
  refine lv_topE (y := nI (n + 1)) (nI_1 n) ?_
  refine g_putx (r := (11, i)) (Cn := RJx4a65c) (T := TJx4a65c) (N := 3) (ci := 2) (ty0 := tyJx4a65c) (fs2 := [.int m9, .ref (ad2 (65, 0)), .int (nI (n + 1))]) C tinJx4a65c tyJx4a65c_ok nmJx4a65c hW hS (List.mem_append_left _ mA) fk16 rfl 2 (by decide) tw_1_113 (fun _ h9 => h9) rfl rfl rfl (Nat.le_of_ble_eq_true rfl) rfl dJx4a65c_add_72be8_19 (fun st18 H locs fk19 hs20 hW hS => ?_)
  have fk21 : st18 (12, i) = .inl (X.2.1 5, n, .inr (.inr (.inr (.inr (fE ad i n))))) := (hs20 (12, i) (rne (by omega))).trans fk15
  have fk22 : st18 (65, 0) = .inl (X.2.1 5, (n + n / 2), .inr (.inr (.inr (.inr (va_up (va_cpy (fE ad i n) (fun _ => none) 0 0 n) n (some (ad2 (40 + 10 * i, n)))))))) := (hs20 (65, 0) (rne (by omega))).trans fk13
  have sf23 : ∀ x : ro, x ≠ (65, 0) → x ≠ (11, i) → st18 x = st x := fun x a0 a1 => (hs20 x a1).trans (sf17 x a0 a1)
  obtain ⟨L3, hL3, hW3⟩ := al_ren (i := i) nT mA hW (fun x a1 => af10 x a1) (fun x a1 a2 => sf23 x a1 a2) fk19 fk22
  exact g_vret2 C hQ hW3 hS ⟨L3, _, _, rfl, hL3, (fun x a1 => aup_ne a1), (fun x a1 a2 => (sup_ne a2).trans (sup_ne a1)), (sup_ne (rne (by omega))).trans (sup_at.trans (by rw [aup_at])), n + n / 2, by omega, by omega, by omega, sup_at.trans (by rw [af10 (40 + 10 * i, n) (rne (by omega)), fE_B])⟩ (Nat.le_of_ble_eq_true rfl) (Nat.le_of_ble_eq_true rfl) dJx4a65c_add_72be8_22

