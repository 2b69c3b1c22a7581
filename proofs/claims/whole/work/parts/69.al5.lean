set_option maxHeartbeats 4000000 in
set_option maxRecDepth 100000 in
theorem c_Jxa1e45_init_da8c8 (l : Launch) (X : GX) (L : List ro) (ad : ro → Nat) (st : ro → va_E) (i : Nat) (mA : (11, i) ∈ L)  (eA : st (11, i) = .inr (2, [.int 0, .null, .int 0]))  : gMv l yJxa1e45_init_da8c8 cJxa1e45_init_da8c8 1 none 1 12 0 0 X [.ref (ad (11, i))] L ad st (fun u => u = (L, ad, st)) := by
  intro sz
  refine gM_of2 (Qc := fun A => va_Qv _ (gB X A) A) (by decide) (Nat.le_of_ble_eq_true rfl) ?_ sz
  intro p e s m args below meth c A R Q hR hQ C hW hS ls hl
  obtain ⟨hR1, hR2, hR3, hR4⟩ := hR
  have hx := C.1.1
  have hb := C.1.2.1
  have hml := C.1.2.2.1
  have hl : lv_has ls 1 [(0, .ref (ad (11, i)))] := hl
  refine lv_aload_n hx hb dJxa1e45_init_da8c8_0 rfl (lv_at hl 0 rfl) ?_
  refine W.objInit hx hb C.1.2.2.2.1 (C.1.2.2.2.2 _ tw_1_109) (C.1.2.2.2.2 _ oi_inst) (C.1.2.2.2.2 _ oi_code) rfl (by rw [hml]; exact hl.1) rfl dJxa1e45_init_da8c8_1 (by rw [hR1]; exact Nat.le_of_ble_eq_true rfl) (by rw [hR2]; exact Nat.le_of_ble_eq_true rfl) ?_
  refine W.eq (g2 := F0 m 4 ls []) rfl ?_
  exact g_vret2 C hQ hW hS rfl (Nat.zero_le _) (Nat.zero_le _) dJxa1e45_init_da8c8_4

set_option maxHeartbeats 4000000 in
set_option maxRecDepth 100000 in
theorem c_Jxc12de_init_da8c8 (l : Launch) (X : GX) (L : List ro) (ad : ro → Nat) (st : ro → va_E) (i : Nat) (mA : (11, i) ∈ L)  (eA : st (11, i) = .inr (2, [.int 0, .null, .int 0]))  : gMv l yJxc12de_init_da8c8 cJxc12de_init_da8c8 1 none 2 32 0 0 X [.ref (ad (11, i))] L ad st (fun u => ∃ st', u = (L, ad, st') ∧ (∀ x : ro, x ≠ (11, i) → st' x = st x) ∧ st' (11, i) = .inr (2, [.int 0, .null, .int 0])) := by
  intro sz
  refine gM_of2 (Qc := fun A => va_Qv _ (gB X A) A) (by decide) (Nat.le_of_ble_eq_true rfl) ?_ sz
  intro p e s m args below meth c A R Q hR hQ C hW hS ls hl
  obtain ⟨hR1, hR2, hR3, hR4⟩ := hR
  have hx := C.1.1
  have hb := C.1.2.1
  have hml := C.1.2.2.1
  have hl : lv_has ls 1 [(0, .ref (ad (11, i)))] := hl
  refine lv_aload_n hx hb dJxc12de_init_da8c8_0 rfl (lv_at hl 0 rfl) ?_
  refine g_callIv (k2 := 0) (As := []) (rest := []) C (c_Jxa1e45_init_da8c8 l X L ad st i mA eA) tw_1_106 tw_1_107 tw_1_4 tw_1_108 (by decide +kernel) ⟨by rw [hR1]; exact Nat.le_of_ble_eq_true rfl, by rw [hR2]; exact Nat.le_of_ble_eq_true rfl⟩ hW hS rfl hl.1 rfl (Nat.le_of_ble_eq_true rfl) dJxc12de_init_da8c8_1 ⟨Nat.zero_le _, Nat.zero_le _⟩ (fun  L9 ad1 st2 H locs hp hW hS => ?_)
  cases hp
  refine lv_aload_n hx hb dJxc12de_init_da8c8_4 rfl (lv_at hl 0 rfl) ?_
  refine lv_iconst (v := 0) hx hb dJxc12de_init_da8c8_5 (by decide) ?_
  refine g_putx (r := (11, i)) (Cn := RJx4a65c) (T := TJx4a65c) (N := 3) (ci := 2) (ty0 := tyJx4a65c) (fs2 := [.int 0, .null, .int 0]) C tinJx4a65c tyJx4a65c_ok nmJx4a65c hW hS mA eA rfl 0 (by decide) tw_1_114 (fun _ h9 => h9) rfl rfl rfl (Nat.le_of_ble_eq_true rfl) rfl dJxc12de_init_da8c8_6 (fun st3 H locs fk4 hs5 hW hS => ?_)
  have sf6 : ∀ x : ro, x ≠ (11, i) → st3 x = st x := fun x a0 => hs5 x a0
  exact g_vret2 C hQ hW hS ⟨_, rfl, (fun x b0 => sf6 x b0), fk4⟩ (Nat.zero_le _) (Nat.zero_le _) dJxc12de_init_da8c8_9

set_option maxHeartbeats 4000000 in
set_option maxRecDepth 100000 in
theorem c_Jx4a65c_init_da8c8 (l : Launch) (X : GX) (L : List ro) (ad : ro → Nat) (st : ro → va_E) (i : Nat) (mA : (11, i) ∈ L)  (eA : st (11, i) = .inr (2, [.int 0, .null, .int 0]))  : gMv l yJx4a65c_init_da8c8 cJx4a65c_init_da8c8 1 none 3 52 0 0 X [.ref (ad (11, i))] L ad st (fun u => ∃ st', u = (L, ad, st') ∧ (∀ x : ro, x ≠ (11, i) → st' x = st x) ∧ st' (11, i) = .inr (2, [.int 0, .ref (X.2.2 30), .int 0])) := by
  intro sz
  refine gM_of2 (Qc := fun A => va_Qv _ (gB X A) A) (by decide) (Nat.le_of_ble_eq_true rfl) ?_ sz
  intro p e s m args below meth c A R Q hR hQ C hW hS ls hl
  obtain ⟨hR1, hR2, hR3, hR4⟩ := hR
  have hx := C.1.1
  have hb := C.1.2.1
  have hml := C.1.2.2.1
  have hl : lv_has ls 1 [(0, .ref (ad (11, i)))] := hl
  refine lv_aload_n hx hb dJx4a65c_init_da8c8_0 rfl (lv_at hl 0 rfl) ?_
  refine g_callIv (k2 := 0) (As := []) (rest := []) C (c_Jxc12de_init_da8c8 l X L ad st i mA eA) tw_1_103 tw_1_104 tw_1_5 tw_1_105 (by decide +kernel) ⟨by rw [hR1]; exact Nat.le_of_ble_eq_true rfl, by rw [hR2]; exact Nat.le_of_ble_eq_true rfl⟩ hW hS rfl hl.1 rfl (Nat.le_of_ble_eq_true rfl) dJx4a65c_init_da8c8_1 ⟨Nat.zero_le _, Nat.zero_le _⟩ (fun  L9 ad1 st2 H locs hp hW hS => ?_)
  obtain ⟨stq, z0, hs3, fk4⟩ := hp
  cases z0
  have sf5 : ∀ x : ro, x ≠ (11, i) → st2 x = st x := fun x a0 => hs3 x a0
  refine lv_aload_n hx hb dJx4a65c_init_da8c8_4 rfl (lv_at hl 0 rfl) ?_
  refine va_gets hx hb (g_sf C).2.2.1.1 hS C.1.2.2.2.1 (C.1.2.2.2.2 _ tw_1_110) (fun _ h9 => h9) dJx4a65c_init_da8c8_5 ?_
  refine g_putx (r := (11, i)) (Cn := RJx4a65c) (T := TJx4a65c) (N := 3) (ci := 2) (ty0 := tyJx4a65c) (fs2 := [.int 0, .ref (X.2.2 30), .int 0]) C tinJx4a65c tyJx4a65c_ok nmJx4a65c hW hS mA fk4 rfl 1 (by decide) tw_1_112 (fun _ h9 => h9) rfl rfl rfl (Nat.le_of_ble_eq_true rfl) rfl dJx4a65c_init_da8c8_8 (fun st6 H locs fk7 hs8 hW hS => ?_)
  have sf9 : ∀ x : ro, x ≠ (11, i) → st6 x = st x := fun x a0 => (hs8 x a0).trans (sf5 x a0)
  exact g_vret2 C hQ hW hS ⟨_, rfl, (fun x b0 => sf9 x b0), fk7⟩ (Nat.zero_le _) (Nat.zero_le _) dJx4a65c_init_da8c8_11

section LA9
variable {X : GX} {ad ad' : ro → Nat} {st0 : ro → va_E} {ci : Nat → Nat → Int32} {ca : Nat → Nat → Nat → Int32} {cr : Nat → Nat → Nat}
theorem ur2_ne {c : Nat → Nat → Nat} {a b x y : Nat} {v : Nat} (h : ¬ (x = a ∧ y = b)) : ur2 c a b v x y = c x y := by
  unfold ur2
  by_cases h1 : x = a
  · rw [if_pos h1, if_neg (fun e => h ⟨h1, e⟩)]
  · rw [if_neg h1]
/-- list i has one thing more -/
def ciL (ci : Nat → Nat → Int32) (i n : Nat) : Nat → Nat → Int32 := up2 (up2 ci 11 i (ci 11 i + 1)) 13 i (nI (n + 1))
def crL (cr : Nat → Nat → Nat) (i n cap : Nat) : Nat → Nat → Nat := ur2 (ur2 cr 12 i cap) 13 i (n + 1)
/-- where the addresses of some kinds alone differ -/
theorem cE_ad {k i : Nat} (h : ∀ r : ro, (k = 1 → (r.1 = 2 ∨ r.1 = 5 ∨ r.1 = 9 ∨ r.1 = 10 ∨ r.1 = 11) → ad' r = ad r) ∧ (k = 2 → (r.1 = 3 ∨ r.1 = 4) → ad' r = ad r) ∧ (k = 5 → (r.1 = 6 ∨ r.1 = 7 ∨ r.1 = 8) → ad' r = ad r) ∧ (k = 9 → r.1 = 20 → r.2 < 6 → ad' r = ad r) ∧ (k = 10 → r.1 = 30 → r.2 < 4 → ad' r = ad r) ∧ (k = 11 → r = (12, i) → ad' r = ad r) ∧ (k = 12 → r.1 = 40 + 10 * i → r.2 < cr 13 i → ad' r = ad r) ∧ (k = 20 → r.1 = 21 → ad' r = ad r) ∧ (k = 30 → r = (31, cr 30 i) → ad' r = ad r) ∧ (k = 40 → r = (31, cr 40 i) → ad' r = ad r) ∧ (k = 50 → r = (40, cr 50 i) → ad' r = ad r)) : cE X ad' st0 ci ca cr k i = cE X ad st0 ci ca cr k i := by
  unfold cE
  split
  · rw [(h (2, _)).1 rfl (Or.inl rfl), (h (5, _)).1 rfl (Or.inr (Or.inl rfl)), (h (9, _)).1 rfl (Or.inr (Or.inr (Or.inl rfl))), (h (10, _)).1 rfl (Or.inr (Or.inr (Or.inr (Or.inl rfl)))), (h (11, 0)).1 rfl (Or.inr (Or.inr (Or.inr (Or.inr rfl)))), (h (11, 1)).1 rfl (Or.inr (Or.inr (Or.inr (Or.inr rfl))))]
  · rw [(h (3, _)).2.1 rfl (Or.inl rfl), (h (4, _)).2.1 rfl (Or.inr rfl)]
  · rfl
  · rfl
  · rw [(h (6, _)).2.2.1 rfl (Or.inl rfl), (h (7, _)).2.2.1 rfl (Or.inr (Or.inl rfl)), (h (8, _)).2.2.1 rfl (Or.inr (Or.inr rfl))]
  · rfl
  · rfl
  · rfl
  · have e : (fun j => if j < 6 then some (ad' (20, j)) else none) = (fun j => if j < 6 then some (ad (20, j)) else none) := by
      funext j
      by_cases hj : j < 6
      · rw [if_pos hj, if_pos hj, (h (20, j)).2.2.2.1 rfl rfl hj]
      · rw [if_neg hj, if_neg hj]
    rw [e]
  · have e : (fun j => if j < 4 then some (ad' (30, j)) else none) = (fun j => if j < 4 then some (ad (30, j)) else none) := by
      funext j
      by_cases hj : j < 4
      · rw [if_pos hj, if_pos hj, (h (30, j)).2.2.2.2.1 rfl rfl hj]
      · rw [if_neg hj, if_neg hj]
    rw [e]
  · rw [(h (12, _)).2.2.2.2.2.1 rfl rfl]
  · have e : (fun j => if j < cr 13 i then some (ad' (40 + 10 * i, j)) else none) = (fun j => if j < cr 13 i then some (ad (40 + 10 * i, j)) else none) := by
      funext j
      by_cases hj : j < cr 13 i
      · rw [if_pos hj, if_pos hj, (h (40 + 10 * i, j)).2.2.2.2.2.2.1 rfl rfl hj]
      · rw [if_neg hj, if_neg hj]
    rw [e]
  · rw [(h (21, _)).2.2.2.2.2.2.2.1 rfl rfl]
  · rfl
  · rw [(h (31, _)).2.2.2.2.2.2.2.2.1 rfl rfl]
  · rfl
  · rw [(h (31, _)).2.2.2.2.2.2.2.2.2.1 rfl rfl]
  · rw [(h (40, _)).2.2.2.2.2.2.2.2.2.2 rfl rfl]
  · rfl
/-- a role that the lists' numbers don't touch -/
theorem cE_L {k i j n cap : Nat} (hj : j < 2) (hk : ¬ (k = 11 ∧ i = j)) (hk2 : ¬ (k = 12 ∧ i = j)) : cE X ad st0 (ciL ci j n) ca (crL cr j n cap) k i = cE X ad st0 ci ca cr k i := by
  unfold cE ciL crL
  split <;> simp_all [up2, ur2]
theorem alP_c {A : Nat → Prop} {s : State} {H : Heap} {L L' : List ro} {st' : ro → va_E} {i n : Nat} (hi : i < 2) (hn : cr 13 i = n) (hW : gW X A L' ad' st' s H) (h : alP X L ad (cSt X ad st0 ci ca cr) i (ci 11 i + 1) n L' ad' st') : ∃ cap : Nat, n + 1 ≤ cap ∧ 10 ≤ cap ∧ cap ≤ 150 ∧ gW X A L' ad' (cSt X ad' st0 (ciL ci i n) ca (crL cr i n cap)) s H := by
  obtain ⟨h1, h2, h3, h4, cap, c1, c2, c3, h5⟩ := h
  refine ⟨cap, c1, c2, c3, gW_congr (fun r hr => ?_) hW⟩
  obtain ⟨a, b⟩ := r
  have hA : ∀ r : ro, r ≠ (12, i) → ad' r = ad r := h2
  by_cases e1 : (a, b) = ((11, i) : ro)
  · cases e1
    rw [h4]
    show _ = cE X ad' st0 (ciL ci i n) ca (crL cr i n cap) 11 i
    have hc : crL cr i n cap 12 i = cap := by simp [crL, ur2]
    have h11 : ciL ci i n 11 i = ci 11 i + 1 := by simp [ciL, up2]
    have h13 : ciL ci i n 13 i = nI (n + 1) := by simp [ciL, up2]
    show _ = Sum.inr (2, [Value.int (ciL ci i n 11 i), Value.ref (if crL cr i n cap 12 i = 0 then X.2.2 30 else ad' (12, i)), Value.int (ciL ci i n 13 i)])
    rw [h11, h13, hc, if_neg (by omega)]
  · by_cases e2 : (a, b) = ((12, i) : ro)
    · cases e2
      rw [h5]
      show _ = Sum.inl (X.2.1 5, crL cr i n cap 12 i, Sum.inr (Sum.inr (Sum.inr (Sum.inr (fun j => if j < crL cr i n cap 13 i then some (ad' (40 + 10 * i, j)) else none)))))
      have hc : crL cr i n cap 12 i = cap := by simp [crL, ur2]
      have hc2 : crL cr i n cap 13 i = n + 1 := by simp [crL, ur2]
      rw [hc, hc2]
      have e : fE ad i (n + 1) = (fun j => if j < n + 1 then some (ad' (40 + 10 * i, j)) else none) := by
        funext j
        unfold fE
        rw [hA (40 + 10 * i, j) (rne (by omega))]
      rw [e]
    · rw [h3 (a, b) e1 e2]
      show cE X ad st0 ci ca cr a b = cE X ad' st0 (ciL ci i n) ca (crL cr i n cap) a b
      rw [cE_L hi (fun q => e1 (by rw [q.1, q.2])) (fun q => e2 (by rw [q.1, q.2]))]
      refine (cE_ad (fun r => ?_)).symm
      have hr : ∀ z : ro, z ≠ (12, i) → ad' z = ad z := hA
      refine ⟨fun _ q => hr r (fun e => by subst e; simp at q), fun _ q => hr r (fun e => by subst e; simp at q), fun _ q => hr r (fun e => by subst e; simp at q), fun _ q _ => hr r (fun e => by subst e; simp at q), fun _ q _ => hr r (fun e => by subst e; simp at q), fun q1 q => hr r (fun e => ?_), fun _ q _ => hr r (fun e => by subst e; simp at q; omega), fun _ q => hr r (fun e => by subst e; simp at q), fun _ q => hr r (fun e => by rw [q] at e; simp at e), fun _ q => hr r (fun e => by rw [q] at e; simp at e), fun _ q => hr r (fun e => by rw [q] at e; simp at e)⟩
      rw [q] at e
      injection e with _ e9
      exact e1 (by rw [q1, e9])
end LA9
