/-! how a request is read, as numbers: t its signs, n its length -/
def rd_end (t : Nat → Int32) (n : Nat) : Nat → Nat → Nat
  | 0, k => k
  | f + 1, k => if k < n ∧ t k ≠ 59 then rd_end t n f (k + 1) else k
def rdE (t : Nat → Int32) (n k : Nat) : Nat := rd_end t n (n - k) k
theorem rdE_go {t : Nat → Int32} {n k : Nat} (h : k < n) (h2 : t k ≠ 59) : rdE t n k = rdE t n (k + 1) := by
  unfold rdE
  rw [show n - k = (n - (k + 1)) + 1 by omega, rd_end, if_pos ⟨h, h2⟩]
theorem rdE_stop {t : Nat → Int32} {n k : Nat} (h : ¬ (k < n ∧ t k ≠ 59)) : rdE t n k = k := by
  unfold rdE
  cases hf : n - k with
  | zero => rfl
  | succ f => rw [rd_end, if_neg h]
theorem rd_end_le {t : Nat → Int32} {n : Nat} : ∀ (f k : Nat), k ≤ rd_end t n f k ∧ (k ≤ n → rd_end t n f k ≤ n)
  | 0, k => ⟨Nat.le_refl _, fun h => h⟩
  | f + 1, k => by
    rw [rd_end]
    by_cases h : k < n ∧ t k ≠ 59
    · rw [if_pos h]
      have := rd_end_le (t := t) (n := n) f (k + 1)
      exact ⟨by omega, fun _ => this.2 (by omega)⟩
    · rw [if_neg h]
      exact ⟨Nat.le_refl _, fun h => h⟩
theorem rdE_ge {t : Nat → Int32} {n k : Nat} : k ≤ rdE t n k := (rd_end_le _ _).1
theorem rdE_le {t : Nat → Int32} {n k : Nat} (h : k ≤ n) : rdE t n k ≤ n := (rd_end_le _ _).2 h
def rd_num (t : Nat → Int32) : Nat → Nat → Int32 → Int32
  | 0, _, acc => acc
  | c + 1, a, acc => if 48 ≤ t a ∧ t a ≤ 57 then rd_num t c (a + 1) (10 * acc + t a - 48) else -1
theorem rd_done {t : Nat → Int32} {b k : Nat} {acc : Int32} (h : b ≤ k) : rd_num t (b - k) k acc = acc := by
  rw [Nat.sub_eq_zero_of_le h]
  rfl
theorem rd_step {t : Nat → Int32} {b k : Nat} {acc : Int32} (h : k < b) : rd_num t (b - k) k acc = if 48 ≤ t k ∧ t k ≤ 57 then rd_num t (b - (k + 1)) (k + 1) (10 * acc + t k - 48) else -1 := by
  rw [show b - k = (b - (k + 1)) + 1 by omega, rd_num]
def keyc (k : Nat) : Int32 := match k with | 0 => 83 | 1 => 67 | 2 => 70 | 3 => 84 | 4 => 87 | _ => 88
def rd_sgn (x : Int32) : Int32 := if x = 83 then 0 else if x = 67 then 1 else if x = 70 then 2 else if x = 84 then 3 else if x = 87 then 4 else if x = 88 then 5 else -1
def rdK (t : Nat → Int32) (a b : Nat) : Int32 := if a + 2 ≤ b ∧ t (a + 1) = 61 then rd_sgn (t a) else -1
def rd_lo (key : Int32) : Int32 := if key = 4 then 1 else 0
def rd_hi (key : Int32) : Int32 := if key = 0 then 5 else if key = 1 then 3 else if key = 4 then 30000 else 7
def rd_nm (t : Nat → Int32) (a b most : Nat) : Int32 := if a < b ∧ b - a ≤ most then rd_num t (b - a) a 0 else -1
def rdVal (t : Nat → Int32) (key : Int32) (a b : Nat) : Int32 :=
  if key = 5 then (if b = a + 1 ∧ (t a = 89 ∨ t a = 78) then (if t a = 89 then 1 else 0) else -1)
  else if rd_nm t a b (if key = 4 then 5 else 1) ≠ -1 ∧ rd_lo key ≤ rd_nm t a b (if key = 4 then 5 else 1) ∧ rd_nm t a b (if key = 4 then 5 else 1) ≤ rd_hi key then rd_nm t a b (if key = 4 then 5 else 1) else -1
/-- kind (0: none, 1: UNKNOWN, 2: DOUBLED, 3: BAD, 4: MISSING), where, and the values -/
def rd_go (t : Nat → Int32) (n : Nat) : Nat → Nat → Nat → (Nat → Int32) → (Int32 × Int32 × (Nat → Int32))
  | 0, _, _, vals => (0, 0, vals)
  | f + 1, part, a, vals =>
    if n < a then (0, 0, vals) else
    if rdK t a (rdE t n a) = -1 then (1, nI part, vals) else
    if vals (rdK t a (rdE t n a)).toNatClampNeg ≠ -1 then (2, rdK t a (rdE t n a), vals) else
    if rdVal t (rdK t a (rdE t n a)) (a + 2) (rdE t n a) = -1 then (3, rdK t a (rdE t n a), upd vals (rdK t a (rdE t n a)).toNatClampNeg (-1)) else
    rd_go t n f (part + 1) (rdE t n a + 1) (upd vals (rdK t a (rdE t n a)).toNatClampNeg (rdVal t (rdK t a (rdE t n a)) (a + 2) (rdE t n a)))
def rd_mis (vals : Nat → Int32) : Int32 × Int32 := if vals 0 = -1 then (4, 0) else if vals 1 = -1 then (4, 1) else if vals 2 = -1 then (4, 2) else if vals 3 = -1 then (4, 3) else if vals 4 = -1 then (4, 4) else (0, 0)
def rdR (t : Nat → Int32) (n : Nat) : Int32 × Int32 × (Nat → Int32) :=
  if (rd_go t n (n + 1) 0 0 (fun _ => -1)).1 ≠ 0 then rd_go t n (n + 1) 0 0 (fun _ => -1) else ((rd_mis (rd_go t n (n + 1) 0 0 (fun _ => -1)).2.2).1, (rd_mis (rd_go t n (n + 1) 0 0 (fun _ => -1)).2.2).2, (rd_go t n (n + 1) 0 0 (fun _ => -1)).2.2)
def rd_found (t : Nat → Int32) (a b : Nat) : Nat → Int32
  | 0 => -1
  | k + 1 => if a + 2 ≤ b ∧ t a = keyc k ∧ t (a + 1) = 61 then nI k else rd_found t a b k
theorem rd_found6 {t : Nat → Int32} {a b : Nat} : rd_found t a b 6 = rdK t a b := by
  simp only [rd_found, rdK, rd_sgn, keyc]
  by_cases h : a + 2 ≤ b ∧ t (a + 1) = 61
  · obtain ⟨h1, h2⟩ := h
    simp only [h1, h2, true_and, and_true, if_true]
    by_cases e5 : t a = 88
    · simp [e5]; rfl
    · by_cases e4 : t a = 87
      · simp [e4]; rfl
      · by_cases e3 : t a = 84
        · simp [e3]; rfl
        · by_cases e2 : t a = 70
          · simp [e2]; rfl
          · by_cases e1 : t a = 67
            · simp [e1]; rfl
            · by_cases e0 : t a = 83
              · simp [e0]; rfl
              · simp [e0, e1, e2, e3, e4, e5]
  · have h' : ∀ x : Int32, ¬ (a + 2 ≤ b ∧ t a = x ∧ t (a + 1) = 61) := fun x q => h ⟨q.1, q.2.2⟩
    simp only [h', if_false, h]
theorem rdK_cases (t : Nat → Int32) (a b : Nat) : rdK t a b = -1 ∨ (a + 2 ≤ b ∧ ∃ j : Nat, j < 6 ∧ rdK t a b = nI j) := by
  unfold rdK rd_sgn
  by_cases h : a + 2 ≤ b ∧ t (a + 1) = 61
  · rw [if_pos h]
    by_cases e0 : t a = 83
    · exact Or.inr ⟨h.1, 0, by decide, by rw [if_pos e0]; rfl⟩
    · rw [if_neg e0]
      by_cases e1 : t a = 67
      · exact Or.inr ⟨h.1, 1, by decide, by rw [if_pos e1]; rfl⟩
      · rw [if_neg e1]
        by_cases e2 : t a = 70
        · exact Or.inr ⟨h.1, 2, by decide, by rw [if_pos e2]; rfl⟩
        · rw [if_neg e2]
          by_cases e3 : t a = 84
          · exact Or.inr ⟨h.1, 3, by decide, by rw [if_pos e3]; rfl⟩
          · rw [if_neg e3]
            by_cases e4 : t a = 87
            · exact Or.inr ⟨h.1, 4, by decide, by rw [if_pos e4]; rfl⟩
            · rw [if_neg e4]
              by_cases e5 : t a = 88
              · exact Or.inr ⟨h.1, 5, by decide, by rw [if_pos e5]; rfl⟩
              · rw [if_neg e5]; exact Or.inl rfl
  · rw [if_neg h]; exact Or.inl rfl
theorem rd_mis_at {vals : Nat → Int32} {k : Nat} (hk : k < 5) (h : ∀ j, j < k → vals j ≠ -1) (h2 : vals k = -1) : rd_mis vals = (4, nI k) := by
  unfold rd_mis
  rcases (show k = 0 ∨ k = 1 ∨ k = 2 ∨ k = 3 ∨ k = 4 by omega) with rfl | rfl | rfl | rfl | rfl
  · rw [if_pos h2]; rfl
  · rw [if_neg (h 0 (by decide)), if_pos h2]; rfl
  · rw [if_neg (h 0 (by decide)), if_neg (h 1 (by decide)), if_pos h2]; rfl
  · rw [if_neg (h 0 (by decide)), if_neg (h 1 (by decide)), if_neg (h 2 (by decide)), if_pos h2]; rfl
  · rw [if_neg (h 0 (by decide)), if_neg (h 1 (by decide)), if_neg (h 2 (by decide)), if_neg (h 3 (by decide)), if_pos h2]; rfl
theorem rd_mis_no {vals : Nat → Int32} (h : ∀ j, j < 5 → vals j ≠ -1) : rd_mis vals = (0, 0) := by
  unfold rd_mis
  rw [if_neg (h 0 (by decide)), if_neg (h 1 (by decide)), if_neg (h 2 (by decide)), if_neg (h 3 (by decide)), if_neg (h 4 (by decide))]
theorem nI_m1 {j : Nat} (hj : j < 6) : ¬ nI j = -1 := by
  rcases (show j = 0 ∨ j = 1 ∨ j = 2 ∨ j = 3 ∨ j = 4 ∨ j = 5 by omega) with rfl | rfl | rfl | rfl | rfl | rfl <;> decide
theorem rd_go_out {t : Nat → Int32} {n F part a : Nat} {vals : Nat → Int32} (h : n < a) : rd_go t n F part a vals = (0, 0, vals) := by
  cases F with
  | zero => rfl
  | succ F => rw [rd_go, if_pos h]
theorem rdR_a {t : Nat → Int32} {n : Nat} (h : ¬ (rd_go t n (n + 1) 0 0 (fun _ => -1)).1 = 0) : rdR t n = rd_go t n (n + 1) 0 0 (fun _ => -1) := by
  rw [rdR, if_pos h]
theorem rdR_b {t : Nat → Int32} {n : Nat} (h : (rd_go t n (n + 1) 0 0 (fun _ => -1)).1 = 0) : rdR t n = ((rd_mis (rd_go t n (n + 1) 0 0 (fun _ => -1)).2.2).1, (rd_mis (rd_go t n (n + 1) 0 0 (fun _ => -1)).2.2).2, (rd_go t n (n + 1) 0 0 (fun _ => -1)).2.2) := by
  rw [rdR, if_neg (fun q => q h)]
def okv (k : Nat) (x : Int32) : Prop := ∃ j : Nat, x = nI j ∧ (match k with | 0 => j < 6 | 1 => j < 4 | 4 => 1 ≤ j ∧ j ≤ 30000 | 5 => j < 2 | _ => j < 8)
theorem okv_rng {x lo hi : Int32} {a b : Nat} (hlo : lo = nI a) (hhi : hi = nI b) (hb : b < 2 ^ 31) (hab : a ≤ b) (h1 : lo ≤ x) (h2 : x ≤ hi) : ∃ j : Nat, x = nI j ∧ a ≤ j ∧ j ≤ b := by
  subst hlo hhi
  have h0 : ¬ x < 0 := by
    rw [Int32.not_lt]
    exact Int32.le_trans (nI_pos' (by omega)) h1
  obtain ⟨j, hj, rfl⟩ := nI_of h0
  exact ⟨j, rfl, (nI_leI (by omega) hj).mp h1, (nI_leI hj hb).mp h2⟩
theorem rdVal_ok {t : Nat → Int32} {j a b : Nat} (hj : j < 6) (h : ¬ rdVal t (nI j) a b = -1) : okv j (rdVal t (nI j) a b) := by
  unfold rdVal at h ⊢
  rcases (show j = 0 ∨ j = 1 ∨ j = 2 ∨ j = 3 ∨ j = 4 ∨ j = 5 by omega) with rfl | rfl | rfl | rfl | rfl | rfl
  · rw [if_neg (by decide)] at h ⊢
    by_cases q : rd_nm t a b (if nI 0 = 4 then 5 else 1) ≠ -1 ∧ rd_lo (nI 0) ≤ rd_nm t a b (if nI 0 = 4 then 5 else 1) ∧ rd_nm t a b (if nI 0 = 4 then 5 else 1) ≤ rd_hi (nI 0)
    · rw [if_pos q]
      obtain ⟨z, e, -, z2⟩ := okv_rng (a := 0) (b := 5) rfl rfl (by decide) (by decide) q.2.1 q.2.2
      exact ⟨z, e, by show z < 6; omega⟩
    · rw [if_neg q] at h; exact absurd rfl h
  · rw [if_neg (by decide)] at h ⊢
    by_cases q : rd_nm t a b (if nI 1 = 4 then 5 else 1) ≠ -1 ∧ rd_lo (nI 1) ≤ rd_nm t a b (if nI 1 = 4 then 5 else 1) ∧ rd_nm t a b (if nI 1 = 4 then 5 else 1) ≤ rd_hi (nI 1)
    · rw [if_pos q]
      obtain ⟨z, e, -, z2⟩ := okv_rng (a := 0) (b := 3) rfl rfl (by decide) (by decide) q.2.1 q.2.2
      exact ⟨z, e, by show z < 4; omega⟩
    · rw [if_neg q] at h; exact absurd rfl h
  · rw [if_neg (by decide)] at h ⊢
    by_cases q : rd_nm t a b (if nI 2 = 4 then 5 else 1) ≠ -1 ∧ rd_lo (nI 2) ≤ rd_nm t a b (if nI 2 = 4 then 5 else 1) ∧ rd_nm t a b (if nI 2 = 4 then 5 else 1) ≤ rd_hi (nI 2)
    · rw [if_pos q]
      obtain ⟨z, e, -, z2⟩ := okv_rng (a := 0) (b := 7) rfl rfl (by decide) (by decide) q.2.1 q.2.2
      exact ⟨z, e, by show z < 8; omega⟩
    · rw [if_neg q] at h; exact absurd rfl h
  · rw [if_neg (by decide)] at h ⊢
    by_cases q : rd_nm t a b (if nI 3 = 4 then 5 else 1) ≠ -1 ∧ rd_lo (nI 3) ≤ rd_nm t a b (if nI 3 = 4 then 5 else 1) ∧ rd_nm t a b (if nI 3 = 4 then 5 else 1) ≤ rd_hi (nI 3)
    · rw [if_pos q]
      obtain ⟨z, e, -, z2⟩ := okv_rng (a := 0) (b := 7) rfl rfl (by decide) (by decide) q.2.1 q.2.2
      exact ⟨z, e, by show z < 8; omega⟩
    · rw [if_neg q] at h; exact absurd rfl h
  · rw [if_neg (by decide)] at h ⊢
    by_cases q : rd_nm t a b (if nI 4 = 4 then 5 else 1) ≠ -1 ∧ rd_lo (nI 4) ≤ rd_nm t a b (if nI 4 = 4 then 5 else 1) ∧ rd_nm t a b (if nI 4 = 4 then 5 else 1) ≤ rd_hi (nI 4)
    · rw [if_pos q]
      obtain ⟨z, e, z1, z2⟩ := okv_rng (a := 1) (b := 30000) rfl rfl (by decide) (by decide) q.2.1 q.2.2
      exact ⟨z, e, z1, z2⟩
    · rw [if_neg q] at h; exact absurd rfl h
  · rw [if_pos (show nI 5 = 5 from rfl)] at h ⊢
    by_cases q : b = a + 1 ∧ (t a = 89 ∨ t a = 78)
    · rw [if_pos q]
      by_cases q2 : t a = 89
      · rw [if_pos q2]; exact ⟨1, rfl, by show 1 < 2; decide⟩
      · rw [if_neg q2]; exact ⟨0, rfl, by show 0 < 2; decide⟩
    · rw [if_neg q] at h; exact absurd rfl h
def rd_cn (vals : Nat → Int32) : Nat := (if vals 0 = -1 then 0 else 1) + (if vals 1 = -1 then 0 else 1) + (if vals 2 = -1 then 0 else 1) + (if vals 3 = -1 then 0 else 1) + (if vals 4 = -1 then 0 else 1) + (if vals 5 = -1 then 0 else 1)
theorem rd_cn_le (vals : Nat → Int32) : rd_cn vals ≤ 6 := by
  unfold rd_cn
  repeat' split
  all_goals omega
theorem rd_cn_up {vals : Nat → Int32} {j : Nat} {x : Int32} (hj : j < 6) (h : vals j = -1) (hx : ¬ x = -1) : rd_cn (upd vals j x) = rd_cn vals + 1 := by
  unfold rd_cn
  rcases (show j = 0 ∨ j = 1 ∨ j = 2 ∨ j = 3 ∨ j = 4 ∨ j = 5 by omega) with rfl | rfl | rfl | rfl | rfl | rfl <;> simp [upd, h, hx] <;> omega
/-- what reading may answer -/
def rdOk (r : Int32 × Int32 × (Nat → Int32)) : Prop := (∀ k, k < 6 → r.2.2 k = -1 ∨ okv k (r.2.2 k)) ∧ (r.1 = 0 ∨ (r.1 = 1 ∧ ∃ q, q ≤ 6 ∧ r.2.1 = nI q) ∨ ((r.1 = 2 ∨ r.1 = 3 ∨ r.1 = 4) ∧ ∃ j, j < 6 ∧ r.2.1 = nI j))
theorem rd_go_ok {t : Nat → Int32} {n : Nat} : ∀ (F part a : Nat) (vals : Nat → Int32), part ≤ rd_cn vals → (∀ k, k < 6 → vals k = -1 ∨ okv k (vals k)) → rdOk (rd_go t n F part a vals)
  | 0, part, a, vals, _, hv => ⟨hv, Or.inl rfl⟩
  | F + 1, part, a, vals, hp, hv => by
    rw [rd_go]
    by_cases h0 : n < a
    · rw [if_pos h0]; exact ⟨hv, Or.inl rfl⟩
    · rw [if_neg h0]
      rcases rdK_cases t a (rdE t n a) with k1 | ⟨k0, j, hj, k1⟩
      · rw [if_pos k1]
        exact ⟨hv, Or.inr (Or.inl ⟨rfl, part, Nat.le_trans hp (rd_cn_le _), rfl⟩)⟩
      · rw [k1, if_neg (nI_m1 hj), nI_clamp (by omega)]
        by_cases h2 : vals j = -1
        · rw [if_neg (fun q => q h2)]
          by_cases h3 : rdVal t (nI j) (a + 2) (rdE t n a) = -1
          · rw [if_pos h3]
            refine ⟨fun k hk => ?_, Or.inr (Or.inr ⟨Or.inr (Or.inl rfl), j, hj, rfl⟩)⟩
            show upd vals j (-1) k = -1 ∨ okv k (upd vals j (-1) k)
            by_cases e : k = j
            · subst e; rw [pk_us]; exact Or.inl rfl
            · rw [pk_un e]; exact hv k hk
          · rw [if_neg h3]
            refine rd_go_ok F _ _ _ (by rw [rd_cn_up hj h2 h3]; omega) (fun k hk => ?_)
            by_cases e : k = j
            · subst e; rw [pk_us]; exact Or.inr (rdVal_ok hj h3)
            · rw [pk_un e]; exact hv k hk
        · rw [if_pos h2]
          exact ⟨hv, Or.inr (Or.inr ⟨Or.inl rfl, j, hj, rfl⟩)⟩
theorem rdR_ok (t : Nat → Int32) (n : Nat) : rdOk (rdR t n) := by
  have h := rd_go_ok (t := t) (n := n) (n + 1) 0 0 (fun _ => -1) (Nat.zero_le _) (fun k _ => Or.inl rfl)
  by_cases h1 : (rd_go t n (n + 1) 0 0 (fun _ => -1)).1 = 0
  · rw [rdR_b h1]
    refine ⟨h.1, ?_⟩
    show _ ∨ _ ∨ _
    unfold rd_mis
    repeat' split
    · exact Or.inr (Or.inr ⟨Or.inr (Or.inr rfl), 0, by decide, rfl⟩)
    · exact Or.inr (Or.inr ⟨Or.inr (Or.inr rfl), 1, by decide, rfl⟩)
    · exact Or.inr (Or.inr ⟨Or.inr (Or.inr rfl), 2, by decide, rfl⟩)
    · exact Or.inr (Or.inr ⟨Or.inr (Or.inr rfl), 3, by decide, rfl⟩)
    · exact Or.inr (Or.inr ⟨Or.inr (Or.inr rfl), 4, by decide, rfl⟩)
    · exact Or.inl rfl
  · rw [rdR_a h1]; exact h
/-- right: S, C, F, T and W are there -/
theorem rdR_right {t : Nat → Int32} {n : Nat} (h : (rdR t n).1 = 0) : (∀ k, k < 5 → okv k ((rdR t n).2.2 k)) ∧ ((rdR t n).2.2 5 = -1 ∨ okv 5 ((rdR t n).2.2 5)) := by
  have hk := (rdR_ok t n).1
  refine ⟨fun k hk5 => ?_, hk 5 (by decide)⟩
  rcases hk k (by omega) with q | q
  · exfalso
    by_cases h1 : (rd_go t n (n + 1) 0 0 (fun _ => -1)).1 = 0
    · rw [rdR_b h1] at h q
      simp only at h q
      unfold rd_mis at h
      rcases (show k = 0 ∨ k = 1 ∨ k = 2 ∨ k = 3 ∨ k = 4 by omega) with rfl | rfl | rfl | rfl | rfl
      all_goals
        revert h
        simp only [q]
        repeat' split
        all_goals simp_all
    · rw [rdR_a h1] at h; exact h1 h
  · exact q
def wordc (k : Nat) : Int32 := [85, 78, 75, 78, 79, 87, 78, 68, 79, 85, 66, 76, 69, 68, 66, 65, 68, 77, 73, 83, 83, 73, 78, 71].getD k 0
def tlen (kd : Int32) : Nat := if kd = 0 then 0 else if kd = 3 then 5 else 9
def tword (kd : Int32) : Nat := if kd = 1 then 0 else if kd = 2 then 7 else if kd = 3 then 14 else 17
def tellc (kd at9 : Int32) (i : Nat) : Int32 := if i + 2 < tlen kd then wordc (tword kd + i) else if i + 2 = tlen kd then 32 else if kd = 1 then 48 + at9 else keyc at9.toNatClampNeg
theorem vp_narN {q : Nat} (hq : q < 65536) : vp_nar .char (nI q) = nI q := by
  unfold vp_nar
  rw [(pk_charN hq).1]
theorem vp_nark {j : Nat} : vp_nar .char (keyc j) = keyc j := by
  unfold keyc
  split <;> decide
theorem vp_m1 {x : Int32} {T : Nat} (hT : T ≤ 2000) : (0 ≤ x ∧ x ≤ nI T - 1) ↔ vp_in x T := by
  rw [vp_in_iff, Int32.le_iff_toInt_le, Int32.le_iff_toInt_le]
  have h0 : (0 : Int32).toInt = 0 := rfl
  have h1 : (nI T - 1).toInt = (T : Int) - 1 := pk_sub_toInt (a := T) (b := 1) (by omega) (by decide)
  omega
theorem tellc_nI {t : Nat → Int32} {n i : Nat} (hi : i < tlen (rdR t n).1) : ∃ q : Nat, q < 65536 ∧ tellc (rdR t n).1 (rdR t n).2.1 i = nI q := by
  have hw : ∀ k : Nat, ∃ q : Nat, q < 65536 ∧ wordc k = nI q := by
    intro k
    match k with
    | 0 => exact ⟨85, by decide, rfl⟩
    | 1 => exact ⟨78, by decide, rfl⟩
    | 2 => exact ⟨75, by decide, rfl⟩
    | 3 => exact ⟨78, by decide, rfl⟩
    | 4 => exact ⟨79, by decide, rfl⟩
    | 5 => exact ⟨87, by decide, rfl⟩
    | 6 => exact ⟨78, by decide, rfl⟩
    | 7 => exact ⟨68, by decide, rfl⟩
    | 8 => exact ⟨79, by decide, rfl⟩
    | 9 => exact ⟨85, by decide, rfl⟩
    | 10 => exact ⟨66, by decide, rfl⟩
    | 11 => exact ⟨76, by decide, rfl⟩
    | 12 => exact ⟨69, by decide, rfl⟩
    | 13 => exact ⟨68, by decide, rfl⟩
    | 14 => exact ⟨66, by decide, rfl⟩
    | 15 => exact ⟨65, by decide, rfl⟩
    | 16 => exact ⟨68, by decide, rfl⟩
    | 17 => exact ⟨77, by decide, rfl⟩
    | 18 => exact ⟨73, by decide, rfl⟩
    | 19 => exact ⟨83, by decide, rfl⟩
    | 20 => exact ⟨83, by decide, rfl⟩
    | 21 => exact ⟨73, by decide, rfl⟩
    | 22 => exact ⟨78, by decide, rfl⟩
    | 23 => exact ⟨71, by decide, rfl⟩
    | k + 24 => exact ⟨0, by decide, rfl⟩
  unfold tellc
  split
  · exact hw _
  · split
    · exact ⟨32, by decide, rfl⟩
    · rcases (rdR_ok t n).2 with q | ⟨q, p, hp, e⟩ | ⟨q, j, hj, e⟩
      · rw [q] at hi; exact absurd hi (Nat.not_lt_zero i)
      · rw [if_pos q, e]; exact ⟨48 + p, by omega, nI_add 48 p⟩
      · rw [if_neg (by rcases q with q | q | q <;> rw [q] <;> decide), e]
        unfold keyc
        split
        · exact ⟨83, by decide, rfl⟩
        · exact ⟨67, by decide, rfl⟩
        · exact ⟨70, by decide, rfl⟩
        · exact ⟨84, by decide, rfl⟩
        · exact ⟨87, by decide, rfl⟩
        · exact ⟨88, by decide, rfl⟩
theorem nar_nI {x : Int32} (h : ∃ q : Nat, q < 65536 ∧ x = nI q) : narrow .char (.int x) = .int x := by
  obtain ⟨q, hq, rfl⟩ := h
  exact (pk_charN hq).1
def crc (sh now un : Int32) : Int32 := if sh = 0 then 0 else if now ≤ un then 1 else 2
def prc (f0 f1 f2 ap gr fast : Int32) : Int32 := if fast = 0 then f0 + f1 * ap + f2 * ((gr + 99) / 100) else (f0 + f1 * ap + f2 * ((gr + 99) / 100)) * 3 / 2
theorem tlen_le (kd : Int32) : tlen kd ≤ 9 := by
  unfold tlen
  split
  · omega
  · split <;> omega
/-- a carrier: tries, fails in a row, shut, open until -/
abbrev CrS : Type := Int32 × Int32 × Int32 × Int32
def tryD (dn fl tr : Int32) : Prop := ¬ dn = 0 ∨ (0 < fl ∧ (tr + 1) - (tr + 1) / fl * fl = 0)
noncomputable def tryS (now dn fl : Int32) (s : CrS) : Int32 × CrS := by
  classical
  exact if tryD dn fl s.1 then (1, if 5 ≤ s.2.1 + 1 ∨ crc s.2.2.1 now s.2.2.2 = 2 then (s.1 + 1, s.2.1 + 1, 1, now + 9) else (s.1 + 1, s.2.1 + 1, s.2.2.1, s.2.2.2)) else (0, (s.1 + 1, 0, 0, s.2.2.2))
theorem tryS_a {now dn fl : Int32} {s : CrS} (h : tryD dn fl s.1) (h2 : 5 ≤ s.2.1 + 1 ∨ crc s.2.2.1 now s.2.2.2 = 2) : tryS now dn fl s = (1, (s.1 + 1, s.2.1 + 1, 1, now + 9)) := by
  unfold tryS
  rw [if_pos h, if_pos h2]
theorem tryS_b {now dn fl : Int32} {s : CrS} (h : tryD dn fl s.1) (h2 : ¬ (5 ≤ s.2.1 + 1 ∨ crc s.2.2.1 now s.2.2.2 = 2)) : tryS now dn fl s = (1, (s.1 + 1, s.2.1 + 1, s.2.2.1, s.2.2.2)) := by
  unfold tryS
  rw [if_pos h, if_neg h2]
theorem tryS_c {now dn fl : Int32} {s : CrS} (h : ¬ tryD dn fl s.1) : tryS now dn fl s = (0, (s.1 + 1, 0, 0, s.2.2.2)) := by
  unfold tryS
  rw [if_neg h]
/-- up to n tries -/
noncomputable def askL (now dn fl : Int32) : Nat → CrS → Int32 × CrS
  | 0, s => (-4, s)
  | n + 1, s => if (tryS now dn fl s).1 = 0 then (0, (tryS now dn fl s).2) else if crc (tryS now dn fl s).2.2.2.1 now (tryS now dn fl s).2.2.2.2 = 1 then (-4, (tryS now dn fl s).2) else askL now dn fl n (tryS now dn fl s).2
noncomputable def askS (now dn fl : Int32) (s : CrS) : Int32 × CrS := if crc s.2.2.1 now s.2.2.2 = 1 then (-3, s) else askL now dn fl (if crc s.2.2.1 now s.2.2.2 = 2 then 1 else 3) s
/-- the reference's rows of a carrier -/
def mcr (fa : Nat → Nat → Int32) (i : Nat) : CrS := (fa 15 i, fa 16 i, fa 17 i, fa 18 i)
def mset (fa : Nat → Nat → Int32) (i : Nat) (s : CrS) : Nat → Nat → Int32 := rowu (rowu (rowu (rowu fa 15 (upd (fa 15) i s.1)) 16 (upd (fa 16) i s.2.1)) 17 (upd (fa 17) i s.2.2.1)) 18 (upd (fa 18) i s.2.2.2)
theorem mset_row {fa : Nat → Nat → Int32} {i : Nat} {s : CrS} (k : Nat) (h : k ≠ 15 ∧ k ≠ 16 ∧ k ≠ 17 ∧ k ≠ 18) : mset fa i s k = fa k := by simp [mset, rowu, h]
theorem mset_mcr {fa : Nat → Nat → Int32} {i : Nat} {s : CrS} : mcr (mset fa i s) i = s := by simp [mcr, mset, rowu, upd]
theorem upd_self {f : Nat → Int32} {i : Nat} : upd f i (f i) = f := by
  funext j
  by_cases h : j = i <;> simp [upd, h]
theorem mset_self {fa : Nat → Nat → Int32} {i : Nat} : mset fa i (mcr fa i) = fa := by
  funext k
  by_cases h1 : k = 15
  · subst h1; simp [mset, rowu, mcr, upd_self]
  · by_cases h2 : k = 16
    · subst h2; simp [mset, rowu, mcr, upd_self]
    · by_cases h3 : k = 17
      · subst h3; simp [mset, rowu, mcr, upd_self]
      · by_cases h4 : k = 18
        · subst h4; simp [mset, rowu, mcr, upd_self]
        · simp [mset, rowu, h1, h2, h3, h4]
theorem upd_upd {f : Nat → Int32} {i : Nat} {x y : Int32} : upd (upd f i x) i y = upd f i y := by
  funext j
  by_cases h : j = i <;> simp [upd, h]
theorem mset_mset {fa : Nat → Nat → Int32} {i : Nat} {s u : CrS} : mset (mset fa i s) i u = mset fa i u := by
  funext k
  by_cases h1 : k = 15
  · subst h1; simp [mset, rowu, upd_upd]
  · by_cases h2 : k = 16
    · subst h2; simp [mset, rowu, upd_upd]
    · by_cases h3 : k = 17
      · subst h3; simp [mset, rowu, upd_upd]
      · by_cases h4 : k = 18
        · subst h4; simp [mset, rowu, upd_upd]
        · simp [mset, rowu, h1, h2, h3, h4]
def cntW (cm cs : Nat → Int32) (sh now win : Int32) : Nat → Int32
  | 0 => 0
  | k + 1 => cntW cm cs sh now win k + (if cs k = sh ∧ now - cm k < win then 1 else 0)
def isdue (fi : Nat → Int32) (fa : Nat → Nat → Int32) (sh : Int32) (k : Nat) : Prop := fa 46 k = 0 ∧ fa 44 k + 30 < fi 1 ∧ fa 33 (fa 43 k).toNatClampNeg = sh
noncomputable def dueN (fi : Nat → Int32) (fa : Nat → Nat → Int32) (sh : Int32) (k : Nat) (x y : Int32) : Int32 := by
  classical
  exact if isdue fi fa sh k then x else y
theorem dueN_a {fi : Nat → Int32} {fa : Nat → Nat → Int32} {sh : Int32} {k : Nat} {x y : Int32} (h : isdue fi fa sh k) : dueN fi fa sh k x y = x := by
  unfold dueN
  rw [if_pos h]
theorem dueN_b {fi : Nat → Int32} {fa : Nat → Nat → Int32} {sh : Int32} {k : Nat} {x y : Int32} (h : ¬ isdue fi fa sh k) : dueN fi fa sh k x y = y := by
  unfold dueN
  rw [if_neg h]
noncomputable def sumDue (fi : Nat → Int32) (fa : Nat → Nat → Int32) (sh acc : Int32) : Nat → Int32
  | 0 => acc
  | k + 1 => sumDue fi fa sh acc k + dueN fi fa sh k (fa 45 k) 0
theorem askL_cases {now dn fl : Int32} : ∀ (n : Nat) (s : CrS), (askL now dn fl n s).1 = 0 ∨ (askL now dn fl n s).1 = -4
  | 0, s => Or.inr rfl
  | n + 1, s => by
    rw [askL]
    split
    · exact Or.inl rfl
    · split
      · exact Or.inr rfl
      · exact askL_cases n _
theorem askS_cases {now dn fl : Int32} {s : CrS} : (askS now dn fl s).1 = 0 ∨ (askS now dn fl s).1 = -3 ∨ (askS now dn fl s).1 = -4 := by
  unfold askS
  split
  · exact Or.inr (Or.inl rfl)
  · rcases askL_cases (now := now) (dn := dn) (fl := fl) (if crc s.2.2.1 now s.2.2.2 = 2 then 1 else 3) s with h | h
    · exact Or.inl h
    · exact Or.inr (Or.inr h)
def lft (q c : Int32) : Int32 := if q - c < 0 then 0 else q - c
theorem askL_z {now dn fl : Int32} {n : Nat} {s : CrS} (h : (tryS now dn fl s).1 = 0) : askL now dn fl (n + 1) s = (0, (tryS now dn fl s).2) := by
  rw [askL, if_pos h]
theorem askL_o {now dn fl : Int32} {n : Nat} {s : CrS} (h : ¬ (tryS now dn fl s).1 = 0) (h2 : crc (tryS now dn fl s).2.2.2.1 now (tryS now dn fl s).2.2.2.2 = 1) : askL now dn fl (n + 1) s = (-4, (tryS now dn fl s).2) := by
  rw [askL, if_neg h, if_pos h2]
theorem askL_n {now dn fl : Int32} {n : Nat} {s : CrS} (h : ¬ (tryS now dn fl s).1 = 0) (h2 : ¬ crc (tryS now dn fl s).2.2.2.1 now (tryS now dn fl s).2.2.2.2 = 1) : askL now dn fl (n + 1) s = askL now dn fl n (tryS now dn fl s).2 := by
  rw [askL, if_neg h, if_neg h2]
theorem rowu_id {fa : Nat → Nat → Int32} {k : Nat} : rowu fa k (fa k) = fa := by
  funext a
  by_cases e : a = k
  · subst e; simp [rowu]
  · simp [rowu, e]
theorem rowu_ne {fa : Nat → Nat → Int32} {k a : Nat} {g : Nat → Int32} (h : a ≠ k) : rowu fa k g a = fa a := by simp [rowu, h]
