theorem ur2_same {c : Nat → Nat → Nat} {a b v w : Nat} : ur2 (ur2 c a b v) a b w = ur2 c a b w := by
  funext x y
  simp only [ur2]
  grind
theorem rd_go_end {t : Nat → Int32} {n k a : Nat} {vs : Nat → Int32} (h : n < k ∨ n < a) : rd_go t n (n + 1 - k) k a vs = (0, 0, vs) := by
  cases hf : n + 1 - k with
  | zero => rfl
  | succ f => rw [rd_go, if_pos (by omega)]
/-- one part more -/
theorem rd_go_step {t : Nat → Int32} {n k a e : Nat} {vs vals : Nat → Int32} (he : e = rdE t n a) (hk : k ≤ n ∧ a ≤ n) (hag : ∀ j, j < 6 → vals j = vs j) :
    (rdK t a e = -1 → rd_go t n (n + 1 - k) k a vs = (1, nI k, vs)) ∧
    (¬ rdK t a e = -1 → ¬ vals (rdK t a e).toNatClampNeg = -1 → rd_go t n (n + 1 - k) k a vs = (2, rdK t a e, vs)) ∧
    (¬ rdK t a e = -1 → vals (rdK t a e).toNatClampNeg = -1 → rdvC t (rdK t a e).toNatClampNeg (a + 2) e = -1 → rd_go t n (n + 1 - k) k a vs = (3, rdK t a e, upd vs (rdK t a e).toNatClampNeg (-1))) ∧
    (¬ rdK t a e = -1 → vals (rdK t a e).toNatClampNeg = -1 → ¬ rdvC t (rdK t a e).toNatClampNeg (a + 2) e = -1 → rd_go t n (n + 1 - k) k a vs = rd_go t n (n + 1 - (k + 1)) (k + 1) (e + 1) (upd vs (rdK t a e).toNatClampNeg (rdvC t (rdK t a e).toNatClampNeg (a + 2) e))) := by
  rw [show n + 1 - k = (n + 1 - (k + 1)) + 1 by omega, rd_go, if_neg (by omega), ← he]
  rcases rdK_cs (t := t) (a := a) (b := e) with hK | ⟨-, kk, hkk, hK⟩
  · exact ⟨fun h => if_pos h, fun h => absurd hK h, fun h => absurd hK h, fun h => absurd hK h⟩
  · have hc : (rdK t a e).toNatClampNeg = kk := by rw [hK]; exact nI_clamp (by omega)
    rw [hc, hag kk hkk, rdvV hkk, hK]
    refine ⟨fun h => absurd h (nI_nm hkk), fun h h2 => ?_, fun h h2 h3 => ?_, fun h h2 h3 => ?_⟩
    · rw [if_neg h, if_pos h2]
    · rw [if_neg h, if_neg (fun q => q h2), if_pos h3]
    · rw [if_neg h, if_neg (fun q => q h2), if_neg h3]

