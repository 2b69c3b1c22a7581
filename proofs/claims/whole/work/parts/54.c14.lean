/-- a carrier of the reference and one of the class -/
def carB (s c : CrS) : Prop := s.1 = c.1 ∧ s.2.1 = c.2.1 ∧ s.2.2.1 = c.2.2.1 ∧ (s.2.2.1 = 0 ∨ ∃ u : Nat, u < 2 ^ 30 ∧ s.2.2.2 = nI u ∧ c.2.2.2 = nI (u + 1))
theorem crc_B {s c : CrS} {w : Nat} (hw : w < 2 ^ 30) (h : carB s c) : crc s.2.2.1 (nI w) s.2.2.2 = crcC c.2.2.1 (nI w) c.2.2.2 := by
  obtain ⟨-, -, h3, h4⟩ := h
  unfold crc crcC
  rw [← h3]
  by_cases h0 : s.2.2.1 = 0
  · rw [if_pos h0, if_pos h0]
  · rw [if_neg h0, if_neg h0]
    obtain ⟨u, hu, e1, e2⟩ := h4.resolve_left h0
    rw [e1, e2]
    by_cases hq : w ≤ u
    · rw [if_pos ((nI_leI (by omega) (by omega)).mpr hq), if_pos ((nI_ltI (by omega) (by omega)).mpr (by omega))]
    · rw [if_neg (fun q => hq ((nI_leI (by omega) (by omega)).mp q)), if_neg (fun q => hq (by have := (nI_ltI (by omega) (by omega)).mp q; omega))]
theorem nI_9 (w : Nat) : nI w + 9 = nI (w + 9) := (Int32.ofNat_add w 9).symm
theorem nI_10 (w : Nat) : nI w + 10 = nI (w + 9 + 1) := (Int32.ofNat_add w 10).symm
theorem okC_D {up dn fl tr : Int32} (hud : dn = 0 ↔ ¬ up = 0) : okC up fl tr ↔ ¬ tryD dn fl tr := by
  unfold okC tryD
  grind
theorem try_B {s c : CrS} {w : Nat} {up dn fl : Int32} (hw : w < 1000000000) (hud : dn = 0 ↔ ¬ up = 0) (h : carB s c) : carB (tryS (nI w) dn fl s).2 (tryC (nI w) up fl c).2 ∧ (((tryS (nI w) dn fl s).1 = 0 ∧ (tryC (nI w) up fl c).1 = 1) ∨ ((tryS (nI w) dn fl s).1 = 1 ∧ (tryC (nI w) up fl c).1 = 0)) := by
  have hc := crc_B (w := w) (by omega) h
  obtain ⟨h1, h2, h3, h4⟩ := h
  have hD := okC_D (fl := fl) (tr := c.1) hud
  by_cases hd : tryD dn fl s.1
  · have hok : ¬ okC up fl c.1 := by rw [h1] at hd; exact fun q => (hD.mp q) hd
    by_cases h5 : 5 ≤ s.2.1 + 1 ∨ crc s.2.2.1 (nI w) s.2.2.2 = 2
    · have h6 : 5 ≤ c.2.1 + 1 ∨ crcC c.2.2.1 (nI w) c.2.2.2 = 2 := by rw [← h2, ← hc]; exact h5
      rw [tryS_a hd h5, tryC_a hok h6]
      exact ⟨⟨by rw [h1], by rw [h2], rfl, Or.inr ⟨w + 9, by omega, nI_9 w, nI_10 w⟩⟩, Or.inr ⟨rfl, rfl⟩⟩
    · have h6 : ¬ (5 ≤ c.2.1 + 1 ∨ crcC c.2.2.1 (nI w) c.2.2.2 = 2) := by rw [← h2, ← hc]; exact h5
      rw [tryS_b hd h5, tryC_b hok h6]
      exact ⟨⟨by rw [h1], by rw [h2], h3, h4⟩, Or.inr ⟨rfl, rfl⟩⟩
  · have hok : okC up fl c.1 := by rw [h1] at hd; exact hD.mpr hd
    rw [tryS_c hd, tryC_c hok]
    exact ⟨⟨by rw [h1], rfl, rfl, Or.inl rfl⟩, Or.inl ⟨rfl, rfl⟩⟩
def ansB (r q : Int32 × CrS) : Prop := carB r.2 q.2 ∧ ((r.1 = 0 ∧ q.1 = 1) ∨ (r.1 = -4 ∧ q.1 = 0))
theorem askC_shut {mn up fl : Int32} {s : CrS} {n : Nat} (h : crcC s.2.2.1 mn s.2.2.2 = 1) : askC mn up fl n s = (0, s) := by
  cases n with
  | zero => rfl
  | succ n => exact askC_a h
theorem askL_B {w : Nat} {up dn fl : Int32} (hw : w < 1000000000) (hud : dn = 0 ↔ ¬ up = 0) : ∀ (n : Nat) (s c : CrS), carB s c → (n = 0 ∨ ¬ crcC c.2.2.1 (nI w) c.2.2.2 = 1) → ansB (askL (nI w) dn fl n s) (askC (nI w) up fl n c)
  | 0, s, c, h, _ => ⟨h, Or.inr ⟨rfl, rfl⟩⟩
  | n + 1, s, c, h, hn => by
    have hn := hn.resolve_left (by omega)
    obtain ⟨hB, hr⟩ := try_B (fl := fl) hw hud h
    rw [askL]
    rcases hr with ⟨r1, r2⟩ | ⟨r1, r2⟩
    · rw [if_pos r1, askC_b hn r2]
      exact ⟨hB, Or.inl ⟨rfl, rfl⟩⟩
    · rw [if_neg (by rw [r1]; decide), askC_c hn r2]
      have hc := crc_B (w := w) (by omega) hB
      by_cases hs : crc (tryS (nI w) dn fl s).2.2.2.1 (nI w) (tryS (nI w) dn fl s).2.2.2.2 = 1
      · rw [if_pos hs, askC_shut (by rw [← hc]; exact hs)]
        exact ⟨hB, Or.inr ⟨rfl, rfl⟩⟩
      · rw [if_neg hs]
        exact askL_B hw hud n _ _ hB (Or.inr (by rw [← hc]; exact hs))
/-- a carrier that is not shut is asked -/
theorem ask_B {w : Nat} {up dn fl : Int32} (hw : w < 1000000000) (hud : dn = 0 ↔ ¬ up = 0) {s c : CrS} (h : carB s c) (hn : ¬ crcC c.2.2.1 (nI w) c.2.2.2 = 1) : ansB (askS (nI w) dn fl s) (askC (nI w) up fl 3 c) := by
  have hc := crc_B (w := w) (by omega) h
  unfold askS
  rw [if_neg (by rw [hc]; exact hn)]
  by_cases h9 : crc s.2.2.1 (nI w) s.2.2.2 = 2
  · rw [if_pos h9]
    have hL := askL_B (fl := fl) hw hud 1 s c h (Or.inr hn)
    have e : askC (nI w) up fl 3 c = askC (nI w) up fl 1 c := by
      obtain ⟨hB, hr⟩ := try_B (fl := fl) hw hud h
      rcases hr with ⟨r1, r2⟩ | ⟨r1, r2⟩
      · rw [askC_b hn r2, askC_b hn r2]
      · rw [askC_c hn r2, askC_c hn r2]
        have hok : ¬ okC up fl c.1 := by
          intro q
          rw [tryC_c q] at r2
          exact absurd (show (1 : Int32) = 0 from r2) (by decide)
        have hs : crcC (tryC (nI w) up fl c).2.2.2.1 (nI w) (tryC (nI w) up fl c).2.2.2.2 = 1 := by
          rw [tryC_a hok (Or.inr (by rw [← hc]; exact h9))]
          show crcC 1 (nI w) (nI w + 10) = 1
          unfold crcC
          rw [if_neg (by decide), nI_10, if_pos ((nI_ltI (by omega) (by omega)).mpr (by omega))]
        rw [askC_shut hs, askC_shut hs]
    rw [e]
    exact hL
  · rw [if_neg h9]
    exact askL_B hw hud 3 s c h (Or.inr hn)

