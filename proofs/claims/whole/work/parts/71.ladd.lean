section LADD
variable (l : Launch) (X : GX) (L : List ro) (ad : ro → Nat) (st0 : ro → va_E) (ci : Nat → Nat → Int32) (ca : Nat → Nat → Nat → Int32) (cr : Nat → Nat → Nat)
/-- a thing is added to list i -/
theorem c_ladd (i n : Nat) (hi : i < 2) (hn : cr 13 i = n) (mA : (11, i) ∈ L) (h13 : ci 13 i = nI n) (h0 : cr 12 i = 0 → (12, i) ∉ L ∧ n = 0) (h1 : ¬ cr 12 i = 0 → (12, i) ∈ L ∧ n ≤ cr 12 i ∧ 10 ≤ cr 12 i ∧ cr 12 i ≤ 150) (hn1 : n ≤ 100) (hT : (65, 0) ∉ L) (hE : ∀ k, k < n + 1 → ((40 + 10 * i, k) : ro) ∈ L ∧ ∃ fs, cSt X ad st0 ci ca cr (40 + 10 * i, k) = .inr (elC i, fs)) :
    gMi l yJx4a65c_add_9ea2d cJx4a65c_add_9ea2d 2 (some .boolean) 6 170 1 150 X [.ref (ad (11, i)), .ref (ad (40 + 10 * i, n))] L ad (cSt X ad st0 ci ca cr) (fun v u => ∃ L' ad' st', u = (L', ad', st') ∧ alP X L ad (cSt X ad st0 ci ca cr) i (ci 11 i + 1) n L' ad' st') := by
  by_cases hc : cr 12 i = 0
  · obtain ⟨nB, e0⟩ := h0 hc
    subst e0
    exact c_Jx4a65c_add1A l X L ad _ i (ci 11 i) mA nB (by show Sum.inr _ = _; rw [h13, if_pos hc]; rfl) hi hE
  · obtain ⟨mB, c1, c2, c3⟩ := h1 hc
    have eA : cSt X ad st0 ci ca cr (11, i) = .inr (2, [.int (ci 11 i), .ref (ad (12, i)), .int (nI n)]) := by show Sum.inr _ = _; rw [h13, if_neg hc]
    have eB : cSt X ad st0 ci ca cr (12, i) = .inl (X.2.1 5, cr 12 i, .inr (.inr (.inr (.inr (fE ad i n))))) := by
      show Sum.inl (X.2.1 5, cr 12 i, Sum.inr (Sum.inr (Sum.inr (Sum.inr (fun j => if j < cr 13 i then some (ad (40 + 10 * i, j)) else none))))) = _
      rw [hn]
      rfl
    by_cases hl : n < cr 12 i
    · exact c_Jx4a65c_add1N l X L ad _ i n (cr 12 i) (ci 11 i) mA mB eA eB hi hE hl c2 c3
    · have he : cr 12 i = n := by omega
      rw [he] at eB
      exact c_Jx4a65c_add1B l X L ad _ i n (ci 11 i) mA mB hT eA eB hi hE (by omega) hn1
theorem c_lget (i j : Nat) (mA : (11, i) ∈ L) (mB : (12, i) ∈ L) (h13 : ci 13 i = nI (cr 13 i)) (hc : ¬ cr 12 i = 0) (hj : j < cr 13 i) (hle : cr 13 i ≤ cr 12 i) (h2 : cr 12 i < 2 ^ 31) : gMq l yJx4a65c_get_915e3 cJx4a65c_get_915e3 2 (some (.object "java/lang/Object")) 2 43 0 0 X [.ref (ad (11, i)), .int (nI j)] L ad (cSt X ad st0 ci ca cr) (fun v u => u = (L, ad, cSt X ad st0 ci ca cr) ∧ v = (if j < cr 13 i then some (ad (40 + 10 * i, j)) else none)) :=
  c_Jx4a65c_get_915e3 l X L ad _ i (ci 11 i) (cr 13 i) (cr 12 i) (fun j => if j < cr 13 i then some (ad (40 + 10 * i, j)) else none) j mA mB (by show Sum.inr _ = _; rw [h13, if_neg hc]) rfl hj hle h2
end LADD
