/-! what always holds of the class: n signs, minute w, tot calls, tariffs below nt, kept calls kp and nx of the shippers -/
def cRoles : List ro := [(1, 0), (2, 0), (3, 0), (4, 0), (5, 0), (6, 0), (7, 0), (8, 0), (9, 0), (10, 0), (11, 0), (11, 1), (20, 0), (20, 1), (20, 2), (20, 3), (20, 4), (20, 5), (21, 0), (21, 1), (21, 2), (21, 3), (21, 4), (21, 5), (30, 0), (30, 1), (30, 2), (30, 3)]
def cV (L : List ro) (ci : Nat → Nat → Int32) (ca : Nat → Nat → Nat → Int32) (cr : Nat → Nat → Nat) (n w tot nt : Nat) (kp nx : Nat → Nat) : Prop :=
  (∀ r, r ∈ cRoles → r ∈ L) ∧
  (∀ i, i < 2 → ci 13 i = nI (cr 13 i) ∧ (cr 12 i = 0 → (12, i) ∉ L ∧ cr 13 i = 0) ∧ (¬ cr 12 i = 0 → (12, i) ∈ L ∧ cr 13 i ≤ cr 12 i ∧ 10 ≤ cr 12 i ∧ cr 12 i ≤ 150)) ∧
  (cr 13 0 ≤ 100 ∧ cr 13 1 ≤ 50) ∧
  (∀ k, (40, k) ∈ L ↔ k < cr 13 0) ∧ (∀ k, (50, k) ∈ L ↔ k < cr 13 1) ∧ (∀ k, (31, k) ∈ L ↔ k < nt) ∧
  (∀ k, k < cr 13 0 → cr 40 k < nt ∧ ∃ c, c < 4 ∧ ci 41 k = nI c) ∧
  (∀ k, k < cr 13 1 → cr 50 k < cr 13 0) ∧
  (∀ i, cr 30 i < nt) ∧
  (∀ k, 61 ≤ k → k ≤ 65 → (k, 0) ∉ L) ∧
  (ci 2 0 = nI n ∧ n ≤ 60 ∧ ∀ j, ∃ q : Nat, q < 65536 ∧ ca 3 0 j = nI q) ∧
  (ci 1 0 = nI w ∧ w ≤ 20000) ∧
  (ci 6 0 = nI tot ∧ ci 7 0 = nI tot ∧ tot ≤ 512) ∧
  ∀ i, i < 6 → ci 24 i = nI (kp i) ∧ kp i ≤ 50 ∧ ci 25 i = nI (nx i) ∧ nx i ≤ 50
section CV
variable {L : List ro} {ci : Nat → Nat → Int32} {ca : Nat → Nat → Nat → Int32} {cr : Nat → Nat → Nat} {n w tot nt : Nat} {kp nx : Nat → Nat}
theorem cV.r (h : cV L ci ca cr n w tot nt kp nx) {k i : Nat} (hk : (k, i) ∈ cRoles) : (k, i) ∈ L := h.1 _ hk
theorem cV.ship (h : cV L ci ca cr n w tot nt kp nx) {i : Nat} (hi : i < 6) : (20, i) ∈ L ∧ (21, i) ∈ L := by
  rcases (show i = 0 ∨ i = 1 ∨ i = 2 ∨ i = 3 ∨ i = 4 ∨ i = 5 by omega) with e | e | e | e | e | e <;> subst e <;> exact ⟨h.1 _ (by decide), h.1 _ (by decide)⟩
theorem cV.carr (h : cV L ci ca cr n w tot nt kp nx) {i : Nat} (hi : i < 4) : (30, i) ∈ L := by
  rcases (show i = 0 ∨ i = 1 ∨ i = 2 ∨ i = 3 by omega) with e | e | e | e <;> subst e <;> exact h.1 _ (by decide)
theorem cV.lst (h : cV L ci ca cr n w tot nt kp nx) {i j : Nat} (hi : i < 2) (hj : j < cr 13 i) : (12, i) ∈ L ∧ ¬ cr 12 i = 0 ∧ cr 13 i ≤ cr 12 i ∧ cr 12 i ≤ 150 := by
  have h2 := h.2.1 i hi
  have hc : ¬ cr 12 i = 0 := fun q => by have := (h2.2.1 q).2; omega
  exact ⟨(h2.2.2 hc).1, hc, (h2.2.2 hc).2.1, (h2.2.2 hc).2.2.2⟩
theorem cV.qt (h : cV L ci ca cr n w tot nt kp nx) {k : Nat} (hk : k < cr 13 0) : (40, k) ∈ L ∧ (31, cr 40 k) ∈ L := ⟨(h.2.2.2.1 k).mpr hk, (h.2.2.2.2.2.1 _).mpr (h.2.2.2.2.2.2.1 k hk).1⟩
theorem cV.pc (h : cV L ci ca cr n w tot nt kp nx) {k : Nat} (hk : k < cr 13 1) : (50, k) ∈ L ∧ cr 50 k < cr 13 0 := ⟨(h.2.2.2.2.1 k).mpr hk, h.2.2.2.2.2.2.2.1 k hk⟩
theorem cV.ct (h : cV L ci ca cr n w tot nt kp nx) (k : Nat) : (31, cr 30 k) ∈ L := (h.2.2.2.2.2.1 _).mpr (h.2.2.2.2.2.2.2.2.1 k)
end CV
/-- numbers in a range, or not -/
theorem vin_of {a : Int32} {N : Nat} (hN : N < 2 ^ 31) (h1 : ¬ a < 0) (h2 : ¬ nI N ≤ a) : ∃ k : Nat, k < N ∧ a = nI k := by
  obtain ⟨k, hk, rfl⟩ := nI_of h1
  exact ⟨k, Nat.lt_of_not_le (fun q => h2 ((nI_leI hN hk).mpr q)), rfl⟩
theorem vout_of {a : Int32} {N : Nat} (hN : N < 2 ^ 31) (h : a < 0 ∨ nI N ≤ a) : ¬ vp_in a N := by
  rw [vp_in_iff]
  rcases h with h | h
  · rw [Int32.lt_iff_toInt_lt] at h
    have h0 : (0 : Int32).toInt = 0 := rfl
    omega
  · rw [Int32.le_iff_toInt_le] at h
    have h1 : (nI N).toInt = (N : Int) := nI_toInt hN
    omega
section LGET
variable (l : Launch) (X : GX) (L : List ro) (ad : ro → Nat) (st0 : ro → va_E) (ci : Nat → Nat → Int32) (ca : Nat → Nat → Nat → Int32) (cr : Nat → Nat → Nat)
theorem c_lsize (i n : Nat) (mA : (11, i) ∈ L) (hn : ci 13 i = nI n) : gMi l yJx4a65c_size_8abf5 cJx4a65c_size_8abf5 1 (some .int) 0 0 0 0 X [.ref (ad (11, i))] L ad (cSt X ad st0 ci ca cr) (fun v u => u = (L, ad, cSt X ad st0 ci ca cr) ∧ v = nI n) :=
  c_Jx4a65c_size_8abf5 l X L ad _ i (ci 11 i) (.ref (if cr 12 i = 0 then X.2.2 30 else ad (12, i))) n mA (by show Sum.inr _ = _; rw [hn])
end LGET
