/-! the class as a value: ci its whole numbers, ca its rows, cr where its references go and how many there are, each by a code and a number -/
def up2 (c : Nat → Nat → Int32) (a b : Nat) (v : Int32) : Nat → Nat → Int32 := fun x y => if x = a then (if y = b then v else c x y) else c x y
def ur2 (c : Nat → Nat → Nat) (a b : Nat) (v : Nat) : Nat → Nat → Nat := fun x y => if x = a then (if y = b then v else c x y) else c x y
def ua2 (c : Nat → Nat → Nat → Int32) (a b : Nat) (g : Nat → Int32) : Nat → Nat → Nat → Int32 := fun x y => if x = a then (if y = b then g else c x y) else c x y
theorem up2_at {c : Nat → Nat → Int32} {a b : Nat} {v : Int32} : up2 c a b v a b = v := by simp [up2]
theorem ua2_at {c : Nat → Nat → Nat → Int32} {a b : Nat} {g : Nat → Int32} : ua2 c a b g a b = g := by simp [ua2]
theorem ur2_at {c : Nat → Nat → Nat} {a b v : Nat} : ur2 c a b v a b = v := by simp [ur2]
theorem up2_ne {c : Nat → Nat → Int32} {a b x y : Nat} {v : Int32} (h : ¬ (x = a ∧ y = b)) : up2 c a b v x y = c x y := by
  unfold up2
  by_cases h1 : x = a
  · rw [if_pos h1, if_neg (fun e => h ⟨h1, e⟩)]
  · rw [if_neg h1]
theorem up2_same {c : Nat → Nat → Int32} {a b : Nat} {v w : Int32} : up2 (up2 c a b v) a b w = up2 c a b w := by
  funext x y
  by_cases h : x = a <;> by_cases h2 : y = b <;> simp [up2, h, h2]
theorem ua2_same {c : Nat → Nat → Nat → Int32} {a b : Nat} {v w : Nat → Int32} : ua2 (ua2 c a b v) a b w = ua2 c a b w := by
  funext x y
  by_cases h : x = a <;> by_cases h2 : y = b <;> simp [ua2, h, h2]
theorem up2_id {c : Nat → Nat → Int32} {a b : Nat} : up2 c a b (c a b) = c := by
  funext x y
  by_cases h : x = a
  · by_cases h2 : y = b
    · subst h h2; simp [up2]
    · simp [up2, h2]
  · simp [up2, h]
theorem ua2_id {c : Nat → Nat → Nat → Int32} {a b : Nat} : ua2 c a b (c a b) = c := by
  funext x y
  by_cases h : x = a
  · by_cases h2 : y = b
    · subst h h2; simp [ua2]
    · simp [ua2, h2]
  · simp [ua2, h]
def vrq (f : Nat → Option Nat) : (Nat → Int32) ⊕ (Nat → Int64) ⊕ (Nat → UInt32) ⊕ (Nat → UInt64) ⊕ (Nat → Option Nat) := .inr (.inr (.inr (.inr f)))
def cE (X : GX) (ad : ro → Nat) (st0 : ro → va_E) (ci : Nat → Nat → Int32) (ca : Nat → Nat → Nat → Int32) (cr : Nat → Nat → Nat) (k i : Nat) : va_E := match k with
  | 1 => .inr (10, [.ref (ad (2, i)), .ref (ad (5, i)), .ref (ad (9, i)), .ref (ad (10, i)), .ref (ad (11, 0)), .ref (ad (11, 1)), .int (ci 1 i)])
  | 2 => .inr (7, [.ref (ad (3, i)), .ref (ad (4, i)), .int (ci 2 i), .ref (X.2.2 (cr 2 i)), .int (ci 3 i)])
  | 3 => .inl (X.2.1 1, 60, .inl (ca 3 i))
  | 4 => .inl (X.2.1 2, 6, .inl (ca 4 i))
  | 5 => .inr (3, [.int (ci 5 i), .ref (ad (6, i)), .ref (ad (7, i)), .ref (ad (8, i)), .int (ci 6 i), .int (ci 7 i)])
  | 6 => .inl (X.2.1 2, 512, .inl (ca 6 i))
  | 7 => .inl (X.2.1 2, 512, .inl (ca 7 i))
  | 8 => .inl (X.2.1 3, 512, .inl (ca 8 i))
  | 9 => .inl (X.2.1 6, 6, .inr (.inr (.inr (.inr (fun j => if j < 6 then some (ad (20, j)) else none)))))
  | 10 => .inl (X.2.1 7, 4, .inr (.inr (.inr (.inr (fun j => if j < 4 then some (ad (30, j)) else none)))))
  | 11 => .inr (2, [.int (ci 11 i), .ref (if cr 12 i = 0 then X.2.2 30 else ad (12, i)), .int (ci 13 i)])
  | 12 => .inl (X.2.1 5, cr 12 i, .inr (.inr (.inr (.inr (fun j => if j < cr 13 i then some (ad (40 + 10 * i, j)) else none)))))
  | 20 => .inr (8, [.int (ci 20 i), .int (ci 21 i), .int (ci 22 i), .int (ci 23 i), .ref (ad (21, i)), .int (ci 24 i), .int (ci 25 i)])
  | 21 => .inl (X.2.1 2, 50, .inl (ca 21 i))
  | 30 => .inr (4, [.int (ci 30 i), .int (ci 31 i), .int (ci 32 i), .ref (ad (31, cr 30 i)), .int (ci 33 i), .int (ci 34 i), .int (ci 35 i)])
  | 31 => .inr (9, [.int (ci 36 i), .int (ci 37 i), .int (ci 38 i)])
  | 40 => .inr (6, [.int (ci 40 i), .int (ci 41 i), .int (ci 42 i), .int (ci 43 i), .int (ci 44 i), .int (ci 45 i), .ref (ad (31, cr 40 i)), .int (ci 46 i)])
  | 50 => .inr (5, [.ref (ad (40, cr 50 i)), .int (ci 50 i), .int (ci 51 i), .int (ci 52 i)])
  | _ => st0 (k, i)
def cSt (X : GX) (ad : ro → Nat) (st0 : ro → va_E) (ci : Nat → Nat → Int32) (ca : Nat → Nat → Nat → Int32) (cr : Nat → Nat → Nat) : ro → va_E := fun r => cE X ad st0 ci ca cr r.1 r.2
section CS
variable {X : GX} {ad : ro → Nat} {st0 : ro → va_E} {ci ci2 : Nat → Nat → Int32} {ca ca2 : Nat → Nat → Nat → Int32} {cr cr2 : Nat → Nat → Nat}
theorem cSt_up {k i : Nat} {e : va_E} (h1 : cE X ad st0 ci2 ca2 cr2 k i = e) (h2 : ∀ a b : Nat, ¬ (a = k ∧ b = i) → cE X ad st0 ci2 ca2 cr2 a b = cE X ad st0 ci ca cr a b) : sup (cSt X ad st0 ci ca cr) (k, i) e = cSt X ad st0 ci2 ca2 cr2 := by
  funext r
  obtain ⟨a, b⟩ := r
  by_cases h : a = k ∧ b = i
  · obtain ⟨rfl, rfl⟩ := h
    simp [sup, cSt, h1]
  · have hne : ((a, b) : ro) ≠ (k, i) := fun e => h (by injection e with e1 e2; exact ⟨e1, e2⟩)
    simp only [sup, hne, if_false, cSt]
    exact (h2 a b h).symm
theorem cU_1_6 (i : Nat) (v : Int32) : ∀ fs : List Value, cSt X ad st0 ci ca cr (1, i) = .inr (10, fs) → sup (cSt X ad st0 ci ca cr) (1, i) (.inr (10, fs.set 6 (.int v))) = cSt X ad st0 (up2 ci 1 i v) ca cr := by
  intro fs hfs
  have h9 : (Sum.inr (10, [.ref (ad (2, i)), .ref (ad (5, i)), .ref (ad (9, i)), .ref (ad (10, i)), .ref (ad (11, 0)), .ref (ad (11, 1)), .int (ci 1 i)]) : va_E) = Sum.inr (10, fs) := hfs
  injection h9 with h8
  injection h8 with h7 h6
  subst h6
  refine cSt_up ?_ ?_
  · simp [cE, up2]
  · intro a b h
    by_cases ha : a = 1
    · subst ha
      have hb : b ≠ i := fun e => h ⟨rfl, e⟩
      simp [cE, up2, hb]
    · unfold cE
      split <;> first | rfl | exact absurd rfl ha
theorem cU_2_2 (i : Nat) (v : Int32) : ∀ fs : List Value, cSt X ad st0 ci ca cr (2, i) = .inr (7, fs) → sup (cSt X ad st0 ci ca cr) (2, i) (.inr (7, fs.set 2 (.int v))) = cSt X ad st0 (up2 ci 2 i v) ca cr := by
  intro fs hfs
  have h9 : (Sum.inr (7, [.ref (ad (3, i)), .ref (ad (4, i)), .int (ci 2 i), .ref (X.2.2 (cr 2 i)), .int (ci 3 i)]) : va_E) = Sum.inr (7, fs) := hfs
  injection h9 with h8
  injection h8 with h7 h6
  subst h6
  refine cSt_up ?_ ?_
  · simp [cE, up2]
  · intro a b h
    by_cases ha : a = 2
    · subst ha
      have hb : b ≠ i := fun e => h ⟨rfl, e⟩
      simp [cE, up2, hb]
    · unfold cE
      split <;> first | rfl | exact absurd rfl ha
theorem cU_2_4 (i : Nat) (v : Int32) : ∀ fs : List Value, cSt X ad st0 ci ca cr (2, i) = .inr (7, fs) → sup (cSt X ad st0 ci ca cr) (2, i) (.inr (7, fs.set 4 (.int v))) = cSt X ad st0 (up2 ci 3 i v) ca cr := by
  intro fs hfs
  have h9 : (Sum.inr (7, [.ref (ad (3, i)), .ref (ad (4, i)), .int (ci 2 i), .ref (X.2.2 (cr 2 i)), .int (ci 3 i)]) : va_E) = Sum.inr (7, fs) := hfs
  injection h9 with h8
  injection h8 with h7 h6
  subst h6
  refine cSt_up ?_ ?_
  · simp [cE, up2]
  · intro a b h
    by_cases ha : a = 2
    · subst ha
      have hb : b ≠ i := fun e => h ⟨rfl, e⟩
      simp [cE, up2, hb]
    · unfold cE
      split <;> first | rfl | exact absurd rfl ha
theorem cU_5_0 (i : Nat) (v : Int32) : ∀ fs : List Value, cSt X ad st0 ci ca cr (5, i) = .inr (3, fs) → sup (cSt X ad st0 ci ca cr) (5, i) (.inr (3, fs.set 0 (.int v))) = cSt X ad st0 (up2 ci 5 i v) ca cr := by
  intro fs hfs
  have h9 : (Sum.inr (3, [.int (ci 5 i), .ref (ad (6, i)), .ref (ad (7, i)), .ref (ad (8, i)), .int (ci 6 i), .int (ci 7 i)]) : va_E) = Sum.inr (3, fs) := hfs
  injection h9 with h8
  injection h8 with h7 h6
  subst h6
  refine cSt_up ?_ ?_
  · simp [cE, up2]
  · intro a b h
    by_cases ha : a = 5
    · subst ha
      have hb : b ≠ i := fun e => h ⟨rfl, e⟩
      simp [cE, up2, hb]
    · unfold cE
      split <;> first | rfl | exact absurd rfl ha
theorem cU_5_4 (i : Nat) (v : Int32) : ∀ fs : List Value, cSt X ad st0 ci ca cr (5, i) = .inr (3, fs) → sup (cSt X ad st0 ci ca cr) (5, i) (.inr (3, fs.set 4 (.int v))) = cSt X ad st0 (up2 ci 6 i v) ca cr := by
  intro fs hfs
  have h9 : (Sum.inr (3, [.int (ci 5 i), .ref (ad (6, i)), .ref (ad (7, i)), .ref (ad (8, i)), .int (ci 6 i), .int (ci 7 i)]) : va_E) = Sum.inr (3, fs) := hfs
  injection h9 with h8
  injection h8 with h7 h6
  subst h6
  refine cSt_up ?_ ?_
  · simp [cE, up2]
  · intro a b h
    by_cases ha : a = 5
    · subst ha
      have hb : b ≠ i := fun e => h ⟨rfl, e⟩
      simp [cE, up2, hb]
    · unfold cE
      split <;> first | rfl | exact absurd rfl ha
theorem cU_5_5 (i : Nat) (v : Int32) : ∀ fs : List Value, cSt X ad st0 ci ca cr (5, i) = .inr (3, fs) → sup (cSt X ad st0 ci ca cr) (5, i) (.inr (3, fs.set 5 (.int v))) = cSt X ad st0 (up2 ci 7 i v) ca cr := by
  intro fs hfs
  have h9 : (Sum.inr (3, [.int (ci 5 i), .ref (ad (6, i)), .ref (ad (7, i)), .ref (ad (8, i)), .int (ci 6 i), .int (ci 7 i)]) : va_E) = Sum.inr (3, fs) := hfs
  injection h9 with h8
  injection h8 with h7 h6
  subst h6
  refine cSt_up ?_ ?_
  · simp [cE, up2]
  · intro a b h
    by_cases ha : a = 5
    · subst ha
      have hb : b ≠ i := fun e => h ⟨rfl, e⟩
      simp [cE, up2, hb]
    · unfold cE
      split <;> first | rfl | exact absurd rfl ha
theorem cU_11_0 (i : Nat) (v : Int32) : ∀ fs : List Value, cSt X ad st0 ci ca cr (11, i) = .inr (2, fs) → sup (cSt X ad st0 ci ca cr) (11, i) (.inr (2, fs.set 0 (.int v))) = cSt X ad st0 (up2 ci 11 i v) ca cr := by
  intro fs hfs
  have h9 : (Sum.inr (2, [.int (ci 11 i), .ref (if cr 12 i = 0 then X.2.2 30 else ad (12, i)), .int (ci 13 i)]) : va_E) = Sum.inr (2, fs) := hfs
  injection h9 with h8
  injection h8 with h7 h6
  subst h6
  refine cSt_up ?_ ?_
  · simp [cE, up2]
  · intro a b h
    by_cases ha : a = 11
    · subst ha
      have hb : b ≠ i := fun e => h ⟨rfl, e⟩
      simp [cE, up2, hb]
    · unfold cE
      split <;> first | rfl | exact absurd rfl ha
theorem cU_11_2 (i : Nat) (v : Int32) : ∀ fs : List Value, cSt X ad st0 ci ca cr (11, i) = .inr (2, fs) → sup (cSt X ad st0 ci ca cr) (11, i) (.inr (2, fs.set 2 (.int v))) = cSt X ad st0 (up2 ci 13 i v) ca cr := by
  intro fs hfs
  have h9 : (Sum.inr (2, [.int (ci 11 i), .ref (if cr 12 i = 0 then X.2.2 30 else ad (12, i)), .int (ci 13 i)]) : va_E) = Sum.inr (2, fs) := hfs
  injection h9 with h8
  injection h8 with h7 h6
  subst h6
  refine cSt_up ?_ ?_
  · simp [cE, up2]
  · intro a b h
    by_cases ha : a = 11
    · subst ha
      have hb : b ≠ i := fun e => h ⟨rfl, e⟩
      simp [cE, up2, hb]
    · unfold cE
      split <;> first | rfl | exact absurd rfl ha
theorem cU_20_0 (i : Nat) (v : Int32) : ∀ fs : List Value, cSt X ad st0 ci ca cr (20, i) = .inr (8, fs) → sup (cSt X ad st0 ci ca cr) (20, i) (.inr (8, fs.set 0 (.int v))) = cSt X ad st0 (up2 ci 20 i v) ca cr := by
  intro fs hfs
  have h9 : (Sum.inr (8, [.int (ci 20 i), .int (ci 21 i), .int (ci 22 i), .int (ci 23 i), .ref (ad (21, i)), .int (ci 24 i), .int (ci 25 i)]) : va_E) = Sum.inr (8, fs) := hfs
  injection h9 with h8
  injection h8 with h7 h6
  subst h6
  refine cSt_up ?_ ?_
  · simp [cE, up2]
  · intro a b h
    by_cases ha : a = 20
    · subst ha
      have hb : b ≠ i := fun e => h ⟨rfl, e⟩
      simp [cE, up2, hb]
    · unfold cE
      split <;> first | rfl | exact absurd rfl ha
theorem cU_20_1 (i : Nat) (v : Int32) : ∀ fs : List Value, cSt X ad st0 ci ca cr (20, i) = .inr (8, fs) → sup (cSt X ad st0 ci ca cr) (20, i) (.inr (8, fs.set 1 (.int v))) = cSt X ad st0 (up2 ci 21 i v) ca cr := by
  intro fs hfs
  have h9 : (Sum.inr (8, [.int (ci 20 i), .int (ci 21 i), .int (ci 22 i), .int (ci 23 i), .ref (ad (21, i)), .int (ci 24 i), .int (ci 25 i)]) : va_E) = Sum.inr (8, fs) := hfs
  injection h9 with h8
  injection h8 with h7 h6
  subst h6
  refine cSt_up ?_ ?_
  · simp [cE, up2]
  · intro a b h
    by_cases ha : a = 20
    · subst ha
      have hb : b ≠ i := fun e => h ⟨rfl, e⟩
      simp [cE, up2, hb]
    · unfold cE
      split <;> first | rfl | exact absurd rfl ha
theorem cU_20_2 (i : Nat) (v : Int32) : ∀ fs : List Value, cSt X ad st0 ci ca cr (20, i) = .inr (8, fs) → sup (cSt X ad st0 ci ca cr) (20, i) (.inr (8, fs.set 2 (.int v))) = cSt X ad st0 (up2 ci 22 i v) ca cr := by
  intro fs hfs
  have h9 : (Sum.inr (8, [.int (ci 20 i), .int (ci 21 i), .int (ci 22 i), .int (ci 23 i), .ref (ad (21, i)), .int (ci 24 i), .int (ci 25 i)]) : va_E) = Sum.inr (8, fs) := hfs
  injection h9 with h8
  injection h8 with h7 h6
  subst h6
  refine cSt_up ?_ ?_
  · simp [cE, up2]
  · intro a b h
    by_cases ha : a = 20
    · subst ha
      have hb : b ≠ i := fun e => h ⟨rfl, e⟩
      simp [cE, up2, hb]
    · unfold cE
      split <;> first | rfl | exact absurd rfl ha
theorem cU_20_3 (i : Nat) (v : Int32) : ∀ fs : List Value, cSt X ad st0 ci ca cr (20, i) = .inr (8, fs) → sup (cSt X ad st0 ci ca cr) (20, i) (.inr (8, fs.set 3 (.int v))) = cSt X ad st0 (up2 ci 23 i v) ca cr := by
  intro fs hfs
  have h9 : (Sum.inr (8, [.int (ci 20 i), .int (ci 21 i), .int (ci 22 i), .int (ci 23 i), .ref (ad (21, i)), .int (ci 24 i), .int (ci 25 i)]) : va_E) = Sum.inr (8, fs) := hfs
  injection h9 with h8
  injection h8 with h7 h6
  subst h6
  refine cSt_up ?_ ?_
  · simp [cE, up2]
  · intro a b h
    by_cases ha : a = 20
    · subst ha
      have hb : b ≠ i := fun e => h ⟨rfl, e⟩
      simp [cE, up2, hb]
    · unfold cE
      split <;> first | rfl | exact absurd rfl ha
theorem cU_20_5 (i : Nat) (v : Int32) : ∀ fs : List Value, cSt X ad st0 ci ca cr (20, i) = .inr (8, fs) → sup (cSt X ad st0 ci ca cr) (20, i) (.inr (8, fs.set 5 (.int v))) = cSt X ad st0 (up2 ci 24 i v) ca cr := by
  intro fs hfs
  have h9 : (Sum.inr (8, [.int (ci 20 i), .int (ci 21 i), .int (ci 22 i), .int (ci 23 i), .ref (ad (21, i)), .int (ci 24 i), .int (ci 25 i)]) : va_E) = Sum.inr (8, fs) := hfs
  injection h9 with h8
  injection h8 with h7 h6
  subst h6
  refine cSt_up ?_ ?_
  · simp [cE, up2]
  · intro a b h
    by_cases ha : a = 20
    · subst ha
      have hb : b ≠ i := fun e => h ⟨rfl, e⟩
      simp [cE, up2, hb]
    · unfold cE
      split <;> first | rfl | exact absurd rfl ha
theorem cU_20_6 (i : Nat) (v : Int32) : ∀ fs : List Value, cSt X ad st0 ci ca cr (20, i) = .inr (8, fs) → sup (cSt X ad st0 ci ca cr) (20, i) (.inr (8, fs.set 6 (.int v))) = cSt X ad st0 (up2 ci 25 i v) ca cr := by
  intro fs hfs
  have h9 : (Sum.inr (8, [.int (ci 20 i), .int (ci 21 i), .int (ci 22 i), .int (ci 23 i), .ref (ad (21, i)), .int (ci 24 i), .int (ci 25 i)]) : va_E) = Sum.inr (8, fs) := hfs
  injection h9 with h8
  injection h8 with h7 h6
  subst h6
  refine cSt_up ?_ ?_
  · simp [cE, up2]
  · intro a b h
    by_cases ha : a = 20
    · subst ha
      have hb : b ≠ i := fun e => h ⟨rfl, e⟩
      simp [cE, up2, hb]
    · unfold cE
      split <;> first | rfl | exact absurd rfl ha
theorem cU_30_0 (i : Nat) (v : Int32) : ∀ fs : List Value, cSt X ad st0 ci ca cr (30, i) = .inr (4, fs) → sup (cSt X ad st0 ci ca cr) (30, i) (.inr (4, fs.set 0 (.int v))) = cSt X ad st0 (up2 ci 30 i v) ca cr := by
  intro fs hfs
  have h9 : (Sum.inr (4, [.int (ci 30 i), .int (ci 31 i), .int (ci 32 i), .ref (ad (31, cr 30 i)), .int (ci 33 i), .int (ci 34 i), .int (ci 35 i)]) : va_E) = Sum.inr (4, fs) := hfs
  injection h9 with h8
  injection h8 with h7 h6
  subst h6
  refine cSt_up ?_ ?_
  · simp [cE, up2]
  · intro a b h
    by_cases ha : a = 30
    · subst ha
      have hb : b ≠ i := fun e => h ⟨rfl, e⟩
      simp [cE, up2, hb]
    · unfold cE
      split <;> first | rfl | exact absurd rfl ha
theorem cU_30_1 (i : Nat) (v : Int32) : ∀ fs : List Value, cSt X ad st0 ci ca cr (30, i) = .inr (4, fs) → sup (cSt X ad st0 ci ca cr) (30, i) (.inr (4, fs.set 1 (.int v))) = cSt X ad st0 (up2 ci 31 i v) ca cr := by
  intro fs hfs
  have h9 : (Sum.inr (4, [.int (ci 30 i), .int (ci 31 i), .int (ci 32 i), .ref (ad (31, cr 30 i)), .int (ci 33 i), .int (ci 34 i), .int (ci 35 i)]) : va_E) = Sum.inr (4, fs) := hfs
  injection h9 with h8
  injection h8 with h7 h6
  subst h6
  refine cSt_up ?_ ?_
  · simp [cE, up2]
  · intro a b h
    by_cases ha : a = 30
    · subst ha
      have hb : b ≠ i := fun e => h ⟨rfl, e⟩
      simp [cE, up2, hb]
    · unfold cE
      split <;> first | rfl | exact absurd rfl ha
theorem cU_30_2 (i : Nat) (v : Int32) : ∀ fs : List Value, cSt X ad st0 ci ca cr (30, i) = .inr (4, fs) → sup (cSt X ad st0 ci ca cr) (30, i) (.inr (4, fs.set 2 (.int v))) = cSt X ad st0 (up2 ci 32 i v) ca cr := by
  intro fs hfs
  have h9 : (Sum.inr (4, [.int (ci 30 i), .int (ci 31 i), .int (ci 32 i), .ref (ad (31, cr 30 i)), .int (ci 33 i), .int (ci 34 i), .int (ci 35 i)]) : va_E) = Sum.inr (4, fs) := hfs
  injection h9 with h8
  injection h8 with h7 h6
  subst h6
  refine cSt_up ?_ ?_
  · simp [cE, up2]
  · intro a b h
    by_cases ha : a = 30
    · subst ha
      have hb : b ≠ i := fun e => h ⟨rfl, e⟩
      simp [cE, up2, hb]
    · unfold cE
      split <;> first | rfl | exact absurd rfl ha
theorem cU_30_4 (i : Nat) (v : Int32) : ∀ fs : List Value, cSt X ad st0 ci ca cr (30, i) = .inr (4, fs) → sup (cSt X ad st0 ci ca cr) (30, i) (.inr (4, fs.set 4 (.int v))) = cSt X ad st0 (up2 ci 33 i v) ca cr := by
  intro fs hfs
  have h9 : (Sum.inr (4, [.int (ci 30 i), .int (ci 31 i), .int (ci 32 i), .ref (ad (31, cr 30 i)), .int (ci 33 i), .int (ci 34 i), .int (ci 35 i)]) : va_E) = Sum.inr (4, fs) := hfs
  injection h9 with h8
  injection h8 with h7 h6
  subst h6
  refine cSt_up ?_ ?_
  · simp [cE, up2]
  · intro a b h
    by_cases ha : a = 30
    · subst ha
      have hb : b ≠ i := fun e => h ⟨rfl, e⟩
      simp [cE, up2, hb]
    · unfold cE
      split <;> first | rfl | exact absurd rfl ha
theorem cU_30_5 (i : Nat) (v : Int32) : ∀ fs : List Value, cSt X ad st0 ci ca cr (30, i) = .inr (4, fs) → sup (cSt X ad st0 ci ca cr) (30, i) (.inr (4, fs.set 5 (.int v))) = cSt X ad st0 (up2 ci 34 i v) ca cr := by
  intro fs hfs
  have h9 : (Sum.inr (4, [.int (ci 30 i), .int (ci 31 i), .int (ci 32 i), .ref (ad (31, cr 30 i)), .int (ci 33 i), .int (ci 34 i), .int (ci 35 i)]) : va_E) = Sum.inr (4, fs) := hfs
  injection h9 with h8
  injection h8 with h7 h6
  subst h6
  refine cSt_up ?_ ?_
  · simp [cE, up2]
  · intro a b h
    by_cases ha : a = 30
    · subst ha
      have hb : b ≠ i := fun e => h ⟨rfl, e⟩
      simp [cE, up2, hb]
    · unfold cE
      split <;> first | rfl | exact absurd rfl ha
theorem cU_30_6 (i : Nat) (v : Int32) : ∀ fs : List Value, cSt X ad st0 ci ca cr (30, i) = .inr (4, fs) → sup (cSt X ad st0 ci ca cr) (30, i) (.inr (4, fs.set 6 (.int v))) = cSt X ad st0 (up2 ci 35 i v) ca cr := by
  intro fs hfs
  have h9 : (Sum.inr (4, [.int (ci 30 i), .int (ci 31 i), .int (ci 32 i), .ref (ad (31, cr 30 i)), .int (ci 33 i), .int (ci 34 i), .int (ci 35 i)]) : va_E) = Sum.inr (4, fs) := hfs
  injection h9 with h8
  injection h8 with h7 h6
  subst h6
  refine cSt_up ?_ ?_
  · simp [cE, up2]
  · intro a b h
    by_cases ha : a = 30
    · subst ha
      have hb : b ≠ i := fun e => h ⟨rfl, e⟩
      simp [cE, up2, hb]
    · unfold cE
      split <;> first | rfl | exact absurd rfl ha
theorem cU_50_2 (i : Nat) (v : Int32) : ∀ fs : List Value, cSt X ad st0 ci ca cr (50, i) = .inr (5, fs) → sup (cSt X ad st0 ci ca cr) (50, i) (.inr (5, fs.set 2 (.int v))) = cSt X ad st0 (up2 ci 51 i v) ca cr := by
  intro fs hfs
  have h9 : (Sum.inr (5, [.ref (ad (40, cr 50 i)), .int (ci 50 i), .int (ci 51 i), .int (ci 52 i)]) : va_E) = Sum.inr (5, fs) := hfs
  injection h9 with h8
  injection h8 with h7 h6
  subst h6
  refine cSt_up ?_ ?_
  · simp [cE, up2]
  · intro a b h
    by_cases ha : a = 50
    · subst ha
      have hb : b ≠ i := fun e => h ⟨rfl, e⟩
      simp [cE, up2, hb]
    · unfold cE
      split <;> first | rfl | exact absurd rfl ha
theorem cU_50_3 (i : Nat) (v : Int32) : ∀ fs : List Value, cSt X ad st0 ci ca cr (50, i) = .inr (5, fs) → sup (cSt X ad st0 ci ca cr) (50, i) (.inr (5, fs.set 3 (.int v))) = cSt X ad st0 (up2 ci 52 i v) ca cr := by
  intro fs hfs
  have h9 : (Sum.inr (5, [.ref (ad (40, cr 50 i)), .int (ci 50 i), .int (ci 51 i), .int (ci 52 i)]) : va_E) = Sum.inr (5, fs) := hfs
  injection h9 with h8
  injection h8 with h7 h6
  subst h6
  refine cSt_up ?_ ?_
  · simp [cE, up2]
  · intro a b h
    by_cases ha : a = 50
    · subst ha
      have hb : b ≠ i := fun e => h ⟨rfl, e⟩
      simp [cE, up2, hb]
    · unfold cE
      split <;> first | rfl | exact absurd rfl ha
theorem cR_3 (i : Nat) (g : Nat → Int32) : sup (cSt X ad st0 ci ca cr) (3, i) (.inl (X.2.1 1, 60, .inl g)) = cSt X ad st0 ci (ua2 ca 3 i g) cr := by
  refine cSt_up ?_ ?_
  · simp [cE, ua2]
  · intro a b h
    by_cases ha : a = 3
    · subst ha
      have hb : b ≠ i := fun e => h ⟨rfl, e⟩
      simp [cE, ua2, hb]
    · unfold cE
      split <;> first | rfl | exact absurd rfl ha
theorem cR_4 (i : Nat) (g : Nat → Int32) : sup (cSt X ad st0 ci ca cr) (4, i) (.inl (X.2.1 2, 6, .inl g)) = cSt X ad st0 ci (ua2 ca 4 i g) cr := by
  refine cSt_up ?_ ?_
  · simp [cE, ua2]
  · intro a b h
    by_cases ha : a = 4
    · subst ha
      have hb : b ≠ i := fun e => h ⟨rfl, e⟩
      simp [cE, ua2, hb]
    · unfold cE
      split <;> first | rfl | exact absurd rfl ha
theorem cR_6 (i : Nat) (g : Nat → Int32) : sup (cSt X ad st0 ci ca cr) (6, i) (.inl (X.2.1 2, 512, .inl g)) = cSt X ad st0 ci (ua2 ca 6 i g) cr := by
  refine cSt_up ?_ ?_
  · simp [cE, ua2]
  · intro a b h
    by_cases ha : a = 6
    · subst ha
      have hb : b ≠ i := fun e => h ⟨rfl, e⟩
      simp [cE, ua2, hb]
    · unfold cE
      split <;> first | rfl | exact absurd rfl ha
theorem cR_7 (i : Nat) (g : Nat → Int32) : sup (cSt X ad st0 ci ca cr) (7, i) (.inl (X.2.1 2, 512, .inl g)) = cSt X ad st0 ci (ua2 ca 7 i g) cr := by
  refine cSt_up ?_ ?_
  · simp [cE, ua2]
  · intro a b h
    by_cases ha : a = 7
    · subst ha
      have hb : b ≠ i := fun e => h ⟨rfl, e⟩
      simp [cE, ua2, hb]
    · unfold cE
      split <;> first | rfl | exact absurd rfl ha
theorem cR_8 (i : Nat) (g : Nat → Int32) : sup (cSt X ad st0 ci ca cr) (8, i) (.inl (X.2.1 3, 512, .inl g)) = cSt X ad st0 ci (ua2 ca 8 i g) cr := by
  refine cSt_up ?_ ?_
  · simp [cE, ua2]
  · intro a b h
    by_cases ha : a = 8
    · subst ha
      have hb : b ≠ i := fun e => h ⟨rfl, e⟩
      simp [cE, ua2, hb]
    · unfold cE
      split <;> first | rfl | exact absurd rfl ha
theorem cR_21 (i : Nat) (g : Nat → Int32) : sup (cSt X ad st0 ci ca cr) (21, i) (.inl (X.2.1 2, 50, .inl g)) = cSt X ad st0 ci (ua2 ca 21 i g) cr := by
  refine cSt_up ?_ ?_
  · simp [cE, ua2]
  · intro a b h
    by_cases ha : a = 21
    · subst ha
      have hb : b ≠ i := fun e => h ⟨rfl, e⟩
      simp [cE, ua2, hb]
    · unfold cE
      split <;> first | rfl | exact absurd rfl ha
theorem cU_2_3 (i v : Nat) : sup (cSt X ad st0 ci ca cr) (2, i) (.inr (7, [.ref (ad (3, i)), .ref (ad (4, i)), .int (ci 2 i), .ref (X.2.2 v), .int (ci 3 i)])) = cSt X ad st0 ci ca (ur2 cr 2 i v) := by
  refine cSt_up ?_ ?_
  · simp [cE, ur2]
  · intro a b h
    by_cases ha : a = 2
    · subst ha
      have hb : b ≠ i := fun e => h ⟨rfl, e⟩
      simp [cE, ur2, hb]
    · unfold cE
      split <;> first | rfl | exact absurd rfl ha
theorem cU_30_3 (i v : Nat) : sup (cSt X ad st0 ci ca cr) (30, i) (.inr (4, [.int (ci 30 i), .int (ci 31 i), .int (ci 32 i), .ref (ad (31, v)), .int (ci 33 i), .int (ci 34 i), .int (ci 35 i)])) = cSt X ad st0 ci ca (ur2 cr 30 i v) := by
  refine cSt_up ?_ ?_
  · simp [cE, ur2]
  · intro a b h
    by_cases ha : a = 30
    · subst ha
      have hb : b ≠ i := fun e => h ⟨rfl, e⟩
      simp [cE, ur2, hb]
    · unfold cE
      split <;> first | rfl | exact absurd rfl ha
end CS
/-- a method of the class that makes nothing -/
abbrev cM (l : Launch) (z : MethodName) (b : ByteArray) (n : Nat) (ret : Option FieldType) (fr lc : Nat) (X : GX) (As : List Value) (L : List ro) (ad : ro → Nat) (st0 : ro → va_E) (ci : Nat → Nat → Int32) (ca : Nat → Nat → Nat → Int32) (cr : Nat → Nat → Nat) (P : Int32 → (Nat → Nat → Int32) → (Nat → Nat → Nat → Int32) → (Nat → Nat → Nat) → Prop) : Prop :=
  gMi l z b n ret fr lc 0 0 X As L ad (cSt X ad st0 ci ca cr) (fun v u => ∃ ci' ca' cr', u = (L, ad, cSt X ad st0 ci' ca' cr') ∧ P v ci' ca' cr')
abbrev cMv (l : Launch) (z : MethodName) (b : ByteArray) (n : Nat) (ret : Option FieldType) (fr lc : Nat) (X : GX) (As : List Value) (L : List ro) (ad : ro → Nat) (st0 : ro → va_E) (ci : Nat → Nat → Int32) (ca : Nat → Nat → Nat → Int32) (cr : Nat → Nat → Nat) (P : (Nat → Nat → Int32) → (Nat → Nat → Nat → Int32) → (Nat → Nat → Nat) → Prop) : Prop :=
  gMv l z b n ret fr lc 0 0 X As L ad (cSt X ad st0 ci ca cr) (fun u => ∃ ci' ca' cr', u = (L, ad, cSt X ad st0 ci' ca' cr') ∧ P ci' ca' cr')
