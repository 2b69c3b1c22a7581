/-! counting: how the class's rows and the reference's are held together -/
def cN (P : Nat → Bool) : Nat → Nat
  | 0 => 0
  | k + 1 => if P k then cN P k + 1 else cN P k
theorem cN_le (P : Nat → Bool) : ∀ k, cN P k ≤ k
  | 0 => Nat.le_refl _
  | k + 1 => by
    have h := cN_le P k
    rw [cN]
    split <;> omega
theorem cN_congr {P Q : Nat → Bool} : ∀ {k : Nat}, (∀ j, j < k → P j = Q j) → cN P k = cN Q k
  | 0, _ => rfl
  | k + 1, h => by
    rw [cN, cN, h k (Nat.lt_succ_self _), cN_congr (k := k) (fun j hj => h j (by omega))]
theorem cN_all {P : Nat → Bool} : ∀ {k : Nat}, (∀ j, j < k → P j = true) → cN P k = k
  | 0, _ => rfl
  | k + 1, h => by rw [cN, h k (Nat.lt_succ_self _), if_pos rfl, cN_all (k := k) (fun j hj => h j (by omega))]
theorem cN_lt {P : Nat → Bool} {p : Nat} (h : P p = false) : ∀ {k : Nat}, p < k → cN P k < k
  | k + 1, hk => by
    have h1 := cN_le P k
    rw [cN]
    by_cases e : p = k
    · subst e; rw [h]; simp; omega
    · have := cN_lt h (k := k) (by omega)
      split <;> omega
theorem cN_up {P Q : Nat → Bool} {p : Nat} (h : ∀ j, j ≠ p → Q j = P j) : ∀ {k : Nat}, p < k → cN Q k + (if P p then 1 else 0) = cN P k + (if Q p then 1 else 0)
  | k + 1, hk => by
    rw [cN, cN]
    by_cases e : p = k
    · subst e
      rw [cN_congr (P := Q) (Q := P) (k := p) (fun j hj => h j (by omega))]
      cases P p <;> cases Q p <;> simp
    · have := cN_up h (k := k) (by omega)
      rw [h k (fun q => e q.symm)]
      by_cases hP : P k = true
      · rw [if_pos hP, if_pos hP]; omega
      · rw [if_neg hP, if_neg hP]; omega
theorem cntL_N {f : Nat → Int32} {m : Int32} : ∀ k, cntL f m k = nI (cN (fun j => decide (m < f j)) k)
  | 0 => rfl
  | k + 1 => by
    rw [cntL, cN, cntL_N k]
    by_cases h : m < f k
    · rw [if_pos h, if_pos (by simp [h])]; exact nI_1 _
    · rw [if_neg h, if_neg (by simp [h])]
theorem cntB_N {s m li : Nat → Int32} {sh mn : Int32} : ∀ k, cntB s m li sh mn k = nI (cN (fun j => decide (s j = sh ∧ mn < m j ∧ li j = 0)) k)
  | 0 => rfl
  | k + 1 => by
    rw [cntB, cN, cntB_N k]
    by_cases h : s k = sh ∧ mn < m k ∧ li k = 0
    · rw [if_pos h, if_pos (by simp [h])]; exact nI_1 _
    · rw [if_neg h, if_neg (by simpa using h)]
theorem cntW_N {cm cs : Nat → Int32} {sh now win : Int32} : ∀ k, cntW cm cs sh now win k = nI (cN (fun j => decide (cs j = sh ∧ now - cm j < win)) k)
  | 0 => rfl
  | k + 1 => by
    rw [cntW, cN, cntW_N k]
    by_cases h : cs k = sh ∧ now - cm k < win
    · rw [if_pos h, if_pos (by simp [h])]; exact nI_1 _
    · rw [if_neg h, if_neg (by simpa using h)]; exact Int32.add_zero _
/-- behind a minute, as the class asks and as the reference asks -/
theorem thr_a {v wi x : Nat} (hv : v ≤ 20000) (hw : wi ≤ 1440) (hx : x ≤ 20000) : nI v - nI wi < nI x ↔ v < x + wi := by
  rw [Int32.lt_iff_toInt_lt, pk_sub_toInt (by omega) (by omega), nI_toInt (by omega)]
  omega
theorem thr_b {v wi x : Nat} (hv : v ≤ 20000) (hw : wi ≤ 1440) (hx : x ≤ 20000) : nI v - nI x < nI wi ↔ v < x + wi := by
  rw [Int32.lt_iff_toInt_lt, pk_sub_toInt (by omega) (by omega), nI_toInt (by omega)]
  omega
/-- the ring of a shipper's kept calls: in order from nx on, round -/
def rgO (f : Nat → Int32) (kp nx w : Nat) : Prop := kp ≤ 50 ∧ nx ≤ kp ∧ (kp < 50 → nx = kp) ∧ ∃ g : Nat → Nat, (∀ j, j < kp → f j = nI (g j) ∧ g j ≤ w) ∧ (∀ i j, i ≤ j → j < nx → g i ≤ g j) ∧ (∀ i j, nx ≤ i → i ≤ j → j < kp → g i ≤ g j) ∧ ∀ i j, j < nx → nx ≤ i → i < kp → g i ≤ g j
theorem rgO_wrap {f : Nat → Int32} {w : Nat} (h : rgO f 50 50 w) : rgO f 50 0 w := by
  obtain ⟨h1, h2, h3, g, g1, g2, g3, g4⟩ := h
  exact ⟨h1, Nat.zero_le _, fun q => absurd q (Nat.lt_irrefl _), g, g1, fun i j _ q => absurd q (Nat.not_lt_zero _), fun i j _ q1 q2 => g2 i j q1 q2, fun i j q => absurd q (Nat.not_lt_zero _)⟩
theorem rgO_mono {f : Nat → Int32} {kp nx w w2 : Nat} (hw : w ≤ w2) (h : rgO f kp nx w) : rgO f kp nx w2 := by
  obtain ⟨h1, h2, h3, g, g1, g2⟩ := h
  exact ⟨h1, h2, h3, g, fun j hj => ⟨(g1 j hj).1, Nat.le_trans (g1 j hj).2 hw⟩, g2⟩
theorem rgO_step {f : Nat → Int32} {kp nx w : Nat} (h : rgO f kp nx w) (hn : nx < 50) : rgO (upd f nx (nI w)) (if kp < nx + 1 then nx + 1 else kp) (nx + 1) w := by
  obtain ⟨h1, h2, h3, g, g1, g2, g3, g4⟩ := h
  have hkp : (if kp < nx + 1 then nx + 1 else kp) = if kp < 50 then nx + 1 else 50 := by
    split <;> split <;> omega
  rw [hkp]
  refine ⟨by split <;> omega, by split <;> omega, fun q => by revert q; split <;> omega, fun j => if j = nx then w else g j, fun j hj => ?_, fun i j hij hj => ?_, fun i j h5 h6 h7 => ?_, fun i j h5 h6 h7 => ?_⟩
  · by_cases e : j = nx
    · subst e; simp [upd]
    · have hj2 : j < kp := by revert hj; split <;> omega
      simp only [upd, e, if_false]
      exact g1 j hj2
  · show (if i = nx then w else g i) ≤ (if j = nx then w else g j)
    by_cases e : j = nx
    · subst e
      rw [if_pos rfl]
      by_cases e2 : i = j
      · rw [if_pos e2]; exact Nat.le_refl _
      · rw [if_neg e2]; exact (g1 i (by omega)).2
    · rw [if_neg e, if_neg (by omega)]
      exact g2 i j hij (by omega)
  · have hk : kp = 50 := by
      by_cases q : kp < 50
      · rw [if_pos q] at h7; omega
      · omega
    subst hk
    rw [if_neg (by decide)] at h7
    show (if i = nx then w else g i) ≤ (if j = nx then w else g j)
    rw [if_neg (by omega), if_neg (by omega)]
    exact g3 i j (by omega) h6 (by omega)
  · have hk : kp = 50 := by
      by_cases q : kp < 50
      · rw [if_pos q] at h7; omega
      · omega
    subst hk
    rw [if_neg (by decide)] at h7
    show (if i = nx then w else g i) ≤ (if j = nx then w else g j)
    rw [if_neg (show ¬ i = nx by omega)]
    by_cases e : j = nx
    · rw [if_pos e]; exact (g1 i (by omega)).2
    · rw [if_neg e]; exact g4 i j (by omega) (by omega) (by omega)
/-- calls of shipper s in the window, as the reference counts them -/
def cA (cm cs : Nat → Int32) (s v wi nc : Nat) : Nat := cN (fun j => decide (cs j = nI s ∧ nI v - cm j < nI wi)) nc
def cR (f : Nat → Int32) (v wi kp : Nat) : Nat := cN (fun j => decide (nI v - nI wi < f j)) kp
theorem cA_step {cm cs : Nat → Int32} {s s2 v wi nc w : Nat} (hv : v ≤ 20000) (hwi : wi ≤ 1440) (hw : w ≤ 20000) (hs : s < 6) (hs2 : s2 < 6) : cA (upd cm nc (nI w)) (upd cs nc (nI s2)) s v wi (nc + 1) = cA cm cs s v wi nc + (if s2 = s ∧ v < w + wi then 1 else 0) := by
  unfold cA
  rw [cN]
  rw [cN_congr (Q := fun j => decide (cs j = nI s ∧ nI v - cm j < nI wi)) (k := nc) (fun j hj => by simp [upd, Nat.ne_of_lt hj])]
  have e : (decide (upd cs nc (nI s2) nc = nI s ∧ nI v - upd cm nc (nI w) nc < nI wi)) = decide (s2 = s ∧ v < w + wi) := by
    simp only [upd, if_true]
    rw [decide_eq_decide, nI_eq (by omega) (by omega), thr_b hv hwi hw]
  simp only [e]
  by_cases q : s2 = s ∧ v < w + wi
  · rw [if_pos (by simpa using q), if_pos q]
  · rw [if_neg (by simpa using q), if_neg q]; rfl
/-- kept calls against all calls: never more than fifty are asked for -/
def rRg (s nc w : Nat) (cm cs f : Nat → Int32) (kp nx : Nat) : Prop := rgO f kp nx w ∧ ∀ v wi, v ≤ 20000 → wi ≤ 1440 → cR f v wi kp = min (cA cm cs s v wi nc) 50
theorem cR_step {f : Nat → Int32} {cm cs : Nat → Int32} {s nc kp nx w v wi : Nat} (h : rgO f kp nx w) (hn : nx < 50) (hv : v ≤ 20000) (hwi : wi ≤ 1440) (hw : w ≤ 20000) (hs : s < 6) (hc : cR f v wi kp = min (cA cm cs s v wi nc) 50) : cR (upd f nx (nI w)) v wi (if kp < nx + 1 then nx + 1 else kp) = min (cA (upd cm nc (nI w)) (upd cs nc (nI s)) s v wi (nc + 1)) 50 := by
  rw [cA_step hv hwi hw hs hs]
  have e1 : (if s = s ∧ v < w + wi then 1 else 0) = if v < w + wi then 1 else 0 := by simp
  rw [e1]
  obtain ⟨h1, h2, h3, g, g1, g2, g3, g4⟩ := h
  have hnew : decide (nI v - nI wi < upd f nx (nI w) nx) = decide (v < w + wi) := by
    simp only [upd, if_true]
    rw [decide_eq_decide, thr_a hv hwi hw]
  have hold : ∀ j, j ≠ nx → decide (nI v - nI wi < upd f nx (nI w) j) = decide (nI v - nI wi < f j) := fun j hj => by simp [upd, hj]
  by_cases hk : kp < 50
  · have e : nx = kp := h3 hk
    subst e
    rw [if_pos (Nat.lt_succ_self _)]
    have hle : cR f v wi nx ≤ nx := cN_le _ _
    have e2 : cR (upd f nx (nI w)) v wi (nx + 1) = cR f v wi nx + (if v < w + wi then 1 else 0) := by
      unfold cR
      rw [cN]
      rw [cN_congr (Q := fun j => decide (nI v - nI wi < f j)) (k := nx) (fun j hj => hold j (Nat.ne_of_lt hj))]
      simp only [hnew]
      by_cases q : v < w + wi
      · rw [if_pos (by simpa using q), if_pos q]
      · rw [if_neg (by simpa using q), if_neg q]; rfl
    rw [e2]
    split <;> omega
  · have hk5 : kp = 50 := by omega
    subst hk5
    rw [if_neg (by omega)]
    have hup := cN_up (P := fun j => decide (nI v - nI wi < f j)) (Q := fun j => decide (nI v - nI wi < upd f nx (nI w) j)) (p := nx) hold hn
    simp only [hnew] at hup
    have hf : ∀ j, j < 50 → (nI v - nI wi < f j ↔ v < g j + wi) := fun j hj => by
      rw [(g1 j hj).1]
      exact thr_a hv hwi (Nat.le_trans (g1 j hj).2 hw)
    have hmin : ∀ j, j < 50 → g nx ≤ g j := fun j hj => by
      by_cases q : j < nx
      · exact g4 nx j q (Nat.le_refl _) hn
      · exact g3 nx j (Nat.le_refl _) (by omega) hj
    change cR (upd f nx (nI w)) v wi 50 + _ = cR f v wi 50 + _ at hup
    have hfx := hf nx hn
    by_cases q : v < w + wi
    · rw [if_pos q]
      by_cases qo : v < g nx + wi
      · simp only [decide_eq_true q, decide_eq_true (hfx.mpr qo), if_true] at hup
        have h50 : cR f v wi 50 = 50 := cN_all (fun j hj => by simpa using (hf j hj).mpr (by have := hmin j hj; omega))
        omega
      · simp only [decide_eq_true q, decide_eq_false (fun z => qo (hfx.mp z)), if_true, Bool.false_eq_true, if_false] at hup
        have hlt : cR f v wi 50 < 50 := cN_lt (p := nx) (decide_eq_false (fun z => qo (hfx.mp z))) hn
        omega
    · rw [if_neg q]
      have qo : ¬ v < g nx + wi := fun z => q (by have := (g1 nx hn).2; omega)
      simp only [decide_eq_false q, decide_eq_false (fun z => qo (hfx.mp z)), Bool.false_eq_true, if_false] at hup
      omega
theorem rRg_keep {f cm cs : Nat → Int32} {s nc kp nx w : Nat} (hs : s < 6) (hw : w ≤ 20000) (h : rRg s nc w cm cs f kp nx) : rRg s (nc + 1) w (upd cm nc (nI w)) (upd cs nc (nI s)) (upd f (if nx < 50 then nx else 0) (nI w)) (if kp < (if nx < 50 then nx else 0) + 1 then (if nx < 50 then nx else 0) + 1 else kp) ((if nx < 50 then nx else 0) + 1) := by
  by_cases hn : nx < 50
  · rw [if_pos hn]
    exact ⟨rgO_step h.1 hn, fun v wi hv hwi => cR_step h.1 hn hv hwi hw hs (h.2 v wi hv hwi)⟩
  · rw [if_neg hn]
    obtain ⟨⟨k1, k2, k3, g⟩, hc⟩ := h
    have e1 : kp = 50 := by omega
    have e2 : nx = 50 := by omega
    subst e1; subst e2
    have h0 : rgO f 50 0 w := rgO_wrap ⟨k1, k2, k3, g⟩
    exact ⟨rgO_step h0 (by decide), fun v wi hv hwi => cR_step h0 (by decide) hv hwi hw hs (hc v wi hv hwi)⟩
theorem rRg_other {f cm cs : Nat → Int32} {s s2 nc kp nx w : Nat} (hs : s < 6) (hs2 : s2 < 6) (hne : s2 ≠ s) (hw : w ≤ 20000) (h : rRg s nc w cm cs f kp nx) : rRg s (nc + 1) w (upd cm nc (nI w)) (upd cs nc (nI s2)) f kp nx :=
  ⟨h.1, fun v wi hv hwi => by rw [cA_step hv hwi hw hs hs2, if_neg (fun q => hne q.1)]; exact h.2 v wi hv hwi⟩
theorem rRg_mono {f cm cs : Nat → Int32} {s nc kp nx w w2 : Nat} (hw : w ≤ w2) (h : rRg s nc w cm cs f kp nx) : rRg s nc w2 cm cs f kp nx := ⟨rgO_mono hw h.1, h.2⟩
theorem rRg_0 {f cm cs : Nat → Int32} {s w : Nat} : rRg s 0 w cm cs f 0 0 := ⟨⟨by decide, by decide, fun _ => rfl, fun _ => 0, fun j hj => absurd hj (Nat.not_lt_zero _), fun i j _ hj => absurd hj (Nat.not_lt_zero _), fun i j _ _ hj => absurd hj (Nat.not_lt_zero _), fun i j hj => absurd hj (Nat.not_lt_zero _)⟩, fun v wi _ _ => rfl⟩
/-- the log of all calls against the counted ones -/
def rLg (tot nc : Nat) (cm cs s m li : Nat → Int32) : Prop := ∀ x v wi, x < 6 → v ≤ 20000 → wi ≤ 1440 → cN (fun j => decide (s j = nI x ∧ nI v - nI wi < m j ∧ li j = 0)) tot = cA cm cs x v wi nc
theorem rLg_no {tot nc w s2 : Nat} {cm cs s m li : Nat → Int32} (h : rLg tot nc cm cs s m li) : rLg (tot + 1) nc cm cs (upd s tot (nI s2)) (upd m tot (nI w)) (upd li tot 1) := fun x v wi hx hv hwi => by
  rw [cN]
  rw [cN_congr (Q := fun j => decide (s j = nI x ∧ nI v - nI wi < m j ∧ li j = 0)) (k := tot) (fun j hj => by simp [upd, Nat.ne_of_lt hj])]
  rw [if_neg (by simp [upd])]
  exact h x v wi hx hv hwi
theorem rLg_yes {tot nc w s2 : Nat} {cm cs s m li : Nat → Int32} (hs2 : s2 < 6) (hw : w ≤ 20000) (h : rLg tot nc cm cs s m li) : rLg (tot + 1) (nc + 1) (upd cm nc (nI w)) (upd cs nc (nI s2)) (upd s tot (nI s2)) (upd m tot (nI w)) (upd li tot 0) := fun x v wi hx hv hwi => by
  rw [cA_step hv hwi hw hx hs2, cN]
  rw [cN_congr (Q := fun j => decide (s j = nI x ∧ nI v - nI wi < m j ∧ li j = 0)) (k := tot) (fun j hj => by simp [upd, Nat.ne_of_lt hj])]
  rw [h x v wi hx hv hwi]
  have e : decide (upd s tot (nI s2) tot = nI x ∧ nI v - nI wi < upd m tot (nI w) tot ∧ upd li tot 0 tot = 0) = decide (s2 = x ∧ v < w + wi) := by
    simp only [upd, if_true, and_true]
    rw [decide_eq_decide, nI_eq (by omega) (by omega), thr_a hv hwi hw]
  simp only [e]
  by_cases q : s2 = x ∧ v < w + wi
  · rw [if_pos (by simpa using q), if_pos q]
  · rw [if_neg (by simpa using q), if_neg q]; rfl
theorem lft_R {q : Nat} {f cm cs : Nat → Int32} {s nc kp nx w v wi : Nat} (hq : q ≤ 50) (hv : v ≤ 20000) (hwi : wi ≤ 1440) (hnc : nc ≤ 2000) (h : rRg s nc w cm cs f kp nx) : lftC (nI q) (cntL f (nI v - nI wi) kp) = lft (nI q) (cntW cm cs (nI s) (nI v) (nI wi) nc) := by
  rw [cntL_N, cntW_N]
  have h1 := h.2 v wi hv hwi
  have h2 : cA cm cs s v wi nc ≤ nc := cN_le _ _
  unfold cR at h1
  unfold cA at h1 h2
  rw [h1]
  generalize cN (fun j => decide (cs j = nI s ∧ nI v - cm j < nI wi)) nc = a at h2 ⊢
  unfold lftC lft
  have i1 : (nI q - nI (min a 50)).toInt = (q : Int) - (min a 50 : Nat) := pk_sub_toInt (by omega) (by omega)
  have i2 : (nI q - nI a).toInt = (q : Int) - (a : Nat) := pk_sub_toInt (by omega) (by omega)
  have z : (0 : Int32).toInt = 0 := rfl
  by_cases c : q < a
  · rw [if_neg (by rw [Int32.lt_iff_toInt_lt, i1, z]; omega), if_pos (by rw [Int32.lt_iff_toInt_lt, i2, z]; omega)]
  · have e : min a 50 = a := by omega
    rw [e] at i1 ⊢
    rw [if_neg (show ¬ nI q - nI a < 0 by rw [Int32.lt_iff_toInt_lt, i2, z]; omega)]
    by_cases c2 : q = a
    · subst c2
      rw [if_neg (by rw [Int32.lt_iff_toInt_lt, i1, z]; omega)]
      exact (Int32.sub_self _).symm
    · rw [if_pos (by rw [Int32.lt_iff_toInt_lt, i1, z]; omega)]
theorem lft_L {q : Nat} {cm cs s m li : Nat → Int32} {x tot nc v wi : Nat} (hq : q ≤ 50) (hx : x < 6) (hv : v ≤ 20000) (hwi : wi ≤ 1440) (hnc : nc ≤ 2000) (h : rLg tot nc cm cs s m li) : lftC (nI q) (cntB s m li (nI x) (nI v - nI wi) tot) = lft (nI q) (cntW cm cs (nI x) (nI v) (nI wi) nc) := by
  rw [cntB_N, cntW_N, h x v wi hx hv hwi]
  have h2 : cA cm cs x v wi nc ≤ nc := cN_le _ _
  unfold cA at h2 ⊢
  generalize cN (fun j => decide (cs j = nI x ∧ nI v - cm j < nI wi)) nc = a at h2 ⊢
  unfold lftC lft
  have i2 : (nI q - nI a).toInt = (q : Int) - (a : Nat) := pk_sub_toInt (by omega) (by omega)
  have z : (0 : Int32).toInt = 0 := rfl
  by_cases c : q < a
  · rw [if_neg (by rw [Int32.lt_iff_toInt_lt, i2, z]; omega), if_pos (by rw [Int32.lt_iff_toInt_lt, i2, z]; omega)]
  · rw [if_neg (show ¬ nI q - nI a < 0 by rw [Int32.lt_iff_toInt_lt, i2, z]; omega)]
    by_cases c2 : q = a
    · subst c2
      rw [if_neg (by rw [Int32.lt_iff_toInt_lt, i2, z]; omega)]
      exact (Int32.sub_self _).symm
    · rw [if_pos (by rw [Int32.lt_iff_toInt_lt, i2, z]; omega)]
/-- limited, of the class and of the reference -/
theorem lim_R {q : Nat} {f cm cs : Nat → Int32} {s nc kp nx w v wi : Nat} (hq : q ≤ 50) (hv : v ≤ 20000) (hwi : wi ≤ 1440) (hnc : nc ≤ 2000) (h : rRg s nc w cm cs f kp nx) : lftC (nI q) (cntL f (nI v - nI wi) kp) = 0 ↔ nI q ≤ cntW cm cs (nI s) (nI v) (nI wi) nc := by
  rw [lft_R hq hv hwi hnc h, cntW_N]
  have h2 : cA cm cs s v wi nc ≤ nc := cN_le _ _
  unfold cA at h2
  generalize cN (fun j => decide (cs j = nI s ∧ nI v - cm j < nI wi)) nc = a at h2 ⊢
  unfold lft
  have i2 : (nI q - nI a).toInt = (q : Int) - (a : Nat) := pk_sub_toInt (by omega) (by omega)
  have z : (0 : Int32).toInt = 0 := rfl
  rw [nI_leI (by omega) (by omega)]
  by_cases c : q < a
  · rw [if_pos (by rw [Int32.lt_iff_toInt_lt, i2, z]; omega)]
    exact ⟨fun _ => by omega, fun _ => rfl⟩
  · rw [if_neg (by rw [Int32.lt_iff_toInt_lt, i2, z]; omega)]
    constructor
    · intro e
      have := congrArg Int32.toInt e
      rw [i2, z] at this
      omega
    · intro e
      have : q = a := by omega
      subst this
      exact Int32.sub_self _
/-! the class against the reference: what holds between their values -/
def absd (d : Int32) : Int32 := if 0 ≤ d then d else 0 - d
def lnC (c40 c41 c42 c43 : Nat → Int32) (s c f t k : Nat) : Prop := c40 k = nI s ∧ c41 k = nI c ∧ c42 k = nI f ∧ c43 k = nI t
def zix (s c f t : Nat) : Nat := ((4 * s + c) * 8 + f) * 8 + t
theorem zix_inj {s c f t s2 c2 f2 t2 : Nat} (h1 : c < 4) (h2 : f < 8) (h3 : t < 8) (k1 : c2 < 4) (k2 : f2 < 8) (k3 : t2 < 8) (h : zix s c f t = zix s2 c2 f2 t2) : s = s2 ∧ c = c2 ∧ f = f2 ∧ t = t2 := by
  unfold zix at h
  omega
theorem zix_lt {s c f t : Nat} (h0 : s < 6) (h1 : c < 4) (h2 : f < 8) (h3 : t < 8) : zix s c f t < 1536 := by
  unfold zix
  omega
def rSh (q wi co bi q2 wi2 co2 bi2 : Nat → Int32) : Prop := ∀ i, i < 6 → (q i = q2 i ∧ wi i = wi2 i ∧ co i = co2 i ∧ bi i = bi2 i) ∧ ∃ a b : Nat, q2 i = nI a ∧ a ≤ 50 ∧ wi2 i = nI b ∧ b ≤ 1440
def rCa (dn fl t1 t2 t3 t4 up fl2 u1 u2 u3 u4 : Nat → Int32) : Prop := ∀ i, i < 4 → (dn i = 0 ↔ ¬ up i = 0) ∧ fl i = fl2 i ∧ carB (t1 i, t2 i, t3 i, t4 i) (u1 i, u2 i, u3 i, u4 i)
def rTa (b z p c36 c37 c38 : Nat → Int32) (r30 : Nat → Nat) : Prop := ∀ i, i < 4 → b i = c36 (r30 i) ∧ z i = c37 (r30 i) ∧ p i = c38 (r30 i)
def rQu (nq : Nat) (m33 m34 m35 m36 m37 m38 m39 m40 m41 c40 c41 c42 c43 c44 c45 c46 c36 c37 c38 : Nat → Int32) (r40 : Nat → Nat) : Prop := ∀ k, k < nq → (m33 k = c40 k ∧ m34 k = c41 k ∧ m35 k = absd (c42 k - c43 k) ∧ m36 k = c44 k ∧ m37 k = c45 k) ∧ (m38 k = c36 (r40 k) ∧ m39 k = c37 (r40 k) ∧ m40 k = c38 (r40 k)) ∧ ∃ e : Nat, e ≤ 20100 ∧ c46 k = nI (e + 1) ∧ m41 k = nI e
def rPa (np : Nat) (m43 m44 m45 m46 c50 c51 c52 : Nat → Int32) (r50 : Nat → Nat) : Prop := (∀ k, k < np → m43 k = nI (r50 k) ∧ m44 k = c50 k ∧ m45 k = c51 k ∧ m46 k = c52 k) ∧ ∀ k, np ≤ k → m46 k = 0
def rFx (nq w : Nat) (m28 m29 m30 m31 c40 c41 c42 c43 c46 c36 c37 c38 : Nat → Int32) (r40 : Nat → Nat) : Prop := ∀ s c f t, s < 6 → c < 4 → f < 8 → t < 8 →
  (m28 (zix s c f t) = -1 ∧ ∀ k, k < nq → ¬ lnC c40 c41 c42 c43 s c f t k) ∨
  ∃ e : Nat, e ≤ 20100 ∧ m28 (zix s c f t) = nI e ∧ (∃ k, k < nq ∧ lnC c40 c41 c42 c43 s c f t k ∧ c46 k = nI (e + 1)) ∧ ∀ k, k < nq → lnC c40 c41 c42 c43 s c f t k → (c46 k = nI (e + 1) ∧ c36 (r40 k) = m29 (zix s c f t) ∧ c37 (r40 k) = m30 (zix s c f t) ∧ c38 (r40 k) = m31 (zix s c f t)) ∨ ∃ x : Nat, x ≤ w ∧ c46 k = nI x
def RV (ci : Nat → Nat → Int32) (ca : Nat → Nat → Nat → Int32) (cr : Nat → Nat → Nat) (n w tot : Nat) (kp nx : Nat → Nat) (nc : Nat) (fi : Nat → Int32) (fa : Nat → Nat → Int32) : Prop :=
  (fi 1 = nI w ∧ fi 3 = nI n ∧ fi 22 = ci 5 0 ∧ (fi 23 = nI nc ∧ nc ≤ tot) ∧ fi 32 = nI (cr 13 0) ∧ fi 42 = nI (cr 13 1)) ∧
  (fa 2 = ca 3 0 ∧ (∀ k, k < 6 → fa 4 k = keyc k) ∧ ∀ k, k < 24 → fa 5 k = wordc k) ∧
  rSh (fa 11) (fa 12) (fa 26) (fa 27) (ci 20) (ci 21) (ci 22) (ci 23) ∧
  rCa (fa 13) (fa 14) (fa 15) (fa 16) (fa 17) (fa 18) (ci 30) (ci 31) (ci 32) (ci 33) (ci 34) (ci 35) ∧
  rTa (fa 19) (fa 20) (fa 21) (ci 36) (ci 37) (ci 38) (cr 30) ∧
  rQu (cr 13 0) (fa 33) (fa 34) (fa 35) (fa 36) (fa 37) (fa 38) (fa 39) (fa 40) (fa 41) (ci 40) (ci 41) (ci 42) (ci 43) (ci 44) (ci 45) (ci 46) (ci 36) (ci 37) (ci 38) (cr 40) ∧
  rPa (cr 13 1) (fa 43) (fa 44) (fa 45) (fa 46) (ci 50) (ci 51) (ci 52) (cr 50) ∧
  rFx (cr 13 0) w (fa 28) (fa 29) (fa 30) (fa 31) (ci 40) (ci 41) (ci 42) (ci 43) (ci 46) (ci 36) (ci 37) (ci 38) (cr 40) ∧
  rLg tot nc (fa 24) (fa 25) (ca 6 0) (ca 7 0) (ca 8 0) ∧
  ∀ s, s < 6 → rRg s nc w (fa 24) (fa 25) (ca 21 s) (kp s) (nx s)
def SV (L : List ro) (ci : Nat → Nat → Int32) (ca : Nat → Nat → Nat → Int32) (cr : Nat → Nat → Nat) (n w tot nt : Nat) (kp nx : Nat → Nat) (nc : Nat) (fi : Nat → Int32) (fa : Nat → Nat → Int32) : Prop := cV L ci ca cr n w tot nt kp nx ∧ RV ci ca cr n w tot kp nx nc fi fa
section RVS
variable {L L' : List ro} {ci ci2 : Nat → Nat → Int32} {ca ca2 : Nat → Nat → Nat → Int32} {cr cr2 : Nat → Nat → Nat} {n w tot nt nc : Nat} {kp nx : Nat → Nat} {fi fi2 : Nat → Int32} {fa fa2 : Nat → Nat → Int32}
/-- the reference's scratch -/
theorem RV_m (h : RV ci ca cr n w tot kp nx nc fi fa) (h1 : ∀ j, j ≠ 0 → j ≠ 7 → j ≠ 8 → j ≠ 10 → fi2 j = fi j) (h2 : ∀ a, a ≠ 6 → a ≠ 9 → fa2 a = fa a) : RV ci ca cr n w tot kp nx nc fi2 fa2 := by
  unfold RV at h ⊢
  rw [h1 1 (by decide) (by decide) (by decide) (by decide), h1 3 (by decide) (by decide) (by decide) (by decide), h1 22 (by decide) (by decide) (by decide) (by decide), h1 23 (by decide) (by decide) (by decide) (by decide), h1 32 (by decide) (by decide) (by decide) (by decide), h1 42 (by decide) (by decide) (by decide) (by decide)]
  have e : ∀ a, a ≠ 6 ∧ a ≠ 9 → fa2 a = fa a := fun a q => h2 a q.1 q.2
  rw [e 2 (by decide), e 4 (by decide), e 5 (by decide), e 11 (by decide), e 12 (by decide), e 13 (by decide), e 14 (by decide), e 15 (by decide), e 16 (by decide), e 17 (by decide), e 18 (by decide), e 19 (by decide), e 20 (by decide), e 21 (by decide), e 24 (by decide), e 25 (by decide), e 26 (by decide), e 27 (by decide), e 28 (by decide), e 29 (by decide), e 30 (by decide), e 31 (by decide), e 33 (by decide), e 34 (by decide), e 35 (by decide), e 36 (by decide), e 37 (by decide), e 38 (by decide), e 39 (by decide), e 40 (by decide), e 41 (by decide), e 43 (by decide), e 44 (by decide), e 45 (by decide), e 46 (by decide)]
  exact h
theorem RV_0 (h : RV ci ca cr n w tot kp nx nc fi fa) (x : Int32) : RV ci ca cr n w tot kp nx nc (upd fi 0 x) fa := RV_m h (fun j q _ _ _ => pk_un q) (fun _ _ _ => rfl)
/-- the class's scratch -/
theorem RV_c (h : RV ci ca cr n w tot kp nx nc fi fa) (x : Int32) (g : Nat → Int32) (q : Nat) : RV (up2 ci 3 0 x) (ua2 ca 4 0 g) (ur2 cr 2 0 q) n w tot kp nx nc fi fa := h
theorem cV_of (h : cV L ci ca cr n w tot nt kp nx) (h1 : ci2 1 = ci 1) (h2 : ci2 2 = ci 2) (h3 : ci2 6 = ci 6) (h4 : ci2 7 = ci 7) (h5 : ci2 13 = ci 13) (h6 : ci2 24 = ci 24) (h7 : ci2 25 = ci 25) (h8 : ci2 41 = ci 41) (h9 : ca2 3 = ca 3) : cV L ci2 ca2 cr n w tot nt kp nx := by
  unfold cV at h ⊢
  rw [h1, h2, h3, h4, h5, h6, h7, h8, h9]
  exact h
theorem SV_0 (h : SV L ci ca cr n w tot nt kp nx nc fi fa) (x : Int32) : SV L ci ca cr n w tot nt kp nx nc (upd fi 0 x) fa := ⟨h.1, RV_0 h.2 x⟩
/-! type, wipe -/
theorem vp_nar_ch (a : Int32) : ∃ q : Nat, q < 65536 ∧ vp_nar .char a = nI q := by
  refine ⟨a.toUInt32.toUInt16.toNat, a.toUInt32.toUInt16.toNat_lt, ?_⟩
  rw [vp_nar_char]
  apply Int32.toBitVec_inj.mp
  apply BitVec.eq_of_toNat_eq
  show (a.toUInt32.toUInt16.toUInt32).toNat = a.toUInt32.toUInt16.toNat % 2 ^ 32
  rw [UInt16.toNat_toUInt32, Nat.mod_eq_of_lt (Nat.lt_trans a.toUInt32.toUInt16.toNat_lt (by decide))]
theorem sv_type (h : SV L ci ca cr n w tot nt kp nx nc fi fa) (hn : n < 60) (a : Int32) : SV L (up2 ci 2 0 (nI (n + 1))) (ua2 ca 3 0 (upd (ca 3 0) n (vp_nar .char a))) cr (n + 1) w tot nt kp nx nc (upd (upd fi 0 0) 3 (nI (n + 1))) (rowu fa 2 (upd (fa 2) n (vp_nar .char a))) := by
  obtain ⟨⟨vR, vA, vN, vq, vp, vt, vQ, vP, vC, vX, vT, vW, vG, vS⟩, ⟨r1, r2, r3, r4, r5⟩, ⟨k1, k2, k3⟩, rest⟩ := h
  refine ⟨⟨vR, vA, vN, vq, vp, vt, vQ, vP, vC, vX, ⟨rfl, hn, fun j => ?_⟩, vW, vG, vS⟩, ⟨r1, rfl, r3, r4, r5⟩, ⟨?_, k2, k3⟩, rest⟩
  · show ∃ q : Nat, q < 65536 ∧ upd (ca 3 0) n (vp_nar .char a) j = nI q
    by_cases e : j = n
    · subst e; rw [pk_us]; exact vp_nar_ch a
    · rw [pk_un e]; exact vT.2.2 j
  · show upd (fa 2) n _ = upd (ca 3 0) n _
    rw [k1]
theorem sv_wipe (h : SV L ci ca cr n w tot nt kp nx nc fi fa) : SV L (up2 ci 2 0 0) ca cr 0 w tot nt kp nx nc (upd (upd fi 0 0) 3 0) fa := by
  obtain ⟨⟨vR, vA, vN, vq, vp, vt, vQ, vP, vC, vX, vT, vW, vG, vS⟩, ⟨r1, r2, r3, r4, r5⟩, ⟨k1, k2, k3⟩, rest⟩ := h
  exact ⟨⟨vR, vA, vN, vq, vp, vt, vQ, vP, vC, vX, ⟨rfl, Nat.zero_le _, vT.2.2⟩, vW, vG, vS⟩, ⟨r1, rfl, r3, r4, r5⟩, ⟨k1, k2, k3⟩, rest⟩
/-! what a call of the class tells by its code k and its out x -/
def CPg (L L' : List ro) (ci ci2 : Nat → Nat → Int32) (ca ca2 : Nat → Nat → Nat → Int32) (cr cr2 : Nat → Nat → Nat) (k : Int32) (x : Int64) (ok : Int32 → Prop) (ex : Int32 → Prop) : Prop := (k = 0 ∧ ∃ v : Int32, x = v.toInt64 ∧ ok v) ∨ (ex k ∧ L' = L ∧ ci2 = ci ∧ ca2 = ca ∧ cr2 = cr)
def SR (tot : Nat) (k : Int32) (x : Int64) (v : Int32) (L' : List ro) (ci2 : Nat → Nat → Int32) (ca2 : Nat → Nat → Nat → Int32) (cr2 : Nat → Nat → Nat) (fi2 : Nat → Int32) (fa2 : Nat → Nat → Int32) : Prop := fi2 0 = k ∧ (k = 0 → x = v.toInt64) ∧ ∃ (n w tot2 nt : Nat) (kp nx : Nat → Nat) (nc : Nat), tot2 ≤ tot + 1 ∧ SV L' ci2 ca2 cr2 n w tot2 nt kp nx nc fi2 fa2
abbrev sameC (L L' : List ro) (ci ci2 : Nat → Nat → Int32) (ca ca2 : Nat → Nat → Nat → Int32) (cr cr2 : Nat → Nat → Nat) : Prop := L' = L ∧ ci2 = ci ∧ ca2 = ca ∧ cr2 = cr
theorem SR_of {k : Int32} {x : Int64} {v : Int32} {n2 w2 tot2 nt2 nc2 : Nat} {kp2 nx2 : Nat → Nat} (h0 : fi2 0 = k) (hx : k = 0 → x = v.toInt64) (ht : tot2 ≤ tot + 1) (hS : SV L' ci2 ca2 cr2 n2 w2 tot2 nt2 kp2 nx2 nc2 fi2 fa2) : SR tot k x v L' ci2 ca2 cr2 fi2 fa2 := ⟨h0, hx, n2, w2, tot2, nt2, kp2, nx2, nc2, ht, hS⟩
theorem SR_ex {k : Int32} {x : Int64} {v : Int32} (hS : SV L ci ca cr n w tot nt kp nx nc fi fa) (hk : ¬ k = 0) (hs : sameC L L' ci ci2 ca ca2 cr cr2) (hf : fi2 = upd fi 0 k ∧ fa2 = fa) : SR tot k x v L' ci2 ca2 cr2 fi2 fa2 := by
  obtain ⟨rfl, rfl, rfl, rfl⟩ := hs
  obtain ⟨rfl, rfl⟩ := hf
  exact SR_of pk_us (fun q => absurd q hk) (Nat.le_succ _) (SV_0 hS k)

/-- readers -/
theorem sim_rd {a k v : Int32} {x : Int64} {N : Nat} {val val2 : Nat → Int32} (hS : SV L ci ca cr n w tot nt kp nx nc fi fa) (hN : N < 2 ^ 31) (hval : ∀ i, i < N → val i = val2 i)
    (hc : CPg L L' ci ci2 ca ca2 cr cr2 k x (fun v => sameC L L' ci ci2 ca ca2 cr cr2 ∧ ∃ i, i < N ∧ a = nI i ∧ v = val i) (fun k => k = 1 ∧ ¬ vp_in a N))
    (hr : (¬ vp_in a N ∧ fi2 = upd fi 0 1 ∧ fa2 = fa) ∨ ∃ i, i < N ∧ a = nI i ∧ fi2 = upd fi 0 0 ∧ fa2 = fa ∧ v = val2 i) : SR tot k x v L' ci2 ca2 cr2 fi2 fa2 := by
  rcases hc with ⟨rfl, v1, rfl, hs, i, hi, rfl, rfl⟩ | ⟨⟨rfl, hn⟩, hs⟩
  · rcases hr with ⟨hn, -⟩ | ⟨j, hj, e, rfl, rfl, rfl⟩
    · exact absurd (vp_in_nI hi hN) hn
    · have := (nI_eq (by omega) (by omega)).mp e
      subst this
      obtain ⟨rfl, rfl, rfl, rfl⟩ := hs
      exact SR_of pk_us (fun _ => by rw [hval i hi]) (Nat.le_succ _) (SV_0 hS 0)
  · rcases hr with ⟨-, h1, h2⟩ | ⟨j, hj, rfl, -⟩
    · exact SR_ex hS (by decide) hs ⟨h1, h2⟩
    · exact absurd (vp_in_nI hj hN) hn
theorem sim_type {a k v : Int32} {x : Int64} (hS : SV L ci ca cr n w tot nt kp nx nc fi fa)
    (hc : CPg L L' ci ci2 ca ca2 cr cr2 k x (fun v => ((65 ≤ a ∧ a ≤ 90) ∨ (48 ≤ a ∧ a ≤ 57) ∨ a = 61 ∨ a = 59) ∧ n < 60 ∧ sameC L L' (up2 ci 2 0 (nI (n + 1))) ci2 (ua2 ca 3 0 (upd (ca 3 0) n (vp_nar .char a))) ca2 cr cr2 ∧ v = nI (n + 1)) (fun k => (k = 1 ∧ ¬ ((65 ≤ a ∧ a ≤ 90) ∨ (48 ≤ a ∧ a ≤ 57) ∨ a = 61 ∨ a = 59)) ∨ (k = 2 ∧ ((65 ≤ a ∧ a ≤ 90) ∨ (48 ≤ a ∧ a ≤ 57) ∨ a = 61 ∨ a = 59) ∧ n = 60)))
    (hr : (¬ ((65 ≤ a ∧ a ≤ 90) ∨ (48 ≤ a ∧ a ≤ 57) ∨ a = 61 ∨ a = 59) ∧ fi2 = upd fi 0 1 ∧ fa2 = fa) ∨ (((65 ≤ a ∧ a ≤ 90) ∨ (48 ≤ a ∧ a ≤ 57) ∨ a = 61 ∨ a = 59) ∧ n = 60 ∧ fi2 = upd fi 0 2 ∧ fa2 = fa) ∨ (((65 ≤ a ∧ a ≤ 90) ∨ (48 ≤ a ∧ a ≤ 57) ∨ a = 61 ∨ a = 59) ∧ n < 60 ∧ fi2 = upd (upd fi 0 0) 3 (nI (n + 1)) ∧ fa2 = rowu fa 2 (upd (fa 2) n (vp_nar .char a)) ∧ v = nI (n + 1))) : SR tot k x v L' ci2 ca2 cr2 fi2 fa2 := by
  generalize ((65 ≤ a ∧ a ≤ 90) ∨ (48 ≤ a ∧ a ≤ 57) ∨ a = 61 ∨ a = 59) = CH at hc hr
  rcases hc with ⟨rfl, v1, rfl, h1, h2, ⟨rfl, rfl, rfl, rfl⟩, rfl⟩ | ⟨h, hs⟩
  · rcases hr with ⟨q, -⟩ | ⟨-, q, -⟩ | ⟨-, -, rfl, rfl, rfl⟩
    · exact absurd h1 q
    · omega
    · exact SR_of rfl (fun _ => rfl) (Nat.le_succ _) (sv_type hS h2 a)
  · rcases h with ⟨rfl, hn⟩ | ⟨rfl, h1, h2⟩
    · rcases hr with ⟨-, q⟩ | ⟨q, -⟩ | ⟨q, -⟩
      · exact SR_ex hS (by decide) hs q
      · exact absurd q hn
      · exact absurd q hn
    · rcases hr with ⟨q, -⟩ | ⟨-, -, q⟩ | ⟨-, q, -⟩
      · exact absurd h1 q
      · exact SR_ex hS (by decide) hs q
      · omega
end RVS
section RVT
variable {L L' : List ro} {ci ci2 : Nat → Nat → Int32} {ca ca2 : Nat → Nat → Nat → Int32} {cr cr2 : Nat → Nat → Nat} {n w tot nt nc : Nat} {kp nx : Nat → Nat} {fi fi2 : Nat → Int32} {fa fa2 : Nat → Nat → Int32}
theorem upd_of {k : Int32} (h0 : fi2 0 = k) (h : ∀ j, j ≠ 0 → fi2 j = fi j) : fi2 = upd fi 0 k := by
  funext j
  by_cases e : j = 0
  · subst e; rw [pk_us]; exact h0
  · rw [pk_un e]; exact h j e
theorem up2_row {a b : Nat} {v : Int32} : up2 ci a b v a = upd (ci a) b v := by
  funext j
  simp [up2, upd]
theorem rFx_mono {nq w2 : Nat} {m28 m29 m30 m31 c40 c41 c42 c43 c46 c36 c37 c38 : Nat → Int32} {r40 : Nat → Nat} (hw : w ≤ w2) (h : rFx nq w m28 m29 m30 m31 c40 c41 c42 c43 c46 c36 c37 c38 r40) : rFx nq w2 m28 m29 m30 m31 c40 c41 c42 c43 c46 c36 c37 c38 r40 := fun s c f t h1 h2 h3 h4 => by
  rcases h s c f t h1 h2 h3 h4 with q | ⟨e, e1, e2, e3, e4⟩
  · exact Or.inl q
  · exact Or.inr ⟨e, e1, e2, e3, fun k hk hl => (e4 k hk hl).imp id (fun ⟨x, hx, hx2⟩ => ⟨x, Nat.le_trans hx hw, hx2⟩)⟩
/-! pass -/
theorem sv_pass (h : SV L ci ca cr n w tot nt kp nx nc fi fa) {k : Nat} (hw : w + k ≤ 20000) : SV L (up2 ci 1 0 (nI (w + k))) ca cr n (w + k) tot nt kp nx nc (upd (upd fi 0 0) 1 (nI (w + k))) fa := by
  obtain ⟨⟨vR, vA, vN, vq, vp, vt, vQ, vP, vC, vX, vT, vW, vG, vS⟩, ⟨r1, r2⟩, k1, k2, k3, k4, k5, k6, k7, k8, k9⟩ := h
  exact ⟨⟨vR, vA, vN, vq, vp, vt, vQ, vP, vC, vX, vT, ⟨rfl, hw⟩, vG, vS⟩, ⟨rfl, r2⟩, k1, k2, k3, k4, k5, k6, rFx_mono (Nat.le_add_right _ _) k7, k8, fun s hs => rRg_mono (Nat.le_add_right _ _) (k9 s hs)⟩
theorem sim_pass {a k v : Int32} {x : Int64} (hS : SV L ci ca cr n w tot nt kp nx nc fi fa)
    (hc : CPg L L' ci ci2 ca ca2 cr cr2 k x (fun v => ∃ j, a = nI j ∧ 1 ≤ j ∧ j ≤ 500 ∧ w + j ≤ 20000 ∧ sameC L L' (up2 ci 1 0 (nI (w + j))) ci2 ca ca2 cr cr2 ∧ v = nI (w + j)) (fun k => (k = 1 ∧ ¬ (1 ≤ a ∧ a ≤ 500)) ∨ (k = 2 ∧ ∃ j, a = nI j ∧ 1 ≤ j ∧ j ≤ 500 ∧ 20000 < w + j)))
    (hr : (¬ (1 ≤ a ∧ a ≤ 500) ∧ fi2 0 = 1 ∧ (∀ j, j ≠ 0 → fi2 j = fi j) ∧ fa2 = fa) ∨ (∃ k, a = nI k ∧ 1 ≤ k ∧ k ≤ 500 ∧ 20000 < w + k ∧ fi2 0 = 2 ∧ (∀ j, j ≠ 0 → fi2 j = fi j) ∧ fa2 = fa) ∨ (∃ k, a = nI k ∧ 1 ≤ k ∧ k ≤ 500 ∧ w + k ≤ 20000 ∧ fi2 0 = 0 ∧ fi2 1 = nI (w + k) ∧ (∀ j, j ≠ 0 → j ≠ 1 → fi2 j = fi j) ∧ fa2 = fa ∧ v = nI (w + k))) : SR tot k x v L' ci2 ca2 cr2 fi2 fa2 := by
  have rng : ∀ j : Nat, 1 ≤ j → j ≤ 500 → 1 ≤ nI j ∧ nI j ≤ 500 := fun j h1 h2 => ⟨(nI_leI (a := 1) (by decide) (by omega)).mpr h1, (nI_leI (b := 500) (by omega) (by decide)).mpr h2⟩
  rcases hc with ⟨rfl, v1, rfl, j, rfl, j1, j2, j3, hs, rfl⟩ | ⟨h, hs⟩
  · rcases hr with ⟨q, -⟩ | ⟨i, e, i1, i2, i3, -⟩ | ⟨i, e, i1, i2, i3, f0, f1, f2, rfl, rfl⟩
    · exact absurd (rng j j1 j2) q
    · have := (nI_eq (by omega) (by omega)).mp e; omega
    · have := (nI_eq (by omega) (by omega)).mp e
      subst this
      obtain ⟨rfl, rfl, rfl, rfl⟩ := hs
      have hf : fi2 = upd (upd fi 0 0) 1 (nI (w + j)) := by
        funext i
        by_cases e1 : i = 1
        · subst e1; rw [pk_us]; exact f1
        · rw [pk_un e1]
          by_cases e0 : i = 0
          · subst e0; rw [pk_us]; exact f0
          · rw [pk_un e0]; exact f2 i e0 e1
      rw [hf]
      exact SR_of rfl (fun _ => rfl) (Nat.le_succ _) (sv_pass hS j3)
  · rcases h with ⟨rfl, hn⟩ | ⟨rfl, j, rfl, j1, j2, j3⟩
    · rcases hr with ⟨-, f0, f1, f2⟩ | ⟨i, rfl, i1, i2, -⟩ | ⟨i, rfl, i1, i2, -⟩
      · exact SR_ex hS (by decide) hs ⟨upd_of f0 f1, f2⟩
      · exact absurd (rng i i1 i2) hn
      · exact absurd (rng i i1 i2) hn
    · rcases hr with ⟨q, -⟩ | ⟨i, e, i1, i2, i3, f0, f1, f2⟩ | ⟨i, e, i1, i2, i3, -⟩
      · exact absurd (rng j j1 j2) q
      · exact SR_ex hS (by decide) hs ⟨upd_of f0 f1, f2⟩
      · have := (nI_eq (by omega) (by omega)).mp e; omega
/-! quota -/
theorem sim_quota {a b c8 k v : Int32} {x : Int64} (hS : SV L ci ca cr n w tot nt kp nx nc fi fa)
    (hc : CPg L L' ci ci2 ca ca2 cr cr2 k x (fun v => ∃ k, k < 6 ∧ a = nI k ∧ ((0 ≤ b ∧ b ≤ 50) ∧ (1 ≤ c8 ∧ c8 ≤ 1440)) ∧ sameC L L' (up2 (up2 ci 20 k b) 21 k c8) ci2 ca ca2 cr cr2 ∧ v = ci 20 k) (fun k => (k = 1 ∧ ¬ vp_in a 6) ∨ (k = 2 ∧ ∃ i, i < 6 ∧ a = nI i ∧ ¬ ((0 ≤ b ∧ b ≤ 50) ∧ (1 ≤ c8 ∧ c8 ≤ 1440)))))
    (hr : (¬ vp_in a 6 ∧ fi2 = upd fi 0 1 ∧ fa2 = fa) ∨ (∃ i, i < 6 ∧ a = nI i ∧ ¬ ((0 ≤ b ∧ b ≤ 50) ∧ (1 ≤ c8 ∧ c8 ≤ 1440)) ∧ fi2 = upd fi 0 2 ∧ fa2 = fa) ∨ (∃ i, i < 6 ∧ a = nI i ∧ ((0 ≤ b ∧ b ≤ 50) ∧ (1 ≤ c8 ∧ c8 ≤ 1440)) ∧ fi2 = upd fi 0 0 ∧ fa2 = rowu (rowu fa 11 (upd (fa 11) i b)) 12 (upd (fa 12) i c8) ∧ v = fa 11 i)) : SR tot k x v L' ci2 ca2 cr2 fi2 fa2 := by
  rcases hc with ⟨rfl, v1, rfl, i, hi, rfl, hb, hs, rfl⟩ | ⟨h, hs⟩
  · rcases hr with ⟨q, -⟩ | ⟨j, hj, e, q, -⟩ | ⟨j, hj, e, -, rfl, rfl, rfl⟩
    · exact absurd (vp_in_nI hi (by decide)) q
    · exact absurd hb q
    · have := (nI_eq (by omega) (by omega)).mp e
      subst this
      obtain ⟨rfl, rfl, rfl, rfl⟩ := hs
      obtain ⟨vv, r, k1, k2, kk⟩ := hS
      refine SR_of (w2 := w) (n2 := n) (nt2 := nt) (kp2 := kp) (nx2 := nx) (nc2 := nc) (tot2 := tot) rfl (fun _ => by rw [(k2 i hi).1.1]) (Nat.le_succ _) ⟨vv, r, k1, ?_, kk⟩
      intro s hs
      obtain ⟨⟨h1, h2, h3, h4⟩, q9, w9, a1, a2, a3, a4⟩ := k2 s hs
      by_cases e : s = i
      · subst e
        obtain ⟨z1, e1, -, l1⟩ := okv_rng (a := 0) (b := 50) rfl rfl (by decide) (by decide) hb.1.1 hb.1.2
        obtain ⟨z2, e2, -, l2⟩ := okv_rng (a := 1) (b := 1440) rfl rfl (by decide) (by decide) hb.2.1 hb.2.2
        refine ⟨⟨?_, ?_, h3, h4⟩, z1, z2, ?_, l1, ?_, l2⟩
        · simp [upd, up2, rowu]
        · simp [upd, up2, rowu]
        · simp [up2, e1]
        · simp [up2, e2]
      · refine ⟨⟨?_, ?_, h3, h4⟩, q9, w9, ?_, a2, ?_, a4⟩
        · simp [upd, up2, rowu, e, h1]
        · simp [upd, up2, rowu, e, h2]
        · simp [up2, e, a1]
        · simp [up2, e, a3]
  · rcases h with ⟨rfl, hn⟩ | ⟨rfl, i, hi, rfl, hb⟩
    · rcases hr with ⟨-, q⟩ | ⟨j, hj, rfl, -⟩ | ⟨j, hj, rfl, -⟩
      · exact SR_ex hS (by decide) hs q
      · exact absurd (vp_in_nI hj (by decide)) hn
      · exact absurd (vp_in_nI hj (by decide)) hn
    · rcases hr with ⟨q, -⟩ | ⟨j, hj, e, -, q⟩ | ⟨j, hj, e, q, -⟩
      · exact absurd (vp_in_nI hi (by decide)) q
      · exact SR_ex hS (by decide) hs q
      · exact absurd q hb
/-! carrier -/
theorem sim_carrier {a b c8 k v : Int32} {x : Int64} (hS : SV L ci ca cr n w tot nt kp nx nc fi fa)
    (hc : CPg L L' ci ci2 ca ca2 cr cr2 k x (fun v => ∃ k, k < 4 ∧ a = nI k ∧ (0 ≤ c8 ∧ c8 ≤ 10) ∧ sameC L L' (up2 (up2 ci 30 k b) 31 k c8) ci2 ca ca2 cr cr2 ∧ v = ci 31 k) (fun k => (k = 1 ∧ ¬ vp_in a 4) ∨ (k = 2 ∧ ∃ i, i < 4 ∧ a = nI i ∧ ¬ (0 ≤ c8 ∧ c8 ≤ 10))))
    (hr : (¬ vp_in a 4 ∧ fi2 = upd fi 0 1 ∧ fa2 = fa) ∨ (∃ i, i < 4 ∧ a = nI i ∧ ¬ (0 ≤ c8 ∧ c8 ≤ 10) ∧ fi2 = upd fi 0 2 ∧ fa2 = fa) ∨ (∃ i, i < 4 ∧ a = nI i ∧ (0 ≤ c8 ∧ c8 ≤ 10) ∧ fi2 = upd fi 0 0 ∧ fa2 = rowu (rowu fa 13 (upd (fa 13) i (if b = 0 then 1 else 0))) 14 (upd (fa 14) i c8) ∧ v = fa 14 i)) : SR tot k x v L' ci2 ca2 cr2 fi2 fa2 := by
  rcases hc with ⟨rfl, v1, rfl, i, hi, rfl, hb, hs, rfl⟩ | ⟨h, hs⟩
  · rcases hr with ⟨q, -⟩ | ⟨j, hj, e, q, -⟩ | ⟨j, hj, e, -, rfl, rfl, rfl⟩
    · exact absurd (vp_in_nI hi (by decide)) q
    · exact absurd hb q
    · have := (nI_eq (by omega) (by omega)).mp e
      subst this
      obtain ⟨rfl, rfl, rfl, rfl⟩ := hs
      obtain ⟨vv, r, k1, k2, k3, kk⟩ := hS
      refine SR_of (w2 := w) (n2 := n) (nt2 := nt) (kp2 := kp) (nx2 := nx) (nc2 := nc) (tot2 := tot) rfl (fun _ => by rw [(k3 i hi).2.1]) (Nat.le_succ _) ⟨vv, r, k1, k2, ?_, kk⟩
      intro s hs
      obtain ⟨h1, h2, h3⟩ := k3 s hs
      by_cases e : s = i
      · subst e
        refine ⟨?_, ?_, h3⟩
        · by_cases hb0 : b = 0
          · simp [upd, up2, rowu, hb0]
          · simp [upd, up2, rowu, hb0]
        · simp [upd, up2, rowu]
      · refine ⟨?_, ?_, h3⟩
        · simp [upd, up2, rowu, e, h1]
        · simp [upd, up2, rowu, e, h2]
  · rcases h with ⟨rfl, hn⟩ | ⟨rfl, i, hi, rfl, hb⟩
    · rcases hr with ⟨-, q⟩ | ⟨j, hj, rfl, -⟩ | ⟨j, hj, rfl, -⟩
      · exact SR_ex hS (by decide) hs q
      · exact absurd (vp_in_nI hj (by decide)) hn
      · exact absurd (vp_in_nI hj (by decide)) hn
    · rcases hr with ⟨q, -⟩ | ⟨j, hj, e, -, q⟩ | ⟨j, hj, e, q, -⟩
      · exact absurd (vp_in_nI hi (by decide)) q
      · exact SR_ex hS (by decide) hs q
      · exact absurd q hb
/-! tariff -/
theorem sv_tariff (h : SV L ci ca cr n w tot nt kp nx nc fi fa) {i : Nat} (hi : i < 4) (b c8 d8 : Int32) : SV (L ++ [(31, nt)]) (up2 (up2 (up2 ci 36 nt b) 37 nt c8) 38 nt d8) ca (ur2 cr 30 i nt) n w tot (nt + 1) kp nx nc (upd fi 0 0) (rowu (rowu (rowu fa 19 (upd (fa 19) i b)) 20 (upd (fa 20) i c8)) 21 (upd (fa 21) i d8)) := by
  obtain ⟨⟨vR, vA, vN, vq, vp, vt, vQ, vP, vC, vX, vT, vW, vG, vS⟩, r, k1, k2, k3, k4, k5, k6, k7, k8, k9⟩ := h
  have hL : ∀ k j : Nat, ¬ (k = 31) → ((k, j) ∈ L ++ [(31, nt)] ↔ (k, j) ∈ L) := fun k j hk => by
    rw [List.mem_append, List.mem_singleton]
    exact ⟨fun q => q.elim id (fun e => absurd (congrArg Prod.fst e) hk), Or.inl⟩
  have hne : ∀ t, t < nt → t ≠ nt := fun t ht => Nat.ne_of_lt ht
  refine ⟨⟨fun r hr => List.mem_append_left _ (vR r hr), fun j hj => ⟨(vA j hj).1, fun q => ⟨fun z => ((vA j hj).2.1 q).1 ((hL 12 j (by decide)).mp z), ((vA j hj).2.1 q).2⟩, fun q => ⟨(hL 12 j (by decide)).mpr ((vA j hj).2.2 q).1, ((vA j hj).2.2 q).2⟩⟩, vN, fun k => (hL 40 k (by decide)).trans (vq k), fun k => (hL 50 k (by decide)).trans (vp k), fun k => ?_, fun k hk => ⟨Nat.lt_succ_of_lt (vQ k hk).1, (vQ k hk).2⟩, vP, fun j => ?_, fun k h1 h2 => fun z => vX k h1 h2 ((hL k 0 (by omega)).mp z), vT, vW, vG, vS⟩, r, k1, k2, k3, ?_, ?_, k6, ?_, k8, k9⟩
  · rw [List.mem_append, List.mem_singleton, vt k]
    constructor
    · intro q
      rcases q with q | q
      · omega
      · have := congrArg Prod.snd q; simp at this; omega
    · intro q
      by_cases e : k = nt
      · exact Or.inr (by rw [e])
      · exact Or.inl (by omega)
  · show ur2 cr 30 i nt 30 j < nt + 1
    by_cases e : j = i
    · subst e; rw [ur2_at]; exact Nat.lt_succ_self _
    · rw [ur2_ne (fun q => e q.2)]; exact Nat.lt_succ_of_lt (vC j)
  · intro j hj
    obtain ⟨h1, h2, h3⟩ := k4 j hj
    by_cases e : j = i
    · subst e
      simp [upd, up2, rowu, ur2]
    · simp [upd, up2, rowu, ur2, e, h1, h2, h3, hne _ (vC j)]
  · intro k hk
    obtain ⟨h1, ⟨h2, h3, h4⟩, h5⟩ := k5 k hk
    have ht := hne _ (vQ k hk).1
    refine ⟨h1, ⟨?_, ?_, ?_⟩, h5⟩
    · show fa 38 k = up2 (up2 (up2 ci 36 nt b) 37 nt c8) 38 nt d8 36 (cr 40 k)
      simp [up2, ht, h2]
    · show fa 39 k = up2 (up2 (up2 ci 36 nt b) 37 nt c8) 38 nt d8 37 (cr 40 k)
      simp [up2, ht, h3]
    · show fa 40 k = up2 (up2 (up2 ci 36 nt b) 37 nt c8) 38 nt d8 38 (cr 40 k)
      simp [up2, ht, h4]
  · intro s c f t q1 q2 q3 q4
    rcases k7 s c f t q1 q2 q3 q4 with q | ⟨e, e1, e2, e3, e4⟩
    · exact Or.inl q
    · refine Or.inr ⟨e, e1, e2, e3, fun k hk hl => ?_⟩
      have ht := hne _ (vQ k hk).1
      rcases e4 k hk hl with ⟨g1, g2, g3, g4⟩ | g
      · refine Or.inl ⟨g1, ?_, ?_, ?_⟩
        · show up2 (up2 (up2 ci 36 nt b) 37 nt c8) 38 nt d8 36 (cr 40 k) = fa 29 _
          simp [up2, ht, g2]
        · show up2 (up2 (up2 ci 36 nt b) 37 nt c8) 38 nt d8 37 (cr 40 k) = fa 30 _
          simp [up2, ht, g3]
        · show up2 (up2 (up2 ci 36 nt b) 37 nt c8) 38 nt d8 38 (cr 40 k) = fa 31 _
          simp [up2, ht, g4]
      · exact Or.inr g
theorem sim_tariff {a b c8 d8 k v : Int32} {x : Int64} (hS : SV L ci ca cr n w tot nt kp nx nc fi fa)
    (hc : CPg L L' ci ci2 ca ca2 cr cr2 k x (fun v => ∃ k, k < 4 ∧ a = nI k ∧ (((0 ≤ b ∧ b ≤ 10000) ∧ (0 ≤ c8 ∧ c8 ≤ 1000)) ∧ (0 ≤ d8 ∧ d8 ≤ 1000)) ∧ (L' = L ++ [(31, nt)] ∧ ci2 = up2 (up2 (up2 ci 36 nt b) 37 nt c8) 38 nt d8 ∧ ca2 = ca ∧ cr2 = ur2 cr 30 k nt) ∧ v = ci 36 (cr 30 k)) (fun k => (k = 1 ∧ ¬ vp_in a 4) ∨ (k = 2 ∧ ∃ i, i < 4 ∧ a = nI i ∧ ¬ (((0 ≤ b ∧ b ≤ 10000) ∧ (0 ≤ c8 ∧ c8 ≤ 1000)) ∧ (0 ≤ d8 ∧ d8 ≤ 1000)))))
    (hr : (¬ vp_in a 4 ∧ fi2 = upd fi 0 1 ∧ fa2 = fa) ∨ (∃ i, i < 4 ∧ a = nI i ∧ ¬ ((0 ≤ b ∧ b ≤ 10000) ∧ (0 ≤ c8 ∧ c8 ≤ 1000) ∧ (0 ≤ d8 ∧ d8 ≤ 1000)) ∧ fi2 = upd fi 0 2 ∧ fa2 = fa) ∨ (∃ i, i < 4 ∧ a = nI i ∧ ((0 ≤ b ∧ b ≤ 10000) ∧ (0 ≤ c8 ∧ c8 ≤ 1000) ∧ (0 ≤ d8 ∧ d8 ≤ 1000)) ∧ fi2 = upd fi 0 0 ∧ fa2 = rowu (rowu (rowu fa 19 (upd (fa 19) i b)) 20 (upd (fa 20) i c8)) 21 (upd (fa 21) i d8) ∧ v = fa 19 i)) : SR tot k x v L' ci2 ca2 cr2 fi2 fa2 := by
  rcases hc with ⟨rfl, v1, rfl, i, hi, rfl, hb, hs, rfl⟩ | ⟨h, hs⟩
  · rcases hr with ⟨q, -⟩ | ⟨j, hj, e, q, -⟩ | ⟨j, hj, e, -, rfl, rfl, rfl⟩
    · exact absurd (vp_in_nI hi (by decide)) q
    · exact absurd ⟨hb.1.1, hb.1.2, hb.2⟩ q
    · have := (nI_eq (by omega) (by omega)).mp e
      subst this
      obtain ⟨rfl, rfl, rfl, rfl⟩ := hs
      exact SR_of pk_us (fun _ => by rw [(hS.2.2.2.2.2.1 i hi).1]) (Nat.le_succ _) (sv_tariff hS hi b c8 d8)
  · rcases h with ⟨rfl, hn⟩ | ⟨rfl, i, hi, rfl, hb⟩
    · rcases hr with ⟨-, q⟩ | ⟨j, hj, rfl, -⟩ | ⟨j, hj, rfl, -⟩
      · exact SR_ex hS (by decide) hs q
      · exact absurd (vp_in_nI hj (by decide)) hn
      · exact absurd (vp_in_nI hj (by decide)) hn
    · rcases hr with ⟨q, -⟩ | ⟨j, hj, e, -, q⟩ | ⟨j, hj, e, q, -⟩
      · exact absurd (vp_in_nI hi (by decide)) q
      · exact SR_ex hS (by decide) hs q
      · exact absurd ⟨⟨q.1, q.2.1⟩, q.2.2⟩ hb
end RVT
section RVU
variable {L L' : List ro} {ci ci2 : Nat → Nat → Int32} {ca ca2 : Nat → Nat → Nat → Int32} {cr cr2 : Nat → Nat → Nat} {n w tot nt nc : Nat} {kp nx : Nat → Nat} {fi fi2 : Nat → Int32} {fa fa2 : Nat → Nat → Int32}
theorem sC (h : sameC L L' ci ci2 ca ca2 cr cr2) : L = L' ∧ ci2 = ci ∧ ca = ca2 ∧ cr = cr2 := ⟨h.1.symm, h.2.1, h.2.2.1.symm, h.2.2.2.symm⟩
theorem prc_of {m33 m34 m35 m36 m37 m38 m39 m40 m41 c40 c41 c42 c43 c44 c45 c46 c36 c37 c38 : Nat → Int32} {r40 : Nat → Nat} {nq : Nat} (h : rQu nq m33 m34 m35 m36 m37 m38 m39 m40 m41 c40 c41 c42 c43 c44 c45 c46 c36 c37 c38 r40) {k : Nat} (hk : k < nq) (g : Int32) : prc (m38 k) (m39 k) (m40 k) (m35 k) g (m37 k) = prcC (c36 (r40 k)) (c37 (r40 k)) (c38 (r40 k)) (c42 k - c43 k) g (c45 k) := by
  obtain ⟨⟨h1, h2, h3, h4, h5⟩, ⟨h6, h7, h8⟩, -⟩ := h k hk
  rw [h3, h5, h6, h7, h8]
  rfl
theorem sim_weigh {a b k v : Int32} {x : Int64} (hS : SV L ci ca cr n w tot nt kp nx nc fi fa)
    (hc : CPg L L' ci ci2 ca ca2 cr cr2 k x (fun v => ∃ k, k < cr 13 1 ∧ a = nI k ∧ (1 ≤ b ∧ b ≤ 30000) ∧ ci 52 k = 0 ∧ sameC L L' (up2 ci 51 k (prcC (ci 36 (cr 40 (cr 50 k))) (ci 37 (cr 40 (cr 50 k))) (ci 38 (cr 40 (cr 50 k))) (ci 42 (cr 50 k) - ci 43 (cr 50 k)) b (ci 45 (cr 50 k)))) ci2 ca ca2 cr cr2 ∧ v = prcC (ci 36 (cr 40 (cr 50 k))) (ci 37 (cr 40 (cr 50 k))) (ci 38 (cr 40 (cr 50 k))) (ci 42 (cr 50 k) - ci 43 (cr 50 k)) b (ci 45 (cr 50 k)) - ci 51 k)
      (fun k => (k = 1 ∧ ¬ vp_in a (cr 13 1)) ∨ (k = 2 ∧ ∃ i, i < cr 13 1 ∧ a = nI i ∧ ¬ (1 ≤ b ∧ b ≤ 30000)) ∨ (k = 3 ∧ ∃ i, i < cr 13 1 ∧ a = nI i ∧ (1 ≤ b ∧ b ≤ 30000) ∧ ¬ ci 52 i = 0)))
    (hr : (¬ vp_in a (cr 13 1) ∧ fi2 = upd fi 0 1 ∧ fa2 = fa) ∨ (∃ i, i < cr 13 1 ∧ a = nI i ∧ ¬ (1 ≤ b ∧ b ≤ 30000) ∧ fi2 = upd fi 0 2 ∧ fa2 = fa) ∨ (∃ i, i < cr 13 1 ∧ a = nI i ∧ (1 ≤ b ∧ b ≤ 30000) ∧ ¬ fa 46 i = 0 ∧ fi2 = upd fi 0 3 ∧ fa2 = fa) ∨ (∃ i q, i < cr 13 1 ∧ a = nI i ∧ (1 ≤ b ∧ b ≤ 30000) ∧ fa 46 i = 0 ∧ fa 43 i = nI q ∧ q < 100 ∧ fi2 = upd fi 0 0 ∧ fa2 = rowu fa 45 (upd (fa 45) i (prc (fa 38 q) (fa 39 q) (fa 40 q) (fa 35 q) b (fa 37 q))) ∧ v = prc (fa 38 q) (fa 39 q) (fa 40 q) (fa 35 q) b (fa 37 q) - fa 45 i)) : SR tot k x v L' ci2 ca2 cr2 fi2 fa2 := by
  have hN : cr 13 1 < 2 ^ 31 := by have := hS.1.2.2.1.2; omega
  have hP := hS.2.2.2.2.2.2.2.1
  have hQ := hS.2.2.2.2.2.2.1
  rcases hc with ⟨rfl, v1, rfl, i, hi, rfl, hb, h0, hs, rfl⟩ | ⟨h, hs⟩
  · have e4 := (hP.1 i hi)
    rcases hr with ⟨q, -⟩ | ⟨j, hj, e, q, -⟩ | ⟨j, hj, e, -, q, -⟩ | ⟨j, q, hj, e, -, -, hq1, hq2, rfl, rfl, rfl⟩
    · exact absurd (vp_in_nI hi hN) q
    · exact absurd hb q
    · have := (nI_eq (by omega) (by omega)).mp e
      subst this
      exact absurd (e4.2.2.2.trans h0) q
    · have := (nI_eq (by omega) (by omega)).mp e
      subst this
      obtain ⟨rfl, rfl, rfl, rfl⟩ := sC hs
      have hlt : cr 50 i < cr 13 0 := hS.1.2.2.2.2.2.2.2.1 i hi
      have hl0 := hS.1.2.2.1.1
      have hq : q = cr 50 i := (nI_eq (by omega) (by omega)).mp (hq1.symm.trans e4.1)
      subst hq
      have hp := prc_of hQ hlt b
      rw [hp, e4.2.2.1]
      obtain ⟨vv, r, k1, k2, k3, k4, k5, k6, kk⟩ := hS
      refine SR_of (w2 := w) (n2 := n) (nt2 := nt) (kp2 := kp) (nx2 := nx) (nc2 := nc) (tot2 := tot) rfl (fun _ => rfl) (Nat.le_succ _) ⟨vv, r, k1, k2, k3, k4, k5, ⟨fun s hs => ?_, k6.2⟩, kk⟩
      obtain ⟨h1, h2, h3, h4⟩ := k6.1 s hs
      refine ⟨h1, h2, ?_, h4⟩
      by_cases e : s = i
      · subst e; simp [upd, up2, rowu]
      · simp [upd, up2, rowu, e, h3]
  · rcases h with ⟨rfl, hn⟩ | ⟨rfl, i, hi, rfl, hb⟩ | ⟨rfl, i, hi, rfl, hb, h0⟩
    · rcases hr with ⟨-, q⟩ | ⟨j, hj, rfl, -⟩ | ⟨j, hj, rfl, -⟩ | ⟨j, q, hj, rfl, -⟩
      · exact SR_ex hS (by decide) hs q
      · exact absurd (vp_in_nI hj hN) hn
      · exact absurd (vp_in_nI hj hN) hn
      · exact absurd (vp_in_nI hj hN) hn
    · rcases hr with ⟨q, -⟩ | ⟨j, hj, e, -, q⟩ | ⟨j, hj, e, q, -⟩ | ⟨j, q, hj, e, hb2, -⟩
      · exact absurd (vp_in_nI hi hN) q
      · exact SR_ex hS (by decide) hs q
      · exact absurd q hb
      · exact absurd hb2 hb
    · have e4 := (hP.1 i hi)
      rcases hr with ⟨q, -⟩ | ⟨j, hj, e, q, -⟩ | ⟨j, hj, e, -, -, q⟩ | ⟨j, q, hj, e, hb2, h46, -⟩
      · exact absurd (vp_in_nI hi hN) q
      · exact absurd hb q
      · exact SR_ex hS (by decide) hs q
      · have := (nI_eq (by omega) (by omega)).mp e
        subst this
        exact absurd (e4.2.2.2.symm.trans h46) h0
theorem sim_cancel {a k v : Int32} {x : Int64} (hS : SV L ci ca cr n w tot nt kp nx nc fi fa)
    (hc : CPg L L' ci ci2 ca ca2 cr cr2 k x (fun v => ∃ k, k < cr 13 1 ∧ a = nI k ∧ ¬ (¬ ci 52 k = 0 ∨ ci 50 k + 30 < nI w) ∧ sameC L L' (up2 ci 52 k 1) ci2 ca ca2 cr cr2 ∧ v = ci 51 k)
      (fun k => (k = 1 ∧ ¬ vp_in a (cr 13 1)) ∨ (k = 2 ∧ ∃ i, i < cr 13 1 ∧ a = nI i ∧ (¬ ci 52 i = 0 ∨ ci 50 i + 30 < nI w))))
    (hr : (¬ vp_in a (cr 13 1) ∧ fi2 = upd fi 0 1 ∧ fa2 = fa) ∨ (∃ i, i < cr 13 1 ∧ a = nI i ∧ (¬ fa 46 i = 0 ∨ fa 44 i + 30 < fi 1) ∧ fi2 = upd fi 0 2 ∧ fa2 = fa) ∨ (∃ i, i < cr 13 1 ∧ a = nI i ∧ ¬ (¬ fa 46 i = 0 ∨ fa 44 i + 30 < fi 1) ∧ fi2 = upd fi 0 0 ∧ fa2 = rowu fa 46 (upd (fa 46) i 1) ∧ v = fa 45 i)) : SR tot k x v L' ci2 ca2 cr2 fi2 fa2 := by
  have hN : cr 13 1 < 2 ^ 31 := by have := hS.1.2.2.1.2; omega
  have hP := hS.2.2.2.2.2.2.2.1
  have h1w := hS.2.1.1
  have heq : ∀ i, i < cr 13 1 → ((¬ fa 46 i = 0 ∨ fa 44 i + 30 < fi 1) ↔ (¬ ci 52 i = 0 ∨ ci 50 i + 30 < nI w)) := fun i hi => by
    obtain ⟨-, e2, -, e4⟩ := hP.1 i hi
    rw [e2, e4, h1w]
  rcases hc with ⟨rfl, v1, rfl, i, hi, rfl, h0, hs, rfl⟩ | ⟨h, hs⟩
  · rcases hr with ⟨q, -⟩ | ⟨j, hj, e, q, -⟩ | ⟨j, hj, e, -, rfl, rfl, rfl⟩
    · exact absurd (vp_in_nI hi hN) q
    · have := (nI_eq (by omega) (by omega)).mp e
      subst this
      exact absurd ((heq i hi).mp q) h0
    · have := (nI_eq (by omega) (by omega)).mp e
      subst this
      obtain ⟨rfl, rfl, rfl, rfl⟩ := sC hs
      obtain ⟨vv, r, k1, k2, k3, k4, k5, k6, kk⟩ := hS
      refine SR_of (w2 := w) (n2 := n) (nt2 := nt) (kp2 := kp) (nx2 := nx) (nc2 := nc) (tot2 := tot) rfl (fun _ => by rw [(k6.1 i hi).2.2.1]) (Nat.le_succ _) ⟨vv, r, k1, k2, k3, k4, k5, ⟨fun s hs => ?_, fun s hs => ?_⟩, kk⟩
      · obtain ⟨h1, h2, h3, h4⟩ := k6.1 s hs
        refine ⟨h1, h2, h3, ?_⟩
        by_cases e : s = i
        · subst e; simp [upd, up2, rowu]
        · simp [upd, up2, rowu, e, h4]
      · have e : ¬ s = i := by omega
        simp [upd, rowu, e, k6.2 s hs]
  · rcases h with ⟨rfl, hn⟩ | ⟨rfl, i, hi, rfl, hb⟩
    · rcases hr with ⟨-, q⟩ | ⟨j, hj, rfl, -⟩ | ⟨j, hj, rfl, -⟩
      · exact SR_ex hS (by decide) hs q
      · exact absurd (vp_in_nI hj hN) hn
      · exact absurd (vp_in_nI hj hN) hn
    · rcases hr with ⟨q, -⟩ | ⟨j, hj, e, -, q⟩ | ⟨j, hj, e, q, -⟩
      · exact absurd (vp_in_nI hi hN) q
      · exact SR_ex hS (by decide) hs q
      · have := (nI_eq (by omega) (by omega)).mp e
        subst this
        exact absurd ((heq i hi).mpr hb) q
/-! bills -/
theorem due_of (hS : SV L ci ca cr n w tot nt kp nx nc fi fa) {k : Nat} (hk : k < cr 13 1) (sh : Int32) (y : Int32) : isdue (upd fi 0 y) fa sh k ↔ (ci 52 k = 0 ∧ ci 40 (cr 50 k) = sh ∧ ci 50 k + 30 < nI w) := by
  have hP := hS.2.2.2.2.2.2.2.1.1 k hk
  have hlt : cr 50 k < cr 13 0 := hS.1.2.2.2.2.2.2.2.1 k hk
  have hl0 := hS.1.2.2.1.1
  have hQ := (hS.2.2.2.2.2.2.1 _ hlt).1.1
  unfold isdue
  rw [hP.1, hP.2.1, hP.2.2.2, nI_clamp (by omega), hQ, show upd fi 0 y 1 = fi 1 from rfl, hS.2.1.1]
  exact ⟨fun ⟨a, b, c⟩ => ⟨a, c, b⟩, fun ⟨a, b, c⟩ => ⟨a, c, b⟩⟩
theorem sum_of (hS : SV L ci ca cr n w tot nt kp nx nc fi fa) (sh acc y : Int32) : ∀ K, K ≤ cr 13 1 → sumDue (upd fi 0 y) fa sh acc K = acc + sumC ci cr sh (nI w) K
  | 0, _ => by rw [sumDue, sumC, Int32.add_zero]
  | K + 1, hK => by
    rw [sumDue, sumC, sum_of hS sh acc y K (by omega)]
    by_cases h : ci 52 K = 0 ∧ ci 40 (cr 50 K) = sh ∧ ci 50 K + 30 < nI w
    · rw [if_pos h, dueN_a ((due_of hS (by omega) sh y).mpr h), (hS.2.2.2.2.2.2.2.1.1 K (by omega)).2.2.1, Int32.add_assoc]
    · rw [if_neg h, dueN_b (fun q => h ((due_of hS (by omega) sh y).mp q)), Int32.add_zero]
theorem sim_close {a k v : Int32} {x : Int64} (hS : SV L ci ca cr n w tot nt kp nx nc fi fa)
    (hc : CPg L L' ci ci2 ca ca2 cr cr2 k x (fun v => ∃ k, k < 6 ∧ a = nI k ∧ sameC L L' (up2 (up2 (mrkC ci cr (nI k) (nI w) (cr 13 1)) 22 k 0) 23 k (ci 23 k + (ci 22 k + sumC ci cr (nI k) (nI w) (cr 13 1)))) ci2 ca ca2 cr cr2 ∧ v = ci 22 k + sumC ci cr (nI k) (nI w) (cr 13 1)) (fun k => k = 1 ∧ ¬ vp_in a 6))
    (hr : (¬ vp_in a 6 ∧ fi2 = upd fi 0 1 ∧ fa2 = fa) ∨ (∃ i, i < 6 ∧ a = nI i ∧ fi2 = upd fi 0 0 ∧ v = sumDue (upd fi 0 0) fa (nI i) (fa 26 i) (cr 13 1) ∧ ∃ g, (∀ j, j < cr 13 1 → g j = dueN (upd fi 0 0) fa (nI i) j 2 (fa 46 j)) ∧ (∀ j, cr 13 1 ≤ j → g j = fa 46 j) ∧ fa2 = rowu (rowu (rowu fa 46 g) 26 (upd (fa 26) i 0)) 27 (upd (fa 27) i (fa 27 i + v)))) : SR tot k x v L' ci2 ca2 cr2 fi2 fa2 := by
  rcases hc with ⟨rfl, v1, rfl, i, hi, rfl, hs, rfl⟩ | ⟨⟨rfl, hn⟩, hs⟩
  · rcases hr with ⟨q, -⟩ | ⟨j, hj, e, rfl, hv, g, g1, g2, rfl⟩
    · exact absurd (vp_in_nI hi (by decide)) q
    · have := (nI_eq (by omega) (by omega)).mp e
      subst this
      obtain ⟨rfl, rfl, rfl, rfl⟩ := sC hs
      have hS0 := hS
      obtain ⟨vv, r, k1, k2, k3, k4, k5, k6, kk⟩ := hS
      have h2i := k2 i hi
      rw [sum_of hS0 _ _ _ _ (Nat.le_refl _), h2i.1.2.2.1] at hv
      refine SR_of (w2 := w) (n2 := n) (nt2 := nt) (kp2 := kp) (nx2 := nx) (nc2 := nc) (tot2 := tot) rfl (fun _ => by rw [hv]) (Nat.le_succ _) ⟨cV_of vv rfl rfl rfl rfl rfl rfl rfl rfl rfl, r, k1, ?_, k3, k4, k5, ⟨fun s hs => ?_, fun s hs => ?_⟩, kk⟩
      · intro s hs
        obtain ⟨⟨h1, h2, h3, h4⟩, q⟩ := k2 s hs
        refine ⟨⟨h1, h2, ?_, ?_⟩, q⟩
        · show upd (fa 26) i 0 s = up2 (mrkC ci cr (nI i) (nI w) (cr 13 1)) 22 i 0 22 s
          by_cases e : s = i
          · subst e; rw [pk_us, up2_at]
          · rw [pk_un e, up2_ne (fun q => e q.2)]; exact h3
        · show upd (fa 27) i (fa 27 i + v) s = up2 _ 23 i _ 23 s
          by_cases e : s = i
          · subst e; rw [pk_us, up2_at, hv, h4]
          · rw [pk_un e, up2_ne (fun q => e q.2)]; exact h4
      · obtain ⟨h1, h2, h3, h4⟩ := k6.1 s hs
        refine ⟨h1, h2, h3, ?_⟩
        show g s = mrkC ci cr (nI i) (nI w) (cr 13 1) 52 s
        rw [g1 s hs]
        unfold mrkC
        by_cases h : ci 52 s = 0 ∧ ci 40 (cr 50 s) = nI i ∧ ci 50 s + 30 < nI w
        · rw [if_pos ⟨rfl, hs, h⟩, dueN_a ((due_of hS0 hs (nI i) 0).mpr h)]
        · rw [if_neg (fun q => h q.2.2), dueN_b (fun q => h ((due_of hS0 hs (nI i) 0).mp q))]
          exact h4
      · show g s = 0
        rw [g2 s hs]
        exact k6.2 s hs
  · rcases hr with ⟨-, q⟩ | ⟨j, hj, rfl, -⟩
    · exact SR_ex hS (by decide) hs q
    · exact absurd (vp_in_nI hj (by decide)) hn
/-! fault -/
theorem sim_fault {a k v : Int32} {x : Int64} (hS : SV L ci ca cr n w tot nt kp nx nc fi fa)
    (hc : (k = 0 ∧ ∃ v : Int32, x = v.toInt64 ∧ ∃ fk vals w9, rdT (ca 3 0) n fk vals w9 ∧ sameC L L' (up2 ci 3 0 fk) ci2 (ua2 ca 4 0 vals) ca2 (ur2 cr 2 0 w9) cr2 ∧ ∃ j, j < tlen (rdR (ca 3 0) n).1 ∧ a = nI j ∧ v = tellc (rdR (ca 3 0) n).1 (rdR (ca 3 0) n).2.1 j) ∨ (k = 1 ∧ ∃ fk vals w9, rdT (ca 3 0) n fk vals w9 ∧ sameC L L' (up2 ci 3 0 fk) ci2 (ua2 ca 4 0 vals) ca2 (ur2 cr 2 0 w9) cr2 ∧ ¬ vp_in a (tlen (rdR (ca 3 0) n).1)))
    (hr : (∀ j, j ≠ 0 → j ≠ 7 → j ≠ 8 → j ≠ 10 → fi2 j = fi j) ∧ (∀ a, a ≠ 6 → a ≠ 9 → fa2 a = fa a) ∧ ((vp_in a (tlen (rdR (fa 2) n).1) ∧ fi2 0 = 0 ∧ v = tellc (rdR (fa 2) n).1 (rdR (fa 2) n).2.1 a.toNatClampNeg) ∨ (¬ vp_in a (tlen (rdR (fa 2) n).1) ∧ fi2 0 = 1))) : SR tot k x v L' ci2 ca2 cr2 fi2 fa2 := by
  rw [hS.2.2.1.1] at hr
  obtain ⟨hr1, hr2, hr3⟩ := hr
  rcases hc with ⟨rfl, v1, rfl, fk, vals, w9, hT, ⟨rfl, rfl, rfl, rfl⟩, j, hj, rfl, rfl⟩ | ⟨rfl, fk, vals, w9, hT, ⟨rfl, rfl, rfl, rfl⟩, hn⟩
  · have hl := tlen_le (rdR (ca 3 0) n).1
    rcases hr3 with ⟨-, h0, rfl⟩ | ⟨q, -⟩
    · exact SR_of h0 (fun _ => by rw [nI_clamp (by omega)]) (Nat.le_succ _) ⟨cV_c hS.1 fk vals w9, RV_c (RV_m hS.2 hr1 hr2) fk vals w9⟩
    · exact absurd (vp_in_nI hj (by omega)) q
  · rcases hr3 with ⟨q, -⟩ | ⟨-, h0⟩
    · exact absurd q hn
    · exact SR_of h0 (fun q => absurd q (by decide)) (Nat.le_succ _) ⟨cV_c hS.1 fk vals w9, RV_c (RV_m hS.2 hr1 hr2) fk vals w9⟩
end RVU
section RVW
variable {L L' : List ro} {ci ci2 : Nat → Nat → Int32} {ca ca2 : Nat → Nat → Nat → Int32} {cr cr2 : Nat → Nat → Nat} {n w tot nt nc : Nat} {kp nx : Nat → Nat} {fi fi2 : Nat → Int32} {fa fa2 : Nat → Nat → Int32}
def eqCi (ci2 ci : Nat → Nat → Int32) : Prop := ci2 1 = ci 1 ∧ ci2 2 = ci 2 ∧ ci2 5 = ci 5 ∧ ci2 6 = ci 6 ∧ ci2 7 = ci 7 ∧ ci2 13 = ci 13 ∧ ci2 20 = ci 20 ∧ ci2 21 = ci 21 ∧ ci2 22 = ci 22 ∧ ci2 23 = ci 23 ∧ ci2 24 = ci 24 ∧ ci2 25 = ci 25 ∧ ci2 30 = ci 30 ∧ ci2 31 = ci 31 ∧ ci2 32 = ci 32 ∧ ci2 33 = ci 33 ∧ ci2 34 = ci 34 ∧ ci2 35 = ci 35 ∧ ci2 36 = ci 36 ∧ ci2 37 = ci 37 ∧ ci2 38 = ci 38 ∧ ci2 40 = ci 40 ∧ ci2 41 = ci 41 ∧ ci2 42 = ci 42 ∧ ci2 43 = ci 43 ∧ ci2 44 = ci 44 ∧ ci2 45 = ci 45 ∧ ci2 46 = ci 46 ∧ ci2 50 = ci 50 ∧ ci2 51 = ci 51 ∧ ci2 52 = ci 52
def eqFa (fa2 fa : Nat → Nat → Int32) : Prop := fa2 2 = fa 2 ∧ fa2 4 = fa 4 ∧ fa2 5 = fa 5 ∧ fa2 11 = fa 11 ∧ fa2 12 = fa 12 ∧ fa2 13 = fa 13 ∧ fa2 14 = fa 14 ∧ fa2 15 = fa 15 ∧ fa2 16 = fa 16 ∧ fa2 17 = fa 17 ∧ fa2 18 = fa 18 ∧ fa2 19 = fa 19 ∧ fa2 20 = fa 20 ∧ fa2 21 = fa 21 ∧ fa2 24 = fa 24 ∧ fa2 25 = fa 25 ∧ fa2 26 = fa 26 ∧ fa2 27 = fa 27 ∧ fa2 28 = fa 28 ∧ fa2 29 = fa 29 ∧ fa2 30 = fa 30 ∧ fa2 31 = fa 31 ∧ fa2 33 = fa 33 ∧ fa2 34 = fa 34 ∧ fa2 35 = fa 35 ∧ fa2 36 = fa 36 ∧ fa2 37 = fa 37 ∧ fa2 38 = fa 38 ∧ fa2 39 = fa 39 ∧ fa2 40 = fa 40 ∧ fa2 41 = fa 41 ∧ fa2 43 = fa 43 ∧ fa2 44 = fa 44 ∧ fa2 45 = fa 45 ∧ fa2 46 = fa 46
def eqCr (cr2 cr : Nat → Nat → Nat) : Prop := cr2 12 = cr 12 ∧ cr2 13 = cr 13 ∧ cr2 30 = cr 30 ∧ cr2 40 = cr 40 ∧ cr2 50 = cr 50
def eqFi (fi2 fi : Nat → Int32) : Prop := fi2 1 = fi 1 ∧ fi2 3 = fi 3 ∧ fi2 22 = fi 22 ∧ fi2 23 = fi 23 ∧ fi2 32 = fi 32 ∧ fi2 42 = fi 42
def eqCa (ca2 ca : Nat → Nat → Nat → Int32) : Prop := ca2 3 = ca 3 ∧ ca2 6 0 = ca 6 0 ∧ ca2 7 0 = ca 7 0 ∧ ca2 8 0 = ca 8 0 ∧ ca2 21 = ca 21
theorem SV_congr (h : SV L ci ca cr n w tot nt kp nx nc fi fa) (h1 : eqCi ci2 ci) (h2 : eqCa ca2 ca) (h3 : eqCr cr2 cr) (h4 : eqFi fi2 fi) (h5 : eqFa fa2 fa) : SV L ci2 ca2 cr2 n w tot nt kp nx nc fi2 fa2 := by
  obtain ⟨c1, c2, c5, c6, c7, c13, c20, c21, c22, c23, c24, c25, c30, c31, c32, c33, c34, c35, c36, c37, c38, c40, c41, c42, c43, c44, c45, c46, c50, c51, c52⟩ := h1
  obtain ⟨a3, a6, a7, a8, a21⟩ := h2
  obtain ⟨r12, r13, r30, r40, r50⟩ := h3
  obtain ⟨i1, i3, i22, i23, i32, i42⟩ := h4
  obtain ⟨m2, m4, m5, m11, m12, m13, m14, m15, m16, m17, m18, m19, m20, m21, m24, m25, m26, m27, m28, m29, m30, m31, m33, m34, m35, m36, m37, m38, m39, m40, m41, m43, m44, m45, m46⟩ := h5
  unfold SV cV RV at h ⊢
  rw [c1, c2, c5, c6, c7, c13, c20, c21, c22, c23, c24, c25, c30, c31, c32, c33, c34, c35, c36, c37, c38, c40, c41, c42, c43, c44, c45, c46, c50, c51, c52, a3, a6, a7, a8, a21, r12, r13, r30, r40, r50, i1, i3, i22, i23, i32, i42, m2, m4, m5, m11, m12, m13, m14, m15, m16, m17, m18, m19, m20, m21, m24, m25, m26, m27, m28, m29, m30, m31, m33, m34, m35, m36, m37, m38, m39, m40, m41, m43, m44, m45, m46]
  exact h
theorem eqCi_rf : eqCi ci ci := ⟨rfl, rfl, rfl, rfl, rfl, rfl, rfl, rfl, rfl, rfl, rfl, rfl, rfl, rfl, rfl, rfl, rfl, rfl, rfl, rfl, rfl, rfl, rfl, rfl, rfl, rfl, rfl, rfl, rfl, rfl, rfl⟩
theorem eqCr_rf : eqCr cr cr := ⟨rfl, rfl, rfl, rfl, rfl⟩
theorem eqFa_rf : eqFa fa fa := ⟨rfl, rfl, rfl, rfl, rfl, rfl, rfl, rfl, rfl, rfl, rfl, rfl, rfl, rfl, rfl, rfl, rfl, rfl, rfl, rfl, rfl, rfl, rfl, rfl, rfl, rfl, rfl, rfl, rfl, rfl, rfl, rfl, rfl, rfl, rfl⟩
theorem eqFi_rf : eqFi fi fi := ⟨rfl, rfl, rfl, rfl, rfl, rfl⟩
theorem eqCa_rf : eqCa ca ca := ⟨rfl, rfl, rfl, rfl, rfl⟩
theorem eqFa_6 (h : ∀ a, a ≠ 6 → fa2 a = fa a) : eqFa fa2 fa := ⟨h 2 (by decide), h 4 (by decide), h 5 (by decide), h 11 (by decide), h 12 (by decide), h 13 (by decide), h 14 (by decide), h 15 (by decide), h 16 (by decide), h 17 (by decide), h 18 (by decide), h 19 (by decide), h 20 (by decide), h 21 (by decide), h 24 (by decide), h 25 (by decide), h 26 (by decide), h 27 (by decide), h 28 (by decide), h 29 (by decide), h 30 (by decide), h 31 (by decide), h 33 (by decide), h 34 (by decide), h 35 (by decide), h 36 (by decide), h 37 (by decide), h 38 (by decide), h 39 (by decide), h 40 (by decide), h 41 (by decide), h 43 (by decide), h 44 (by decide), h 45 (by decide), h 46 (by decide)⟩
theorem nmL {a b : ro} (hL : ∀ x : ro, x ∈ L' ↔ x ∈ L ∨ x = a ∨ x = b) {k j : Nat} (ha : a.1 ≠ k) (hb : (k, j) ≠ b) : (k, j) ∈ L' ↔ (k, j) ∈ L := by
  rw [hL]
  constructor
  · rintro (q | q | q)
    · exact q
    · exact absurd (by rw [← q]) ha
    · exact absurd q hb
  · exact Or.inl
/-! a parcel more -/
theorem cV_parcel (h : cV L ci ca cr n w tot nt kp nx) {j cap : Nat} {P : Int32} (h50 : cr 13 1 < 50) (hj : j < cr 13 0) (k1 : cr 13 1 + 1 ≤ cap) (k2 : 10 ≤ cap) (k3 : cap ≤ 150) (hL : ∀ x : ro, x ∈ L' ↔ x ∈ L ∨ x = (50, cr 13 1) ∨ x = (12, 1)) :
    cV L' (ciL (up2 (up2 (up2 ci 50 (cr 13 1) (nI w)) 51 (cr 13 1) P) 52 (cr 13 1) 0) 1 (cr 13 1)) ca (crL (ur2 cr 50 (cr 13 1) j) 1 (cr 13 1) cap) n w tot nt kp nx := by
  obtain ⟨vR, vA, vN, vq, vp, vt, vQ, vP, vC, vX, vT, vW, vG, vS⟩ := h
  have hk : ∀ k i : Nat, k ≠ 50 → (k, i) ≠ ((12, 1) : ro) → ((k, i) ∈ L' ↔ (k, i) ∈ L) := fun k i q1 q2 => nmL hL (Ne.symm q1) q2
  have hd : ∀ k i : Nat, k ≠ 12 → (k, i) ≠ ((12, 1) : ro) := fun k i q e => q (congrArg Prod.fst e)
  refine ⟨fun r hr => (hL r).mpr (Or.inl (vR r hr)), fun i hi => ?_, ⟨vN.1, h50⟩, fun k => (hk 40 k (by decide) (hd _ _ (by decide))).trans (vq k), fun k => ?_, fun k => (hk 31 k (by decide) (hd _ _ (by decide))).trans (vt k), vQ, fun k hk9 => ?_, vC, fun k q1 q2 z => vX k q1 q2 ((hk k 0 (by omega) (hd _ _ (by omega))).mp z), vT, vW, vG, vS⟩
  · rcases (show i = 0 ∨ i = 1 by omega) with e | e <;> subst e
    · obtain ⟨a1, a2, a3⟩ := vA 0 (by decide)
      have e12 := hk 12 0 (by decide) (by decide)
      exact ⟨a1, fun q => ⟨fun z => (a2 q).1 (e12.mp z), (a2 q).2⟩, fun q => ⟨e12.mpr (a3 q).1, (a3 q).2⟩⟩
    · refine ⟨rfl, fun q => absurd (show cap = 0 from q) (by omega), fun _ => ⟨(hL _).mpr (Or.inr (Or.inr rfl)), k1, k2, k3⟩⟩
  · rw [hL]
    show (50, k) ∈ L ∨ (50, k) = ((50, cr 13 1) : ro) ∨ (50, k) = ((12, 1) : ro) ↔ k < cr 13 1 + 1
    rw [vp k]
    constructor
    · rintro (q | q | q)
      · omega
      · have := congrArg Prod.snd q; simp at this; omega
      · exact absurd (congrArg Prod.fst q) (by simp)
    · intro q
      by_cases e : k = cr 13 1
      · exact Or.inr (Or.inl (by rw [e]))
      · exact Or.inl (by omega)
  · show (if k = cr 13 1 then j else cr 50 k) < cr 13 0
    by_cases e : k = cr 13 1
    · rw [if_pos e]; exact hj
    · rw [if_neg e]
      exact vP k (by have : k < cr 13 1 + 1 := hk9; omega)
theorem sim_book {a k v : Int32} {x : Int64} (hS : SV L ci ca cr n w tot nt kp nx nc fi fa)
    (hc : CPg L L' ci ci2 ca ca2 cr cr2 k x (fun v => ∃ k, k < cr 13 0 ∧ a = nI k ∧ ∃ c9, c9 < 4 ∧ ci 41 k = nI c9 ∧ ¬ (¬ nI w < ci 46 k ∧ ¬ prcC (ci 36 (cr 30 c9)) (ci 37 (cr 30 c9)) (ci 38 (cr 30 c9)) (ci 42 k - ci 43 k) (ci 44 k) (ci 45 k) = prcC (ci 36 (cr 40 k)) (ci 37 (cr 40 k)) (ci 38 (cr 40 k)) (ci 42 k - ci 43 k) (ci 44 k) (ci 45 k)) ∧ cr 13 1 < 50 ∧ ∃ cap, (∀ x : ro, x ∈ L' ↔ x ∈ L ∨ x = (50, cr 13 1) ∨ x = (12, 1)) ∧ cr 13 1 + 1 ≤ cap ∧ 10 ≤ cap ∧ cap ≤ 150 ∧ ci2 = ciL (up2 (up2 (up2 ci 50 (cr 13 1) (nI w)) 51 (cr 13 1) (prcC (ci 36 (cr 40 k)) (ci 37 (cr 40 k)) (ci 38 (cr 40 k)) (ci 42 k - ci 43 k) (ci 44 k) (ci 45 k))) 52 (cr 13 1) 0) 1 (cr 13 1) ∧ ca2 = ca ∧ cr2 = crL (ur2 cr 50 (cr 13 1) k) 1 (cr 13 1) cap ∧ v = nI (cr 13 1))
      (fun k => (k = 1 ∧ ¬ vp_in a (cr 13 0)) ∨ (k = 2 ∧ ∃ k, k < cr 13 0 ∧ a = nI k ∧ ∃ c9, c9 < 4 ∧ ci 41 k = nI c9 ∧ ((¬ nI w < ci 46 k ∧ ¬ prcC (ci 36 (cr 30 c9)) (ci 37 (cr 30 c9)) (ci 38 (cr 30 c9)) (ci 42 k - ci 43 k) (ci 44 k) (ci 45 k) = prcC (ci 36 (cr 40 k)) (ci 37 (cr 40 k)) (ci 38 (cr 40 k)) (ci 42 k - ci 43 k) (ci 44 k) (ci 45 k)) ∨ cr 13 1 = 50))))
    (hr : (¬ vp_in a (cr 13 0) ∧ fi2 = upd fi 0 1 ∧ fa2 = fa) ∨ (∃ i c, i < cr 13 0 ∧ a = nI i ∧ fa 34 i = nI c ∧ c < 4 ∧ ((fa 41 i < fi 1 ∧ ¬ prc (fa 38 i) (fa 39 i) (fa 40 i) (fa 35 i) (fa 36 i) (fa 37 i) = prc (fa 19 c) (fa 20 c) (fa 21 c) (fa 35 i) (fa 36 i) (fa 37 i)) ∨ cr 13 1 = 50) ∧ fi2 = upd fi 0 2 ∧ fa2 = fa) ∨ (∃ i c, i < cr 13 0 ∧ a = nI i ∧ fa 34 i = nI c ∧ c < 4 ∧ ¬ ((fa 41 i < fi 1 ∧ ¬ prc (fa 38 i) (fa 39 i) (fa 40 i) (fa 35 i) (fa 36 i) (fa 37 i) = prc (fa 19 c) (fa 20 c) (fa 21 c) (fa 35 i) (fa 36 i) (fa 37 i)) ∨ cr 13 1 = 50) ∧ fi2 = upd (upd fi 0 0) 42 (nI (cr 13 1 + 1)) ∧ fa2 = rowu (rowu (rowu fa 43 (upd (fa 43) (cr 13 1) (nI i))) 44 (upd (fa 44) (cr 13 1) (fi 1))) 45 (upd (fa 45) (cr 13 1) (prc (fa 38 i) (fa 39 i) (fa 40 i) (fa 35 i) (fa 36 i) (fa 37 i))) ∧ v = nI (cr 13 1))) : SR tot k x v L' ci2 ca2 cr2 fi2 fa2 := by
  have hN : cr 13 0 < 2 ^ 31 := by have := hS.1.2.2.1.1; omega
  have hQ := hS.2.2.2.2.2.2.1
  have hTa := hS.2.2.2.2.2.1
  have h1w := hS.2.1.1
  have hw := hS.1.2.2.2.2.2.2.2.2.2.2.2.1.2
  have hend : ∀ i, i < cr 13 0 → (fa 41 i < fi 1 ↔ ¬ nI w < ci 46 i) := fun i hi => by
    obtain ⟨e, e1, e2, e3⟩ := (hQ i hi).2.2
    rw [e2, e3, h1w, nI_ltI (by omega) (by omega), nI_ltI (by omega) (by omega)]
    omega
  have hPB : ∀ i, i < cr 13 0 → prc (fa 38 i) (fa 39 i) (fa 40 i) (fa 35 i) (fa 36 i) (fa 37 i) = prcC (ci 36 (cr 40 i)) (ci 37 (cr 40 i)) (ci 38 (cr 40 i)) (ci 42 i - ci 43 i) (ci 44 i) (ci 45 i) := fun i hi => by
    rw [prc_of hQ hi, (hQ i hi).1.2.2.2.1]
  have hPN : ∀ i c, i < cr 13 0 → c < 4 → prc (fa 19 c) (fa 20 c) (fa 21 c) (fa 35 i) (fa 36 i) (fa 37 i) = prcC (ci 36 (cr 30 c)) (ci 37 (cr 30 c)) (ci 38 (cr 30 c)) (ci 42 i - ci 43 i) (ci 44 i) (ci 45 i) := fun i c hi hc => by
    obtain ⟨⟨-, -, g3, g4, g5⟩, -⟩ := hQ i hi
    obtain ⟨t1, t2, t3⟩ := hTa c hc
    rw [g3, g4, g5, t1, t2, t3]
    rfl
  have hcond : ∀ i c, i < cr 13 0 → c < 4 → (((fa 41 i < fi 1 ∧ ¬ prc (fa 38 i) (fa 39 i) (fa 40 i) (fa 35 i) (fa 36 i) (fa 37 i) = prc (fa 19 c) (fa 20 c) (fa 21 c) (fa 35 i) (fa 36 i) (fa 37 i)) ∨ cr 13 1 = 50) ↔ ((¬ nI w < ci 46 i ∧ ¬ prcC (ci 36 (cr 30 c)) (ci 37 (cr 30 c)) (ci 38 (cr 30 c)) (ci 42 i - ci 43 i) (ci 44 i) (ci 45 i) = prcC (ci 36 (cr 40 i)) (ci 37 (cr 40 i)) (ci 38 (cr 40 i)) (ci 42 i - ci 43 i) (ci 44 i) (ci 45 i)) ∨ cr 13 1 = 50)) := fun i c hi hc => by
    rw [hPB i hi, hPN i c hi hc, hend i hi]
    exact or_congr_left (and_congr_right fun _ => not_congr eq_comm)
  have hcc : ∀ i c c9 : Nat, i < cr 13 0 → fa 34 i = nI c → c < 4 → ci 41 i = nI c9 → c9 < 4 → c = c9 := fun i c c9 hi q1 q2 q3 q4 => (nI_eq (by omega) (by omega)).mp (q1.symm.trans ((hQ i hi).1.2.1.trans q3))
  rcases hc with ⟨rfl, v1, rfl, i, hi, rfl, c9, hc9, h41, hcn, h50, cap, hL, b1, b2, b3, rfl, rfl, rfl, rfl⟩ | ⟨h, hs⟩
  · rcases hr with ⟨q, -⟩ | ⟨j, c, hj, e, q34, hc4, q, -⟩ | ⟨j, c, hj, e, q34, hc4, -, rfl, rfl, rfl⟩
    · exact absurd (vp_in_nI hi hN) q
    · have := (nI_eq (by omega) (by omega)).mp e
      subst this
      have := hcc i c c9 hi q34 hc4 h41 hc9
      subst this
      rcases (hcond i c hi hc4).mp q with q | q
      · exact absurd q hcn
      · omega
    · have := (nI_eq (by omega) (by omega)).mp e
      subst this
      rw [hPB i hi]
      have hV := cV_parcel (j := i) (P := prcC (ci 36 (cr 40 i)) (ci 37 (cr 40 i)) (ci 38 (cr 40 i)) (ci 42 i - ci 43 i) (ci 44 i) (ci 45 i)) hS.1 h50 hi b1 b2 b3 hL
      obtain ⟨vv, ⟨r1, r2, r3, r4, r5, r6⟩, k1, k2, k3, k4, k5, k6, kk⟩ := hS
      refine SR_of (w2 := w) (n2 := n) (nt2 := nt) (kp2 := kp) (nx2 := nx) (nc2 := nc) (tot2 := tot) rfl (fun _ => rfl) (Nat.le_succ _) ⟨hV, ⟨r1, r2, r3, r4, r5, rfl⟩, k1, k2, k3, k4, k5, ⟨fun s hs => ?_, fun s hs => ?_⟩, kk⟩
      · have hs9 : s < cr 13 1 + 1 := hs
        show upd (fa 43) (cr 13 1) (nI i) s = nI (if s = cr 13 1 then i else cr 50 s) ∧ upd (fa 44) (cr 13 1) (fi 1) s = (if s = cr 13 1 then nI w else ci 50 s) ∧ upd (fa 45) (cr 13 1) _ s = (if s = cr 13 1 then _ else ci 51 s) ∧ fa 46 s = (if s = cr 13 1 then 0 else ci 52 s)
        by_cases e : s = cr 13 1
        · subst e
          simp only [upd, if_true]
          exact ⟨trivial, h1w, trivial, k6.2 _ (Nat.le_refl _)⟩
        · obtain ⟨h1, h2, h3, h4⟩ := k6.1 s (by omega)
          simp only [upd, e, if_false]
          exact ⟨h1, h2, h3, h4⟩
      · have hs9 : cr 13 1 + 1 ≤ s := hs
        exact k6.2 s (by omega)
  · rcases h with ⟨rfl, hn⟩ | ⟨rfl, i, hi, rfl, c9, hc9, h41, hb⟩
    · rcases hr with ⟨-, q⟩ | ⟨j, c, hj, rfl, -⟩ | ⟨j, c, hj, rfl, -⟩
      · exact SR_ex hS (by decide) hs q
      · exact absurd (vp_in_nI hj hN) hn
      · exact absurd (vp_in_nI hj hN) hn
    · rcases hr with ⟨q, -⟩ | ⟨j, c, hj, e, q34, hc4, -, q⟩ | ⟨j, c, hj, e, q34, hc4, q, -⟩
      · exact absurd (vp_in_nI hi hN) q
      · exact SR_ex hS (by decide) hs q
      · have := (nI_eq (by omega) (by omega)).mp e
        subst this
        have := hcc i c c9 hi q34 hc4 h41 hc9
        subst this
        exact absurd ((hcond i c hi hc4).mpr hb) q

end RVW
section RVC
variable {L L' : List ro} {ci ci2 : Nat → Nat → Int32} {ca ca2 : Nat → Nat → Nat → Int32} {cr cr2 : Nat → Nat → Nat} {n w tot nt nc : Nat} {kp nx : Nat → Nat} {fi fi2 : Nat → Int32} {fa fa2 : Nat → Nat → Int32}
theorem cV_log (h : cV L ci ca cr n w tot nt kp nx) (hto : tot < 512) {s : Nat} {li : Int32} : cV L (up2 (logI ci tot) 2 0 0) (logA ca tot s w li) cr 0 w (tot + 1) nt kp nx := by
  obtain ⟨vR, vA, vN, vq, vp, vt, vQ, vP, vC, vX, vT, vW, vG, vS⟩ := h
  refine ⟨vR, vA, vN, vq, vp, vt, vQ, vP, vC, vX, ⟨rfl, Nat.zero_le _, vT.2.2⟩, vW, ⟨?_, rfl, hto⟩, vS⟩
  show nI (if tot < tot + 1 then tot + 1 else tot) = nI (tot + 1)
  rw [if_pos (Nat.lt_succ_self _)]
/-! a call that is limited -/
theorem sv_no (hS : SV L ci ca cr n w tot nt kp nx nc fi fa) (hto : tot < 512) (s : Nat) : SV L (up2 (logI ci tot) 2 0 0) (logA ca tot s w 1) cr 0 w (tot + 1) nt kp nx nc (upd (upd fi 3 0) 22 (fi 22 + 1)) fa := by
  obtain ⟨vv, ⟨r1, r2, r3, r4, r5, r6⟩, k1, k2, k3, k4, k5, k6, k7, k8, k9⟩ := hS
  refine ⟨cV_log vv hto, ⟨r1, rfl, ?_, ⟨r4.1, Nat.le_succ_of_le r4.2⟩, r5, r6⟩, k1, k2, k3, k4, k5, k6, k7, rLg_no k8, k9⟩
  show fi 22 + 1 = ci 5 0 + 1
  rw [r3]
/-! a call that is counted -/
theorem sv_yes (hS : SV L ci ca cr n w tot nt kp nx nc fi fa) (hto : tot < 512) {s : Nat} (hs : s < 6) : SV L (up2 (logI (kcI ci s (kp s) (nx s)) tot) 2 0 0) (logA (kcA ca s (nx s) w) tot s w 0) cr 0 w (tot + 1) nt (updN kp s (kcP (kp s) (nx s))) (updN nx s ((if nx s < 50 then nx s else 0) + 1)) (nc + 1) (upd (upd (upd fi 3 0) 22 (fi 22 + 1)) 23 (nI (nc + 1))) (rowu (rowu fa 24 (upd (fa 24) nc (nI w))) 25 (upd (fa 25) nc (nI s))) := by
  have hV := cV_log (s := s) (li := 0) (cV_keep hs hS.1) hto
  have hw := hS.1.2.2.2.2.2.2.2.2.2.2.2.1.2
  obtain ⟨vv, ⟨r1, r2, r3, r4, r5, r6⟩, k1, k2, k3, k4, k5, k6, k7, k8, k9⟩ := hS
  refine ⟨hV, ⟨r1, rfl, ?_, ⟨rfl, Nat.succ_le_succ r4.2⟩, r5, r6⟩, k1, k2, k3, k4, k5, k6, k7, rLg_yes hs hw k8, fun s2 hs2 => ?_⟩
  · show fi 22 + 1 = ci 5 0 + 1
    rw [r3]
  · have h9 := k9 s2 hs2
    show rRg s2 (nc + 1) w (upd (fa 24) nc (nI w)) (upd (fa 25) nc (nI s)) (ua2 ca 21 s _ 21 s2) (updN kp s _ s2) (updN nx s _ s2)
    by_cases e : s2 = s
    · subst e
      rw [ua2_at, updN, if_pos rfl, updN, if_pos rfl, kcP]
      exact rRg_keep hs hw h9
    · have e2 : ua2 ca 21 s (upd (ca 21 s) (if nx s < 50 then nx s else 0) (nI w)) 21 s2 = ca 21 s2 := by simp [ua2, e]
      rw [e2, updN, if_neg e, updN, if_neg e]
      exact rRg_other hs2 hs (fun q => e q.symm) hw h9
/-! what it costs -/
theorem sv_pay (hS : SV L ci ca cr n w tot nt kp nx nc fi fa) (s : Nat) (d : Int32) (hs : s < 6) : SV L (costI ci s d) ca cr n w tot nt kp nx nc fi (rowu fa 26 (upd (fa 26) s (fa 26 s + d))) := by
  obtain ⟨vv, r, k1, k2, kk⟩ := hS
  refine ⟨vv, r, k1, fun i hi => ?_, kk⟩
  obtain ⟨⟨h1, h2, h3, h4⟩, q⟩ := k2 i hi
  refine ⟨⟨h1, h2, ?_, h4⟩, q⟩
  show upd (fa 26) s (fa 26 s + d) i = up2 ci 22 s (ci 22 s + d) 22 i
  by_cases e : i = s
  · subst e; rw [pk_us, up2_at, h3]
  · rw [pk_un e, up2_ne (fun q => e q.2)]; exact h3
/-! the carrier that was asked -/
theorem sv_ask (hS : SV L ci ca cr n w tot nt kp nx nc fi fa) {c : Nat} {q r : CrS} (hB : carB q r) : SV L (cset ci c r) ca cr n w tot nt kp nx nc fi (mset fa c q) := by
  obtain ⟨vv, r9, k1, k2, k3, kk⟩ := hS
  refine ⟨vv, r9, k1, k2, fun i hi => ?_, kk⟩
  obtain ⟨h1, h2, h3⟩ := k3 i hi
  refine ⟨h1, h2, ?_⟩
  show carB (upd (fa 15) c q.1 i, upd (fa 16) c q.2.1 i, upd (fa 17) c q.2.2.1 i, upd (fa 18) c q.2.2.2 i) (up2 ci 32 c r.1 32 i, up2 (up2 ci 32 c r.1) 33 c r.2.1 33 i, up2 (up2 (up2 ci 32 c r.1) 33 c r.2.1) 34 c r.2.2.1 34 i, up2 (up2 (up2 (up2 ci 32 c r.1) 33 c r.2.1) 34 c r.2.2.1) 35 c r.2.2.2 35 i)
  by_cases e : i = c
  · subst e
    rw [pk_us, pk_us, pk_us, pk_us, up2_at, up2_at, up2_at, up2_at]
    exact hB
  · simpa [upd, up2, e] using h3
/-! rates that are fixed -/
def ruN (r : Nat → Nat) (n u : Nat) : Nat → Nat := fun k => if k = n then u else r k
theorem ruN_s {r : Nat → Nat} {n u : Nat} : ruN r n u n = u := if_pos rfl
theorem ruN_n {r : Nat → Nat} {n u k : Nat} (h : k ≠ n) : ruN r n u k = r k := if_neg h
theorem fx_some {nq : Nat} {m28 m29 m30 m31 c40 c41 c42 c43 c46 c36 c37 c38 : Nat → Int32} {r40 : Nat → Nat} (h : rFx nq w m28 m29 m30 m31 c40 c41 c42 c43 c46 c36 c37 c38 r40) (hw : w ≤ 20000) {s c f t k : Nat} (h1 : s < 6) (h2 : c < 4) (h3 : f < 8) (h4 : t < 8) (hk : k < nq) (hl : lnC c40 c41 c42 c43 s c f t k) (hx : nI w < c46 k) : ∃ e : Nat, e ≤ 20100 ∧ w ≤ e ∧ m28 (zix s c f t) = nI e ∧ c46 k = nI (e + 1) ∧ c36 (r40 k) = m29 (zix s c f t) ∧ c37 (r40 k) = m30 (zix s c f t) ∧ c38 (r40 k) = m31 (zix s c f t) := by
  rcases h s c f t h1 h2 h3 h4 with ⟨-, q⟩ | ⟨e, e1, e2, -, e4⟩
  · exact absurd hl (q k hk)
  · rcases e4 k hk hl with ⟨g1, g2⟩ | ⟨x, hx1, hx2⟩
    · rw [g1, nI_ltI (by omega) (by omega)] at hx
      exact ⟨e, e1, by omega, e2, g1, g2⟩
    · rw [hx2, nI_ltI (by omega) (by omega)] at hx
      omega
theorem fx_none {nq : Nat} {m28 m29 m30 m31 c40 c41 c42 c43 c46 c36 c37 c38 : Nat → Int32} {r40 : Nat → Nat} (h : rFx nq w m28 m29 m30 m31 c40 c41 c42 c43 c46 c36 c37 c38 r40) (hw : w ≤ 20000) {s c f t : Nat} (h1 : s < 6) (h2 : c < 4) (h3 : f < 8) (h4 : t < 8) (hn : ∀ k, k < nq → ¬ (nI w < c46 k ∧ lnC c40 c41 c42 c43 s c f t k)) : ¬ nI w ≤ m28 (zix s c f t) := by
  rcases h s c f t h1 h2 h3 h4 with ⟨q, -⟩ | ⟨e, e1, e2, ⟨k, hk, hl, he⟩, -⟩
  · rw [q, Int32.le_iff_toInt_le, nI_toInt (by omega)]
    have : (-1 : Int32).toInt = -1 := rfl
    omega
  · rw [e2, nI_leI (by omega) (by omega)]
    intro hwe
    exact hn k hk ⟨by rw [he, nI_ltI (by omega) (by omega)]; omega, hl⟩
theorem lnC_up {c40 c41 c42 c43 : Nat → Int32} {nq s c f t k : Nat} {a b d e : Int32} (hk : k ≠ nq) : lnC (upd c40 nq a) (upd c41 nq b) (upd c42 nq d) (upd c43 nq e) s c f t k ↔ lnC c40 c41 c42 c43 s c f t k := by
  unfold lnC
  rw [pk_un hk, pk_un hk, pk_un hk, pk_un hk]
theorem lnC_at {c40 c41 c42 c43 : Nat → Int32} {nq s c f t s2 c2 f2 t2 : Nat} (h1 : s < 6) (h2 : c < 4) (h3 : f < 8) (h4 : t < 8) (k1 : s2 < 6) (k2 : c2 < 4) (k3 : f2 < 8) (k4 : t2 < 8) : lnC (upd c40 nq (nI s)) (upd c41 nq (nI c)) (upd c42 nq (nI f)) (upd c43 nq (nI t)) s2 c2 f2 t2 nq ↔ (s = s2 ∧ c = c2 ∧ f = f2 ∧ t = t2) := by
  unfold lnC
  rw [pk_us, pk_us, pk_us, pk_us, nI_eq (by omega) (by omega), nI_eq (by omega) (by omega), nI_eq (by omega) (by omega), nI_eq (by omega) (by omega)]
theorem fx_new {nq : Nat} {m28 m29 m30 m31 c40 c41 c42 c43 c46 c36 c37 c38 : Nat → Int32} {r40 : Nat → Nat} (h : rFx nq w m28 m29 m30 m31 c40 c41 c42 c43 c46 c36 c37 c38 r40) (hw : w ≤ 20000) {s c f t : Nat} (u : Nat) (h1 : s < 6) (h2 : c < 4) (h3 : f < 8) (h4 : t < 8) (hx : ¬ nI w ≤ m28 (zix s c f t)) :
    rFx (nq + 1) w (upd m28 (zix s c f t) (nI (w + 59))) (upd m29 (zix s c f t) (c36 u)) (upd m30 (zix s c f t) (c37 u)) (upd m31 (zix s c f t) (c38 u)) (upd c40 nq (nI s)) (upd c41 nq (nI c)) (upd c42 nq (nI f)) (upd c43 nq (nI t)) (upd c46 nq (nI (w + 60))) c36 c37 c38 (ruN r40 nq u) := by
  intro s2 c2 f2 t2 k1 k2 k3 k4
  by_cases e : s = s2 ∧ c = c2 ∧ f = f2 ∧ t = t2
  · obtain ⟨rfl, rfl, rfl, rfl⟩ := e
    refine Or.inr ⟨w + 59, by omega, pk_us, ⟨nq, Nat.lt_succ_self _, (lnC_at h1 h2 h3 h4 h1 h2 h3 h4).mpr ⟨rfl, rfl, rfl, rfl⟩, pk_us⟩, fun k hk hl => ?_⟩
    by_cases ek : k = nq
    · subst ek
      refine Or.inl ⟨pk_us, ?_, ?_, ?_⟩
      · rw [pk_us, ruN_s]
      · rw [pk_us, ruN_s]
      · rw [pk_us, ruN_s]
    · have hk2 : k < nq := by omega
      rw [lnC_up ek] at hl
      rw [pk_un ek]
      rcases h s c f t h1 h2 h3 h4 with ⟨-, q⟩ | ⟨e, e1, e2, -, e4⟩
      · exact absurd hl (q k hk2)
      · rw [e2, nI_leI (by omega) (by omega)] at hx
        rcases e4 k hk2 hl with ⟨g1, -⟩ | g
        · exact Or.inr ⟨e + 1, by omega, g1⟩
        · exact Or.inr g
  · have hz : zix s2 c2 f2 t2 ≠ zix s c f t := fun q => e (by
      obtain ⟨q1, q2, q3, q4⟩ := zix_inj k2 k3 k4 h2 h3 h4 q
      exact ⟨q1.symm, q2.symm, q3.symm, q4.symm⟩)
    rw [pk_un hz, pk_un hz, pk_un hz, pk_un hz]
    have hno : ¬ lnC (upd c40 nq (nI s)) (upd c41 nq (nI c)) (upd c42 nq (nI f)) (upd c43 nq (nI t)) s2 c2 f2 t2 nq := fun q => e ((lnC_at h1 h2 h3 h4 k1 k2 k3 k4).mp q)
    rcases h s2 c2 f2 t2 k1 k2 k3 k4 with ⟨q1, q⟩ | ⟨e9, e1, e2, ⟨k0, hk0, hl0, he0⟩, e4⟩
    · refine Or.inl ⟨q1, fun k hk hl => ?_⟩
      by_cases ek : k = nq
      · subst ek; exact hno hl
      · exact q k (by omega) ((lnC_up ek).mp hl)
    · refine Or.inr ⟨e9, e1, e2, ⟨k0, by omega, (lnC_up (by omega)).mpr hl0, by rw [pk_un (by omega)]; exact he0⟩, fun k hk hl => ?_⟩
      by_cases ek : k = nq
      · subst ek; exact absurd hl hno
      · rw [pk_un ek, ruN_n ek]
        exact e4 k (by omega) ((lnC_up ek).mp hl)
theorem fx_old {nq : Nat} {m28 m29 m30 m31 c40 c41 c42 c43 c46 c36 c37 c38 : Nat → Int32} {r40 : Nat → Nat} (h : rFx nq w m28 m29 m30 m31 c40 c41 c42 c43 c46 c36 c37 c38 r40) (hw : w ≤ 20000) {s c f t k9 : Nat} (h1 : s < 6) (h2 : c < 4) (h3 : f < 8) (h4 : t < 8) (hk9 : k9 < nq) (hl9 : lnC c40 c41 c42 c43 s c f t k9) (hx : nI w < c46 k9) :
    rFx (nq + 1) w m28 m29 m30 m31 (upd c40 nq (nI s)) (upd c41 nq (nI c)) (upd c42 nq (nI f)) (upd c43 nq (nI t)) (upd c46 nq (c46 k9)) c36 c37 c38 (ruN r40 nq (r40 k9)) := by
  intro s2 c2 f2 t2 k1 k2 k3 k4
  by_cases e : s = s2 ∧ c = c2 ∧ f = f2 ∧ t = t2
  · obtain ⟨rfl, rfl, rfl, rfl⟩ := e
    obtain ⟨e, e1, e0, e2, g1, g2⟩ := fx_some h hw h1 h2 h3 h4 hk9 hl9 hx
    refine Or.inr ⟨e, e1, e2, ⟨nq, Nat.lt_succ_self _, (lnC_at h1 h2 h3 h4 h1 h2 h3 h4).mpr ⟨rfl, rfl, rfl, rfl⟩, by rw [pk_us]; exact g1⟩, fun k hk hl => ?_⟩
    by_cases ek : k = nq
    · subst ek
      rw [pk_us, ruN_s]
      exact Or.inl ⟨g1, g2⟩
    · have hk2 : k < nq := by omega
      rw [lnC_up ek] at hl
      rw [pk_un ek, ruN_n ek]
      rcases h s c f t h1 h2 h3 h4 with ⟨-, q⟩ | ⟨e3, e13, e23, -, e43⟩
      · exact absurd hl (q k hk2)
      · have : e3 = e := (nI_eq (by omega) (by omega)).mp (e23.symm.trans e2)
        subst this
        exact e43 k hk2 hl
  · have hno : ¬ lnC (upd c40 nq (nI s)) (upd c41 nq (nI c)) (upd c42 nq (nI f)) (upd c43 nq (nI t)) s2 c2 f2 t2 nq := fun q => e ((lnC_at h1 h2 h3 h4 k1 k2 k3 k4).mp q)
    rcases h s2 c2 f2 t2 k1 k2 k3 k4 with ⟨q1, q⟩ | ⟨e9, e1, e2, ⟨k0, hk0, hl0, he0⟩, e4⟩
    · refine Or.inl ⟨q1, fun k hk hl => ?_⟩
      by_cases ek : k = nq
      · subst ek; exact hno hl
      · exact q k (by omega) ((lnC_up ek).mp hl)
    · refine Or.inr ⟨e9, e1, e2, ⟨k0, by omega, (lnC_up (by omega)).mpr hl0, by rw [pk_un (by omega)]; exact he0⟩, fun k hk hl => ?_⟩
      by_cases ek : k = nq
      · subst ek; exact absurd hl hno
      · rw [pk_un ek, ruN_n ek]
        exact e4 k (by omega) ((lnC_up ek).mp hl)
end RVC
