/-! the text of a fault as bytes: w its word, fk its last sign -/
def ftG (w : Nat) (fk : Int32) : Nat → Int32 := upd (upd (va_cpy (fun j => (gsByt.getD w []).getD j 0) (fun _ => 0) 0 0 (gsLen.getD w 0)) (0 + gsLen.getD w 0) (vp_nar .byte 32)) (0 + gsLen.getD w 0 + 1) (vp_nar .byte fk)
def ftB (w : Nat) (fk : Int32) : Nat → Int32 := va_cpy (ftG w fk) (fun _ => 0) 0 0 (0 + gsLen.getD w 0 + 1 + 1)
theorem fin128 {P : Nat → Prop} (h : ∀ q : Fin 128, P q.1) {c : Nat} (hc : c < 128) : P c := h ⟨c, hc⟩
theorem ch_le {c : Nat} (h : c < 128) : ¬ 255 < nI c := fin128 (P := fun c => ¬ 255 < nI c) (by decide +kernel) h
theorem ch_i8 {c : Nat} (h : c < 128) : (nI c).toInt8.toInt32 = nI c := fin128 (P := fun c => (nI c).toInt8.toInt32 = nI c) (by decide +kernel) h
theorem ch_nb {c : Nat} (h : c < 128) : vp_nar .byte (nI c) = nI c := fin128 (P := fun c => vp_nar .byte (nI c) = nI c) (by decide +kernel) h
theorem ch_fb {c : Nat} (h : c < 128) : fits .byte (.int (nI c)) = true := fin128 (P := fun c => fits .byte (.int (nI c)) = true) (by decide +kernel) h
theorem ch_255 {c : Nat} (h : c < 128) : nI c &&& 255 = nI c := fin128 (P := fun c => nI c &&& 255 = nI c) (by decide +kernel) h
theorem ch_nc {c : Nat} (h : c < 128) : narrow .char (.int (nI c)) = .int (nI c) := fin128 (P := fun c => narrow .char (.int (nI c)) = .int (nI c)) (by decide +kernel) h
theorem gs_128 (k j : Nat) : ∃ c : Nat, c < 128 ∧ (gsByt.getD k []).getD j 0 = nI c := gs_all (fun x => ∃ c : Nat, c < 128 ∧ x = nI c) ⟨0, by decide, rfl⟩ (by
  intro x hx
  simp only [List.mem_cons, List.not_mem_nil, or_false] at hx
  rcases hx with h | h | h | h | h | h | h | h | h | h | h | h | h | h | h | h | h | h <;> subst h
  · exact ⟨85, by decide, rfl⟩
  · exact ⟨78, by decide, rfl⟩
  · exact ⟨75, by decide, rfl⟩
  · exact ⟨79, by decide, rfl⟩
  · exact ⟨87, by decide, rfl⟩
  · exact ⟨68, by decide, rfl⟩
  · exact ⟨66, by decide, rfl⟩
  · exact ⟨76, by decide, rfl⟩
  · exact ⟨69, by decide, rfl⟩
  · exact ⟨65, by decide, rfl⟩
  · exact ⟨77, by decide, rfl⟩
  · exact ⟨73, by decide, rfl⟩
  · exact ⟨83, by decide, rfl⟩
  · exact ⟨71, by decide, rfl⟩
  · exact ⟨67, by decide, rfl⟩
  · exact ⟨70, by decide, rfl⟩
  · exact ⟨84, by decide, rfl⟩
  · exact ⟨88, by decide, rfl⟩) k j
theorem kc_128 (k : Nat) : ∃ c : Nat, c < 128 ∧ keyc k = nI c := by
  unfold keyc
  split
  · exact ⟨83, by decide, rfl⟩
  · exact ⟨67, by decide, rfl⟩
  · exact ⟨70, by decide, rfl⟩
  · exact ⟨84, by decide, rfl⟩
  · exact ⟨87, by decide, rfl⟩
  · exact ⟨88, by decide, rfl⟩
/-- the last sign is a letter or a digit -/
theorem rdT_fk {t : Nat → Int32} {n w : Nat} {fk : Int32} {vals : Nat → Int32} (hT : rdT t n fk vals w) (hw : ¬ w = 0) : ∃ c : Nat, c < 128 ∧ fk = nI c := by
  obtain ⟨h5, h1, h2, h3⟩ := hT
  rw [h3 hw]
  unfold fch
  by_cases e1 : w = 1
  · rw [if_pos e1]
    rcases (rdR_ok t n).2 with q | ⟨q, p, hp, e⟩ | ⟨q, j, hj, e⟩
    · rw [h1] at q; subst e1; exact absurd q (by decide)
    · rw [e]; exact ⟨48 + p, by omega, nI_add 48 p⟩
    · rw [h1] at q; subst e1; exact absurd q (by decide)
  · rw [if_neg e1]; exact kc_128 _
theorem ftG_128 {w : Nat} {fk : Int32} (h : ∃ c : Nat, c < 128 ∧ fk = nI c) (j : Nat) : ∃ c : Nat, c < 128 ∧ ftG w fk j = nI c := by
  obtain ⟨c, hc, rfl⟩ := h
  unfold ftG
  rw [ch_nb hc]
  unfold upd va_cpy
  split
  · exact ⟨c, hc, rfl⟩
  · split
    · exact ⟨32, by decide, rfl⟩
    · split
      · exact gs_128 _ _
      · exact ⟨0, by decide, rfl⟩
theorem ftB_128 {w : Nat} {fk : Int32} (h : ∃ c : Nat, c < 128 ∧ fk = nI c) (j : Nat) : ∃ c : Nat, c < 128 ∧ ftB w fk j = nI c := by
  unfold ftB va_cpy
  split
  · exact ftG_128 h _
  · exact ⟨0, by decide, rfl⟩
theorem gs_word {w j : Nat} (hw : w < 5) (h0 : ¬ w = 0) (hj : j < gsLen.getD w 0) : (gsByt.getD w []).getD j 0 = wordc (tword (nI w) + j) := by
  have key : ∀ w : Fin 5, ∀ j : Fin 8, ¬ w.1 = 0 → j.1 < gsLen.getD w.1 0 → (gsByt.getD w.1 []).getD j.1 0 = wordc (tword (nI w.1) + j.1) := by decide +kernel
  have h7 : ∀ w : Fin 5, gsLen.getD w.1 0 < 8 := by decide +kernel
  exact key ⟨w, hw⟩ ⟨j, Nat.lt_trans hj (h7 ⟨w, hw⟩)⟩ h0 hj
theorem tl_word {w : Nat} (hw : w < 5) (h0 : ¬ w = 0) : tlen (nI w) = gsLen.getD w 0 + 2 := by
  have key : ∀ w : Fin 5, ¬ w.1 = 0 → tlen (nI w.1) = gsLen.getD w.1 0 + 2 := by decide +kernel
  exact key ⟨w, hw⟩ h0
theorem w_one {w : Nat} (hw : w < 5) : nI w = 1 ↔ w = 1 := by
  have key : ∀ w : Fin 5, nI w.1 = 1 ↔ w.1 = 1 := by decide +kernel
  exact key ⟨w, hw⟩
theorem ftB_ok {t : Nat → Int32} {n w : Nat} {fk : Int32} {vals : Nat → Int32} (hT : rdT t n fk vals w) (hw : ¬ w = 0) : tlen (rdR t n).1 = 0 + gsLen.getD w 0 + 1 + 1 ∧ ∀ j, j < 0 + gsLen.getD w 0 + 1 + 1 → ftB w fk j = tellc (rdR t n).1 (rdR t n).2.1 j := by
  obtain ⟨c, hc, hf⟩ := rdT_fk hT hw
  obtain ⟨h5, h1, h2, h3⟩ := hT
  have h9 := h3 hw
  have hz := tl_word h5 hw
  rw [h1, hz]
  refine ⟨by omega, fun j hj => ?_⟩
  unfold tellc
  rw [hz]
  have hB : ftB w fk j = ftG w fk j := by
    unfold ftB va_cpy
    rw [if_pos ⟨by omega, by omega⟩, show 0 + (j - 0) = j by omega]
  rw [hB]
  unfold ftG
  by_cases a : j < gsLen.getD w 0
  · rw [if_pos (by omega), pk_un (by omega), pk_un (by omega)]
    unfold va_cpy
    rw [if_pos ⟨by omega, by omega⟩, show 0 + (j - 0) = j by omega]
    exact gs_word h5 hw a
  · rw [if_neg (by omega)]
    by_cases b : j = gsLen.getD w 0
    · rw [if_pos (by omega), pk_un (by omega), show j = 0 + gsLen.getD w 0 by omega, pk_us]
      decide
    · rw [if_neg (by omega), show j = 0 + gsLen.getD w 0 + 1 by omega, pk_us, hf, ch_nb hc, ← hf, h9]
      unfold fch
      by_cases e1 : w = 1
      · rw [if_pos e1, if_pos ((w_one h5).mpr e1)]
      · rw [if_neg e1, if_neg (fun q => e1 ((w_one h5).mp q))]
