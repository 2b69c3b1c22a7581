section RVD
variable {L L' : List ro} {ci ci2 : Nat → Nat → Int32} {ca ca2 : Nat → Nat → Nat → Int32} {cr cr2 : Nat → Nat → Nat} {n w tot nt nc : Nat} {kp nx : Nat → Nat} {fi fi2 : Nat → Int32} {fa fa2 : Nat → Nat → Int32}
theorem nI_59 {w : Nat} : nI w + 59 = nI (w + 59) := nI_add w 59
theorem abs8 {f t : Nat} (hf : f < 8) (ht : t < 8) : (if nI t < nI f then nI f - nI t else nI t - nI f) = absd (nI f - nI t) := by
  have h : ∀ a b : Fin 8, (if nI b.1 < nI a.1 then nI a.1 - nI b.1 else nI b.1 - nI a.1) = absd (nI a.1 - nI b.1) := by decide +kernel
  exact h ⟨f, hf⟩ ⟨t, ht⟩
/-! a quote more -/
theorem cV_quote (h : cV L ci ca cr n w tot nt kp nx) {t cap c : Nat} {z9 : Int32} (hq : cr 13 0 < 100) (ht : t < nt) (hc : c < 4) (h41 : ca 4 0 1 = nI c) (k1 : cr 13 0 + 1 ≤ cap) (k2 : 10 ≤ cap) (k3 : cap ≤ 150) (hL : ∀ x : ro, x ∈ L' ↔ x ∈ L ∨ x = (40, cr 13 0) ∨ x = (12, 0)) :
    cV L' (ciL (qtC ci (cr 13 0) (ca 4 0) z9) 0 (cr 13 0)) ca (crL (ur2 cr 40 (cr 13 0) t) 0 (cr 13 0) cap) n w tot nt kp nx := by
  obtain ⟨vR, vA, vN, vq, vp, vt, vQ, vP, vC, vX, vT, vW, vG, vS⟩ := h
  have hk : ∀ k i : Nat, k ≠ 40 → (k, i) ≠ ((12, 0) : ro) → ((k, i) ∈ L' ↔ (k, i) ∈ L) := fun k i q1 q2 => nmL hL (Ne.symm q1) q2
  have hd : ∀ k i : Nat, k ≠ 12 → (k, i) ≠ ((12, 0) : ro) := fun k i q e => q (congrArg Prod.fst e)
  refine ⟨fun r hr => (hL r).mpr (Or.inl (vR r hr)), fun i hi => ?_, ⟨hq, vN.2⟩, fun k => ?_, fun k => (hk 50 k (by decide) (hd _ _ (by decide))).trans (vp k), fun k => (hk 31 k (by decide) (hd _ _ (by decide))).trans (vt k), fun k hk9 => ?_, fun k hk9 => Nat.lt_succ_of_lt (vP k hk9), vC, fun k q1 q2 z => vX k q1 q2 ((hk k 0 (by omega) (hd _ _ (by omega))).mp z), vT, vW, vG, vS⟩
  · rcases (show i = 0 ∨ i = 1 by omega) with e | e <;> subst e
    · refine ⟨rfl, fun q => absurd (show cap = 0 from q) (by omega), fun _ => ⟨(hL _).mpr (Or.inr (Or.inr rfl)), k1, k2, k3⟩⟩
    · obtain ⟨a1, a2, a3⟩ := vA 1 (by decide)
      have e12 := hk 12 1 (by decide) (by decide)
      exact ⟨a1, fun q => ⟨fun z => (a2 q).1 (e12.mp z), (a2 q).2⟩, fun q => ⟨e12.mpr (a3 q).1, (a3 q).2⟩⟩
  · rw [hL]
    show (40, k) ∈ L ∨ (40, k) = ((40, cr 13 0) : ro) ∨ (40, k) = ((12, 0) : ro) ↔ k < cr 13 0 + 1
    rw [vq k]
    constructor
    · rintro (q | q | q)
      · omega
      · have := congrArg Prod.snd q; simp at this; omega
      · exact absurd (congrArg Prod.fst q) (by simp)
    · intro q
      by_cases e : k = cr 13 0
      · exact Or.inr (Or.inl (by rw [e]))
      · exact Or.inl (by omega)
  · have hk8 : k < cr 13 0 + 1 := hk9
    show (if k = cr 13 0 then t else cr 40 k) < nt ∧ ∃ c, c < 4 ∧ (if k = cr 13 0 then ca 4 0 1 else ci 41 k) = nI c
    by_cases e : k = cr 13 0
    · rw [if_pos e, if_pos e]; exact ⟨ht, c, hc, h41⟩
    · rw [if_neg e, if_neg e]
      exact vQ k (by omega)
/-- the reference's rows with one quote more -/
def quM (fa : Nat → Nat → Int32) (nq : Nat) (m28 m29 m30 m31 : Nat → Int32) (a33 a34 a35 a36 a37 a38 a39 a40 a41 : Int32) : Nat → Nat → Int32 := fun a => match a with
  | 28 => m28 | 29 => m29 | 30 => m30 | 31 => m31
  | 33 => upd (fa 33) nq a33 | 34 => upd (fa 34) nq a34 | 35 => upd (fa 35) nq a35 | 36 => upd (fa 36) nq a36 | 37 => upd (fa 37) nq a37 | 38 => upd (fa 38) nq a38 | 39 => upd (fa 39) nq a39 | 40 => upd (fa 40) nq a40 | 41 => upd (fa 41) nq a41
  | a => fa a
theorem sv_quote (hS : SV L ci ca cr n w tot nt kp nx nc fi fa) {t cap e s c f t2 : Nat} {m28 m29 m30 m31 : Nat → Int32} (hq : cr 13 0 < 100) (ht : t < nt) (he : e ≤ 20100) (hs : s < 6) (hc : c < 4) (hf : f < 8) (ht2 : t2 < 8) (h40 : ca 4 0 0 = nI s) (h41 : ca 4 0 1 = nI c) (h42 : ca 4 0 2 = nI f) (h43 : ca 4 0 3 = nI t2) (k1 : cr 13 0 + 1 ≤ cap) (k2 : 10 ≤ cap) (k3 : cap ≤ 150) (hL : ∀ x : ro, x ∈ L' ↔ x ∈ L ∨ x = (40, cr 13 0) ∨ x = (12, 0))
    (hFx : rFx (cr 13 0 + 1) w m28 m29 m30 m31 (upd (ci 40) (cr 13 0) (nI s)) (upd (ci 41) (cr 13 0) (nI c)) (upd (ci 42) (cr 13 0) (nI f)) (upd (ci 43) (cr 13 0) (nI t2)) (upd (ci 46) (cr 13 0) (nI (e + 1))) (ci 36) (ci 37) (ci 38) (ruN (cr 40) (cr 13 0) t)) :
    SV L' (ciL (qtC ci (cr 13 0) (ca 4 0) (nI (e + 1))) 0 (cr 13 0)) ca (crL (ur2 cr 40 (cr 13 0) t) 0 (cr 13 0) cap) n w tot nt kp nx nc (upd fi 32 (nI (cr 13 0 + 1))) (quM fa (cr 13 0) m28 m29 m30 m31 (nI s) (nI c) (if nI t2 < nI f then nI f - nI t2 else nI t2 - nI f) (ca 4 0 4) (if ca 4 0 5 = 1 then 1 else 0) (ci 36 t) (ci 37 t) (ci 38 t) (nI e)) := by
  have hV := cV_quote (z9 := nI (e + 1)) hS.1 hq ht hc h41 k1 k2 k3 hL
  obtain ⟨vv, ⟨r1, r2, r3, r4, r5, r6⟩, l1, l2, l3, l4, l5, l6, l7, kk⟩ := hS
  refine ⟨hV, ⟨r1, r2, r3, r4, rfl, r6⟩, l1, l2, l3, l4, fun k hk => ?_, l6, ?_, kk⟩
  · have hk8 : k < cr 13 0 + 1 := hk
    show (upd (fa 33) (cr 13 0) (nI s) k = (if k = cr 13 0 then ca 4 0 0 else ci 40 k) ∧ upd (fa 34) (cr 13 0) (nI c) k = (if k = cr 13 0 then ca 4 0 1 else ci 41 k) ∧ upd (fa 35) (cr 13 0) (if nI t2 < nI f then nI f - nI t2 else nI t2 - nI f) k = absd ((if k = cr 13 0 then ca 4 0 2 else ci 42 k) - (if k = cr 13 0 then ca 4 0 3 else ci 43 k)) ∧ upd (fa 36) (cr 13 0) (ca 4 0 4) k = (if k = cr 13 0 then ca 4 0 4 else ci 44 k) ∧ upd (fa 37) (cr 13 0) (if ca 4 0 5 = 1 then 1 else 0) k = (if k = cr 13 0 then (if ca 4 0 5 = 1 then 1 else 0) else ci 45 k)) ∧ (upd (fa 38) (cr 13 0) (ci 36 t) k = ci 36 (if k = cr 13 0 then t else cr 40 k) ∧ upd (fa 39) (cr 13 0) (ci 37 t) k = ci 37 (if k = cr 13 0 then t else cr 40 k) ∧ upd (fa 40) (cr 13 0) (ci 38 t) k = ci 38 (if k = cr 13 0 then t else cr 40 k)) ∧ ∃ e0 : Nat, e0 ≤ 20100 ∧ (if k = cr 13 0 then nI (e + 1) else ci 46 k) = nI (e0 + 1) ∧ upd (fa 41) (cr 13 0) (nI e) k = nI e0
    by_cases e0 : k = cr 13 0
    · subst e0
      simp only [upd, if_true, h40, h41, h42, h43]
      exact ⟨⟨trivial, trivial, abs8 hf ht2, trivial, trivial⟩, ⟨trivial, trivial, trivial⟩, e, he, rfl, rfl⟩
    · simp only [upd, e0, if_false]
      exact l5 k (by omega)
  · have e0 : (ciL (qtC ci (cr 13 0) (ca 4 0) (nI (e + 1))) 0 (cr 13 0)) 40 = upd (ci 40) (cr 13 0) (nI s) := by rw [← h40]; rfl
    have e1 : (ciL (qtC ci (cr 13 0) (ca 4 0) (nI (e + 1))) 0 (cr 13 0)) 41 = upd (ci 41) (cr 13 0) (nI c) := by rw [← h41]; rfl
    have e2 : (ciL (qtC ci (cr 13 0) (ca 4 0) (nI (e + 1))) 0 (cr 13 0)) 42 = upd (ci 42) (cr 13 0) (nI f) := by rw [← h42]; rfl
    have e3 : (ciL (qtC ci (cr 13 0) (ca 4 0) (nI (e + 1))) 0 (cr 13 0)) 43 = upd (ci 43) (cr 13 0) (nI t2) := by rw [← h43]; rfl
    rw [e0, e1, e2, e3]
    exact hFx
set_option maxHeartbeats 4000000 in
theorem sim_call1 {s c f t : Nat} {v v9 : Int32} {L8 : List ro} {ci8 : Nat → Nat → Int32} {ca8 : Nat → Nat → Nat → Int32} {cr8 : Nat → Nat → Nat} (hS : SV L ci ca cr n w tot nt kp nx nc fi fa) (hto : tot < 512) (hs : s < 6) (hc : c < 4) (hf : f < 8) (ht : t < 8) (h40 : ca 4 0 0 = nI s) (h41 : ca 4 0 1 = nI c) (h42 : ca 4 0 2 = nI f) (h43 : ca 4 0 3 = nI t) (hq : cr 13 0 < 100) (hA : ansP L ci ca cr w s c (kp s) (nx s) v L8 ci8 ca8 cr8)
    (f0 : fi2 0 = 0) (f3 : fi2 3 = 0) (f22 : fi2 22 = fi 22 + 1) (fj : ∀ j, j ≠ 0 → j ≠ 3 → j ≠ 7 → j ≠ 8 → j ≠ 22 → j ≠ 23 → j ≠ 32 → fi2 j = fi j)
    (hr : ((fa 11 s ≤ cntW (fa 24) (fa 25) (nI s) (fi 1) (fa 12 s) nc) ∧ fi2 23 = fi 23 ∧ fi2 32 = fi 32 ∧ (∀ a, a ≠ 6 → fa2 a = fa a) ∧ v9 = -2) ∨
      (¬ (fa 11 s ≤ cntW (fa 24) (fa 25) (nI s) (fi 1) (fa 12 s) nc) ∧ fi2 23 = nI (nc + 1) ∧ fa2 24 = upd (fa 24) nc (fi 1) ∧ fa2 25 = upd (fa 25) nc (nI s) ∧ fi 1 ≤ fa 28 (((4 * s + c) * 8 + f) * 8 + t) ∧ fa2 26 = upd (fa 26) s (fa 26 s + 1) ∧ fi2 32 = nI (cr 13 0 + 1) ∧ (fa2 33 = upd (fa 33) (cr 13 0) (nI s) ∧ fa2 34 = upd (fa 34) (cr 13 0) (nI c) ∧ fa2 35 = upd (fa 35) (cr 13 0) (if nI t < nI f then nI f - nI t else nI t - nI f) ∧ fa2 36 = upd (fa 36) (cr 13 0) (ca 4 0 4) ∧ fa2 37 = upd (fa 37) (cr 13 0) (if ca 4 0 5 = 1 then 1 else 0)) ∧ fa2 38 = upd (fa 38) (cr 13 0) (fa 29 (((4 * s + c) * 8 + f) * 8 + t)) ∧ fa2 39 = upd (fa 39) (cr 13 0) (fa 30 (((4 * s + c) * 8 + f) * 8 + t)) ∧ fa2 40 = upd (fa 40) (cr 13 0) (fa 31 (((4 * s + c) * 8 + f) * 8 + t)) ∧ fa2 41 = upd (fa 41) (cr 13 0) (fa 28 (((4 * s + c) * 8 + f) * 8 + t)) ∧ (∀ a, a ≠ 6 → a ≠ 24 → a ≠ 25 → a ≠ 26 → (a < 33 ∨ 41 < a) → fa2 a = fa a) ∧ v9 = nI (cr 13 0)) ∨
      (¬ (fa 11 s ≤ cntW (fa 24) (fa 25) (nI s) (fi 1) (fa 12 s) nc) ∧ fi2 23 = nI (nc + 1) ∧ fa2 24 = upd (fa 24) nc (fi 1) ∧ fa2 25 = upd (fa 25) nc (nI s) ∧ ¬ fi 1 ≤ fa 28 (((4 * s + c) * 8 + f) * 8 + t) ∧ ¬ (askS (fi 1) (fa 13 c) (fa 14 c) (mcr fa c)).1 = 0 ∧ fa2 26 = upd (fa 26) s (fa 26 s + 1) ∧ fi2 32 = fi 32 ∧ (fa2 15 = mset fa c (askS (fi 1) (fa 13 c) (fa 14 c) (mcr fa c)).2 15 ∧ fa2 16 = mset fa c (askS (fi 1) (fa 13 c) (fa 14 c) (mcr fa c)).2 16 ∧ fa2 17 = mset fa c (askS (fi 1) (fa 13 c) (fa 14 c) (mcr fa c)).2 17 ∧ fa2 18 = mset fa c (askS (fi 1) (fa 13 c) (fa 14 c) (mcr fa c)).2 18) ∧ (∀ a, a ≠ 6 → a ≠ 24 → a ≠ 25 → a ≠ 26 → (a < 15 ∨ 18 < a) → fa2 a = fa a) ∧ v9 = (askS (fi 1) (fa 13 c) (fa 14 c) (mcr fa c)).1) ∨
      (¬ (fa 11 s ≤ cntW (fa 24) (fa 25) (nI s) (fi 1) (fa 12 s) nc) ∧ fi2 23 = nI (nc + 1) ∧ fa2 24 = upd (fa 24) nc (fi 1) ∧ fa2 25 = upd (fa 25) nc (nI s) ∧ ¬ fi 1 ≤ fa 28 (((4 * s + c) * 8 + f) * 8 + t) ∧ (askS (fi 1) (fa 13 c) (fa 14 c) (mcr fa c)).1 = 0 ∧ fa2 26 = upd (fa 26) s (fa 26 s + 3) ∧ fi2 32 = nI (cr 13 0 + 1) ∧ (fa2 15 = mset fa c (askS (fi 1) (fa 13 c) (fa 14 c) (mcr fa c)).2 15 ∧ fa2 16 = mset fa c (askS (fi 1) (fa 13 c) (fa 14 c) (mcr fa c)).2 16 ∧ fa2 17 = mset fa c (askS (fi 1) (fa 13 c) (fa 14 c) (mcr fa c)).2 17 ∧ fa2 18 = mset fa c (askS (fi 1) (fa 13 c) (fa 14 c) (mcr fa c)).2 18) ∧ (fa2 28 = upd (fa 28) (((4 * s + c) * 8 + f) * 8 + t) (fi 1 + 59) ∧ fa2 29 = upd (fa 29) (((4 * s + c) * 8 + f) * 8 + t) (fa 19 c) ∧ fa2 30 = upd (fa 30) (((4 * s + c) * 8 + f) * 8 + t) (fa 20 c) ∧ fa2 31 = upd (fa 31) (((4 * s + c) * 8 + f) * 8 + t) (fa 21 c)) ∧ (fa2 33 = upd (fa 33) (cr 13 0) (nI s) ∧ fa2 34 = upd (fa 34) (cr 13 0) (nI c) ∧ fa2 35 = upd (fa 35) (cr 13 0) (if nI t < nI f then nI f - nI t else nI t - nI f) ∧ fa2 36 = upd (fa 36) (cr 13 0) (ca 4 0 4) ∧ fa2 37 = upd (fa 37) (cr 13 0) (if ca 4 0 5 = 1 then 1 else 0)) ∧ fa2 38 = upd (fa 38) (cr 13 0) (fa 19 c) ∧ fa2 39 = upd (fa 39) (cr 13 0) (fa 20 c) ∧ fa2 40 = upd (fa 40) (cr 13 0) (fa 21 c) ∧ fa2 41 = upd (fa 41) (cr 13 0) (fi 1 + 59) ∧ (∀ a, a ≠ 6 → a ≠ 24 → a ≠ 25 → a ≠ 26 → (a < 15 ∨ 18 < a) → (a < 28 ∨ 41 < a ∨ a = 32) → fa2 a = fa a) ∧ v9 = nI (cr 13 0))) : SR tot 0 v.toInt64 v9 L8 (up2 (logI ci8 tot) 2 0 0) (logA ca8 tot s w (if v = -2 then 1 else 0)) cr8 fi2 fa2 := by
  have hw1 := hS.2.1.1
  have hw := hS.1.2.2.2.2.2.2.2.2.2.2.2.1.2
  have hnc : nc ≤ 2000 := by have h1 := hS.2.1.2.2.2.1.2; omega
  obtain ⟨⟨q11, q12, -, -⟩, qa, qb, qa1, qa2, qb1, qb2⟩ := hS.2.2.2.1 s hs
  have hR := hS.2.2.2.2.2.2.2.2.2.2 s hs
  have hFx := hS.2.2.2.2.2.2.2.2.1
  obtain ⟨c1, c2, c3⟩ := hS.2.2.2.2.1 c hc
  have ta := hS.2.2.2.2.2.1 c hc
  have hlim : lftC (ci 20 s) (cntL (ca 21 s) (nI w - ci 21 s) (kp s)) = 0 ↔ fa 11 s ≤ cntW (fa 24) (fa 25) (nI s) (fi 1) (fa 12 s) nc := by
    rw [q11, q12, qa1, qb1, hw1]
    exact lim_R qa2 hw qb2 hnc hR
  have hlane : ∀ k, (ci 40 k = ca 4 0 0 ∧ ci 41 k = ca 4 0 1 ∧ ci 42 k = ca 4 0 2 ∧ ci 43 k = ca 4 0 3) ↔ lnC (ci 40) (ci 41) (ci 42) (ci 43) s c f t k := fun k => by
    rw [h40, h41, h42, h43]
    exact Iff.rfl
  have S1 := sv_yes hS hto hs
  rcases hA with ⟨hl, rfl, rfl, rfl, rfl, rfl⟩ | ⟨hl, hA⟩
  · rcases hr with ⟨-, g23, g32, gfr, rfl⟩ | ⟨q, -⟩ | ⟨q, -⟩ | ⟨q, -⟩
    · rw [if_pos rfl]
      exact SR_of f0 (fun _ => rfl) (Nat.le_refl _) (SV_congr (sv_no hS hto s) ⟨rfl, rfl, rfl, rfl, rfl, rfl, rfl, rfl, rfl, rfl, rfl, rfl, rfl, rfl, rfl, rfl, rfl, rfl, rfl, rfl, rfl, rfl, rfl, rfl, rfl, rfl, rfl, rfl, rfl, rfl, rfl⟩ ⟨rfl, rfl, rfl, rfl, rfl⟩ ⟨rfl, rfl, rfl, rfl, rfl⟩ ⟨fj 1 (by decide) (by decide) (by decide) (by decide) (by decide) (by decide) (by decide), f3, f22, g23, g32, fj 42 (by decide) (by decide) (by decide) (by decide) (by decide) (by decide) (by decide)⟩ (eqFa_6 gfr))
    · exact absurd (hlim.mp hl) q
    · exact absurd (hlim.mp hl) q
    · exact absurd (hlim.mp hl) q
  · have hl2 := fun q => hl (hlim.mpr q)
    rcases hA with ⟨k9, hk9, ⟨hx9, hl9⟩, cap, b1, b2, b3, hL, rfl, rfl, rfl, rfl⟩ | ⟨hno, hA⟩
    · have hl9 := (hlane k9).mp hl9
      obtain ⟨e, he, hwe, x0, x4, x1, x2, x3⟩ := fx_some hFx hw hs hc hf ht hk9 hl9 hx9
      have hfix : fi 1 ≤ fa 28 (((4 * s + c) * 8 + f) * 8 + t) := by
        show fi 1 ≤ fa 28 (zix s c f t)
        rw [hw1, x0, nI_leI (by omega) (by omega)]
        exact hwe
      rcases hr with ⟨q, -⟩ | ⟨-, g23, g24, g25, -, g26, g32, ⟨g33, g34, g35, g36, g37⟩, g38, g39, g40, g41, gfr, rfl⟩ | ⟨-, -, -, -, q, -⟩ | ⟨-, -, -, -, q, -⟩
      · exact absurd q hl2
      · have hne : ¬ nI (cr 13 0) = -2 := fun q => by
          have := congrArg Int32.toInt q
          rw [nI_toInt (by omega)] at this
          have h2 : (-2 : Int32).toInt = -2 := rfl
          omega
        rw [if_neg hne]
        have hFn := fx_old hFx hw hs hc hf ht hk9 hl9 hx9
        rw [x4] at hFn
        have S2 := sv_pay S1 s 1 hs
        have S3 := sv_quote (L' := L8) (cap := cap) (t := cr 40 k9) (m28 := fa 28) (m29 := fa 29) (m30 := fa 30) (m31 := fa 31) S2 hq (hS.1.2.2.2.2.2.2.1 k9 hk9).1 he hs hc hf ht h40 h41 h42 h43 b1 b2 b3 hL hFn
        rw [x4]
        refine SR_of f0 (fun _ => rfl) (Nat.le_refl _) (SV_congr S3 ⟨rfl, rfl, rfl, rfl, rfl, rfl, rfl, rfl, rfl, rfl, rfl, rfl, rfl, rfl, rfl, rfl, rfl, rfl, rfl, rfl, rfl, rfl, rfl, rfl, rfl, rfl, rfl, rfl, rfl, rfl, rfl⟩ ⟨rfl, rfl, rfl, rfl, rfl⟩ ⟨rfl, rfl, rfl, rfl, rfl⟩ ⟨fj 1 (by decide) (by decide) (by decide) (by decide) (by decide) (by decide) (by decide), f3, f22, g23, g32, fj 42 (by decide) (by decide) (by decide) (by decide) (by decide) (by decide) (by decide)⟩ ⟨gfr 2 (by decide) (by decide) (by decide) (by decide) (by decide), gfr 4 (by decide) (by decide) (by decide) (by decide) (by decide), gfr 5 (by decide) (by decide) (by decide) (by decide) (by decide), gfr 11 (by decide) (by decide) (by decide) (by decide) (by decide), gfr 12 (by decide) (by decide) (by decide) (by decide) (by decide), gfr 13 (by decide) (by decide) (by decide) (by decide) (by decide), gfr 14 (by decide) (by decide) (by decide) (by decide) (by decide), gfr 15 (by decide) (by decide) (by decide) (by decide) (by decide), gfr 16 (by decide) (by decide) (by decide) (by decide) (by decide), gfr 17 (by decide) (by decide) (by decide) (by decide) (by decide), gfr 18 (by decide) (by decide) (by decide) (by decide) (by decide), gfr 19 (by decide) (by decide) (by decide) (by decide) (by decide), gfr 20 (by decide) (by decide) (by decide) (by decide) (by decide), gfr 21 (by decide) (by decide) (by decide) (by decide) (by decide), (g24.trans (by rw [hw1]; rfl)), g25, g26, gfr 27 (by decide) (by decide) (by decide) (by decide) (by decide), gfr 28 (by decide) (by decide) (by decide) (by decide) (by decide), gfr 29 (by decide) (by decide) (by decide) (by decide) (by decide), gfr 30 (by decide) (by decide) (by decide) (by decide) (by decide), gfr 31 (by decide) (by decide) (by decide) (by decide) (by decide), g33, g34, g35, g36, g37, (g38.trans (congrArg (upd (fa 38) (cr 13 0)) x1.symm)), (g39.trans (congrArg (upd (fa 39) (cr 13 0)) x2.symm)), (g40.trans (congrArg (upd (fa 40) (cr 13 0)) x3.symm)), (g41.trans (congrArg (upd (fa 41) (cr 13 0)) x0)), gfr 43 (by decide) (by decide) (by decide) (by decide) (by decide), gfr 44 (by decide) (by decide) (by decide) (by decide) (by decide), gfr 45 (by decide) (by decide) (by decide) (by decide) (by decide), gfr 46 (by decide) (by decide) (by decide) (by decide) (by decide)⟩)
      · exact absurd hfix q
      · exact absurd hfix q
    · have hnf : ¬ fi 1 ≤ fa 28 (((4 * s + c) * 8 + f) * 8 + t) := by
        rw [hw1]
        exact fx_none hFx hw hs hc hf ht (fun k hk q => hno k hk ⟨q.1, (hlane k).mpr q.2⟩)
      have hcrc := crc_B (s := mcr fa c) (c := ccr ci c) (w := w) (by omega) c3
      rcases hA with ⟨h1, rfl, rfl, rfl, rfl, rfl⟩ | ⟨h1, h2, rfl, rfl, rfl, rfl, rfl⟩ | ⟨h1, h2, cap, b1, b2, b3, hL, rfl, rfl, rfl, rfl⟩
      · have hask : (askS (fi 1) (fa 13 c) (fa 14 c) (mcr fa c)) = (-3, mcr fa c) := by
          unfold askS
          rw [hw1, if_pos (hcrc.trans h1)]
        rw [hask] at hr
        rcases hr with ⟨q, -⟩ | ⟨-, -, -, -, q, -⟩ | ⟨-, g23, g24, g25, -, -, g26, g32, ⟨g15, g16, g17, g18⟩, gfr, rfl⟩ | ⟨-, -, -, -, -, q, -⟩
        · exact absurd q hl2
        · exact absurd q hnf
        · rw [mset_self] at g15 g16 g17 g18
          rw [if_neg (by decide)]
          exact SR_of f0 (fun _ => rfl) (Nat.le_refl _) (SV_congr (sv_pay S1 s 1 hs) ⟨rfl, rfl, rfl, rfl, rfl, rfl, rfl, rfl, rfl, rfl, rfl, rfl, rfl, rfl, rfl, rfl, rfl, rfl, rfl, rfl, rfl, rfl, rfl, rfl, rfl, rfl, rfl, rfl, rfl, rfl, rfl⟩ ⟨rfl, rfl, rfl, rfl, rfl⟩ ⟨rfl, rfl, rfl, rfl, rfl⟩ ⟨fj 1 (by decide) (by decide) (by decide) (by decide) (by decide) (by decide) (by decide), f3, f22, g23, g32, fj 42 (by decide) (by decide) (by decide) (by decide) (by decide) (by decide) (by decide)⟩ ⟨gfr 2 (by decide) (by decide) (by decide) (by decide) (by decide), gfr 4 (by decide) (by decide) (by decide) (by decide) (by decide), gfr 5 (by decide) (by decide) (by decide) (by decide) (by decide), gfr 11 (by decide) (by decide) (by decide) (by decide) (by decide), gfr 12 (by decide) (by decide) (by decide) (by decide) (by decide), gfr 13 (by decide) (by decide) (by decide) (by decide) (by decide), gfr 14 (by decide) (by decide) (by decide) (by decide) (by decide), g15, g16, g17, g18, gfr 19 (by decide) (by decide) (by decide) (by decide) (by decide), gfr 20 (by decide) (by decide) (by decide) (by decide) (by decide), gfr 21 (by decide) (by decide) (by decide) (by decide) (by decide), (g24.trans (by rw [hw1]; rfl)), g25, g26, gfr 27 (by decide) (by decide) (by decide) (by decide) (by decide), gfr 28 (by decide) (by decide) (by decide) (by decide) (by decide), gfr 29 (by decide) (by decide) (by decide) (by decide) (by decide), gfr 30 (by decide) (by decide) (by decide) (by decide) (by decide), gfr 31 (by decide) (by decide) (by decide) (by decide) (by decide), gfr 33 (by decide) (by decide) (by decide) (by decide) (by decide), gfr 34 (by decide) (by decide) (by decide) (by decide) (by decide), gfr 35 (by decide) (by decide) (by decide) (by decide) (by decide), gfr 36 (by decide) (by decide) (by decide) (by decide) (by decide), gfr 37 (by decide) (by decide) (by decide) (by decide) (by decide), gfr 38 (by decide) (by decide) (by decide) (by decide) (by decide), gfr 39 (by decide) (by decide) (by decide) (by decide) (by decide), gfr 40 (by decide) (by decide) (by decide) (by decide) (by decide), gfr 41 (by decide) (by decide) (by decide) (by decide) (by decide), gfr 43 (by decide) (by decide) (by decide) (by decide) (by decide), gfr 44 (by decide) (by decide) (by decide) (by decide) (by decide), gfr 45 (by decide) (by decide) (by decide) (by decide) (by decide), gfr 46 (by decide) (by decide) (by decide) (by decide) (by decide)⟩)
        · exact absurd (show (-3 : Int32) = 0 from q) (by decide)
      · have hB := ask_B (w := w) (up := ci 30 c) (dn := fa 13 c) (fl := ci 31 c) (by omega) c1 c3 h1
        rw [← c2, ← hw1] at hB
        obtain ⟨hB1, hB2⟩ := hB
        have hm4 : (askS (fi 1) (fa 13 c) (fa 14 c) (mcr fa c)).1 = -4 := by
          rcases hB2 with ⟨-, q⟩ | ⟨q, -⟩
          · rw [hw1, c2] at q
            exact absurd (h2.symm.trans q) (by decide)
          · exact q
        rcases hr with ⟨q, -⟩ | ⟨-, -, -, -, q, -⟩ | ⟨-, g23, g24, g25, -, -, g26, g32, ⟨g15, g16, g17, g18⟩, gfr, hv⟩ | ⟨-, -, -, -, -, q, -⟩
        · exact absurd q hl2
        · exact absurd q hnf
        · rw [if_neg (by decide)]
          rw [hm4] at hv
          subst hv
          rw [hw1, c2] at hB1
          rw [hw1, c2] at g15 g16 g17 g18
          exact SR_of f0 (fun _ => rfl) (Nat.le_refl _) (SV_congr (sv_pay (sv_ask S1 (c := c) hB1) s 1 hs) ⟨rfl, rfl, rfl, rfl, rfl, rfl, rfl, rfl, rfl, rfl, rfl, rfl, rfl, rfl, rfl, rfl, rfl, rfl, rfl, rfl, rfl, rfl, rfl, rfl, rfl, rfl, rfl, rfl, rfl, rfl, rfl⟩ ⟨rfl, rfl, rfl, rfl, rfl⟩ ⟨rfl, rfl, rfl, rfl, rfl⟩ ⟨fj 1 (by decide) (by decide) (by decide) (by decide) (by decide) (by decide) (by decide), f3, f22, g23, g32, fj 42 (by decide) (by decide) (by decide) (by decide) (by decide) (by decide) (by decide)⟩ ⟨gfr 2 (by decide) (by decide) (by decide) (by decide) (by decide), gfr 4 (by decide) (by decide) (by decide) (by decide) (by decide), gfr 5 (by decide) (by decide) (by decide) (by decide) (by decide), gfr 11 (by decide) (by decide) (by decide) (by decide) (by decide), gfr 12 (by decide) (by decide) (by decide) (by decide) (by decide), gfr 13 (by decide) (by decide) (by decide) (by decide) (by decide), gfr 14 (by decide) (by decide) (by decide) (by decide) (by decide), g15, g16, g17, g18, gfr 19 (by decide) (by decide) (by decide) (by decide) (by decide), gfr 20 (by decide) (by decide) (by decide) (by decide) (by decide), gfr 21 (by decide) (by decide) (by decide) (by decide) (by decide), (g24.trans (by rw [hw1]; rfl)), g25, g26, gfr 27 (by decide) (by decide) (by decide) (by decide) (by decide), gfr 28 (by decide) (by decide) (by decide) (by decide) (by decide), gfr 29 (by decide) (by decide) (by decide) (by decide) (by decide), gfr 30 (by decide) (by decide) (by decide) (by decide) (by decide), gfr 31 (by decide) (by decide) (by decide) (by decide) (by decide), gfr 33 (by decide) (by decide) (by decide) (by decide) (by decide), gfr 34 (by decide) (by decide) (by decide) (by decide) (by decide), gfr 35 (by decide) (by decide) (by decide) (by decide) (by decide), gfr 36 (by decide) (by decide) (by decide) (by decide) (by decide), gfr 37 (by decide) (by decide) (by decide) (by decide) (by decide), gfr 38 (by decide) (by decide) (by decide) (by decide) (by decide), gfr 39 (by decide) (by decide) (by decide) (by decide) (by decide), gfr 40 (by decide) (by decide) (by decide) (by decide) (by decide), gfr 41 (by decide) (by decide) (by decide) (by decide) (by decide), gfr 43 (by decide) (by decide) (by decide) (by decide) (by decide), gfr 44 (by decide) (by decide) (by decide) (by decide) (by decide), gfr 45 (by decide) (by decide) (by decide) (by decide) (by decide), gfr 46 (by decide) (by decide) (by decide) (by decide) (by decide)⟩)
        · rw [hm4] at q
          exact absurd q (by decide)
      · have hB := ask_B (w := w) (up := ci 30 c) (dn := fa 13 c) (fl := ci 31 c) (by omega) c1 c3 h1
        rw [← c2, ← hw1] at hB
        obtain ⟨hB1, hB2⟩ := hB
        have hm0 : (askS (fi 1) (fa 13 c) (fa 14 c) (mcr fa c)).1 = 0 := by
          rcases hB2 with ⟨q, -⟩ | ⟨-, q⟩
          · exact q
          · rw [hw1, c2] at q
            exact absurd (h2.symm.trans q) (by decide)
        rcases hr with ⟨q, -⟩ | ⟨-, -, -, -, q, -⟩ | ⟨-, -, -, -, -, q, -⟩ | ⟨-, g23, g24, g25, -, -, g26, g32, ⟨g15, g16, g17, g18⟩, ⟨g28, g29, g30, g31⟩, ⟨g33, g34, g35, g36, g37⟩, g38, g39, g40, g41, gfr, rfl⟩
        · exact absurd q hl2
        · exact absurd q hnf
        · exact absurd hm0 q
        · have hne : ¬ nI (cr 13 0) = -2 := fun q => by
            have := congrArg Int32.toInt q
            rw [nI_toInt (by omega)] at this
            have h2 : (-2 : Int32).toInt = -2 := rfl
            omega
          rw [if_neg hne]
          have hnf2 : ¬ nI w ≤ fa 28 (zix s c f t) := by rw [← hw1]; exact hnf
          have hFn := fx_new hFx hw (cr 30 c) hs hc hf ht hnf2
          rw [hw1, c2] at hB1
          rw [hw1, c2] at g15 g16 g17 g18
          have S2 := sv_pay (sv_ask S1 (c := c) hB1) s 3 hs
          have S3 := sv_quote (L' := L8) (cap := cap) (t := cr 30 c) (e := w + 59) S2 hq (hS.1.2.2.2.2.2.2.2.2.1 c) (by omega) hs hc hf ht h40 h41 h42 h43 b1 b2 b3 hL hFn
          refine SR_of f0 (fun _ => rfl) (Nat.le_refl _) (SV_congr S3 ⟨rfl, rfl, rfl, rfl, rfl, rfl, rfl, rfl, rfl, rfl, rfl, rfl, rfl, rfl, rfl, rfl, rfl, rfl, rfl, rfl, rfl, rfl, rfl, rfl, rfl, rfl, rfl, rfl, rfl, rfl, rfl⟩ ⟨rfl, rfl, rfl, rfl, rfl⟩ ⟨rfl, rfl, rfl, rfl, rfl⟩ ⟨fj 1 (by decide) (by decide) (by decide) (by decide) (by decide) (by decide) (by decide), f3, f22, g23, g32, fj 42 (by decide) (by decide) (by decide) (by decide) (by decide) (by decide) (by decide)⟩ ⟨gfr 2 (by decide) (by decide) (by decide) (by decide) (by decide) (by decide), gfr 4 (by decide) (by decide) (by decide) (by decide) (by decide) (by decide), gfr 5 (by decide) (by decide) (by decide) (by decide) (by decide) (by decide), gfr 11 (by decide) (by decide) (by decide) (by decide) (by decide) (by decide), gfr 12 (by decide) (by decide) (by decide) (by decide) (by decide) (by decide), gfr 13 (by decide) (by decide) (by decide) (by decide) (by decide) (by decide), gfr 14 (by decide) (by decide) (by decide) (by decide) (by decide) (by decide), g15, g16, g17, g18, gfr 19 (by decide) (by decide) (by decide) (by decide) (by decide) (by decide), gfr 20 (by decide) (by decide) (by decide) (by decide) (by decide) (by decide), gfr 21 (by decide) (by decide) (by decide) (by decide) (by decide) (by decide), (g24.trans (by rw [hw1]; rfl)), g25, g26, gfr 27 (by decide) (by decide) (by decide) (by decide) (by decide) (by decide), (g28.trans (by rw [hw1, nI_59]; rfl)), (g29.trans (by rw [ta.1]; rfl)), (g30.trans (by rw [ta.2.1]; rfl)), (g31.trans (by rw [ta.2.2]; rfl)), g33, g34, g35, g36, g37, (g38.trans (by rw [ta.1]; rfl)), (g39.trans (by rw [ta.2.1]; rfl)), (g40.trans (by rw [ta.2.2]; rfl)), (g41.trans (by rw [hw1, nI_59]; rfl)), gfr 43 (by decide) (by decide) (by decide) (by decide) (by decide) (by decide), gfr 44 (by decide) (by decide) (by decide) (by decide) (by decide) (by decide), gfr 45 (by decide) (by decide) (by decide) (by decide) (by decide) (by decide), gfr 46 (by decide) (by decide) (by decide) (by decide) (by decide) (by decide)⟩)
end RVD
