section RVE
variable {L L' : List ro} {ci ci2 : Nat → Nat → Int32} {ca ca2 : Nat → Nat → Nat → Int32} {cr cr2 : Nat → Nat → Nat} {n w tot nt nc : Nat} {kp nx : Nat → Nat} {fi fi2 : Nat → Int32} {fa fa2 : Nat → Nat → Int32}
theorem RV_m6 (h : RV ci ca cr n w tot kp nx nc fi fa) (h1 : ∀ j, j ≠ 0 → j ≠ 7 → j ≠ 8 → fi2 j = fi j) (h2 : ∀ a, a ≠ 6 → fa2 a = fa a) : RV ci ca cr n w tot kp nx nc fi2 fa2 := RV_m h (fun j a b c _ => h1 j a b c) (fun a q _ => h2 a q)
theorem sim_call {k v9 : Int32} {x : Int64} (hS : SV L ci ca cr n w tot nt kp nx nc fi fa) (hto : tot < 512)
    (hc : (k = 0 ∧ ∃ v : Int32, x = v.toInt64 ∧ ∃ fk vals s c L8 ci8 ca8 cr8, rdT (ca 3 0) n fk vals 0 ∧ cr 13 0 < 100 ∧ s < 6 ∧ vals 0 = nI s ∧ c < 4 ∧ vals 1 = nI c ∧ ansP L (up2 ci 3 0 fk) (ua2 ca 4 0 vals) (ur2 cr 2 0 0) w s c (kp s) (nx s) v L8 ci8 ca8 cr8 ∧ L' = L8 ∧ ci2 = up2 (logI ci8 tot) 2 0 0 ∧ ca2 = logA ca8 tot s w (if v = -2 then 1 else 0) ∧ cr2 = cr8) ∨
      (∃ fk vals w9, rdT (ca 3 0) n fk vals w9 ∧ sameC L L' (up2 ci 3 0 fk) ci2 (ua2 ca 4 0 vals) ca2 (ur2 cr 2 0 w9) cr2 ∧ ((k = 1 ∧ ¬ w9 = 0) ∨ (k = 2 ∧ w9 = 0 ∧ cr 13 0 = 100))))
    (hr : (¬ (rdR (fa 2) n).1 = 0 ∧ fi2 0 = 1 ∧ (∀ j, j ≠ 0 → j ≠ 7 → j ≠ 8 → fi2 j = fi j) ∧ (∀ a, a ≠ 6 → fa2 a = fa a)) ∨ ((rdR (fa 2) n).1 = 0 ∧ (cr 13 0) = 100 ∧ fi2 0 = 2 ∧ (∀ j, j ≠ 0 → j ≠ 7 → j ≠ 8 → fi2 j = fi j) ∧ (∀ a, a ≠ 6 → fa2 a = fa a)) ∨ ((rdR (fa 2) n).1 = 0 ∧ (cr 13 0) < 100 ∧ ∃ s c2 f2 t2, s < 6 ∧ c2 < 4 ∧ f2 < 8 ∧ t2 < 8 ∧ (rdR (fa 2) n).2.2 0 = nI s ∧ (rdR (fa 2) n).2.2 1 = nI c2 ∧ (rdR (fa 2) n).2.2 2 = nI f2 ∧ (rdR (fa 2) n).2.2 3 = nI t2 ∧ fi2 0 = 0 ∧ fi2 3 = 0 ∧ fi2 22 = fi 22 + 1 ∧ (∀ j, j ≠ 0 → j ≠ 3 → j ≠ 7 → j ≠ 8 → j ≠ 22 → j ≠ 23 → j ≠ 32 → fi2 j = fi j) ∧ (((fa 11 s ≤ cntW (fa 24) (fa 25) (nI s) (fi 1) (fa 12 s) nc) ∧ fi2 23 = fi 23 ∧ fi2 32 = fi 32 ∧ (∀ a, a ≠ 6 → fa2 a = fa a) ∧ v9 = -2) ∨ (¬ (fa 11 s ≤ cntW (fa 24) (fa 25) (nI s) (fi 1) (fa 12 s) nc) ∧ fi2 23 = nI (nc + 1) ∧ fa2 24 = upd (fa 24) nc (fi 1) ∧ fa2 25 = upd (fa 25) nc (nI s) ∧ fi 1 ≤ fa 28 (((4 * s + c2) * 8 + f2) * 8 + t2) ∧ fa2 26 = upd (fa 26) s (fa 26 s + 1) ∧ fi2 32 = nI ((cr 13 0) + 1) ∧ fa2 33 = upd (fa 33) (cr 13 0) (nI s) ∧ fa2 34 = upd (fa 34) (cr 13 0) (nI c2) ∧ fa2 35 = upd (fa 35) (cr 13 0) (if nI t2 < nI f2 then nI f2 - nI t2 else nI t2 - nI f2) ∧ fa2 36 = upd (fa 36) (cr 13 0) ((rdR (fa 2) n).2.2 4) ∧ fa2 37 = upd (fa 37) (cr 13 0) (if (rdR (fa 2) n).2.2 5 = 1 then 1 else 0) ∧ fa2 38 = upd (fa 38) (cr 13 0) (fa 29 (((4 * s + c2) * 8 + f2) * 8 + t2)) ∧ fa2 39 = upd (fa 39) (cr 13 0) (fa 30 (((4 * s + c2) * 8 + f2) * 8 + t2)) ∧ fa2 40 = upd (fa 40) (cr 13 0) (fa 31 (((4 * s + c2) * 8 + f2) * 8 + t2)) ∧ fa2 41 = upd (fa 41) (cr 13 0) (fa 28 (((4 * s + c2) * 8 + f2) * 8 + t2)) ∧ (∀ a, a ≠ 6 → a ≠ 24 → a ≠ 25 → a ≠ 26 → (a < 33 ∨ 41 < a) → fa2 a = fa a) ∧ v9 = nI (cr 13 0)) ∨ (¬ (fa 11 s ≤ cntW (fa 24) (fa 25) (nI s) (fi 1) (fa 12 s) nc) ∧ fi2 23 = nI (nc + 1) ∧ fa2 24 = upd (fa 24) nc (fi 1) ∧ fa2 25 = upd (fa 25) nc (nI s) ∧ ¬ fi 1 ≤ fa 28 (((4 * s + c2) * 8 + f2) * 8 + t2) ∧ ¬ (askS (fi 1) (fa 13 c2) (fa 14 c2) (mcr fa c2)).1 = 0 ∧ fa2 26 = upd (fa 26) s (fa 26 s + 1) ∧ fi2 32 = fi 32 ∧ fa2 15 = mset fa c2 (askS (fi 1) (fa 13 c2) (fa 14 c2) (mcr fa c2)).2 15 ∧ fa2 16 = mset fa c2 (askS (fi 1) (fa 13 c2) (fa 14 c2) (mcr fa c2)).2 16 ∧ fa2 17 = mset fa c2 (askS (fi 1) (fa 13 c2) (fa 14 c2) (mcr fa c2)).2 17 ∧ fa2 18 = mset fa c2 (askS (fi 1) (fa 13 c2) (fa 14 c2) (mcr fa c2)).2 18 ∧ (∀ a, a ≠ 6 → a ≠ 24 → a ≠ 25 → a ≠ 26 → (a < 15 ∨ 18 < a) → fa2 a = fa a) ∧ v9 = (askS (fi 1) (fa 13 c2) (fa 14 c2) (mcr fa c2)).1) ∨ (¬ (fa 11 s ≤ cntW (fa 24) (fa 25) (nI s) (fi 1) (fa 12 s) nc) ∧ fi2 23 = nI (nc + 1) ∧ fa2 24 = upd (fa 24) nc (fi 1) ∧ fa2 25 = upd (fa 25) nc (nI s) ∧ ¬ fi 1 ≤ fa 28 (((4 * s + c2) * 8 + f2) * 8 + t2) ∧ (askS (fi 1) (fa 13 c2) (fa 14 c2) (mcr fa c2)).1 = 0 ∧ fa2 26 = upd (fa 26) s (fa 26 s + 3) ∧ fi2 32 = nI ((cr 13 0) + 1) ∧ fa2 15 = mset fa c2 (askS (fi 1) (fa 13 c2) (fa 14 c2) (mcr fa c2)).2 15 ∧ fa2 16 = mset fa c2 (askS (fi 1) (fa 13 c2) (fa 14 c2) (mcr fa c2)).2 16 ∧ fa2 17 = mset fa c2 (askS (fi 1) (fa 13 c2) (fa 14 c2) (mcr fa c2)).2 17 ∧ fa2 18 = mset fa c2 (askS (fi 1) (fa 13 c2) (fa 14 c2) (mcr fa c2)).2 18 ∧ fa2 28 = upd (fa 28) (((4 * s + c2) * 8 + f2) * 8 + t2) (fi 1 + 59) ∧ fa2 29 = upd (fa 29) (((4 * s + c2) * 8 + f2) * 8 + t2) (fa 19 c2) ∧ fa2 30 = upd (fa 30) (((4 * s + c2) * 8 + f2) * 8 + t2) (fa 20 c2) ∧ fa2 31 = upd (fa 31) (((4 * s + c2) * 8 + f2) * 8 + t2) (fa 21 c2) ∧ fa2 33 = upd (fa 33) (cr 13 0) (nI s) ∧ fa2 34 = upd (fa 34) (cr 13 0) (nI c2) ∧ fa2 35 = upd (fa 35) (cr 13 0) (if nI t2 < nI f2 then nI f2 - nI t2 else nI t2 - nI f2) ∧ fa2 36 = upd (fa 36) (cr 13 0) ((rdR (fa 2) n).2.2 4) ∧ fa2 37 = upd (fa 37) (cr 13 0) (if (rdR (fa 2) n).2.2 5 = 1 then 1 else 0) ∧ fa2 38 = upd (fa 38) (cr 13 0) (fa 19 c2) ∧ fa2 39 = upd (fa 39) (cr 13 0) (fa 20 c2) ∧ fa2 40 = upd (fa 40) (cr 13 0) (fa 21 c2) ∧ fa2 41 = upd (fa 41) (cr 13 0) (fi 1 + 59) ∧ (∀ a, a ≠ 6 → a ≠ 24 → a ≠ 25 → a ≠ 26 → (a < 15 ∨ 18 < a) → (a < 28 ∨ 41 < a ∨ a = 32) → fa2 a = fa a) ∧ v9 = nI (cr 13 0))))) : SR tot k x v9 L' ci2 ca2 cr2 fi2 fa2 := by
  rw [hS.2.2.1.1] at hr
  rcases hc with ⟨rfl, v, rfl, fk, vals, s, c, L8, ci8, ca8, cr8, hT, hq, hs, hv0, hc4, hv1, hA, rfl, rfl, rfl, rfl⟩ | ⟨fk, vals, w9, hT, ⟨rfl, rfl, rfl, rfl⟩, h⟩
  · have h0 : (rdR (ca 3 0) n).1 = 0 := hT.2.1
    rcases hr with ⟨q, -⟩ | ⟨-, q, -⟩ | ⟨-, -, s2, c2, f, t, hs2, hc2, hf, ht, e0, e1, e2, e3, f0, f3, f22, fj, hr⟩
    · exact absurd h0 q
    · omega
    · have hv : ∀ j, j < 6 → vals j = (rdR (ca 3 0) n).2.2 j := hT.2.2.1
      have es : s = s2 := (nI_eq (by omega) (by omega)).mp (hv0.symm.trans ((hv 0 (by decide)).trans e0))
      have ec : c = c2 := (nI_eq (by omega) (by omega)).mp (hv1.symm.trans ((hv 1 (by decide)).trans e1))
      subst es; subst ec
      rw [← hv 4 (by decide), ← hv 5 (by decide)] at hr
      have S0 : SV L (up2 ci 3 0 fk) (ua2 ca 4 0 vals) (ur2 cr 2 0 0) n w tot nt kp nx nc fi fa := ⟨cV_c hS.1 fk vals 0, RV_c hS.2 fk vals 0⟩
      refine sim_call1 S0 hto hs hc4 hf ht hv0 hv1 ((hv 2 (by decide)).trans e2) ((hv 3 (by decide)).trans e3) hq hA f0 f3 f22 fj ?_
      rcases hr with h | ⟨h1, h2, h3, h4, h5, h6, h7, h33, h34, h35, h36, h37, h⟩ | ⟨h1, h2, h3, h4, h5, h6, h7, h8, h15, h16, h17, h18, h⟩ | ⟨h1, h2, h3, h4, h5, h6, h7, h8, h15, h16, h17, h18, h28, h29, h30, h31, h33, h34, h35, h36, h37, h⟩
      · exact Or.inl h
      · exact Or.inr (Or.inl ⟨h1, h2, h3, h4, h5, h6, h7, ⟨h33, h34, h35, h36, h37⟩, h⟩)
      · exact Or.inr (Or.inr (Or.inl ⟨h1, h2, h3, h4, h5, h6, h7, h8, ⟨h15, h16, h17, h18⟩, h⟩))
      · exact Or.inr (Or.inr (Or.inr ⟨h1, h2, h3, h4, h5, h6, h7, h8, ⟨h15, h16, h17, h18⟩, ⟨h28, h29, h30, h31⟩, ⟨h33, h34, h35, h36, h37⟩, h⟩))
  · have hl0 : (rdR (ca 3 0) n).1 = nI w9 := hT.2.1
    have hw5 := hT.1
    rcases h with ⟨rfl, hw9⟩ | ⟨rfl, rfl, h100⟩
    · have hne : ¬ (rdR (ca 3 0) n).1 = 0 := fun q => hw9 ((nI_eq (by omega) (by decide)).mp (hl0.symm.trans q))
      rcases hr with ⟨-, f0, f1, f2⟩ | ⟨q, -⟩ | ⟨q, -⟩
      · exact SR_of f0 (fun q => absurd q (by decide)) (Nat.le_succ _) ⟨cV_c hS.1 fk vals w9, RV_c (RV_m6 hS.2 f1 f2) fk vals w9⟩
      · exact absurd q hne
      · exact absurd q hne
    · have h0 : (rdR (ca 3 0) n).1 = 0 := hl0
      rcases hr with ⟨q, -⟩ | ⟨-, -, f0, f1, f2⟩ | ⟨-, q, -⟩
      · exact absurd h0 q
      · exact SR_of f0 (fun q => absurd q (by decide)) (Nat.le_succ _) ⟨cV_c hS.1 fk vals 0, RV_c (RV_m6 hS.2 f1 f2) fk vals 0⟩
      · omega
end RVE
