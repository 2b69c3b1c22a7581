theorem wne {r : ro} {k i : Nat} (hr : 100 ≤ r.1 ∨ r = (1, 0)) (hk : k < 100) (hk1 : k ≠ 1) : r ≠ (k, i) := by
  rintro rfl
  rcases hr with h | h
  · have : 100 ≤ k := h
    omega
  · exact hk1 (congrArg Prod.fst h)
set_option maxHeartbeats 4000000 in
theorem L_type (l : Launch) (hl0 : l.stackTraces = false) (X : GX) (L : List ro) (ad : ro → Nat) (ci : Nat → Nat → Int32) (ca : Nat → Nat → Nat → Int32) (cr : Nat → Nat → Nat) (n w tot nt : Nat) (kp nx : Nat → Nat) (fi : Nat → Int32) (fa : Nat → Nat → Int32) (f : Nat → Int64) (hV : cV L ci ca cr n w tot nt kp nx) (hO : ((110, 0) : ro) ∈ L) (a : Int32) : gWi l yL_type cL_type 4 (some .int) [(0, 9, 12, 13), (0, 9, 15, 15)] 7 103 10 300 X [.ref (ad (1, 0)), .int a, .ref (ad (110, 0))] L ad (wld X ad ci ca cr fi fa f) (fun k u => ∃ L' ad' ci2 ca2 cr2 f2, u = (L', ad', wld X ad' ci2 ca2 cr2 fi fa f2) ∧ wF L L' ad ad' ∧ (CPg L L' ci ci2 ca ca2 cr cr2 k (f2 0) (fun v => ((65 ≤ a ∧ a ≤ 90) ∨ (48 ≤ a ∧ a ≤ 57) ∨ a = 61 ∨ a = 59) ∧ n < 60 ∧ sameC L L' (up2 ci 2 0 (nI (n + 1))) ci2 (ua2 ca 3 0 (upd (ca 3 0) n (vp_nar .char a))) ca2 cr cr2 ∧ v = nI (n + 1)) (fun k => (k = 1 ∧ ¬ ((65 ≤ a ∧ a ≤ 90) ∨ (48 ≤ a ∧ a ≤ 57) ∨ a = 61 ∨ a = 59)) ∨ (k = 2 ∧ ((65 ≤ a ∧ a ≤ 90) ∨ (48 ≤ a ∧ a ≤ 57) ∨ a = 61 ∨ a = 59) ∧ n = 60)))) := by
  refine w_type (f := f) l X L ad _ a (c_X7_type l X L ad (mSt X ad (oSt X f) fi fa) ci ca cr n w tot nt kp nx hV hl0 a) (hV.r (by decide)) rfl (fun v u hp => ?_) (fun E u hp => ?_)
  · obtain ⟨h1, h2, rfl, h3⟩ := hp
    have hF : wF L L ad ad := wF_rf
    exact ⟨⟨hF.1 _ hO, hF.2 _ (Or.inl (by decide)), rfl⟩, _, _, _, _, _, _, by dsimp only; rw [wld_ad hF, wld_out], hF, Or.inl ⟨rfl, v, rfl, ⟨h1, h2, ⟨rfl, rfl, rfl, rfl⟩, h3⟩⟩⟩
  · obtain ⟨rfl, h⟩ := hp
    rcases h with ⟨rfl, hq⟩ | ⟨rfl, hq⟩
    · exact Or.inl ⟨rfl, ⟨_, _, _, _, _, _, rfl, wF_rf, Or.inr ⟨Or.inl ⟨rfl, hq⟩, rfl, rfl, rfl, rfl⟩⟩⟩
    · exact Or.inr ⟨rfl, ⟨_, _, _, _, _, _, rfl, wF_rf, Or.inr ⟨Or.inr ⟨rfl, hq⟩, rfl, rfl, rfl, rfl⟩⟩⟩

set_option maxHeartbeats 4000000 in
theorem L_fault (l : Launch) (hl0 : l.stackTraces = false) (X : GX) (L : List ro) (ad : ro → Nat) (ci : Nat → Nat → Int32) (ca : Nat → Nat → Nat → Int32) (cr : Nat → Nat → Nat) (n w tot nt : Nat) (kp nx : Nat → Nat) (fi : Nat → Int32) (fa : Nat → Nat → Int32) (f : Nat → Int64) (hV : cV L ci ca cr n w tot nt kp nx) (hO : ((110, 0) : ro) ∈ L) (a : Int32) : gWi l yL_fault cL_fault 4 (some .int) [(0, 9, 12, 21)] 9 214 10 300 X [.ref (ad (1, 0)), .int a, .ref (ad (110, 0))] L ad (wld X ad ci ca cr fi fa f) (fun k u => ∃ L' ad' ci2 ca2 cr2 f2, u = (L', ad', wld X ad' ci2 ca2 cr2 fi fa f2) ∧ wF L L' ad ad' ∧ ((k = 0 ∧ ∃ v : Int32, f2 0 = v.toInt64 ∧ ∃ fk vals w9, rdT (ca 3 0) n fk vals w9 ∧ sameC L L' (up2 ci 3 0 fk) ci2 (ua2 ca 4 0 vals) ca2 (ur2 cr 2 0 w9) cr2 ∧ ∃ j, j < tlen (rdR (ca 3 0) n).1 ∧ a = nI j ∧ v = tellc (rdR (ca 3 0) n).1 (rdR (ca 3 0) n).2.1 j) ∨ (k = 1 ∧ ∃ fk vals w9, rdT (ca 3 0) n fk vals w9 ∧ sameC L L' (up2 ci 3 0 fk) ci2 (ua2 ca 4 0 vals) ca2 (ur2 cr 2 0 w9) cr2 ∧ ¬ vp_in a (tlen (rdR (ca 3 0) n).1)))) := by
  refine w_fault (f := f) l X L ad _ a (c_X7_fault l X L ad (mSt X ad (oSt X f) fi fa) ci ca cr n w tot nt kp nx hV hl0 a) (hV.r (by decide)) rfl (fun v u hp => ?_) (fun E u hp => ?_)
  · obtain ⟨fk, vals, w9, hT, rfl, j, hj, e, h3⟩ := hp
    have hF : wF L L ad ad := wF_rf
    exact ⟨⟨hF.1 _ hO, hF.2 _ (Or.inl (by decide)), rfl⟩, _, _, _, _, _, _, by dsimp only; rw [wld_ad hF, wld_out], hF, Or.inl ⟨rfl, v, rfl, ⟨fk, vals, w9, hT, ⟨rfl, rfl, rfl, rfl⟩, j, hj, e, h3⟩⟩⟩
  · obtain ⟨fk, vals, w9, hT, rfl, rfl, hn⟩ := hp
    exact ⟨rfl, _, _, _, _, _, _, rfl, wF_rf, Or.inr ⟨rfl, fk, vals, w9, hT, ⟨rfl, rfl, rfl, rfl⟩, hn⟩⟩

set_option maxHeartbeats 4000000 in
theorem L_pass (l : Launch) (hl0 : l.stackTraces = false) (X : GX) (L : List ro) (ad : ro → Nat) (ci : Nat → Nat → Int32) (ca : Nat → Nat → Nat → Int32) (cr : Nat → Nat → Nat) (n w tot nt : Nat) (kp nx : Nat → Nat) (fi : Nat → Int32) (fa : Nat → Nat → Int32) (f : Nat → Int64) (hV : cV L ci ca cr n w tot nt kp nx) (hO : ((110, 0) : ro) ∈ L) (a : Int32) : gWi l yL_pass cL_pass 4 (some .int) [(0, 9, 12, 13), (0, 9, 15, 15)] 7 103 10 300 X [.ref (ad (1, 0)), .int a, .ref (ad (110, 0))] L ad (wld X ad ci ca cr fi fa f) (fun k u => ∃ L' ad' ci2 ca2 cr2 f2, u = (L', ad', wld X ad' ci2 ca2 cr2 fi fa f2) ∧ wF L L' ad ad' ∧ (CPg L L' ci ci2 ca ca2 cr cr2 k (f2 0) (fun v => ∃ j, a = nI j ∧ 1 ≤ j ∧ j ≤ 500 ∧ w + j ≤ 20000 ∧ sameC L L' (up2 ci 1 0 (nI (w + j))) ci2 ca ca2 cr cr2 ∧ v = nI (w + j)) (fun k => (k = 1 ∧ ¬ (1 ≤ a ∧ a ≤ 500)) ∨ (k = 2 ∧ ∃ j, a = nI j ∧ 1 ≤ j ∧ j ≤ 500 ∧ 20000 < w + j)))) := by
  refine w_pass (f := f) l X L ad _ a (c_X7_pass l X L ad (mSt X ad (oSt X f) fi fa) ci ca cr n w tot nt kp nx hV hl0 a) (hV.r (by decide)) rfl (fun v u hp => ?_) (fun E u hp => ?_)
  · obtain ⟨j, e, j1, j2, j3, rfl, h3⟩ := hp
    have hF : wF L L ad ad := wF_rf
    exact ⟨⟨hF.1 _ hO, hF.2 _ (Or.inl (by decide)), rfl⟩, _, _, _, _, _, _, by dsimp only; rw [wld_ad hF, wld_out], hF, Or.inl ⟨rfl, v, rfl, ⟨j, e, j1, j2, j3, ⟨rfl, rfl, rfl, rfl⟩, h3⟩⟩⟩
  · obtain ⟨rfl, h⟩ := hp
    rcases h with ⟨rfl, hq⟩ | ⟨rfl, hq⟩
    · exact Or.inl ⟨rfl, ⟨_, _, _, _, _, _, rfl, wF_rf, Or.inr ⟨Or.inl ⟨rfl, hq⟩, rfl, rfl, rfl, rfl⟩⟩⟩
    · exact Or.inr ⟨rfl, ⟨_, _, _, _, _, _, rfl, wF_rf, Or.inr ⟨Or.inr ⟨rfl, hq⟩, rfl, rfl, rfl, rfl⟩⟩⟩

set_option maxHeartbeats 4000000 in
theorem L_quota (l : Launch) (hl0 : l.stackTraces = false) (X : GX) (L : List ro) (ad : ro → Nat) (ci : Nat → Nat → Int32) (ca : Nat → Nat → Nat → Int32) (cr : Nat → Nat → Nat) (n w tot nt : Nat) (kp nx : Nat → Nat) (fi : Nat → Int32) (fa : Nat → Nat → Int32) (f : Nat → Int64) (hV : cV L ci ca cr n w tot nt kp nx) (hO : ((110, 0) : ro) ∈ L) (a b c8 : Int32) : gWi l yL_quota cL_quota 6 (some .int) [(0, 12, 15, 21), (0, 12, 19, 13)] 8 128 10 300 X [.ref (ad (1, 0)), .int a, .int b, .int c8, .ref (ad (110, 0))] L ad (wld X ad ci ca cr fi fa f) (fun k u => ∃ L' ad' ci2 ca2 cr2 f2, u = (L', ad', wld X ad' ci2 ca2 cr2 fi fa f2) ∧ wF L L' ad ad' ∧ (CPg L L' ci ci2 ca ca2 cr cr2 k (f2 0) (fun v => ∃ k, k < 6 ∧ a = nI k ∧ ((0 ≤ b ∧ b ≤ 50) ∧ (1 ≤ c8 ∧ c8 ≤ 1440)) ∧ sameC L L' (up2 (up2 ci 20 k b) 21 k c8) ci2 ca ca2 cr cr2 ∧ v = ci 20 k) (fun k => (k = 1 ∧ ¬ vp_in a 6) ∨ (k = 2 ∧ ∃ i, i < 6 ∧ a = nI i ∧ ¬ ((0 ≤ b ∧ b ≤ 50) ∧ (1 ≤ c8 ∧ c8 ≤ 1440)))))) := by
  refine w_quota (f := f) l X L ad _ a b c8 (c_X7_quota l X L ad (mSt X ad (oSt X f) fi fa) ci ca cr n w tot nt kp nx hV hl0 a b c8) (hV.r (by decide)) rfl (fun v u hp => ?_) (fun E u hp => ?_)
  · obtain ⟨j, hj, e, hb, rfl, h3⟩ := hp
    have hF : wF L L ad ad := wF_rf
    exact ⟨⟨hF.1 _ hO, hF.2 _ (Or.inl (by decide)), rfl⟩, _, _, _, _, _, _, by dsimp only; rw [wld_ad hF, wld_out], hF, Or.inl ⟨rfl, v, rfl, ⟨j, hj, e, hb, ⟨rfl, rfl, rfl, rfl⟩, h3⟩⟩⟩
  · obtain ⟨rfl, h⟩ := hp
    rcases h with ⟨rfl, hq⟩ | ⟨rfl, hq⟩
    · exact Or.inl ⟨rfl, ⟨_, _, _, _, _, _, rfl, wF_rf, Or.inr ⟨Or.inl ⟨rfl, hq⟩, rfl, rfl, rfl, rfl⟩⟩⟩
    · exact Or.inr ⟨rfl, ⟨_, _, _, _, _, _, rfl, wF_rf, Or.inr ⟨Or.inr ⟨rfl, hq⟩, rfl, rfl, rfl, rfl⟩⟩⟩

set_option maxHeartbeats 4000000 in
theorem L_carrier (l : Launch) (hl0 : l.stackTraces = false) (X : GX) (L : List ro) (ad : ro → Nat) (ci : Nat → Nat → Int32) (ca : Nat → Nat → Nat → Int32) (cr : Nat → Nat → Nat) (n w tot nt : Nat) (kp nx : Nat → Nat) (fi : Nat → Int32) (fa : Nat → Nat → Int32) (f : Nat → Int64) (hV : cV L ci ca cr n w tot nt kp nx) (hO : ((110, 0) : ro) ∈ L) (a b c8 : Int32) (hb9 : narrow .boolean (.int b) = .int b) (hb8 : fits .boolean (.int b) = true) : gWi l yL_carrier cL_carrier 6 (some .int) [(0, 12, 15, 21), (0, 12, 19, 13)] 8 128 10 300 X [.ref (ad (1, 0)), .int a, .int b, .int c8, .ref (ad (110, 0))] L ad (wld X ad ci ca cr fi fa f) (fun k u => ∃ L' ad' ci2 ca2 cr2 f2, u = (L', ad', wld X ad' ci2 ca2 cr2 fi fa f2) ∧ wF L L' ad ad' ∧ (CPg L L' ci ci2 ca ca2 cr cr2 k (f2 0) (fun v => ∃ k, k < 4 ∧ a = nI k ∧ (0 ≤ c8 ∧ c8 ≤ 10) ∧ sameC L L' (up2 (up2 ci 30 k b) 31 k c8) ci2 ca ca2 cr cr2 ∧ v = ci 31 k) (fun k => (k = 1 ∧ ¬ vp_in a 4) ∨ (k = 2 ∧ ∃ i, i < 4 ∧ a = nI i ∧ ¬ (0 ≤ c8 ∧ c8 ≤ 10))))) := by
  refine w_carrier (f := f) l X L ad _ a b c8 (c_X7_carrier l X L ad (mSt X ad (oSt X f) fi fa) ci ca cr n w tot nt kp nx hV hl0 a b c8 hb9 hb8) (hV.r (by decide)) rfl (fun v u hp => ?_) (fun E u hp => ?_)
  · obtain ⟨j, hj, e, hb, rfl, h3⟩ := hp
    have hF : wF L L ad ad := wF_rf
    exact ⟨⟨hF.1 _ hO, hF.2 _ (Or.inl (by decide)), rfl⟩, _, _, _, _, _, _, by dsimp only; rw [wld_ad hF, wld_out], hF, Or.inl ⟨rfl, v, rfl, ⟨j, hj, e, hb, ⟨rfl, rfl, rfl, rfl⟩, h3⟩⟩⟩
  · obtain ⟨rfl, h⟩ := hp
    rcases h with ⟨rfl, hq⟩ | ⟨rfl, hq⟩
    · exact Or.inl ⟨rfl, ⟨_, _, _, _, _, _, rfl, wF_rf, Or.inr ⟨Or.inl ⟨rfl, hq⟩, rfl, rfl, rfl, rfl⟩⟩⟩
    · exact Or.inr ⟨rfl, ⟨_, _, _, _, _, _, rfl, wF_rf, Or.inr ⟨Or.inr ⟨rfl, hq⟩, rfl, rfl, rfl, rfl⟩⟩⟩

set_option maxHeartbeats 4000000 in
theorem L_tariff (l : Launch) (hl0 : l.stackTraces = false) (X : GX) (L : List ro) (ad : ro → Nat) (ci : Nat → Nat → Int32) (ca : Nat → Nat → Nat → Int32) (cr : Nat → Nat → Nat) (n w tot nt : Nat) (kp nx : Nat → Nat) (fi : Nat → Int32) (fa : Nat → Nat → Int32) (f : Nat → Int64) (hV : cV L ci ca cr n w tot nt kp nx) (hO : ((110, 0) : ro) ∈ L) (a b c8 d8 : Int32) : gWi l yL_tariff cL_tariff 7 (some .int) [(0, 14, 17, 21), (0, 14, 21, 13)] 8 129 10 300 X [.ref (ad (1, 0)), .int a, .int b, .int c8, .int d8, .ref (ad (110, 0))] L ad (wld X ad ci ca cr fi fa f) (fun k u => ∃ L' ad' ci2 ca2 cr2 f2, u = (L', ad', wld X ad' ci2 ca2 cr2 fi fa f2) ∧ wF L L' ad ad' ∧ (CPg L L' ci ci2 ca ca2 cr cr2 k (f2 0) (fun v => ∃ k, k < 4 ∧ a = nI k ∧ (((0 ≤ b ∧ b ≤ 10000) ∧ (0 ≤ c8 ∧ c8 ≤ 1000)) ∧ (0 ≤ d8 ∧ d8 ≤ 1000)) ∧ (L' = L ++ [(31, nt)] ∧ ci2 = up2 (up2 (up2 ci 36 nt b) 37 nt c8) 38 nt d8 ∧ ca2 = ca ∧ cr2 = ur2 cr 30 k nt) ∧ v = ci 36 (cr 30 k)) (fun k => (k = 1 ∧ ¬ vp_in a 4) ∨ (k = 2 ∧ ∃ i, i < 4 ∧ a = nI i ∧ ¬ (((0 ≤ b ∧ b ≤ 10000) ∧ (0 ≤ c8 ∧ c8 ≤ 1000)) ∧ (0 ≤ d8 ∧ d8 ≤ 1000)))))) := by
  refine w_tariff (f := f) l X L ad _ a b c8 d8 (c_X7_tariff l X L ad (mSt X ad (oSt X f) fi fa) ci ca cr n w tot nt kp nx hV hl0 a b c8 d8) (hV.r (by decide)) rfl (fun v u hp => ?_) (fun E u hp => ?_)
  · obtain ⟨j, hj, e, hb, ad8, rfl, had, h3⟩ := hp
    have hF : wF L (L ++ [(31, nt)]) ad ad8 := ⟨fun r h => List.mem_append_left _ h, fun r hr => had r (wne hr (by decide) (by decide))⟩
    exact ⟨⟨hF.1 _ hO, hF.2 _ (Or.inl (by decide)), rfl⟩, _, _, _, _, _, _, by dsimp only; rw [wld_ad hF, wld_out], hF, Or.inl ⟨rfl, v, rfl, ⟨j, hj, e, hb, ⟨rfl, rfl, rfl, rfl⟩, h3⟩⟩⟩
  · obtain ⟨rfl, h⟩ := hp
    rcases h with ⟨rfl, hq⟩ | ⟨rfl, hq⟩
    · exact Or.inl ⟨rfl, ⟨_, _, _, _, _, _, rfl, wF_rf, Or.inr ⟨Or.inl ⟨rfl, hq⟩, rfl, rfl, rfl, rfl⟩⟩⟩
    · exact Or.inr ⟨rfl, ⟨_, _, _, _, _, _, rfl, wF_rf, Or.inr ⟨Or.inr ⟨rfl, hq⟩, rfl, rfl, rfl, rfl⟩⟩⟩

set_option maxHeartbeats 4000000 in
theorem L_call (l : Launch) (hl0 : l.stackTraces = false) (X : GX) (L : List ro) (ad : ro → Nat) (ci : Nat → Nat → Int32) (ca : Nat → Nat → Nat → Int32) (cr : Nat → Nat → Nat) (n w tot nt : Nat) (kp nx : Nat → Nat) (fi : Nat → Int32) (fa : Nat → Nat → Int32) (f : Nat → Int64) (hV : cV L ci ca cr n w tot nt kp nx) (hO : ((110, 0) : ro) ∈ L) (hto : tot < 512) : gWi l yL_call cL_call 3 (some .int) [(0, 8, 11, 13), (0, 8, 14, 15)] 10 258 10 300 X [.ref (ad (1, 0)), .ref (ad (110, 0))] L ad (wld X ad ci ca cr fi fa f) (fun k u => ∃ L' ad' ci2 ca2 cr2 f2, u = (L', ad', wld X ad' ci2 ca2 cr2 fi fa f2) ∧ wF L L' ad ad' ∧ ((k = 0 ∧ ∃ v : Int32, f2 0 = v.toInt64 ∧ ∃ fk vals s c L8 ci8 ca8 cr8, rdT (ca 3 0) n fk vals 0 ∧ cr 13 0 < 100 ∧ s < 6 ∧ vals 0 = nI s ∧ c < 4 ∧ vals 1 = nI c ∧ ansP L (up2 ci 3 0 fk) (ua2 ca 4 0 vals) (ur2 cr 2 0 0) w s c (kp s) (nx s) v L8 ci8 ca8 cr8 ∧ L' = L8 ∧ ci2 = up2 (logI ci8 tot) 2 0 0 ∧ ca2 = logA ca8 tot s w (if v = -2 then 1 else 0) ∧ cr2 = cr8) ∨
      (∃ fk vals w9, rdT (ca 3 0) n fk vals w9 ∧ sameC L L' (up2 ci 3 0 fk) ci2 (ua2 ca 4 0 vals) ca2 (ur2 cr 2 0 w9) cr2 ∧ ((k = 1 ∧ ¬ w9 = 0) ∨ (k = 2 ∧ w9 = 0 ∧ cr 13 0 = 100))))) := by
  refine w_call (f := f) l X L ad _ (c_X7_call l X L ad (mSt X ad (oSt X f) fi fa) ci ca cr n w tot nt kp nx hV hl0 hto) (hV.r (by decide)) rfl (fun v u hp => ?_) (fun E u hp => ?_)
  · obtain ⟨fk, vals, s9, c9, L8, ad8, ci8, ca8, cr8, hT, hq, hs, hv0, hc, hv1, hA, had, rfl⟩ := hp
    have hF : wF L L8 ad ad8 := ⟨(ansP_keeps hA).1, fun r hr => had r (wne hr (by decide) (by decide)) (wne hr (by decide) (by decide))⟩
    exact ⟨⟨hF.1 _ hO, hF.2 _ (Or.inl (by decide)), rfl⟩, _, _, _, _, _, _, by dsimp only; rw [wld_ad hF, wld_out], hF, Or.inl ⟨rfl, v, rfl, ⟨fk, vals, s9, c9, L8, ci8, ca8, cr8, hT, hq, hs, hv0, hc, hv1, hA, rfl, rfl, rfl, rfl⟩⟩⟩
  · obtain ⟨fk, vals, w9, hT, rfl, h⟩ := hp
    rcases h with ⟨rfl, hq⟩ | ⟨rfl, hq⟩
    · exact Or.inl ⟨rfl, _, _, _, _, _, _, rfl, wF_rf, Or.inr ⟨fk, vals, w9, hT, ⟨rfl, rfl, rfl, rfl⟩, Or.inl ⟨rfl, hq⟩⟩⟩
    · exact Or.inr ⟨rfl, _, _, _, _, _, _, rfl, wF_rf, Or.inr ⟨fk, vals, w9, hT, ⟨rfl, rfl, rfl, rfl⟩, Or.inr ⟨rfl, hq⟩⟩⟩

set_option maxHeartbeats 4000000 in
theorem L_price (l : Launch) (hl0 : l.stackTraces = false) (X : GX) (L : List ro) (ad : ro → Nat) (ci : Nat → Nat → Int32) (ca : Nat → Nat → Nat → Int32) (cr : Nat → Nat → Nat) (n w tot nt : Nat) (kp nx : Nat → Nat) (fi : Nat → Int32) (fa : Nat → Nat → Int32) (f : Nat → Int64) (hV : cV L ci ca cr n w tot nt kp nx) (hO : ((110, 0) : ro) ∈ L) (a : Int32) : gWi l yL_price cL_price 4 (some .int) [(0, 9, 12, 21)] 8 125 10 300 X [.ref (ad (1, 0)), .int a, .ref (ad (110, 0))] L ad (wld X ad ci ca cr fi fa f) (fun k u => ∃ L' ad' ci2 ca2 cr2 f2, u = (L', ad', wld X ad' ci2 ca2 cr2 fi fa f2) ∧ wF L L' ad ad' ∧ (CPg L L' ci ci2 ca ca2 cr cr2 k (f2 0) (fun v => sameC L L' ci ci2 ca ca2 cr cr2 ∧ ∃ i, i < cr 13 0 ∧ a = nI i ∧ v = prcC (ci 36 (cr 40 i)) (ci 37 (cr 40 i)) (ci 38 (cr 40 i)) (ci 42 i - ci 43 i) (ci 44 i) (ci 45 i)) (fun k => k = 1 ∧ ¬ vp_in a (cr 13 0)))) := by
  refine w_price (f := f) l X L ad _ a (c_X7_price l X L ad (mSt X ad (oSt X f) fi fa) ci ca cr n w tot nt kp nx hV hl0 a) (hV.r (by decide)) rfl (fun v u hp => ?_) (fun E u hp => ?_)
  · obtain ⟨rfl, j, hj, e, h3⟩ := hp
    have hF : wF L L ad ad := wF_rf
    exact ⟨⟨hF.1 _ hO, hF.2 _ (Or.inl (by decide)), rfl⟩, _, _, _, _, _, _, by dsimp only; rw [wld_ad hF, wld_out], hF, Or.inl ⟨rfl, v, rfl, ⟨⟨rfl, rfl, rfl, rfl⟩, j, hj, e, h3⟩⟩⟩
  · obtain ⟨rfl, rfl, hn⟩ := hp
    exact ⟨rfl, ⟨_, _, _, _, _, _, rfl, wF_rf, Or.inr ⟨⟨rfl, hn⟩, rfl, rfl, rfl, rfl⟩⟩⟩

set_option maxHeartbeats 4000000 in
theorem L_fixed (l : Launch) (hl0 : l.stackTraces = false) (X : GX) (L : List ro) (ad : ro → Nat) (ci : Nat → Nat → Int32) (ca : Nat → Nat → Nat → Int32) (cr : Nat → Nat → Nat) (n w tot nt : Nat) (kp nx : Nat → Nat) (fi : Nat → Int32) (fa : Nat → Nat → Int32) (f : Nat → Int64) (hV : cV L ci ca cr n w tot nt kp nx) (hO : ((110, 0) : ro) ∈ L) (a : Int32) : gWi l yL_fixed cL_fixed 4 (some .int) [(0, 9, 12, 21)] 8 124 10 300 X [.ref (ad (1, 0)), .int a, .ref (ad (110, 0))] L ad (wld X ad ci ca cr fi fa f) (fun k u => ∃ L' ad' ci2 ca2 cr2 f2, u = (L', ad', wld X ad' ci2 ca2 cr2 fi fa f2) ∧ wF L L' ad ad' ∧ (CPg L L' ci ci2 ca ca2 cr cr2 k (f2 0) (fun v => sameC L L' ci ci2 ca ca2 cr cr2 ∧ ∃ i, i < cr 13 0 ∧ a = nI i ∧ v = (if 0 < ci 46 i - nI w then ci 46 i - nI w else 0)) (fun k => k = 1 ∧ ¬ vp_in a (cr 13 0)))) := by
  refine w_fixed (f := f) l X L ad _ a (c_X7_fixed l X L ad (mSt X ad (oSt X f) fi fa) ci ca cr n w tot nt kp nx hV hl0 a) (hV.r (by decide)) rfl (fun v u hp => ?_) (fun E u hp => ?_)
  · obtain ⟨rfl, j, hj, e, h3⟩ := hp
    have hF : wF L L ad ad := wF_rf
    exact ⟨⟨hF.1 _ hO, hF.2 _ (Or.inl (by decide)), rfl⟩, _, _, _, _, _, _, by dsimp only; rw [wld_ad hF, wld_out], hF, Or.inl ⟨rfl, v, rfl, ⟨⟨rfl, rfl, rfl, rfl⟩, j, hj, e, h3⟩⟩⟩
  · obtain ⟨rfl, rfl, hn⟩ := hp
    exact ⟨rfl, ⟨_, _, _, _, _, _, rfl, wF_rf, Or.inr ⟨⟨rfl, hn⟩, rfl, rfl, rfl, rfl⟩⟩⟩

set_option maxHeartbeats 4000000 in
theorem L_left (l : Launch) (hl0 : l.stackTraces = false) (X : GX) (L : List ro) (ad : ro → Nat) (ci : Nat → Nat → Int32) (ca : Nat → Nat → Nat → Int32) (cr : Nat → Nat → Nat) (n w tot nt : Nat) (kp nx : Nat → Nat) (fi : Nat → Int32) (fa : Nat → Nat → Int32) (f : Nat → Int64) (hV : cV L ci ca cr n w tot nt kp nx) (hO : ((110, 0) : ro) ∈ L) (a : Int32) : gWi l yL_left cL_left 4 (some .int) [(0, 9, 12, 21)] 8 124 10 300 X [.ref (ad (1, 0)), .int a, .ref (ad (110, 0))] L ad (wld X ad ci ca cr fi fa f) (fun k u => ∃ L' ad' ci2 ca2 cr2 f2, u = (L', ad', wld X ad' ci2 ca2 cr2 fi fa f2) ∧ wF L L' ad ad' ∧ (CPg L L' ci ci2 ca ca2 cr cr2 k (f2 0) (fun v => sameC L L' ci ci2 ca ca2 cr cr2 ∧ ∃ i, i < 6 ∧ a = nI i ∧ v = lftC (ci 20 i) (cntL (ca 21 i) (nI w - ci 21 i) (kp i))) (fun k => k = 1 ∧ ¬ vp_in a (6)))) := by
  refine w_left (f := f) l X L ad _ a (c_X7_left l X L ad (mSt X ad (oSt X f) fi fa) ci ca cr n w tot nt kp nx hV hl0 a) (hV.r (by decide)) rfl (fun v u hp => ?_) (fun E u hp => ?_)
  · obtain ⟨rfl, j, hj, e, h3⟩ := hp
    have hF : wF L L ad ad := wF_rf
    exact ⟨⟨hF.1 _ hO, hF.2 _ (Or.inl (by decide)), rfl⟩, _, _, _, _, _, _, by dsimp only; rw [wld_ad hF, wld_out], hF, Or.inl ⟨rfl, v, rfl, ⟨⟨rfl, rfl, rfl, rfl⟩, j, hj, e, h3⟩⟩⟩
  · obtain ⟨rfl, rfl, hn⟩ := hp
    exact ⟨rfl, ⟨_, _, _, _, _, _, rfl, wF_rf, Or.inr ⟨⟨rfl, hn⟩, rfl, rfl, rfl, rfl⟩⟩⟩

set_option maxHeartbeats 4000000 in
theorem L_leftByLog (l : Launch) (hl0 : l.stackTraces = false) (X : GX) (L : List ro) (ad : ro → Nat) (ci : Nat → Nat → Int32) (ca : Nat → Nat → Nat → Int32) (cr : Nat → Nat → Nat) (n w tot nt : Nat) (kp nx : Nat → Nat) (fi : Nat → Int32) (fa : Nat → Nat → Int32) (f : Nat → Int64) (hV : cV L ci ca cr n w tot nt kp nx) (hO : ((110, 0) : ro) ∈ L) (a : Int32) : gWi l yL_leftByLog cL_leftByLog 4 (some .int) [(0, 9, 12, 21)] 8 126 10 300 X [.ref (ad (1, 0)), .int a, .ref (ad (110, 0))] L ad (wld X ad ci ca cr fi fa f) (fun k u => ∃ L' ad' ci2 ca2 cr2 f2, u = (L', ad', wld X ad' ci2 ca2 cr2 fi fa f2) ∧ wF L L' ad ad' ∧ (CPg L L' ci ci2 ca ca2 cr cr2 k (f2 0) (fun v => sameC L L' ci ci2 ca ca2 cr cr2 ∧ ∃ i, i < 6 ∧ a = nI i ∧ v = lftC (ci 20 i) (cntB (ca 6 0) (ca 7 0) (ca 8 0) (nI i) (nI w - ci 21 i) tot)) (fun k => k = 1 ∧ ¬ vp_in a (6)))) := by
  refine w_leftByLog (f := f) l X L ad _ a (c_X7_leftByLog l X L ad (mSt X ad (oSt X f) fi fa) ci ca cr n w tot nt kp nx hV hl0 a) (hV.r (by decide)) rfl (fun v u hp => ?_) (fun E u hp => ?_)
  · obtain ⟨rfl, j, hj, e, h3⟩ := hp
    have hF : wF L L ad ad := wF_rf
    exact ⟨⟨hF.1 _ hO, hF.2 _ (Or.inl (by decide)), rfl⟩, _, _, _, _, _, _, by dsimp only; rw [wld_ad hF, wld_out], hF, Or.inl ⟨rfl, v, rfl, ⟨⟨rfl, rfl, rfl, rfl⟩, j, hj, e, h3⟩⟩⟩
  · obtain ⟨rfl, rfl, hn⟩ := hp
    exact ⟨rfl, ⟨_, _, _, _, _, _, rfl, wF_rf, Or.inr ⟨⟨rfl, hn⟩, rfl, rfl, rfl, rfl⟩⟩⟩

set_option maxHeartbeats 4000000 in
theorem L_circuit (l : Launch) (hl0 : l.stackTraces = false) (X : GX) (L : List ro) (ad : ro → Nat) (ci : Nat → Nat → Int32) (ca : Nat → Nat → Nat → Int32) (cr : Nat → Nat → Nat) (n w tot nt : Nat) (kp nx : Nat → Nat) (fi : Nat → Int32) (fa : Nat → Nat → Int32) (f : Nat → Int64) (hV : cV L ci ca cr n w tot nt kp nx) (hO : ((110, 0) : ro) ∈ L) (a : Int32) : gWi l yL_circuit cL_circuit 4 (some .int) [(0, 9, 12, 21)] 8 124 10 300 X [.ref (ad (1, 0)), .int a, .ref (ad (110, 0))] L ad (wld X ad ci ca cr fi fa f) (fun k u => ∃ L' ad' ci2 ca2 cr2 f2, u = (L', ad', wld X ad' ci2 ca2 cr2 fi fa f2) ∧ wF L L' ad ad' ∧ (CPg L L' ci ci2 ca ca2 cr cr2 k (f2 0) (fun v => sameC L L' ci ci2 ca ca2 cr cr2 ∧ ∃ i, i < 4 ∧ a = nI i ∧ v = crcC (ci 34 i) (nI w) (ci 35 i)) (fun k => k = 1 ∧ ¬ vp_in a (4)))) := by
  refine w_circuit (f := f) l X L ad _ a (c_X7_circuit l X L ad (mSt X ad (oSt X f) fi fa) ci ca cr n w tot nt kp nx hV hl0 a) (hV.r (by decide)) rfl (fun v u hp => ?_) (fun E u hp => ?_)
  · obtain ⟨rfl, j, hj, e, h3⟩ := hp
    have hF : wF L L ad ad := wF_rf
    exact ⟨⟨hF.1 _ hO, hF.2 _ (Or.inl (by decide)), rfl⟩, _, _, _, _, _, _, by dsimp only; rw [wld_ad hF, wld_out], hF, Or.inl ⟨rfl, v, rfl, ⟨⟨rfl, rfl, rfl, rfl⟩, j, hj, e, h3⟩⟩⟩
  · obtain ⟨rfl, rfl, hn⟩ := hp
    exact ⟨rfl, ⟨_, _, _, _, _, _, rfl, wF_rf, Or.inr ⟨⟨rfl, hn⟩, rfl, rfl, rfl, rfl⟩⟩⟩

set_option maxHeartbeats 4000000 in
theorem L_tries (l : Launch) (hl0 : l.stackTraces = false) (X : GX) (L : List ro) (ad : ro → Nat) (ci : Nat → Nat → Int32) (ca : Nat → Nat → Nat → Int32) (cr : Nat → Nat → Nat) (n w tot nt : Nat) (kp nx : Nat → Nat) (fi : Nat → Int32) (fa : Nat → Nat → Int32) (f : Nat → Int64) (hV : cV L ci ca cr n w tot nt kp nx) (hO : ((110, 0) : ro) ∈ L) (a : Int32) : gWi l yL_tries cL_tries 4 (some .int) [(0, 9, 12, 21)] 8 124 10 300 X [.ref (ad (1, 0)), .int a, .ref (ad (110, 0))] L ad (wld X ad ci ca cr fi fa f) (fun k u => ∃ L' ad' ci2 ca2 cr2 f2, u = (L', ad', wld X ad' ci2 ca2 cr2 fi fa f2) ∧ wF L L' ad ad' ∧ (CPg L L' ci ci2 ca ca2 cr cr2 k (f2 0) (fun v => sameC L L' ci ci2 ca ca2 cr cr2 ∧ ∃ i, i < 4 ∧ a = nI i ∧ v = ci 32 i) (fun k => k = 1 ∧ ¬ vp_in a (4)))) := by
  refine w_tries (f := f) l X L ad _ a (c_X7_tries l X L ad (mSt X ad (oSt X f) fi fa) ci ca cr n w tot nt kp nx hV hl0 a) (hV.r (by decide)) rfl (fun v u hp => ?_) (fun E u hp => ?_)
  · obtain ⟨rfl, j, hj, e, h3⟩ := hp
    have hF : wF L L ad ad := wF_rf
    exact ⟨⟨hF.1 _ hO, hF.2 _ (Or.inl (by decide)), rfl⟩, _, _, _, _, _, _, by dsimp only; rw [wld_ad hF, wld_out], hF, Or.inl ⟨rfl, v, rfl, ⟨⟨rfl, rfl, rfl, rfl⟩, j, hj, e, h3⟩⟩⟩
  · obtain ⟨rfl, rfl, hn⟩ := hp
    exact ⟨rfl, ⟨_, _, _, _, _, _, rfl, wF_rf, Or.inr ⟨⟨rfl, hn⟩, rfl, rfl, rfl, rfl⟩⟩⟩

set_option maxHeartbeats 4000000 in
theorem L_book (l : Launch) (hl0 : l.stackTraces = false) (X : GX) (L : List ro) (ad : ro → Nat) (ci : Nat → Nat → Int32) (ca : Nat → Nat → Nat → Int32) (cr : Nat → Nat → Nat) (n w tot nt : Nat) (kp nx : Nat → Nat) (fi : Nat → Int32) (fa : Nat → Nat → Int32) (f : Nat → Int64) (hV : cV L ci ca cr n w tot nt kp nx) (hO : ((110, 0) : ro) ∈ L) (a : Int32) : gWi l yL_book cL_book 4 (some .int) [(0, 9, 12, 21), (0, 9, 15, 15)] 8 215 10 300 X [.ref (ad (1, 0)), .int a, .ref (ad (110, 0))] L ad (wld X ad ci ca cr fi fa f) (fun k u => ∃ L' ad' ci2 ca2 cr2 f2, u = (L', ad', wld X ad' ci2 ca2 cr2 fi fa f2) ∧ wF L L' ad ad' ∧ (CPg L L' ci ci2 ca ca2 cr cr2 k (f2 0) (fun v => ∃ k, k < cr 13 0 ∧ a = nI k ∧ ∃ c9, c9 < 4 ∧ ci 41 k = nI c9 ∧ ¬ (¬ nI w < ci 46 k ∧ ¬ prcC (ci 36 (cr 30 c9)) (ci 37 (cr 30 c9)) (ci 38 (cr 30 c9)) (ci 42 k - ci 43 k) (ci 44 k) (ci 45 k) = prcC (ci 36 (cr 40 k)) (ci 37 (cr 40 k)) (ci 38 (cr 40 k)) (ci 42 k - ci 43 k) (ci 44 k) (ci 45 k)) ∧ cr 13 1 < 50 ∧ ∃ cap, (∀ x : ro, x ∈ L' ↔ x ∈ L ∨ x = (50, cr 13 1) ∨ x = (12, 1)) ∧ cr 13 1 + 1 ≤ cap ∧ 10 ≤ cap ∧ cap ≤ 150 ∧ ci2 = ciL (up2 (up2 (up2 ci 50 (cr 13 1) (nI w)) 51 (cr 13 1) (prcC (ci 36 (cr 40 k)) (ci 37 (cr 40 k)) (ci 38 (cr 40 k)) (ci 42 k - ci 43 k) (ci 44 k) (ci 45 k))) 52 (cr 13 1) 0) 1 (cr 13 1) ∧ ca2 = ca ∧ cr2 = crL (ur2 cr 50 (cr 13 1) k) 1 (cr 13 1) cap ∧ v = nI (cr 13 1))
      (fun k => (k = 1 ∧ ¬ vp_in a (cr 13 0)) ∨ (k = 2 ∧ ∃ k, k < cr 13 0 ∧ a = nI k ∧ ∃ c9, c9 < 4 ∧ ci 41 k = nI c9 ∧ ((¬ nI w < ci 46 k ∧ ¬ prcC (ci 36 (cr 30 c9)) (ci 37 (cr 30 c9)) (ci 38 (cr 30 c9)) (ci 42 k - ci 43 k) (ci 44 k) (ci 45 k) = prcC (ci 36 (cr 40 k)) (ci 37 (cr 40 k)) (ci 38 (cr 40 k)) (ci 42 k - ci 43 k) (ci 44 k) (ci 45 k)) ∨ cr 13 1 = 50))))) := by
  refine w_book (f := f) l X L ad _ a (c_X7_book l X L ad (mSt X ad (oSt X f) fi fa) ci ca cr n w tot nt kp nx hV hl0 a) (hV.r (by decide)) rfl (fun v u hp => ?_) (fun E u hp => ?_)
  · obtain ⟨j, hj, e, c9, hc9, h41, hn, h50, L8, ad8, cap, rfl, hL, had, b1, b2, b3, h3⟩ := hp
    have hF : wF L L8 ad ad8 := ⟨fun r h => (hL r).mpr (Or.inl h), fun r hr => had r (wne hr (by decide) (by decide)) (wne hr (by decide) (by decide))⟩
    exact ⟨⟨hF.1 _ hO, hF.2 _ (Or.inl (by decide)), rfl⟩, _, _, _, _, _, _, by dsimp only; rw [wld_ad hF, wld_out], hF, Or.inl ⟨rfl, v, rfl, ⟨j, hj, e, c9, hc9, h41, hn, h50, cap, hL, b1, b2, b3, rfl, rfl, rfl, h3⟩⟩⟩
  · obtain ⟨rfl, h⟩ := hp
    rcases h with ⟨rfl, hq⟩ | ⟨rfl, hq⟩
    · exact Or.inl ⟨rfl, ⟨_, _, _, _, _, _, rfl, wF_rf, Or.inr ⟨Or.inl ⟨rfl, hq⟩, rfl, rfl, rfl, rfl⟩⟩⟩
    · exact Or.inr ⟨rfl, ⟨_, _, _, _, _, _, rfl, wF_rf, Or.inr ⟨Or.inr ⟨rfl, hq⟩, rfl, rfl, rfl, rfl⟩⟩⟩

set_option maxHeartbeats 4000000 in
theorem L_weigh (l : Launch) (hl0 : l.stackTraces = false) (X : GX) (L : List ro) (ad : ro → Nat) (ci : Nat → Nat → Int32) (ca : Nat → Nat → Nat → Int32) (cr : Nat → Nat → Nat) (n w tot nt : Nat) (kp nx : Nat → Nat) (fi : Nat → Int32) (fa : Nat → Nat → Int32) (f : Nat → Int64) (hV : cV L ci ca cr n w tot nt kp nx) (hO : ((110, 0) : ro) ∈ L) (a b : Int32) : gWi l yL_weigh cL_weigh 5 (some .int) [(0, 10, 13, 21), (0, 10, 17, 13), (0, 10, 21, 15)] 8 127 10 300 X [.ref (ad (1, 0)), .int a, .int b, .ref (ad (110, 0))] L ad (wld X ad ci ca cr fi fa f) (fun k u => ∃ L' ad' ci2 ca2 cr2 f2, u = (L', ad', wld X ad' ci2 ca2 cr2 fi fa f2) ∧ wF L L' ad ad' ∧ (CPg L L' ci ci2 ca ca2 cr cr2 k (f2 0) (fun v => ∃ k, k < cr 13 1 ∧ a = nI k ∧ (1 ≤ b ∧ b ≤ 30000) ∧ ci 52 k = 0 ∧ sameC L L' (up2 ci 51 k (prcC (ci 36 (cr 40 (cr 50 k))) (ci 37 (cr 40 (cr 50 k))) (ci 38 (cr 40 (cr 50 k))) (ci 42 (cr 50 k) - ci 43 (cr 50 k)) b (ci 45 (cr 50 k)))) ci2 ca ca2 cr cr2 ∧ v = prcC (ci 36 (cr 40 (cr 50 k))) (ci 37 (cr 40 (cr 50 k))) (ci 38 (cr 40 (cr 50 k))) (ci 42 (cr 50 k) - ci 43 (cr 50 k)) b (ci 45 (cr 50 k)) - ci 51 k)
      (fun k => (k = 1 ∧ ¬ vp_in a (cr 13 1)) ∨ (k = 2 ∧ ∃ i, i < cr 13 1 ∧ a = nI i ∧ ¬ (1 ≤ b ∧ b ≤ 30000)) ∨ (k = 3 ∧ ∃ i, i < cr 13 1 ∧ a = nI i ∧ (1 ≤ b ∧ b ≤ 30000) ∧ ¬ ci 52 i = 0)))) := by
  refine w_weigh (f := f) l X L ad _ a b (c_X7_weigh l X L ad (mSt X ad (oSt X f) fi fa) ci ca cr n w tot nt kp nx hV hl0 a b) (hV.r (by decide)) rfl (fun v u hp => ?_) (fun E u hp => ?_)
  · obtain ⟨j, hj, e, hb, h0, rfl, h3⟩ := hp
    have hF : wF L L ad ad := wF_rf
    exact ⟨⟨hF.1 _ hO, hF.2 _ (Or.inl (by decide)), rfl⟩, _, _, _, _, _, _, by dsimp only; rw [wld_ad hF, wld_out], hF, Or.inl ⟨rfl, v, rfl, ⟨j, hj, e, hb, h0, ⟨rfl, rfl, rfl, rfl⟩, h3⟩⟩⟩
  · obtain ⟨rfl, h⟩ := hp
    rcases h with ⟨rfl, hq⟩ | ⟨rfl, hq⟩ | ⟨rfl, hq⟩
    · exact Or.inl ⟨rfl, ⟨_, _, _, _, _, _, rfl, wF_rf, Or.inr ⟨Or.inl ⟨rfl, hq⟩, rfl, rfl, rfl, rfl⟩⟩⟩
    · exact Or.inr (Or.inl ⟨rfl, ⟨_, _, _, _, _, _, rfl, wF_rf, Or.inr ⟨Or.inr (Or.inl ⟨rfl, hq⟩), rfl, rfl, rfl, rfl⟩⟩⟩)
    · exact Or.inr (Or.inr ⟨rfl, ⟨_, _, _, _, _, _, rfl, wF_rf, Or.inr ⟨Or.inr (Or.inr ⟨rfl, hq⟩), rfl, rfl, rfl, rfl⟩⟩⟩)

set_option maxHeartbeats 4000000 in
theorem L_cancel (l : Launch) (hl0 : l.stackTraces = false) (X : GX) (L : List ro) (ad : ro → Nat) (ci : Nat → Nat → Int32) (ca : Nat → Nat → Nat → Int32) (cr : Nat → Nat → Nat) (n w tot nt : Nat) (kp nx : Nat → Nat) (fi : Nat → Int32) (fa : Nat → Nat → Int32) (f : Nat → Int64) (hV : cV L ci ca cr n w tot nt kp nx) (hO : ((110, 0) : ro) ∈ L) (a : Int32) : gWi l yL_cancel cL_cancel 4 (some .int) [(0, 9, 12, 21), (0, 9, 15, 15)] 8 125 10 300 X [.ref (ad (1, 0)), .int a, .ref (ad (110, 0))] L ad (wld X ad ci ca cr fi fa f) (fun k u => ∃ L' ad' ci2 ca2 cr2 f2, u = (L', ad', wld X ad' ci2 ca2 cr2 fi fa f2) ∧ wF L L' ad ad' ∧ (CPg L L' ci ci2 ca ca2 cr cr2 k (f2 0) (fun v => ∃ k, k < cr 13 1 ∧ a = nI k ∧ ¬ (¬ ci 52 k = 0 ∨ ci 50 k + 30 < nI w) ∧ sameC L L' (up2 ci 52 k 1) ci2 ca ca2 cr cr2 ∧ v = ci 51 k)
      (fun k => (k = 1 ∧ ¬ vp_in a (cr 13 1)) ∨ (k = 2 ∧ ∃ i, i < cr 13 1 ∧ a = nI i ∧ (¬ ci 52 i = 0 ∨ ci 50 i + 30 < nI w))))) := by
  refine w_cancel (f := f) l X L ad _ a (c_X7_cancel l X L ad (mSt X ad (oSt X f) fi fa) ci ca cr n w tot nt kp nx hV hl0 a) (hV.r (by decide)) rfl (fun v u hp => ?_) (fun E u hp => ?_)
  · obtain ⟨j, hj, e, hn, rfl, h3⟩ := hp
    have hF : wF L L ad ad := wF_rf
    exact ⟨⟨hF.1 _ hO, hF.2 _ (Or.inl (by decide)), rfl⟩, _, _, _, _, _, _, by dsimp only; rw [wld_ad hF, wld_out], hF, Or.inl ⟨rfl, v, rfl, ⟨j, hj, e, hn, ⟨rfl, rfl, rfl, rfl⟩, h3⟩⟩⟩
  · obtain ⟨rfl, h⟩ := hp
    rcases h with ⟨rfl, hq⟩ | ⟨rfl, hq⟩
    · exact Or.inl ⟨rfl, ⟨_, _, _, _, _, _, rfl, wF_rf, Or.inr ⟨Or.inl ⟨rfl, hq⟩, rfl, rfl, rfl, rfl⟩⟩⟩
    · exact Or.inr ⟨rfl, ⟨_, _, _, _, _, _, rfl, wF_rf, Or.inr ⟨Or.inr ⟨rfl, hq⟩, rfl, rfl, rfl, rfl⟩⟩⟩

set_option maxHeartbeats 4000000 in
theorem L_state (l : Launch) (hl0 : l.stackTraces = false) (X : GX) (L : List ro) (ad : ro → Nat) (ci : Nat → Nat → Int32) (ca : Nat → Nat → Nat → Int32) (cr : Nat → Nat → Nat) (n w tot nt : Nat) (kp nx : Nat → Nat) (fi : Nat → Int32) (fa : Nat → Nat → Int32) (f : Nat → Int64) (hV : cV L ci ca cr n w tot nt kp nx) (hO : ((110, 0) : ro) ∈ L) (a : Int32) : gWi l yL_state cL_state 4 (some .int) [(0, 9, 12, 21)] 8 124 10 300 X [.ref (ad (1, 0)), .int a, .ref (ad (110, 0))] L ad (wld X ad ci ca cr fi fa f) (fun k u => ∃ L' ad' ci2 ca2 cr2 f2, u = (L', ad', wld X ad' ci2 ca2 cr2 fi fa f2) ∧ wF L L' ad ad' ∧ (CPg L L' ci ci2 ca ca2 cr cr2 k (f2 0) (fun v => sameC L L' ci ci2 ca ca2 cr cr2 ∧ ∃ i, i < cr 13 1 ∧ a = nI i ∧ v = ci 52 i) (fun k => k = 1 ∧ ¬ vp_in a (cr 13 1)))) := by
  refine w_state (f := f) l X L ad _ a (c_X7_state l X L ad (mSt X ad (oSt X f) fi fa) ci ca cr n w tot nt kp nx hV hl0 a) (hV.r (by decide)) rfl (fun v u hp => ?_) (fun E u hp => ?_)
  · obtain ⟨rfl, j, hj, e, h3⟩ := hp
    have hF : wF L L ad ad := wF_rf
    exact ⟨⟨hF.1 _ hO, hF.2 _ (Or.inl (by decide)), rfl⟩, _, _, _, _, _, _, by dsimp only; rw [wld_ad hF, wld_out], hF, Or.inl ⟨rfl, v, rfl, ⟨⟨rfl, rfl, rfl, rfl⟩, j, hj, e, h3⟩⟩⟩
  · obtain ⟨rfl, rfl, hn⟩ := hp
    exact ⟨rfl, ⟨_, _, _, _, _, _, rfl, wF_rf, Or.inr ⟨⟨rfl, hn⟩, rfl, rfl, rfl, rfl⟩⟩⟩

set_option maxHeartbeats 4000000 in
theorem L_cost (l : Launch) (hl0 : l.stackTraces = false) (X : GX) (L : List ro) (ad : ro → Nat) (ci : Nat → Nat → Int32) (ca : Nat → Nat → Nat → Int32) (cr : Nat → Nat → Nat) (n w tot nt : Nat) (kp nx : Nat → Nat) (fi : Nat → Int32) (fa : Nat → Nat → Int32) (f : Nat → Int64) (hV : cV L ci ca cr n w tot nt kp nx) (hO : ((110, 0) : ro) ∈ L) (a : Int32) : gWi l yL_cost cL_cost 4 (some .int) [(0, 9, 12, 21)] 8 124 10 300 X [.ref (ad (1, 0)), .int a, .ref (ad (110, 0))] L ad (wld X ad ci ca cr fi fa f) (fun k u => ∃ L' ad' ci2 ca2 cr2 f2, u = (L', ad', wld X ad' ci2 ca2 cr2 fi fa f2) ∧ wF L L' ad ad' ∧ (CPg L L' ci ci2 ca ca2 cr cr2 k (f2 0) (fun v => sameC L L' ci ci2 ca ca2 cr cr2 ∧ ∃ i, i < cr 13 1 ∧ a = nI i ∧ v = ci 51 i) (fun k => k = 1 ∧ ¬ vp_in a (cr 13 1)))) := by
  refine w_cost (f := f) l X L ad _ a (c_X7_cost l X L ad (mSt X ad (oSt X f) fi fa) ci ca cr n w tot nt kp nx hV hl0 a) (hV.r (by decide)) rfl (fun v u hp => ?_) (fun E u hp => ?_)
  · obtain ⟨rfl, j, hj, e, h3⟩ := hp
    have hF : wF L L ad ad := wF_rf
    exact ⟨⟨hF.1 _ hO, hF.2 _ (Or.inl (by decide)), rfl⟩, _, _, _, _, _, _, by dsimp only; rw [wld_ad hF, wld_out], hF, Or.inl ⟨rfl, v, rfl, ⟨⟨rfl, rfl, rfl, rfl⟩, j, hj, e, h3⟩⟩⟩
  · obtain ⟨rfl, rfl, hn⟩ := hp
    exact ⟨rfl, ⟨_, _, _, _, _, _, rfl, wF_rf, Or.inr ⟨⟨rfl, hn⟩, rfl, rfl, rfl, rfl⟩⟩⟩

set_option maxHeartbeats 4000000 in
theorem L_bill (l : Launch) (hl0 : l.stackTraces = false) (X : GX) (L : List ro) (ad : ro → Nat) (ci : Nat → Nat → Int32) (ca : Nat → Nat → Nat → Int32) (cr : Nat → Nat → Nat) (n w tot nt : Nat) (kp nx : Nat → Nat) (fi : Nat → Int32) (fa : Nat → Nat → Int32) (f : Nat → Int64) (hV : cV L ci ca cr n w tot nt kp nx) (hO : ((110, 0) : ro) ∈ L) (a : Int32) : gWi l yL_bill cL_bill 4 (some .int) [(0, 9, 12, 21)] 8 124 10 300 X [.ref (ad (1, 0)), .int a, .ref (ad (110, 0))] L ad (wld X ad ci ca cr fi fa f) (fun k u => ∃ L' ad' ci2 ca2 cr2 f2, u = (L', ad', wld X ad' ci2 ca2 cr2 fi fa f2) ∧ wF L L' ad ad' ∧ (CPg L L' ci ci2 ca ca2 cr cr2 k (f2 0) (fun v => sameC L L' ci ci2 ca ca2 cr cr2 ∧ ∃ i, i < 6 ∧ a = nI i ∧ v = ci 22 i + sumC ci cr (nI i) (nI w) (cr 13 1)) (fun k => k = 1 ∧ ¬ vp_in a (6)))) := by
  refine w_bill (f := f) l X L ad _ a (c_X7_bill l X L ad (mSt X ad (oSt X f) fi fa) ci ca cr n w tot nt kp nx hV hl0 a) (hV.r (by decide)) rfl (fun v u hp => ?_) (fun E u hp => ?_)
  · obtain ⟨rfl, j, hj, e, h3⟩ := hp
    have hF : wF L L ad ad := wF_rf
    exact ⟨⟨hF.1 _ hO, hF.2 _ (Or.inl (by decide)), rfl⟩, _, _, _, _, _, _, by dsimp only; rw [wld_ad hF, wld_out], hF, Or.inl ⟨rfl, v, rfl, ⟨⟨rfl, rfl, rfl, rfl⟩, j, hj, e, h3⟩⟩⟩
  · obtain ⟨rfl, rfl, hn⟩ := hp
    exact ⟨rfl, ⟨_, _, _, _, _, _, rfl, wF_rf, Or.inr ⟨⟨rfl, hn⟩, rfl, rfl, rfl, rfl⟩⟩⟩

set_option maxHeartbeats 4000000 in
theorem L_close (l : Launch) (hl0 : l.stackTraces = false) (X : GX) (L : List ro) (ad : ro → Nat) (ci : Nat → Nat → Int32) (ca : Nat → Nat → Nat → Int32) (cr : Nat → Nat → Nat) (n w tot nt : Nat) (kp nx : Nat → Nat) (fi : Nat → Int32) (fa : Nat → Nat → Int32) (f : Nat → Int64) (hV : cV L ci ca cr n w tot nt kp nx) (hO : ((110, 0) : ro) ∈ L) (a : Int32) : gWi l yL_close cL_close 4 (some .int) [(0, 9, 12, 21)] 8 126 10 300 X [.ref (ad (1, 0)), .int a, .ref (ad (110, 0))] L ad (wld X ad ci ca cr fi fa f) (fun k u => ∃ L' ad' ci2 ca2 cr2 f2, u = (L', ad', wld X ad' ci2 ca2 cr2 fi fa f2) ∧ wF L L' ad ad' ∧ (CPg L L' ci ci2 ca ca2 cr cr2 k (f2 0) (fun v => ∃ k, k < 6 ∧ a = nI k ∧ sameC L L' (up2 (up2 (mrkC ci cr (nI k) (nI w) (cr 13 1)) 22 k 0) 23 k (ci 23 k + (ci 22 k + sumC ci cr (nI k) (nI w) (cr 13 1)))) ci2 ca ca2 cr cr2 ∧ v = ci 22 k + sumC ci cr (nI k) (nI w) (cr 13 1)) (fun k => k = 1 ∧ ¬ vp_in a 6))) := by
  refine w_close (f := f) l X L ad _ a (c_X7_close l X L ad (mSt X ad (oSt X f) fi fa) ci ca cr n w tot nt kp nx hV hl0 a) (hV.r (by decide)) rfl (fun v u hp => ?_) (fun E u hp => ?_)
  · obtain ⟨j, hj, e, rfl, h3⟩ := hp
    have hF : wF L L ad ad := wF_rf
    exact ⟨⟨hF.1 _ hO, hF.2 _ (Or.inl (by decide)), rfl⟩, _, _, _, _, _, _, by dsimp only; rw [wld_ad hF, wld_out], hF, Or.inl ⟨rfl, v, rfl, ⟨j, hj, e, ⟨rfl, rfl, rfl, rfl⟩, h3⟩⟩⟩
  · obtain ⟨rfl, rfl, hn⟩ := hp
    exact ⟨rfl, ⟨_, _, _, _, _, _, rfl, wF_rf, Or.inr ⟨⟨rfl, hn⟩, rfl, rfl, rfl, rfl⟩⟩⟩

set_option maxHeartbeats 4000000 in
theorem L_billed (l : Launch) (hl0 : l.stackTraces = false) (X : GX) (L : List ro) (ad : ro → Nat) (ci : Nat → Nat → Int32) (ca : Nat → Nat → Nat → Int32) (cr : Nat → Nat → Nat) (n w tot nt : Nat) (kp nx : Nat → Nat) (fi : Nat → Int32) (fa : Nat → Nat → Int32) (f : Nat → Int64) (hV : cV L ci ca cr n w tot nt kp nx) (hO : ((110, 0) : ro) ∈ L) (a : Int32) : gWi l yL_billed cL_billed 4 (some .int) [(0, 9, 12, 21)] 8 124 10 300 X [.ref (ad (1, 0)), .int a, .ref (ad (110, 0))] L ad (wld X ad ci ca cr fi fa f) (fun k u => ∃ L' ad' ci2 ca2 cr2 f2, u = (L', ad', wld X ad' ci2 ca2 cr2 fi fa f2) ∧ wF L L' ad ad' ∧ (CPg L L' ci ci2 ca ca2 cr cr2 k (f2 0) (fun v => sameC L L' ci ci2 ca ca2 cr cr2 ∧ ∃ i, i < 6 ∧ a = nI i ∧ v = ci 23 i) (fun k => k = 1 ∧ ¬ vp_in a (6)))) := by
  refine w_billed (f := f) l X L ad _ a (c_X7_billed l X L ad (mSt X ad (oSt X f) fi fa) ci ca cr n w tot nt kp nx hV hl0 a) (hV.r (by decide)) rfl (fun v u hp => ?_) (fun E u hp => ?_)
  · obtain ⟨rfl, j, hj, e, h3⟩ := hp
    have hF : wF L L ad ad := wF_rf
    exact ⟨⟨hF.1 _ hO, hF.2 _ (Or.inl (by decide)), rfl⟩, _, _, _, _, _, _, by dsimp only; rw [wld_ad hF, wld_out], hF, Or.inl ⟨rfl, v, rfl, ⟨⟨rfl, rfl, rfl, rfl⟩, j, hj, e, h3⟩⟩⟩
  · obtain ⟨rfl, rfl, hn⟩ := hp
    exact ⟨rfl, ⟨_, _, _, _, _, _, rfl, wF_rf, Or.inr ⟨⟨rfl, hn⟩, rfl, rfl, rfl, rfl⟩⟩⟩

