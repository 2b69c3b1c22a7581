set_option maxHeartbeats 4000000 in
set_option maxRecDepth 100000 in
theorem c_X8_call (l : Launch) (X : GX) (L : List ro) (ad : ro → Nat) (st0 : ro → va_E) (fi : Nat → Int32) (fa : Nat → Nat → Int32) (hm : mL L) (n : Nat) (hn : fi 3 = nI n) (hn60 : n ≤ 60) (h4 : ∀ k, k < 6 → fa 4 k = keyc k) (nq nc : Nat) (hnq : fi 32 = nI nq) (hnq2 : nq ≤ 100) (hnc : fi 23 = nI nc) (hnc2 : nc < 2000) : mM l yX8_call cX8_call 5 (some .int) 5 121 X [] L ad st0 fi fa (fun v fi' fa' => (¬ (rdR (fa 2) n).1 = 0 ∧ fi' 0 = 1 ∧ (∀ j, j ≠ 0 → j ≠ 7 → j ≠ 8 → fi' j = fi j) ∧ (∀ a, a ≠ 6 → fa' a = fa a)) ∨ ((rdR (fa 2) n).1 = 0 ∧ nq = 100 ∧ fi' 0 = 2 ∧ (∀ j, j ≠ 0 → j ≠ 7 → j ≠ 8 → fi' j = fi j) ∧ (∀ a, a ≠ 6 → fa' a = fa a)) ∨ ((rdR (fa 2) n).1 = 0 ∧ nq < 100 ∧ ∃ s c2 f2 t2, s < 6 ∧ c2 < 4 ∧ f2 < 8 ∧ t2 < 8 ∧ (rdR (fa 2) n).2.2 0 = nI s ∧ (rdR (fa 2) n).2.2 1 = nI c2 ∧ (rdR (fa 2) n).2.2 2 = nI f2 ∧ (rdR (fa 2) n).2.2 3 = nI t2 ∧ fi' 0 = 0 ∧ fi' 3 = 0 ∧ fi' 22 = fi 22 + 1 ∧ (∀ j, j ≠ 0 → j ≠ 3 → j ≠ 7 → j ≠ 8 → j ≠ 22 → j ≠ 23 → j ≠ 32 → fi' j = fi j) ∧ (((fa 11 s ≤ cntW (fa 24) (fa 25) (nI s) (fi 1) (fa 12 s) nc) ∧ fi' 23 = fi 23 ∧ fi' 32 = fi 32 ∧ (∀ a, a ≠ 6 → fa' a = fa a) ∧ v = -2) ∨ (¬ (fa 11 s ≤ cntW (fa 24) (fa 25) (nI s) (fi 1) (fa 12 s) nc) ∧ fi' 23 = nI (nc + 1) ∧ fa' 24 = upd (fa 24) nc (fi 1) ∧ fa' 25 = upd (fa 25) nc (nI s) ∧ fi 1 ≤ fa 28 (((4 * s + c2) * 8 + f2) * 8 + t2) ∧ fa' 26 = upd (fa 26) s (fa 26 s + 1) ∧ fi' 32 = nI (nq + 1) ∧ fa' 33 = upd (fa 33) nq (nI s) ∧ fa' 34 = upd (fa 34) nq (nI c2) ∧ fa' 35 = upd (fa 35) nq (if nI t2 < nI f2 then nI f2 - nI t2 else nI t2 - nI f2) ∧ fa' 36 = upd (fa 36) nq ((rdR (fa 2) n).2.2 4) ∧ fa' 37 = upd (fa 37) nq (if (rdR (fa 2) n).2.2 5 = 1 then 1 else 0) ∧ fa' 38 = upd (fa 38) nq (fa 29 (((4 * s + c2) * 8 + f2) * 8 + t2)) ∧ fa' 39 = upd (fa 39) nq (fa 30 (((4 * s + c2) * 8 + f2) * 8 + t2)) ∧ fa' 40 = upd (fa 40) nq (fa 31 (((4 * s + c2) * 8 + f2) * 8 + t2)) ∧ fa' 41 = upd (fa 41) nq (fa 28 (((4 * s + c2) * 8 + f2) * 8 + t2)) ∧ (∀ a, a ≠ 6 → a ≠ 24 → a ≠ 25 → a ≠ 26 → (a < 33 ∨ 41 < a) → fa' a = fa a) ∧ v = nI nq) ∨ (¬ (fa 11 s ≤ cntW (fa 24) (fa 25) (nI s) (fi 1) (fa 12 s) nc) ∧ fi' 23 = nI (nc + 1) ∧ fa' 24 = upd (fa 24) nc (fi 1) ∧ fa' 25 = upd (fa 25) nc (nI s) ∧ ¬ fi 1 ≤ fa 28 (((4 * s + c2) * 8 + f2) * 8 + t2) ∧ ¬ (askS (fi 1) (fa 13 c2) (fa 14 c2) (mcr fa c2)).1 = 0 ∧ fa' 26 = upd (fa 26) s (fa 26 s + 1) ∧ fi' 32 = fi 32 ∧ fa' 15 = mset fa c2 (askS (fi 1) (fa 13 c2) (fa 14 c2) (mcr fa c2)).2 15 ∧ fa' 16 = mset fa c2 (askS (fi 1) (fa 13 c2) (fa 14 c2) (mcr fa c2)).2 16 ∧ fa' 17 = mset fa c2 (askS (fi 1) (fa 13 c2) (fa 14 c2) (mcr fa c2)).2 17 ∧ fa' 18 = mset fa c2 (askS (fi 1) (fa 13 c2) (fa 14 c2) (mcr fa c2)).2 18 ∧ (∀ a, a ≠ 6 → a ≠ 24 → a ≠ 25 → a ≠ 26 → (a < 15 ∨ 18 < a) → fa' a = fa a) ∧ v = (askS (fi 1) (fa 13 c2) (fa 14 c2) (mcr fa c2)).1) ∨ (¬ (fa 11 s ≤ cntW (fa 24) (fa 25) (nI s) (fi 1) (fa 12 s) nc) ∧ fi' 23 = nI (nc + 1) ∧ fa' 24 = upd (fa 24) nc (fi 1) ∧ fa' 25 = upd (fa 25) nc (nI s) ∧ ¬ fi 1 ≤ fa 28 (((4 * s + c2) * 8 + f2) * 8 + t2) ∧ (askS (fi 1) (fa 13 c2) (fa 14 c2) (mcr fa c2)).1 = 0 ∧ fa' 26 = upd (fa 26) s (fa 26 s + 3) ∧ fi' 32 = nI (nq + 1) ∧ fa' 15 = mset fa c2 (askS (fi 1) (fa 13 c2) (fa 14 c2) (mcr fa c2)).2 15 ∧ fa' 16 = mset fa c2 (askS (fi 1) (fa 13 c2) (fa 14 c2) (mcr fa c2)).2 16 ∧ fa' 17 = mset fa c2 (askS (fi 1) (fa 13 c2) (fa 14 c2) (mcr fa c2)).2 17 ∧ fa' 18 = mset fa c2 (askS (fi 1) (fa 13 c2) (fa 14 c2) (mcr fa c2)).2 18 ∧ fa' 28 = upd (fa 28) (((4 * s + c2) * 8 + f2) * 8 + t2) (fi 1 + 59) ∧ fa' 29 = upd (fa 29) (((4 * s + c2) * 8 + f2) * 8 + t2) (fa 19 c2) ∧ fa' 30 = upd (fa 30) (((4 * s + c2) * 8 + f2) * 8 + t2) (fa 20 c2) ∧ fa' 31 = upd (fa 31) (((4 * s + c2) * 8 + f2) * 8 + t2) (fa 21 c2) ∧ fa' 33 = upd (fa 33) nq (nI s) ∧ fa' 34 = upd (fa 34) nq (nI c2) ∧ fa' 35 = upd (fa 35) nq (if nI t2 < nI f2 then nI f2 - nI t2 else nI t2 - nI f2) ∧ fa' 36 = upd (fa 36) nq ((rdR (fa 2) n).2.2 4) ∧ fa' 37 = upd (fa 37) nq (if (rdR (fa 2) n).2.2 5 = 1 then 1 else 0) ∧ fa' 38 = upd (fa 38) nq (fa 19 c2) ∧ fa' 39 = upd (fa 39) nq (fa 20 c2) ∧ fa' 40 = upd (fa 40) nq (fa 21 c2) ∧ fa' 41 = upd (fa 41) nq (fi 1 + 59) ∧ (∀ a, a ≠ 6 → a ≠ 24 → a ≠ 25 → a ≠ 26 → (a < 15 ∨ 18 < a) → (a < 28 ∨ 41 < a ∨ a = 32) → fa' a = fa a) ∧ v = nI nq)))) := by
  intro sz
  refine gM_of2 (Qc := fun A => va_Qi _ (gB X A) A) (by decide) (Nat.le_of_ble_eq_true rfl) ?_ sz
  intro p e s m args below meth c A R Q hR hQ C hW hS ls hl
  obtain ⟨hR1, hR2, hR3, hR4⟩ := hR
  have hx := C.1.1
  have hb := C.1.2.1
  have hml := C.1.2.2.1
  have hl : lv_has ls 5 [(0, .ref (ad (100, 0)))] := hl
  refine lv_aload_n hx hb dX8_call_0 rfl (lv_at hl 0 rfl) ?_
  refine lv_aload_n hx hb dX8_call_1 rfl (lv_at hl 0 rfl) ?_
  refine m_callVi (k2 := 0) (As := []) (rest := [.ref (ad (100, 0))]) C (c_X8_reads l X L ad st0 fi fa hm n hn hn60 h4) tw_6_124 tw_6_126 tw_0_25 tw_1_10 tw_6_127 (by decide +kernel) ⟨by rw [hR1]; exact Nat.le_of_ble_eq_true rfl, by rw [hR2]; exact Nat.le_of_ble_eq_true rfl⟩ hm hW hS rfl hl.1 rfl (Nat.le_of_ble_eq_true rfl) dX8_call_2 ⟨Nat.zero_le _, Nat.zero_le _⟩ (fun v9 fi1 fa1 H locs hp hW hS => ?_)
  obtain ⟨fr, fra, hv6, e7, e8, hb9⟩ := hp
  rcases hb9 with ⟨r0, r9⟩ | ⟨r0, r9⟩
  · subst r9
    obtain ⟨hv, hv5⟩ := rdR_right r0
    obtain ⟨s9, es, hs⟩ := hv 0 (by decide)
    obtain ⟨c2, ec, hc⟩ := hv 1 (by decide)
    obtain ⟨f2, ef, hf⟩ := hv 2 (by decide)
    obtain ⟨t2, et, ht⟩ := hv 3 (by decide)
    have hs : s9 < 6 := hs
    have hc : c2 < 4 := hc
    have hf : f2 < 8 := hf
    have ht : t2 < 8 := ht
    refine lv_if_ne (tgt := 12) hx hb dX8_call_5 (by decide) (fun _ => ?_) (fun c9 => absurd c9 (by decide))
    refine lv_aload_n hx hb dX8_call_12 rfl (lv_at hl 0 rfl) ?_
    refine m_getI (v := nI nq) C hm hW 32 (by decide) rfl tw_5_235 ((fr 32 (by decide) (by decide)).trans hnq) dX8_call_13 ?_
    refine lv_bipush (v := 100) hx hb dX8_call_16 (by decide) ?_
    refine lv_icmp_ne (tgt := 25) hx hb dX8_call_18 (by decide) (fun c1 => ?_) (fun c1 => ?_)
    · have c1n := q_ne (a := nq) (b := 100) (by omega) (by omega) c1
      refine lv_iconst (v := 0) hx hb dX8_call_25 (by decide) ?_
      refine m_putI C hm hW hS 0 (by decide) rfl tw_5_203 dX8_call_26 (fun H locs hW hS => ?_)
      refine lv_aload_n hx hb dX8_call_29 rfl (lv_at hl 0 rfl) ?_
      refine m_getI (v := 0) C hm hW 0 (by decide) rfl tw_5_203 rfl dX8_call_30 ?_
      refine lv_if_le (tgt := 38) hx hb dX8_call_33 (by decide) (fun _ => ?_) (fun c9 => absurd (by decide) c9)
      refine lv_aload_n hx hb dX8_call_38 rfl (lv_at hl 0 rfl) ?_
      refine lv_iconst (v := 0) hx hb dX8_call_39 (by decide) ?_
      refine m_putI C hm hW hS 3 (by decide) rfl tw_5_206 dX8_call_40 (fun H locs hW hS => ?_)
      refine lv_aload_n hx hb dX8_call_43 rfl (lv_at hl 0 rfl) ?_
      refine lv_dup hx hb dX8_call_44 rfl ?_
      refine m_getI (v := fi 22) C hm hW 22 (by decide) rfl tw_5_225 (fr 22 (by decide) (by decide)) dX8_call_45 ?_
      refine lv_iconst (v := 1) hx hb dX8_call_48 (by decide) ?_
      refine lv_iadd hx hb dX8_call_49 ?_
      refine lv_topi (fun x2 ex2 => ?_)
      refine m_putI C hm hW hS 22 (by decide) rfl tw_5_225 dX8_call_50 (fun H locs hW hS => ?_)
      refine lv_aload_n hx hb dX8_call_53 rfl (lv_at hl 0 rfl) ?_
      refine m_getA C hm hW 6 (by decide) rfl tw_5_209 dX8_call_54 ?_
      refine lv_iconst (v := 0) hx hb dX8_call_57 (by decide) ?_
      refine m_iald (v := (fa1 6) 0) (j := 0) C hm hW 6 (by decide) rfl rfl (vp_in_nI (n := 0) (N := 6) (by decide) (by decide)) (by decide) rfl dX8_call_58 ?_
      refine lv_topE (y := nI s9) ((hv6 0 (by decide)).trans es) ?_
      refine lv_istore_n (lv' := [(1, .int (nI s9)), (0, .ref (ad (100, 0)))]) hx hb dX8_call_59 rfl hl (by decide) rfl (fun ls hl => ?_)
      refine lv_aload_n hx hb dX8_call_60 rfl (lv_at hl 1 rfl) ?_
      refine m_getA C hm hW 6 (by decide) rfl tw_5_209 dX8_call_61 ?_
      refine lv_iconst (v := 1) hx hb dX8_call_64 (by decide) ?_
      refine m_iald (v := (fa1 6) 1) (j := 1) C hm hW 6 (by decide) rfl rfl (vp_in_nI (n := 1) (N := 6) (by decide) (by decide)) (by decide) rfl dX8_call_65 ?_
      refine lv_topE (y := nI c2) ((hv6 1 (by decide)).trans ec) ?_
      refine lv_istore_n (lv' := [(2, .int (nI c2)), (1, .int (nI s9)), (0, .ref (ad (100, 0)))]) hx hb dX8_call_66 rfl hl (by decide) rfl (fun ls hl => ?_)
      refine lv_aload_n hx hb dX8_call_67 rfl (lv_at hl 2 rfl) ?_
      refine lv_iload_n hx hb dX8_call_68 rfl (lv_at hl 1 rfl) ?_
      refine m_callVi (k2 := 1) (As := [.int (nI s9)]) (rest := []) C (c_X8_inWindow l X L ad st0 (upd (upd (upd fi1 0 0) 3 0) 22 x2) fa1 hm s9 hs nc ((fr 23 (by decide) (by decide)).trans hnc) (by omega)) tw_6_186 tw_6_188 tw_0_32 tw_1_10 tw_6_189 (by decide +kernel) ⟨by rw [hR1]; exact Nat.le_of_ble_eq_true rfl, by rw [hR2]; exact Nat.le_of_ble_eq_true rfl⟩ hm hW hS rfl hl.1 rfl (Nat.le_of_ble_eq_true rfl) dX8_call_69 ⟨Nat.zero_le _, Nat.zero_le _⟩ (fun x3 fi9 fa9 H locs hp hW hS => ?_)
      obtain ⟨z1, z2, hcn⟩ := hp
      rw [z1, z2] at hW
      rw [show x3 = cntW (fa 24) (fa 25) (nI s9) (fi 1) (fa 12 s9) nc by rw [← fra 24 (by decide), ← fra 25 (by decide), ← fra 12 (by decide), ← fr 1 (by decide) (by decide)]; exact hcn]
      refine lv_aload_n hx hb dX8_call_72 rfl (lv_at hl 2 rfl) ?_
      refine m_getA C hm hW 11 (by decide) rfl tw_5_214 dX8_call_73 ?_
      refine lv_iload_n hx hb dX8_call_76 rfl (lv_at hl 1 rfl) ?_
      refine m_iald (v := (fa1 11) s9) (j := s9) C hm hW 11 (by decide) rfl rfl (vp_in_nI (N := 6) (by omega) (by decide)) (nI_clamp (by omega)) rfl dX8_call_77 ?_
      refine lv_topi (fun x4 ex4 => ?_)
      refine lv_icmp_lt (tgt := 84) hx hb dX8_call_78 (by decide) (fun c5 => ?_) (fun c5 => ?_)
      · refine lv_aload_n hx hb dX8_call_84 rfl (lv_at hl 2 rfl) ?_
        refine m_getA C hm hW 24 (by decide) rfl tw_5_227 dX8_call_85 ?_
        refine lv_aload_n hx hb dX8_call_88 rfl (lv_at hl 2 rfl) ?_
        refine m_getI (v := nI nc) C hm hW 23 (by decide) rfl tw_5_226 ((fr 23 (by decide) (by decide)).trans hnc) dX8_call_89 ?_
        refine lv_aload_n hx hb dX8_call_92 rfl (lv_at hl 2 rfl) ?_
        refine m_getI (v := fi 1) C hm hW 1 (by decide) rfl tw_5_204 (fr 1 (by decide) (by decide)) dX8_call_93 ?_
        refine m_iast (j := nc) C hm hW hS 24 (by decide) rfl rfl (vp_in_nI (N := 2000) (by omega) (by decide)) (nI_clamp (by omega)) dX8_call_96 (fun H locs hW hS => ?_)
        refine lv_aload_n hx hb dX8_call_97 rfl (lv_at hl 2 rfl) ?_
        refine m_getA C hm hW 25 (by decide) rfl tw_5_228 dX8_call_98 ?_
        refine lv_aload_n hx hb dX8_call_101 rfl (lv_at hl 2 rfl) ?_
        refine m_getI (v := nI nc) C hm hW 23 (by decide) rfl tw_5_226 ((fr 23 (by decide) (by decide)).trans hnc) dX8_call_102 ?_
        refine lv_iload_n hx hb dX8_call_105 rfl (lv_at hl 1 rfl) ?_
        refine m_iast (j := nc) C hm hW hS 25 (by decide) rfl rfl (vp_in_nI (N := 2000) (by omega) (by decide)) (nI_clamp (by omega)) dX8_call_106 (fun H locs hW hS => ?_)
        refine lv_aload_n hx hb dX8_call_107 rfl (lv_at hl 2 rfl) ?_
        refine lv_dup hx hb dX8_call_108 rfl ?_
        refine m_getI (v := nI nc) C hm hW 23 (by decide) rfl tw_5_226 ((fr 23 (by decide) (by decide)).trans hnc) dX8_call_109 ?_
        refine lv_iconst (v := 1) hx hb dX8_call_112 (by decide) ?_
        refine lv_iadd hx hb dX8_call_113 ?_
        refine lv_topE (y := nI (nc + 1)) (nI_1 nc) ?_
        refine m_putI C hm hW hS 23 (by decide) rfl tw_5_226 dX8_call_114 (fun H locs hW hS => ?_)
        refine lv_iconst (v := 4) hx hb dX8_call_117 (by decide) ?_
        refine lv_iload_n hx hb dX8_call_118 rfl (lv_at hl 1 rfl) ?_
        refine lv_imul hx hb dX8_call_119 ?_
        refine lv_topE (y := nI (4 * s9)) (pk_mul 4 s9) ?_
        refine lv_iload_n hx hb dX8_call_120 rfl (lv_at hl 0 rfl) ?_
        refine lv_iadd hx hb dX8_call_121 ?_
        refine lv_topE (y := nI (4 * s9 + c2)) (nI_add _ _) ?_
        refine lv_bipush (v := 8) hx hb dX8_call_122 (by decide) ?_
        refine lv_imul hx hb dX8_call_124 ?_
        refine lv_topE (y := nI ((4 * s9 + c2) * 8)) (pk_mul _ 8) ?_
        refine lv_aload_n hx hb dX8_call_125 rfl (lv_at hl 2 rfl) ?_
        refine m_getA C hm hW 6 (by decide) rfl tw_5_209 dX8_call_126 ?_
        refine lv_iconst (v := 2) hx hb dX8_call_129 (by decide) ?_
        refine m_iald (v := (fa1 6) 2) (j := 2) C hm hW 6 (by decide) rfl rfl (vp_in_nI (n := 2) (N := 6) (by decide) (by decide)) (by decide) rfl dX8_call_130 ?_
        refine lv_topE (y := nI f2) ((hv6 2 (by decide)).trans ef) ?_
        refine lv_iadd hx hb dX8_call_131 ?_
        refine lv_topE (y := nI ((4 * s9 + c2) * 8 + f2)) (nI_add _ _) ?_
        refine lv_bipush (v := 8) hx hb dX8_call_132 (by decide) ?_
        refine lv_imul hx hb dX8_call_134 ?_
        refine lv_topE (y := nI (((4 * s9 + c2) * 8 + f2) * 8)) (pk_mul _ 8) ?_
        refine lv_aload_n hx hb dX8_call_135 rfl (lv_at hl 2 rfl) ?_
        refine m_getA C hm hW 6 (by decide) rfl tw_5_209 dX8_call_136 ?_
        refine lv_iconst (v := 3) hx hb dX8_call_139 (by decide) ?_
        refine m_iald (v := (fa1 6) 3) (j := 3) C hm hW 6 (by decide) rfl rfl (vp_in_nI (n := 3) (N := 6) (by decide) (by decide)) (by decide) rfl dX8_call_140 ?_
        refine lv_topE (y := nI t2) ((hv6 3 (by decide)).trans et) ?_
        refine lv_iadd hx hb dX8_call_141 ?_
        refine lv_topE (y := nI (((4 * s9 + c2) * 8 + f2) * 8 + t2)) (nI_add _ _) ?_
        refine lv_istore_n (lv' := [(3, .int (nI (((4 * s9 + c2) * 8 + f2) * 8 + t2))), (2, .int (nI c2)), (1, .int (nI s9)), (0, .ref (ad (100, 0)))]) hx hb dX8_call_142 rfl hl (by decide) rfl (fun ls hl => ?_)
        refine lv_aload_n hx hb dX8_call_143 rfl (lv_at hl 3 rfl) ?_
        refine m_getI (v := fi 1) C hm hW 1 (by decide) rfl tw_5_204 (fr 1 (by decide) (by decide)) dX8_call_144 ?_
        refine lv_aload_n hx hb dX8_call_147 rfl (lv_at hl 3 rfl) ?_
        refine m_getA C hm hW 28 (by decide) rfl tw_5_231 dX8_call_148 ?_
        refine lv_iload_n hx hb dX8_call_151 rfl (lv_at hl 0 rfl) ?_
        refine m_iald (v := (fa1 28) (((4 * s9 + c2) * 8 + f2) * 8 + t2)) (j := (((4 * s9 + c2) * 8 + f2) * 8 + t2)) C hm hW 28 (by decide) rfl rfl (vp_in_nI (N := 1536) (by omega) (by decide)) (nI_clamp (by omega)) rfl dX8_call_152 ?_
        refine lv_topi (fun x6 ex6 => ?_)
        refine lv_icmp_gt (tgt := 174) hx hb dX8_call_153 (by decide) (fun c7 => ?_) (fun c7 => ?_)
        · refine lv_aload_n hx hb dX8_call_174 rfl (lv_at hl 3 rfl) ?_
          refine lv_iload_n hx hb dX8_call_175 rfl (lv_at hl 1 rfl) ?_
          refine m_callVi (k2 := 1) (As := [.int (nI c2)]) (rest := []) C (c_X8_asked l X L ad st0 (upd (upd (upd (upd fi1 0 0) 3 0) 22 x2) 23 (nI (nc + 1))) (rowu (rowu fa1 24 (upd (fa1 24) nc (fi 1))) 25 (upd (fa1 25) nc (nI s9))) hm c2 hc) tw_6_194 tw_6_196 tw_0_34 tw_1_10 tw_6_197 (by decide +kernel) ⟨by rw [hR1]; exact Nat.le_of_ble_eq_true rfl, by rw [hR2]; exact Nat.le_of_ble_eq_true rfl⟩ hm hW hS rfl hl.1 rfl (Nat.le_of_ble_eq_true rfl) dX8_call_176 ⟨Nat.zero_le _, Nat.zero_le _⟩ (fun x8 fi9 fa9 H locs hp hW hS => ?_)
          obtain ⟨z1, z2, hak⟩ := hp
          have hRE : askS ((upd (upd (upd (upd fi1 0 0) 3 0) 22 x2) 23 (nI (nc + 1))) 1) ((rowu (rowu fa1 24 (upd (fa1 24) nc (fi 1))) 25 (upd (fa1 25) nc (nI s9))) 13 c2) ((rowu (rowu fa1 24 (upd (fa1 24) nc (fi 1))) 25 (upd (fa1 25) nc (nI s9))) 14 c2) (mcr (rowu (rowu fa1 24 (upd (fa1 24) nc (fi 1))) 25 (upd (fa1 25) nc (nI s9))) c2) = (askS (fi 1) (fa 13 c2) (fa 14 c2) (mcr fa c2)) := by rw [show (upd (upd (upd (upd fi1 0 0) 3 0) 22 x2) 23 (nI (nc + 1))) 1 = fi 1 from fr 1 (by decide) (by decide), show (rowu (rowu fa1 24 (upd (fa1 24) nc (fi 1))) 25 (upd (fa1 25) nc (nI s9))) 13 = fa 13 from fra 13 (by decide), show (rowu (rowu fa1 24 (upd (fa1 24) nc (fi 1))) 25 (upd (fa1 25) nc (nI s9))) 14 = fa 14 from fra 14 (by decide), show mcr (rowu (rowu fa1 24 (upd (fa1 24) nc (fi 1))) 25 (upd (fa1 25) nc (nI s9))) c2 = mcr fa c2 by unfold mcr; rw [show (rowu (rowu fa1 24 (upd (fa1 24) nc (fi 1))) 25 (upd (fa1 25) nc (nI s9))) 15 = fa 15 from fra 15 (by decide), show (rowu (rowu fa1 24 (upd (fa1 24) nc (fi 1))) 25 (upd (fa1 25) nc (nI s9))) 16 = fa 16 from fra 16 (by decide), show (rowu (rowu fa1 24 (upd (fa1 24) nc (fi 1))) 25 (upd (fa1 25) nc (nI s9))) 17 = fa 17 from fra 17 (by decide), show (rowu (rowu fa1 24 (upd (fa1 24) nc (fi 1))) 25 (upd (fa1 25) nc (nI s9))) 18 = fa 18 from fra 18 (by decide)]]
          rw [hRE] at z2 hak
          rw [z1, z2] at hW
          subst hak
          obtain ⟨rs, hrs⟩ : ∃ rs, (askS (fi 1) (fa 13 c2) (fa 14 c2) (mcr fa c2)) = rs := ⟨_, rfl⟩
          have hcase := askS_cases (now := fi 1) (dn := fa 13 c2) (fl := fa 14 c2) (s := mcr fa c2)
          rw [hrs] at hW hcase ⊢
          rcases hcase with q5 | q5 | q5
          · rw [q5]
            refine lv_istore (lv' := [(4, .int 0), (3, .int (nI (((4 * s9 + c2) * 8 + f2) * 8 + t2))), (2, .int (nI c2)), (1, .int (nI s9)), (0, .ref (ad (100, 0)))]) hx hb dX8_call_179 hl (by decide) rfl (fun ls hl => ?_)
            refine lv_aload_n hx hb dX8_call_181 rfl (lv_at hl 4 rfl) ?_
            refine m_getA C hm hW 26 (by decide) rfl tw_5_229 dX8_call_182 ?_
            refine lv_iload_n hx hb dX8_call_185 rfl (lv_at hl 3 rfl) ?_
            refine lv_dup2_11 hx hb dX8_call_186 rfl rfl ?_
            refine m_iald (v := ((mset (rowu (rowu fa1 24 (upd (fa1 24) nc (fi 1))) 25 (upd (fa1 25) nc (nI s9))) c2 rs.2) 26) s9) (j := s9) C hm hW 26 (by decide) rfl rfl (vp_in_nI (N := 6) (by omega) (by decide)) (nI_clamp (by omega)) rfl dX8_call_187 ?_
            refine lv_topi (fun x9 ex9 => ?_)
            refine lv_iload hx hb dX8_call_188 (lv_at hl 0 rfl) ?_
            refine lv_if_ge (tgt := 197) hx hb dX8_call_190 (by decide) (fun _ => ?_) (fun c9 => absurd (by decide) c9)
            refine lv_iconst (v := 3) hx hb dX8_call_197 (by decide) ?_
            refine lv_iadd hx hb dX8_call_198 ?_
            refine lv_topi (fun x10 ex10 => ?_)
            refine m_iast (j := s9) C hm hW hS 26 (by decide) rfl rfl (vp_in_nI (N := 6) (by omega) (by decide)) (nI_clamp (by omega)) dX8_call_199 (fun H locs hW hS => ?_)
            refine lv_iload hx hb dX8_call_200 (lv_at hl 0 rfl) ?_
            refine lv_if_ge (tgt := 208) hx hb dX8_call_202 (by decide) (fun _ => ?_) (fun c9 => absurd (by decide) c9)
            refine lv_aload_n hx hb dX8_call_208 rfl (lv_at hl 4 rfl) ?_
            refine m_getA C hm hW 28 (by decide) rfl tw_5_231 dX8_call_209 ?_
            refine lv_iload_n hx hb dX8_call_212 rfl (lv_at hl 1 rfl) ?_
            refine lv_aload_n hx hb dX8_call_213 rfl (lv_at hl 4 rfl) ?_
            refine m_getI (v := fi 1) C hm hW 1 (by decide) rfl tw_5_204 (fr 1 (by decide) (by decide)) dX8_call_214 ?_
            refine lv_bipush (v := 59) hx hb dX8_call_217 (by decide) ?_
            refine lv_iadd hx hb dX8_call_219 ?_
            refine lv_topi (fun x11 ex11 => ?_)
            refine m_iast (j := (((4 * s9 + c2) * 8 + f2) * 8 + t2)) C hm hW hS 28 (by decide) rfl rfl (vp_in_nI (N := 1536) (by omega) (by decide)) (nI_clamp (by omega)) dX8_call_220 (fun H locs hW hS => ?_)
            refine lv_aload_n hx hb dX8_call_221 rfl (lv_at hl 4 rfl) ?_
            refine m_getA C hm hW 29 (by decide) rfl tw_5_232 dX8_call_222 ?_
            refine lv_iload_n hx hb dX8_call_225 rfl (lv_at hl 1 rfl) ?_
            refine lv_aload_n hx hb dX8_call_226 rfl (lv_at hl 4 rfl) ?_
            refine m_getA C hm hW 19 (by decide) rfl tw_5_222 dX8_call_227 ?_
            refine lv_iload_n hx hb dX8_call_230 rfl (lv_at hl 2 rfl) ?_
            refine m_iald (v := ((mset (rowu (rowu fa1 24 (upd (fa1 24) nc (fi 1))) 25 (upd (fa1 25) nc (nI s9))) c2 rs.2) 19) c2) (j := c2) C hm hW 19 (by decide) rfl rfl (vp_in_nI (N := 4) (by omega) (by decide)) (nI_clamp (by omega)) rfl dX8_call_231 ?_
            refine lv_topi (fun x12 ex12 => ?_)
            refine m_iast (j := (((4 * s9 + c2) * 8 + f2) * 8 + t2)) C hm hW hS 29 (by decide) rfl rfl (vp_in_nI (N := 1536) (by omega) (by decide)) (nI_clamp (by omega)) dX8_call_232 (fun H locs hW hS => ?_)
            refine lv_aload_n hx hb dX8_call_233 rfl (lv_at hl 4 rfl) ?_
            refine m_getA C hm hW 30 (by decide) rfl tw_5_233 dX8_call_234 ?_
            refine lv_iload_n hx hb dX8_call_237 rfl (lv_at hl 1 rfl) ?_
            refine lv_aload_n hx hb dX8_call_238 rfl (lv_at hl 4 rfl) ?_
            refine m_getA C hm hW 20 (by decide) rfl tw_5_223 dX8_call_239 ?_
            refine lv_iload_n hx hb dX8_call_242 rfl (lv_at hl 2 rfl) ?_
            refine m_iald (v := ((mset (rowu (rowu fa1 24 (upd (fa1 24) nc (fi 1))) 25 (upd (fa1 25) nc (nI s9))) c2 rs.2) 20) c2) (j := c2) C hm hW 20 (by decide) rfl rfl (vp_in_nI (N := 4) (by omega) (by decide)) (nI_clamp (by omega)) rfl dX8_call_243 ?_
            refine lv_topi (fun x13 ex13 => ?_)
            refine m_iast (j := (((4 * s9 + c2) * 8 + f2) * 8 + t2)) C hm hW hS 30 (by decide) rfl rfl (vp_in_nI (N := 1536) (by omega) (by decide)) (nI_clamp (by omega)) dX8_call_244 (fun H locs hW hS => ?_)
            refine lv_aload_n hx hb dX8_call_245 rfl (lv_at hl 4 rfl) ?_
            refine m_getA C hm hW 31 (by decide) rfl tw_5_234 dX8_call_246 ?_
            refine lv_iload_n hx hb dX8_call_249 rfl (lv_at hl 1 rfl) ?_
            refine lv_aload_n hx hb dX8_call_250 rfl (lv_at hl 4 rfl) ?_
            refine m_getA C hm hW 21 (by decide) rfl tw_5_224 dX8_call_251 ?_
            refine lv_iload_n hx hb dX8_call_254 rfl (lv_at hl 2 rfl) ?_
            refine m_iald (v := ((mset (rowu (rowu fa1 24 (upd (fa1 24) nc (fi 1))) 25 (upd (fa1 25) nc (nI s9))) c2 rs.2) 21) c2) (j := c2) C hm hW 21 (by decide) rfl rfl (vp_in_nI (N := 4) (by omega) (by decide)) (nI_clamp (by omega)) rfl dX8_call_255 ?_
            refine lv_topi (fun x14 ex14 => ?_)
            refine m_iast (j := (((4 * s9 + c2) * 8 + f2) * 8 + t2)) C hm hW hS 31 (by decide) rfl rfl (vp_in_nI (N := 1536) (by omega) (by decide)) (nI_clamp (by omega)) dX8_call_256 (fun H locs hW hS => ?_)
            refine lv_aload_n hx hb dX8_call_257 rfl (lv_at hl 4 rfl) ?_
            refine lv_iload_n hx hb dX8_call_258 rfl (lv_at hl 3 rfl) ?_
            refine lv_iload_n hx hb dX8_call_259 rfl (lv_at hl 2 rfl) ?_
            refine lv_iload_n hx hb dX8_call_260 rfl (lv_at hl 1 rfl) ?_
            refine m_callVi (k2 := 3) (As := [.int (nI s9), .int (nI c2), .int (nI (((4 * s9 + c2) * 8 + f2) * 8 + t2))]) (rest := []) C (c_X8_quote l X L ad st0 (upd (upd (upd (upd fi1 0 0) 3 0) 22 x2) 23 (nI (nc + 1))) (rowu (rowu (rowu (rowu (rowu (mset (rowu (rowu fa1 24 (upd (fa1 24) nc (fi 1))) 25 (upd (fa1 25) nc (nI s9))) c2 rs.2) 26 (upd ((mset (rowu (rowu fa1 24 (upd (fa1 24) nc (fi 1))) 25 (upd (fa1 25) nc (nI s9))) c2 rs.2) 26) s9 x10)) 28 (upd ((mset (rowu (rowu fa1 24 (upd (fa1 24) nc (fi 1))) 25 (upd (fa1 25) nc (nI s9))) c2 rs.2) 28) (((4 * s9 + c2) * 8 + f2) * 8 + t2) x11)) 29 (upd ((mset (rowu (rowu fa1 24 (upd (fa1 24) nc (fi 1))) 25 (upd (fa1 25) nc (nI s9))) c2 rs.2) 29) (((4 * s9 + c2) * 8 + f2) * 8 + t2) x12)) 30 (upd ((mset (rowu (rowu fa1 24 (upd (fa1 24) nc (fi 1))) 25 (upd (fa1 25) nc (nI s9))) c2 rs.2) 30) (((4 * s9 + c2) * 8 + f2) * 8 + t2) x13)) 31 (upd ((mset (rowu (rowu fa1 24 (upd (fa1 24) nc (fi 1))) 25 (upd (fa1 25) nc (nI s9))) c2 rs.2) 31) (((4 * s9 + c2) * 8 + f2) * 8 + t2) x14)) hm (nI s9) (nI c2) (((4 * s9 + c2) * 8 + f2) * 8 + t2) (by omega) nq ((fr 32 (by decide) (by decide)).trans hnq) (by omega)) tw_6_190 tw_6_192 tw_0_33 tw_1_10 tw_6_193 (by decide +kernel) ⟨by rw [hR1]; exact Nat.le_of_ble_eq_true rfl, by rw [hR2]; exact Nat.le_of_ble_eq_true rfl⟩ hm hW hS rfl hl.1 rfl (Nat.le_of_ble_eq_true rfl) dX8_call_261 ⟨Nat.zero_le _, Nat.zero_le _⟩ (fun x15 fi2 fa2 H locs hp hW hS => ?_)
            obtain ⟨qi, q32, qa, q33, q34, q35, q36, q37, q38, q39, q40, q41, qv⟩ := hp
            subst qv
            exact g_iret2 C hQ hW hS ⟨_, _, rfl, Or.inr (Or.inr ⟨r0, by omega, s9, c2, f2, t2, hs, hc, hf, ht, es, ec, ef, et, (by rw [qi 0 (by decide)]; rfl), (by rw [qi 3 (by decide)]; rfl), (by rw [qi 22 (by decide)]; exact ex2), (fun j a0 a3 a7 a8 a22 a23 a32 => by rw [qi j a32]; simp only [upd]; simp only [a0, a3, a22, a23, if_false]; exact fr j a7 a8), Or.inr (Or.inr (Or.inr ⟨(by grind), (by rw [qi 23 (by decide)]; rfl), (by rw [qa 24 (by decide)]; simp [rowu, mset, fra]), (by rw [qa 25 (by decide)]; simp [rowu, mset, fra]), by grind, (by rw [hrs, q5]), (by rw [qa 26 (by decide)]; subst_vars; simp [rowu, mset, fra]), q32, (by rw [qa 15 (by decide), hrs]; simp [rowu, mset, fra]), (by rw [qa 16 (by decide), hrs]; simp [rowu, mset, fra]), (by rw [qa 17 (by decide), hrs]; simp [rowu, mset, fra]), (by rw [qa 18 (by decide), hrs]; simp [rowu, mset, fra]), (by rw [qa 28 (by decide)]; subst_vars; simp [rowu, mset, fra]), (by rw [qa 29 (by decide)]; subst_vars; simp [rowu, mset, fra]), (by rw [qa 30 (by decide)]; subst_vars; simp [rowu, mset, fra]), (by rw [qa 31 (by decide)]; subst_vars; simp [rowu, mset, fra]), (by rw [q33]; subst_vars; simp [rowu, mset, upd, fra, hv6, es, ec, ef, et]), (by rw [q34]; subst_vars; simp [rowu, mset, upd, fra, hv6, es, ec, ef, et]), (by rw [q35]; subst_vars; simp [rowu, mset, upd, fra, hv6, es, ec, ef, et]), (by rw [q36]; subst_vars; simp [rowu, mset, upd, fra, hv6, es, ec, ef, et]), (by rw [q37]; subst_vars; simp [rowu, mset, upd, fra, hv6, es, ec, ef, et]), (by rw [q38]; subst_vars; simp [rowu, mset, upd, fra, hv6, es, ec, ef, et]), (by rw [q39]; subst_vars; simp [rowu, mset, upd, fra, hv6, es, ec, ef, et]), (by rw [q40]; subst_vars; simp [rowu, mset, upd, fra, hv6, es, ec, ef, et]), (by rw [q41]; subst_vars; simp [rowu, mset, upd, fra, hv6, es, ec, ef, et]), (fun a b6 b24 b25 b26 b1 b2 => by rw [qa a (by omega)]; (try rw [rowu_ne (a := a) (k := 31) (by omega)]); (try rw [rowu_ne (a := a) (k := 30) (by omega)]); (try rw [rowu_ne (a := a) (k := 29) (by omega)]); (try rw [rowu_ne (a := a) (k := 28) (by omega)]); (try rw [rowu_ne (a := a) (k := 26) (by omega)]); (try rw [mset_row a (by omega)]); (try rw [rowu_ne (a := a) (k := 25) (by omega)]); (try rw [rowu_ne (a := a) (k := 24) (by omega)]); exact fra a b6), rfl⟩))⟩)⟩ rfl (Nat.zero_le _) (Nat.zero_le _) dX8_call_264
          · rw [q5]
            refine lv_istore (lv' := [(4, .int (-3)), (3, .int (nI (((4 * s9 + c2) * 8 + f2) * 8 + t2))), (2, .int (nI c2)), (1, .int (nI s9)), (0, .ref (ad (100, 0)))]) hx hb dX8_call_179 hl (by decide) rfl (fun ls hl => ?_)
            refine lv_aload_n hx hb dX8_call_181 rfl (lv_at hl 4 rfl) ?_
            refine m_getA C hm hW 26 (by decide) rfl tw_5_229 dX8_call_182 ?_
            refine lv_iload_n hx hb dX8_call_185 rfl (lv_at hl 3 rfl) ?_
            refine lv_dup2_11 hx hb dX8_call_186 rfl rfl ?_
            refine m_iald (v := ((mset (rowu (rowu fa1 24 (upd (fa1 24) nc (fi 1))) 25 (upd (fa1 25) nc (nI s9))) c2 rs.2) 26) s9) (j := s9) C hm hW 26 (by decide) rfl rfl (vp_in_nI (N := 6) (by omega) (by decide)) (nI_clamp (by omega)) rfl dX8_call_187 ?_
            refine lv_topi (fun x16 ex16 => ?_)
            refine lv_iload hx hb dX8_call_188 (lv_at hl 0 rfl) ?_
            refine lv_if_ge (tgt := 197) hx hb dX8_call_190 (by decide) (fun c9 => absurd c9 (by decide)) (fun _ => ?_)
            refine lv_iconst (v := 1) hx hb dX8_call_193 (by decide) ?_
            refine lv_goto (tgt := 198) hx hb dX8_call_194 (by decide) ?_
            refine lv_iadd hx hb dX8_call_198 ?_
            refine lv_topi (fun x17 ex17 => ?_)
            refine m_iast (j := s9) C hm hW hS 26 (by decide) rfl rfl (vp_in_nI (N := 6) (by omega) (by decide)) (nI_clamp (by omega)) dX8_call_199 (fun H locs hW hS => ?_)
            refine lv_iload hx hb dX8_call_200 (lv_at hl 0 rfl) ?_
            refine lv_if_ge (tgt := 208) hx hb dX8_call_202 (by decide) (fun c9 => absurd c9 (by decide)) (fun _ => ?_)
            refine lv_iload hx hb dX8_call_205 (lv_at hl 0 rfl) ?_
            exact g_iret2 C hQ hW hS ⟨_, _, rfl, Or.inr (Or.inr ⟨r0, by omega, s9, c2, f2, t2, hs, hc, hf, ht, es, ec, ef, et, rfl, rfl, ex2, (fun j a0 a3 a7 a8 a22 a23 a32 => by simp only [upd]; simp only [a0, a3, a22, a23, if_false]; exact fr j a7 a8), Or.inr (Or.inr (Or.inl ⟨(by grind), rfl, (by simp [rowu, mset, fra]), (by simp [rowu, mset, fra]), by grind, (by rw [hrs, q5]; decide), (by subst_vars; simp [rowu, mset, fra]), fr 32 (by decide) (by decide), (by rw [hrs]; simp [rowu, mset, fra]), (by rw [hrs]; simp [rowu, mset, fra]), (by rw [hrs]; simp [rowu, mset, fra]), (by rw [hrs]; simp [rowu, mset, fra]), (fun a b6 b24 b25 b26 br => by (try rw [rowu_ne (a := a) (k := 31) (by omega)]); (try rw [rowu_ne (a := a) (k := 30) (by omega)]); (try rw [rowu_ne (a := a) (k := 29) (by omega)]); (try rw [rowu_ne (a := a) (k := 28) (by omega)]); (try rw [rowu_ne (a := a) (k := 26) (by omega)]); (try rw [mset_row a (by omega)]); (try rw [rowu_ne (a := a) (k := 25) (by omega)]); (try rw [rowu_ne (a := a) (k := 24) (by omega)]); exact fra a b6), (by rw [hrs, q5])⟩))⟩)⟩ rfl (Nat.zero_le _) (Nat.zero_le _) dX8_call_207
          · rw [q5]
            refine lv_istore (lv' := [(4, .int (-4)), (3, .int (nI (((4 * s9 + c2) * 8 + f2) * 8 + t2))), (2, .int (nI c2)), (1, .int (nI s9)), (0, .ref (ad (100, 0)))]) hx hb dX8_call_179 hl (by decide) rfl (fun ls hl => ?_)
            refine lv_aload_n hx hb dX8_call_181 rfl (lv_at hl 4 rfl) ?_
            refine m_getA C hm hW 26 (by decide) rfl tw_5_229 dX8_call_182 ?_
            refine lv_iload_n hx hb dX8_call_185 rfl (lv_at hl 3 rfl) ?_
            refine lv_dup2_11 hx hb dX8_call_186 rfl rfl ?_
            refine m_iald (v := ((mset (rowu (rowu fa1 24 (upd (fa1 24) nc (fi 1))) 25 (upd (fa1 25) nc (nI s9))) c2 rs.2) 26) s9) (j := s9) C hm hW 26 (by decide) rfl rfl (vp_in_nI (N := 6) (by omega) (by decide)) (nI_clamp (by omega)) rfl dX8_call_187 ?_
            refine lv_topi (fun x18 ex18 => ?_)
            refine lv_iload hx hb dX8_call_188 (lv_at hl 0 rfl) ?_
            refine lv_if_ge (tgt := 197) hx hb dX8_call_190 (by decide) (fun c9 => absurd c9 (by decide)) (fun _ => ?_)
            refine lv_iconst (v := 1) hx hb dX8_call_193 (by decide) ?_
            refine lv_goto (tgt := 198) hx hb dX8_call_194 (by decide) ?_
            refine lv_iadd hx hb dX8_call_198 ?_
            refine lv_topi (fun x19 ex19 => ?_)
            refine m_iast (j := s9) C hm hW hS 26 (by decide) rfl rfl (vp_in_nI (N := 6) (by omega) (by decide)) (nI_clamp (by omega)) dX8_call_199 (fun H locs hW hS => ?_)
            refine lv_iload hx hb dX8_call_200 (lv_at hl 0 rfl) ?_
            refine lv_if_ge (tgt := 208) hx hb dX8_call_202 (by decide) (fun c9 => absurd c9 (by decide)) (fun _ => ?_)
            refine lv_iload hx hb dX8_call_205 (lv_at hl 0 rfl) ?_
            exact g_iret2 C hQ hW hS ⟨_, _, rfl, Or.inr (Or.inr ⟨r0, by omega, s9, c2, f2, t2, hs, hc, hf, ht, es, ec, ef, et, rfl, rfl, ex2, (fun j a0 a3 a7 a8 a22 a23 a32 => by simp only [upd]; simp only [a0, a3, a22, a23, if_false]; exact fr j a7 a8), Or.inr (Or.inr (Or.inl ⟨(by grind), rfl, (by simp [rowu, mset, fra]), (by simp [rowu, mset, fra]), by grind, (by rw [hrs, q5]; decide), (by subst_vars; simp [rowu, mset, fra]), fr 32 (by decide) (by decide), (by rw [hrs]; simp [rowu, mset, fra]), (by rw [hrs]; simp [rowu, mset, fra]), (by rw [hrs]; simp [rowu, mset, fra]), (by rw [hrs]; simp [rowu, mset, fra]), (fun a b6 b24 b25 b26 br => by (try rw [rowu_ne (a := a) (k := 31) (by omega)]); (try rw [rowu_ne (a := a) (k := 30) (by omega)]); (try rw [rowu_ne (a := a) (k := 29) (by omega)]); (try rw [rowu_ne (a := a) (k := 28) (by omega)]); (try rw [rowu_ne (a := a) (k := 26) (by omega)]); (try rw [mset_row a (by omega)]); (try rw [rowu_ne (a := a) (k := 25) (by omega)]); (try rw [rowu_ne (a := a) (k := 24) (by omega)]); exact fra a b6), (by rw [hrs, q5])⟩))⟩)⟩ rfl (Nat.zero_le _) (Nat.zero_le _) dX8_call_207
        · refine lv_aload_n hx hb dX8_call_156 rfl (lv_at hl 3 rfl) ?_
          refine m_getA C hm hW 26 (by decide) rfl tw_5_229 dX8_call_157 ?_
          refine lv_iload_n hx hb dX8_call_160 rfl (lv_at hl 2 rfl) ?_
          refine lv_dup2_11 hx hb dX8_call_161 rfl rfl ?_
          refine m_iald (v := (fa1 26) s9) (j := s9) C hm hW 26 (by decide) rfl rfl (vp_in_nI (N := 6) (by omega) (by decide)) (nI_clamp (by omega)) rfl dX8_call_162 ?_
          refine lv_topi (fun x20 ex20 => ?_)
          refine lv_iconst (v := 1) hx hb dX8_call_163 (by decide) ?_
          refine lv_iadd hx hb dX8_call_164 ?_
          refine lv_topi (fun x21 ex21 => ?_)
          refine m_iast (j := s9) C hm hW hS 26 (by decide) rfl rfl (vp_in_nI (N := 6) (by omega) (by decide)) (nI_clamp (by omega)) dX8_call_165 (fun H locs hW hS => ?_)
          refine lv_aload_n hx hb dX8_call_166 rfl (lv_at hl 3 rfl) ?_
          refine lv_iload_n hx hb dX8_call_167 rfl (lv_at hl 2 rfl) ?_
          refine lv_iload_n hx hb dX8_call_168 rfl (lv_at hl 1 rfl) ?_
          refine lv_iload_n hx hb dX8_call_169 rfl (lv_at hl 0 rfl) ?_
          refine m_callVi (k2 := 3) (As := [.int (nI s9), .int (nI c2), .int (nI (((4 * s9 + c2) * 8 + f2) * 8 + t2))]) (rest := []) C (c_X8_quote l X L ad st0 (upd (upd (upd (upd fi1 0 0) 3 0) 22 x2) 23 (nI (nc + 1))) (rowu (rowu (rowu fa1 24 (upd (fa1 24) nc (fi 1))) 25 (upd (fa1 25) nc (nI s9))) 26 (upd (fa1 26) s9 x21)) hm (nI s9) (nI c2) (((4 * s9 + c2) * 8 + f2) * 8 + t2) (by omega) nq ((fr 32 (by decide) (by decide)).trans hnq) (by omega)) tw_6_190 tw_6_192 tw_0_33 tw_1_10 tw_6_193 (by decide +kernel) ⟨by rw [hR1]; exact Nat.le_of_ble_eq_true rfl, by rw [hR2]; exact Nat.le_of_ble_eq_true rfl⟩ hm hW hS rfl hl.1 rfl (Nat.le_of_ble_eq_true rfl) dX8_call_170 ⟨Nat.zero_le _, Nat.zero_le _⟩ (fun x22 fi2 fa2 H locs hp hW hS => ?_)
          obtain ⟨qi, q32, qa, q33, q34, q35, q36, q37, q38, q39, q40, q41, qv⟩ := hp
          subst qv
          exact g_iret2 C hQ hW hS ⟨_, _, rfl, Or.inr (Or.inr ⟨r0, by omega, s9, c2, f2, t2, hs, hc, hf, ht, es, ec, ef, et, (by rw [qi 0 (by decide)]; rfl), (by rw [qi 3 (by decide)]; rfl), (by rw [qi 22 (by decide)]; exact ex2), (fun j a0 a3 a7 a8 a22 a23 a32 => by rw [qi j a32]; simp only [upd]; simp only [a0, a3, a22, a23, if_false]; exact fr j a7 a8), Or.inr (Or.inl ⟨(by grind), (by rw [qi 23 (by decide)]; rfl), (by rw [qa 24 (by decide)]; simp [rowu, mset, fra]), (by rw [qa 25 (by decide)]; simp [rowu, mset, fra]), by grind, (by rw [qa 26 (by decide)]; subst_vars; simp [rowu, fra]), q32, (by rw [q33]; simp [rowu, mset, upd, fra, hv6, es, ec, ef, et]), (by rw [q34]; simp [rowu, mset, upd, fra, hv6, es, ec, ef, et]), (by rw [q35]; simp [rowu, mset, upd, fra, hv6, es, ec, ef, et]), (by rw [q36]; simp [rowu, mset, upd, fra, hv6, es, ec, ef, et]), (by rw [q37]; simp [rowu, mset, upd, fra, hv6, es, ec, ef, et]), (by rw [q38]; simp [rowu, mset, upd, fra, hv6, es, ec, ef, et]), (by rw [q39]; simp [rowu, mset, upd, fra, hv6, es, ec, ef, et]), (by rw [q40]; simp [rowu, mset, upd, fra, hv6, es, ec, ef, et]), (by rw [q41]; simp [rowu, mset, upd, fra, hv6, es, ec, ef, et]), (fun a b6 b24 b25 b26 br => by rw [qa a br]; (try rw [rowu_ne (a := a) (k := 31) (by omega)]); (try rw [rowu_ne (a := a) (k := 30) (by omega)]); (try rw [rowu_ne (a := a) (k := 29) (by omega)]); (try rw [rowu_ne (a := a) (k := 28) (by omega)]); (try rw [rowu_ne (a := a) (k := 26) (by omega)]); (try rw [mset_row a (by omega)]); (try rw [rowu_ne (a := a) (k := 25) (by omega)]); (try rw [rowu_ne (a := a) (k := 24) (by omega)]); exact fra a b6), rfl⟩)⟩)⟩ rfl (Nat.zero_le _) (Nat.zero_le _) dX8_call_173
      · refine lv_bipush (v := (-2)) hx hb dX8_call_81 (by decide) ?_
        exact g_iret2 C hQ hW hS ⟨_, _, rfl, Or.inr (Or.inr ⟨r0, by omega, s9, c2, f2, t2, hs, hc, hf, ht, es, ec, ef, et, rfl, rfl, ex2, (fun j a0 a3 a7 a8 a22 a23 a32 => by simp only [upd]; simp only [a0, a3, a22, a23, if_false]; exact fr j a7 a8), Or.inl ⟨by grind, fr 23 (by decide) (by decide), fr 32 (by decide) (by decide), fra, rfl⟩⟩)⟩ rfl (Nat.zero_le _) (Nat.zero_le _) dX8_call_83
    · have c1n := q_eq (a := nq) (b := 100) (by omega) (by omega) c1
      refine lv_iconst (v := 2) hx hb dX8_call_21 (by decide) ?_
      refine lv_goto (tgt := 26) hx hb dX8_call_22 (by decide) ?_
      refine m_putI C hm hW hS 0 (by decide) rfl tw_5_203 dX8_call_26 (fun H locs hW hS => ?_)
      refine lv_aload_n hx hb dX8_call_29 rfl (lv_at hl 0 rfl) ?_
      refine m_getI (v := 2) C hm hW 0 (by decide) rfl tw_5_203 rfl dX8_call_30 ?_
      refine lv_if_le (tgt := 38) hx hb dX8_call_33 (by decide) (fun c9 => absurd c9 (by decide)) (fun _ => ?_)
      refine lv_iconst (v := 0) hx hb dX8_call_36 (by decide) ?_
      exact g_iret2 C hQ hW hS ⟨_, _, rfl, Or.inr (Or.inl ⟨r0, by omega, rfl, (fun j q0 q1 q2 => by simp only [upd]; rw [if_neg q0]; exact fr j q1 q2), fra⟩)⟩ rfl (Nat.zero_le _) (Nat.zero_le _) dX8_call_37
  · subst r9
    refine lv_if_ne (tgt := 12) hx hb dX8_call_5 (by decide) (fun c9 => absurd c9 (by decide)) (fun _ => ?_)
    refine lv_iconst (v := 1) hx hb dX8_call_8 (by decide) ?_
    refine lv_goto (tgt := 26) hx hb dX8_call_9 (by decide) ?_
    refine m_putI C hm hW hS 0 (by decide) rfl tw_5_203 dX8_call_26 (fun H locs hW hS => ?_)
    refine lv_aload_n hx hb dX8_call_29 rfl (lv_at hl 0 rfl) ?_
    refine m_getI (v := 1) C hm hW 0 (by decide) rfl tw_5_203 rfl dX8_call_30 ?_
    refine lv_if_le (tgt := 38) hx hb dX8_call_33 (by decide) (fun c9 => absurd c9 (by decide)) (fun _ => ?_)
    refine lv_iconst (v := 0) hx hb dX8_call_36 (by decide) ?_
    exact g_iret2 C hQ hW hS ⟨_, _, rfl, Or.inl ⟨r0, rfl, (fun j q0 q1 q2 => by simp only [upd]; rw [if_neg q0]; exact fr j q1 q2), fra⟩⟩ rfl (Nat.zero_le _) (Nat.zero_le _) dX8_call_37

