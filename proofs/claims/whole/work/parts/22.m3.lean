set_option maxHeartbeats 4000000 in
set_option maxRecDepth 100000 in
theorem c_X8_reads (l : Launch) (X : GX) (L : List ro) (ad : ro → Nat) (st0 : ro → va_E) (fi : Nat → Int32) (fa : Nat → Nat → Int32) (hm : mL L) (n : Nat) (hn : fi 3 = nI n) (hn60 : n ≤ 60) (h4 : ∀ k, k < 6 → fa 4 k = keyc k) : mM l yX8_reads cX8_reads 4 (some .boolean) 4 98 X [] L ad st0 fi fa (fun v fi' fa' => (∀ j, j ≠ 7 → j ≠ 8 → fi' j = fi j) ∧ (∀ a, a ≠ 6 → fa' a = fa a) ∧ (∀ k, k < 6 → fa' 6 k = (rdR (fa 2) n).2.2 k) ∧ fi' 7 = (rdR (fa 2) n).1 ∧ (¬ (rdR (fa 2) n).1 = 0 → fi' 8 = (rdR (fa 2) n).2.1) ∧ (((rdR (fa 2) n).1 = 0 ∧ v = 1) ∨ (¬ (rdR (fa 2) n).1 = 0 ∧ v = 0))) := by
  intro sz
  refine gM_of2 (Qc := fun A => va_Qi _ (gB X A) A) (by decide) (Nat.le_of_ble_eq_true rfl) ?_ sz
  intro p e s m args below meth c A R Q hR hQ C hW hS ls hl
  obtain ⟨hR1, hR2, hR3, hR4⟩ := hR
  have hx := C.1.1
  have hb := C.1.2.1
  have hml := C.1.2.2.1
  have hl : lv_has ls 4 [(0, .ref (ad (100, 0)))] := hl
  have J89 : ∀ (fi1 : Nat → Int32) (g : Nat → Int32), (∀ j, j ≠ 7 → j ≠ 8 → fi1 j = fi j) → (fi1 7 = (rd_go (fa 2) n (n + 1) 0 0 (fun _ => -1)).1) → (¬ (rd_go (fa 2) n (n + 1) 0 0 (fun _ => -1)).1 = 0 → fi1 8 = (rd_go (fa 2) n (n + 1) 0 0 (fun _ => -1)).2.1) → (∀ k, k < 6 → g k = (rd_go (fa 2) n (n + 1) 0 0 (fun _ => -1)).2.2 k) → ∀ (H : Heap) (locs : List Loc), gW X A L ad (mSt X ad st0 fi1 (rowu fa 6 g)) s H → va_S A s.heap H locs → ∀ ls : Array Slot, lv_has ls 4 [(0, .ref (ad (100, 0)))] → W p l e R s m args below meth c H locs 0 0 Q (F0 m 89 ls []) := by
    intro fi1 g hfr hk7 hk8 hg H locs hW hS ls hl
    have loop : ∀ (f : Nat) (k : Nat) (fi2 : Nat → Int32), (5 - k < f) → (k ≤ 5) → (∀ j, j ≠ 7 → j ≠ 8 → fi2 j = fi j) → ((¬ (rd_go (fa 2) n (n + 1) 0 0 (fun _ => -1)).1 = 0 ∧ fi2 7 = (rd_go (fa 2) n (n + 1) 0 0 (fun _ => -1)).1 ∧ fi2 8 = (rd_go (fa 2) n (n + 1) 0 0 (fun _ => -1)).2.1) ∨ ((rd_go (fa 2) n (n + 1) 0 0 (fun _ => -1)).1 = 0 ∧ fi2 7 = 0 ∧ ∀ j, j < k → (rd_go (fa 2) n (n + 1) 0 0 (fun _ => -1)).2.2 j ≠ -1) ∨ ((rd_go (fa 2) n (n + 1) 0 0 (fun _ => -1)).1 = 0 ∧ fi2 7 = 4 ∧ rd_mis (rd_go (fa 2) n (n + 1) 0 0 (fun _ => -1)).2.2 = (4, fi2 8))) → ∀ (H : Heap) (locs : List Loc), gW X A L ad (mSt X ad st0 fi2 (rowu fa 6 g)) s H → va_S A s.heap H locs → ∀ ls : Array Slot, lv_has ls 4 [(0, .ref (ad (100, 0))), (3, .int (nI k))] → W p l e R s m args below meth c H locs 0 0 Q (F0 m 91 ls []) := by
      intro f
      induction f with
      | zero =>
        intro k fi2 hf9
        exact absurd hf9 (Nat.not_lt_zero _)
      | succ f ih =>
        intro k fi2 hf hk5 hfr2 hm9 H locs hW hS ls hl
        rcases hm9 with ⟨m1, m2, m3⟩ | ⟨m1, m2, m3⟩ | ⟨m1, m2, m3⟩
        · refine lv_iload_n hx hb dX8_reads_91 rfl (lv_at hl 1 rfl) ?_
          refine lv_iconst (v := 5) hx hb dX8_reads_92 (by decide) ?_
          refine lv_icmp_ge (tgt := 118) hx hb dX8_reads_93 (by decide) (fun c1 => ?_) (fun c1 => ?_)
          · have c1n := q_le (a := 5) (b := k) (by omega) (by omega) c1
            refine lv_aload_n hx hb dX8_reads_118 rfl (lv_at hl 0 rfl) ?_
            refine m_getI (v := fi2 7) C hm hW 7 (by decide) rfl tw_5_210 rfl dX8_reads_119 ?_
            refine lv_if_ne (tgt := 129) hx hb dX8_reads_122 (by decide) (fun c2 => ?_) (fun c2 => ?_)
            · refine lv_iconst (v := 0) hx hb dX8_reads_129 (by decide) ?_
              exact g_iret2 C hQ hW hS ⟨_, _, rfl, hfr2, (fun a q => by simp [rowu, q]), (fun k q => by rw [rdR_a m1]; exact hg k q), by rw [rdR_a m1]; exact m2, (fun _ => by rw [rdR_a m1]; exact m3), by rw [rdR_a m1]; grind⟩ (by decide) (Nat.zero_le _) (Nat.zero_le _) dX8_reads_130
            · refine lv_iconst (v := 1) hx hb dX8_reads_125 (by decide) ?_
              refine lv_goto (tgt := 130) hx hb dX8_reads_126 (by decide) ?_
              exact g_iret2 C hQ hW hS ⟨_, _, rfl, hfr2, (fun a q => by simp [rowu, q]), (fun k q => by rw [rdR_a m1]; exact hg k q), by rw [rdR_a m1]; exact m2, (fun _ => by rw [rdR_a m1]; exact m3), by rw [rdR_a m1]; grind⟩ (by decide) (Nat.zero_le _) (Nat.zero_le _) dX8_reads_130
          · have c1n := q_nle (a := 5) (b := k) (by omega) (by omega) c1
            refine lv_aload_n hx hb dX8_reads_96 rfl (lv_at hl 0 rfl) ?_
            refine m_getA C hm hW 6 (by decide) rfl tw_5_209 dX8_reads_97 ?_
            refine lv_iload_n hx hb dX8_reads_100 rfl (lv_at hl 1 rfl) ?_
            refine m_iald (v := g k) (j := k) C hm hW 6 (by decide) rfl rfl (vp_in_nI (N := 6) (by omega) (by decide)) (nI_clamp (by omega)) rfl dX8_reads_101 ?_
            refine lv_topi (fun x3 ex3 => ?_)
            refine lv_iconst (v := (-1)) hx hb dX8_reads_102 (by decide) ?_
            refine lv_icmp_ne (tgt := 112) hx hb dX8_reads_103 (by decide) (fun c4 => ?_) (fun c4 => ?_)
            · refine lv_iinc (v := nI (k + 1)) (lv' := [(3, .int (nI (k + 1))), (0, .ref (ad (100, 0)))]) hx hb dX8_reads_112 hl (k := 1) rfl (nI_1 k) (by decide) rfl (fun ls hl => ?_)
              refine lv_goto (tgt := 91) hx hb dX8_reads_115 (by decide) ?_
              exact ih (k + 1) fi2 (by omega) (by omega) hfr2 (Or.inl ⟨m1, m2, m3⟩) _ _ hW hS _ (lv_sub hl [1, 0] rfl)
            · refine lv_aload_n hx hb dX8_reads_106 rfl (lv_at hl 0 rfl) ?_
              refine lv_iconst (v := 4) hx hb dX8_reads_107 (by decide) ?_
              refine lv_iload_n hx hb dX8_reads_108 rfl (lv_at hl 1 rfl) ?_
              refine m_callVv (k2 := 2) (As := [.int 4, .int (nI k)]) (rest := []) C (c_X8_fails1 l X L ad st0 fi2 (rowu fa 6 g) hm 4 (nI k) (by rw [m2]; exact m1)) tw_6_136 tw_6_138 tw_0_28 tw_1_10 tw_6_139 (by decide +kernel) ⟨by rw [hR1]; exact Nat.le_of_ble_eq_true rfl, by rw [hR2]; exact Nat.le_of_ble_eq_true rfl⟩ hm hW hS rfl hl.1 rfl (Nat.le_of_ble_eq_true rfl) dX8_reads_109 ⟨Nat.zero_le _, Nat.zero_le _⟩ (fun fi9 fa9 H locs hp hW hS => ?_)
              obtain ⟨z1, z2⟩ := hp
              rw [z1, z2] at hW
              refine lv_iinc (v := nI (k + 1)) (lv' := [(3, .int (nI (k + 1))), (0, .ref (ad (100, 0)))]) hx hb dX8_reads_112 hl (k := 1) rfl (nI_1 k) (by decide) rfl (fun ls hl => ?_)
              refine lv_goto (tgt := 91) hx hb dX8_reads_115 (by decide) ?_
              exact ih (k + 1) fi2 (by omega) (by omega) hfr2 (Or.inl ⟨m1, m2, m3⟩) _ _ hW hS _ (lv_sub hl [1, 0] rfl)
        · refine lv_iload_n hx hb dX8_reads_91 rfl (lv_at hl 1 rfl) ?_
          refine lv_iconst (v := 5) hx hb dX8_reads_92 (by decide) ?_
          refine lv_icmp_ge (tgt := 118) hx hb dX8_reads_93 (by decide) (fun c7 => ?_) (fun c7 => ?_)
          · have c7n := q_le (a := 5) (b := k) (by omega) (by omega) c7
            refine lv_aload_n hx hb dX8_reads_118 rfl (lv_at hl 0 rfl) ?_
            refine m_getI (v := fi2 7) C hm hW 7 (by decide) rfl tw_5_210 rfl dX8_reads_119 ?_
            refine lv_if_ne (tgt := 129) hx hb dX8_reads_122 (by decide) (fun c8 => ?_) (fun c8 => ?_)
            · refine lv_iconst (v := 0) hx hb dX8_reads_129 (by decide) ?_
              exact g_iret2 C hQ hW hS (absurd m2 (by grind)) (by decide) (Nat.zero_le _) (Nat.zero_le _) dX8_reads_130
            · refine lv_iconst (v := 1) hx hb dX8_reads_125 (by decide) ?_
              refine lv_goto (tgt := 130) hx hb dX8_reads_126 (by decide) ?_
              exact g_iret2 C hQ hW hS ⟨_, _, rfl, hfr2, (fun a q => by simp [rowu, q]), (fun k q => by rw [rdR_b m1]; exact hg k q), by rw [rdR_b m1, rd_mis_no (fun j q => m3 j (by omega))]; exact m2, (fun q => absurd (by rw [rdR_b m1, rd_mis_no (fun j q => m3 j (by omega))]) q), by rw [rdR_b m1, rd_mis_no (fun j q => m3 j (by omega))]; exact Or.inl ⟨rfl, rfl⟩⟩ (by decide) (Nat.zero_le _) (Nat.zero_le _) dX8_reads_130
          · have c7n := q_nle (a := 5) (b := k) (by omega) (by omega) c7
            refine lv_aload_n hx hb dX8_reads_96 rfl (lv_at hl 0 rfl) ?_
            refine m_getA C hm hW 6 (by decide) rfl tw_5_209 dX8_reads_97 ?_
            refine lv_iload_n hx hb dX8_reads_100 rfl (lv_at hl 1 rfl) ?_
            refine m_iald (v := g k) (j := k) C hm hW 6 (by decide) rfl rfl (vp_in_nI (N := 6) (by omega) (by decide)) (nI_clamp (by omega)) rfl dX8_reads_101 ?_
            refine lv_topi (fun x9 ex9 => ?_)
            refine lv_iconst (v := (-1)) hx hb dX8_reads_102 (by decide) ?_
            refine lv_icmp_ne (tgt := 112) hx hb dX8_reads_103 (by decide) (fun c10 => ?_) (fun c10 => ?_)
            · refine lv_iinc (v := nI (k + 1)) (lv' := [(3, .int (nI (k + 1))), (0, .ref (ad (100, 0)))]) hx hb dX8_reads_112 hl (k := 1) rfl (nI_1 k) (by decide) rfl (fun ls hl => ?_)
              refine lv_goto (tgt := 91) hx hb dX8_reads_115 (by decide) ?_
              exact ih (k + 1) fi2 (by omega) (by omega) hfr2 (Or.inr (Or.inl ⟨m1, m2, fun j hj => by rcases Nat.lt_succ_iff_lt_or_eq.mp hj with q | q; exact m3 j q; subst q; rw [← hg _ (by omega)]; grind⟩)) _ _ hW hS _ (lv_sub hl [1, 0] rfl)
            · refine lv_aload_n hx hb dX8_reads_106 rfl (lv_at hl 0 rfl) ?_
              refine lv_iconst (v := 4) hx hb dX8_reads_107 (by decide) ?_
              refine lv_iload_n hx hb dX8_reads_108 rfl (lv_at hl 1 rfl) ?_
              refine m_callVv (k2 := 2) (As := [.int 4, .int (nI k)]) (rest := []) C (c_X8_fails0 l X L ad st0 fi2 (rowu fa 6 g) hm 4 (nI k) m2) tw_6_136 tw_6_138 tw_0_28 tw_1_10 tw_6_139 (by decide +kernel) ⟨by rw [hR1]; exact Nat.le_of_ble_eq_true rfl, by rw [hR2]; exact Nat.le_of_ble_eq_true rfl⟩ hm hW hS rfl hl.1 rfl (Nat.le_of_ble_eq_true rfl) dX8_reads_109 ⟨Nat.zero_le _, Nat.zero_le _⟩ (fun fi9 fa9 H locs hp hW hS => ?_)
              obtain ⟨z1, z2⟩ := hp
              rw [z1, z2] at hW
              refine lv_iinc (v := nI (k + 1)) (lv' := [(3, .int (nI (k + 1))), (0, .ref (ad (100, 0)))]) hx hb dX8_reads_112 hl (k := 1) rfl (nI_1 k) (by decide) rfl (fun ls hl => ?_)
              refine lv_goto (tgt := 91) hx hb dX8_reads_115 (by decide) ?_
              exact ih (k + 1) (upd (upd fi2 7 4) 8 (nI k)) (by omega) (by omega) (fun j q1 q2 => by simp only [upd]; grind) (Or.inr (Or.inr ⟨m1, rfl, rd_mis_at (by omega) m3 (by rw [← hg k (by omega)]; grind)⟩)) _ _ hW hS _ (lv_sub hl [1, 0] rfl)
        · refine lv_iload_n hx hb dX8_reads_91 rfl (lv_at hl 1 rfl) ?_
          refine lv_iconst (v := 5) hx hb dX8_reads_92 (by decide) ?_
          refine lv_icmp_ge (tgt := 118) hx hb dX8_reads_93 (by decide) (fun c13 => ?_) (fun c13 => ?_)
          · have c13n := q_le (a := 5) (b := k) (by omega) (by omega) c13
            refine lv_aload_n hx hb dX8_reads_118 rfl (lv_at hl 0 rfl) ?_
            refine m_getI (v := fi2 7) C hm hW 7 (by decide) rfl tw_5_210 rfl dX8_reads_119 ?_
            refine lv_if_ne (tgt := 129) hx hb dX8_reads_122 (by decide) (fun c14 => ?_) (fun c14 => ?_)
            · refine lv_iconst (v := 0) hx hb dX8_reads_129 (by decide) ?_
              exact g_iret2 C hQ hW hS ⟨_, _, rfl, hfr2, (fun a q => by simp [rowu, q]), (fun k q => by rw [rdR_b m1]; exact hg k q), by rw [rdR_b m1, m3]; exact m2, (fun _ => by rw [rdR_b m1, m3]), by rw [rdR_b m1, m3]; exact Or.inr ⟨by show ¬ (4 : Int32) = 0; decide, rfl⟩⟩ (by decide) (Nat.zero_le _) (Nat.zero_le _) dX8_reads_130
            · refine lv_iconst (v := 1) hx hb dX8_reads_125 (by decide) ?_
              refine lv_goto (tgt := 130) hx hb dX8_reads_126 (by decide) ?_
              exact g_iret2 C hQ hW hS (absurd m2 (by grind)) (by decide) (Nat.zero_le _) (Nat.zero_le _) dX8_reads_130
          · have c13n := q_nle (a := 5) (b := k) (by omega) (by omega) c13
            refine lv_aload_n hx hb dX8_reads_96 rfl (lv_at hl 0 rfl) ?_
            refine m_getA C hm hW 6 (by decide) rfl tw_5_209 dX8_reads_97 ?_
            refine lv_iload_n hx hb dX8_reads_100 rfl (lv_at hl 1 rfl) ?_
            refine m_iald (v := g k) (j := k) C hm hW 6 (by decide) rfl rfl (vp_in_nI (N := 6) (by omega) (by decide)) (nI_clamp (by omega)) rfl dX8_reads_101 ?_
            refine lv_topi (fun x15 ex15 => ?_)
            refine lv_iconst (v := (-1)) hx hb dX8_reads_102 (by decide) ?_
            refine lv_icmp_ne (tgt := 112) hx hb dX8_reads_103 (by decide) (fun c16 => ?_) (fun c16 => ?_)
            · refine lv_iinc (v := nI (k + 1)) (lv' := [(3, .int (nI (k + 1))), (0, .ref (ad (100, 0)))]) hx hb dX8_reads_112 hl (k := 1) rfl (nI_1 k) (by decide) rfl (fun ls hl => ?_)
              refine lv_goto (tgt := 91) hx hb dX8_reads_115 (by decide) ?_
              exact ih (k + 1) fi2 (by omega) (by omega) hfr2 (Or.inr (Or.inr ⟨m1, m2, m3⟩)) _ _ hW hS _ (lv_sub hl [1, 0] rfl)
            · refine lv_aload_n hx hb dX8_reads_106 rfl (lv_at hl 0 rfl) ?_
              refine lv_iconst (v := 4) hx hb dX8_reads_107 (by decide) ?_
              refine lv_iload_n hx hb dX8_reads_108 rfl (lv_at hl 1 rfl) ?_
              refine m_callVv (k2 := 2) (As := [.int 4, .int (nI k)]) (rest := []) C (c_X8_fails1 l X L ad st0 fi2 (rowu fa 6 g) hm 4 (nI k) (by rw [m2]; decide)) tw_6_136 tw_6_138 tw_0_28 tw_1_10 tw_6_139 (by decide +kernel) ⟨by rw [hR1]; exact Nat.le_of_ble_eq_true rfl, by rw [hR2]; exact Nat.le_of_ble_eq_true rfl⟩ hm hW hS rfl hl.1 rfl (Nat.le_of_ble_eq_true rfl) dX8_reads_109 ⟨Nat.zero_le _, Nat.zero_le _⟩ (fun fi9 fa9 H locs hp hW hS => ?_)
              obtain ⟨z1, z2⟩ := hp
              rw [z1, z2] at hW
              refine lv_iinc (v := nI (k + 1)) (lv' := [(3, .int (nI (k + 1))), (0, .ref (ad (100, 0)))]) hx hb dX8_reads_112 hl (k := 1) rfl (nI_1 k) (by decide) rfl (fun ls hl => ?_)
              refine lv_goto (tgt := 91) hx hb dX8_reads_115 (by decide) ?_
              exact ih (k + 1) fi2 (by omega) (by omega) hfr2 (Or.inr (Or.inr ⟨m1, m2, m3⟩)) _ _ hW hS _ (lv_sub hl [1, 0] rfl)
    refine lv_iconst (v := 0) hx hb dX8_reads_89 (by decide) ?_
    refine lv_istore_n (lv' := [(3, .int 0), (0, .ref (ad (100, 0)))]) hx hb dX8_reads_90 rfl hl (by decide) rfl (fun ls hl => ?_)
    exact loop _ 0 fi1 (Nat.lt_succ_self _) (by omega) hfr (by by_cases q : (rd_go (fa 2) n (n + 1) 0 0 (fun _ => -1)).1 = 0; exact Or.inr (Or.inl ⟨q, by rw [hk7, q], fun j hj => absurd hj (Nat.not_lt_zero j)⟩); exact Or.inl ⟨q, hk7, hk8 q⟩) _ _ hW hS _ (lv_sub hl [1, 0] rfl)
  have parts : ∀ (f : Nat) (part : Nat) (a : Nat) (g : Nat → Int32) (vals : Nat → Int32) (F9 : Nat), (n + 1 - a < f) → (a ≤ n + 1) → (part ≤ a) → (n + 1 - a ≤ F9) → (∀ k, k < 6 → g k = vals k) → (rd_go (fa 2) n F9 part a vals = (rd_go (fa 2) n (n + 1) 0 0 (fun _ => -1))) → ∀ (H : Heap) (locs : List Loc), gW X A L ad (mSt X ad st0 (upd fi 7 0) (rowu fa 6 g)) s H → va_S A s.heap H locs → ∀ ls : Array Slot, lv_has ls 4 [(0, .ref (ad (100, 0))), (1, .int (nI part)), (2, .int (nI a))] → W p l e R s m args below meth c H locs 0 0 Q (F0 m 30 ls []) := by
    intro f
    induction f with
    | zero =>
      intro part a g vals F9 hf9
      exact absurd hf9 (Nat.not_lt_zero _)
    | succ f ih =>
      intro part a g vals F9 hf ha hpa hF hg hgo H locs hW hS ls hl
      refine lv_iload_n hx hb dX8_reads_30 rfl (lv_at hl 2 rfl) ?_
      refine lv_aload_n hx hb dX8_reads_31 rfl (lv_at hl 0 rfl) ?_
      refine m_getI (v := nI n) C hm hW 3 (by decide) rfl tw_5_206 hn dX8_reads_32 ?_
      refine lv_icmp_gt (tgt := 89) hx hb dX8_reads_35 (by decide) (fun c19 => ?_) (fun c19 => ?_)
      · have c19n := q_lt (a := n) (b := a) (by omega) (by omega) c19
        exact J89 (upd fi 7 0) g (fun j q1 q2 => by simp [upd, q1, q2]) (by rw [← hgo, rd_go_out (by omega)]; rfl) (fun q => absurd (by rw [← hgo, rd_go_out (by omega)]) q) (fun k q => by rw [← hgo, rd_go_out (by omega)]; exact hg k q) _ _ hW hS _ (lv_sub hl [0] rfl)
      · have c19n := q_nlt (a := n) (b := a) (by omega) (by omega) c19
        refine lv_aload_n hx hb dX8_reads_38 rfl (lv_at hl 0 rfl) ?_
        refine m_getI (v := 0) C hm hW 7 (by decide) rfl tw_5_210 rfl dX8_reads_39 ?_
        refine lv_if_ne (tgt := 89) hx hb dX8_reads_42 (by decide) (fun c9 => absurd c9 (by decide)) (fun _ => ?_)
        obtain ⟨b, hbE⟩ : ∃ b : Nat, b = rdE (fa 2) n a := ⟨_, rfl⟩
        have hb1 : a ≤ b := by rw [hbE]; exact rdE_ge
        have hb2 : b ≤ n := by rw [hbE]; exact rdE_le (by omega)
        obtain ⟨F1, hF1⟩ : ∃ F1, F9 = F1 + 1 := ⟨F9 - 1, by omega⟩
        subst hF1
        rw [rd_go, if_neg (by omega), ← hbE] at hgo
        have J72 :  ∀ (H : Heap) (locs : List Loc), gW X A L ad (mSt X ad st0 (upd fi 7 0) (rowu fa 6 g)) s H → va_S A s.heap H locs → ∀ ls : Array Slot, lv_has ls 4 [(0, .ref (ad (100, 0))), (1, .int (nI part)), (2, .int (nI a)), (3, .int (nI b))] → W p l e R s m args below meth c H locs 0 0 Q (F0 m 72 ls []) := by
          intro   H locs hW hS ls hl
          refine lv_aload_n hx hb dX8_reads_72 rfl (lv_at hl 0 rfl) ?_
          refine lv_iload_n hx hb dX8_reads_73 rfl (lv_at hl 1 rfl) ?_
          refine lv_iload_n hx hb dX8_reads_74 rfl (lv_at hl 2 rfl) ?_
          refine lv_iload_n hx hb dX8_reads_75 rfl (lv_at hl 3 rfl) ?_
          refine m_callVv (k2 := 3) (As := [.int (nI part), .int (nI a), .int (nI b)]) (rest := []) C (c_X8_readPart l X L ad st0 (upd fi 7 0) (rowu fa 6 g) hm part a b (by omega) (by omega) (fun k hk => h4 k hk) rfl) tw_6_128 tw_6_130 tw_0_26 tw_1_10 tw_6_131 (by decide +kernel) ⟨by rw [hR1]; exact Nat.le_of_ble_eq_true rfl, by rw [hR2]; exact Nat.le_of_ble_eq_true rfl⟩ hm hW hS rfl hl.1 rfl (Nat.le_of_ble_eq_true rfl) dX8_reads_76 ⟨Nat.zero_le _, Nat.zero_le _⟩ (fun fi9 fa9 H locs hp hW hS => ?_)
          rw [show rowu fa 6 g 2 = fa 2 from rfl, show rowu fa 6 g 6 = g from rfl] at hp
          rcases hp with ⟨k1, z1, z2⟩ | ⟨j, hj, k1, k2, z1, z2⟩ | ⟨j, hj, k1, k2, k3, z1, z2⟩ | ⟨j, hj, k1, k2, k3, z1, z2⟩
          · rw [z1, z2, upd_same] at hW
            rw [k1, if_pos rfl] at hgo
            refine lv_iinc (v := nI (part + 1)) (lv' := [(1, .int (nI (part + 1))), (0, .ref (ad (100, 0))), (2, .int (nI a)), (3, .int (nI b))]) hx hb dX8_reads_79 hl (k := 1) rfl (nI_1 part) (by decide) rfl (fun ls hl => ?_)
            refine lv_iload_n hx hb dX8_reads_82 rfl (lv_at hl 3 rfl) ?_
            refine lv_iconst (v := 1) hx hb dX8_reads_83 (by decide) ?_
            refine lv_iadd hx hb dX8_reads_84 ?_
            refine lv_topE (y := nI (b + 1)) (nI_1 b) ?_
            refine lv_istore_n (lv' := [(2, .int (nI (b + 1))), (1, .int (nI (part + 1))), (0, .ref (ad (100, 0))), (3, .int (nI b))]) hx hb dX8_reads_85 rfl hl (by decide) rfl (fun ls hl => ?_)
            refine lv_goto (tgt := 30) hx hb dX8_reads_86 (by decide) ?_
            refine lv_iload_n hx hb dX8_reads_30 rfl (lv_at hl 0 rfl) ?_
            refine lv_aload_n hx hb dX8_reads_31 rfl (lv_at hl 2 rfl) ?_
            refine m_getI (v := nI n) C hm hW 3 (by decide) rfl tw_5_206 hn dX8_reads_32 ?_
            refine lv_icmp_gt (tgt := 89) hx hb dX8_reads_35 (by decide) (fun c21 => ?_) (fun c21 => ?_)
            · have c21n := q_lt (a := n) (b := (b + 1)) (by omega) (by omega) c21
              exact J89 (upd (upd fi 7 1) 8 (nI part)) g (fun j q1 q2 => by simp [upd, q1, q2]) (by rw [← hgo]; rfl) (fun _ => by rw [← hgo]; rfl) (fun k q => by rw [← hgo]; exact hg k q) _ _ hW hS _ (lv_sub hl [2] rfl)
            · have c21n := q_nlt (a := n) (b := (b + 1)) (by omega) (by omega) c21
              refine lv_aload_n hx hb dX8_reads_38 rfl (lv_at hl 2 rfl) ?_
              refine m_getI (v := 1) C hm hW 7 (by decide) rfl tw_5_210 rfl dX8_reads_39 ?_
              refine lv_if_ne (tgt := 89) hx hb dX8_reads_42 (by decide) (fun _ => ?_) (fun c9 => absurd c9 (by decide))
              exact J89 (upd (upd fi 7 1) 8 (nI part)) g (fun j q1 q2 => by simp [upd, q1, q2]) (by rw [← hgo]; rfl) (fun _ => by rw [← hgo]; rfl) (fun k q => by rw [← hgo]; exact hg k q) _ _ hW hS _ (lv_sub hl [2] rfl)
          · rw [z1, z2, upd_same] at hW
            rw [k1, if_neg (nI_m1 hj), nI_clamp (by omega), if_pos (by rw [← hg j hj]; exact k2)] at hgo
            refine lv_iinc (v := nI (part + 1)) (lv' := [(1, .int (nI (part + 1))), (0, .ref (ad (100, 0))), (2, .int (nI a)), (3, .int (nI b))]) hx hb dX8_reads_79 hl (k := 1) rfl (nI_1 part) (by decide) rfl (fun ls hl => ?_)
            refine lv_iload_n hx hb dX8_reads_82 rfl (lv_at hl 3 rfl) ?_
            refine lv_iconst (v := 1) hx hb dX8_reads_83 (by decide) ?_
            refine lv_iadd hx hb dX8_reads_84 ?_
            refine lv_topE (y := nI (b + 1)) (nI_1 b) ?_
            refine lv_istore_n (lv' := [(2, .int (nI (b + 1))), (1, .int (nI (part + 1))), (0, .ref (ad (100, 0))), (3, .int (nI b))]) hx hb dX8_reads_85 rfl hl (by decide) rfl (fun ls hl => ?_)
            refine lv_goto (tgt := 30) hx hb dX8_reads_86 (by decide) ?_
            refine lv_iload_n hx hb dX8_reads_30 rfl (lv_at hl 0 rfl) ?_
            refine lv_aload_n hx hb dX8_reads_31 rfl (lv_at hl 2 rfl) ?_
            refine m_getI (v := nI n) C hm hW 3 (by decide) rfl tw_5_206 hn dX8_reads_32 ?_
            refine lv_icmp_gt (tgt := 89) hx hb dX8_reads_35 (by decide) (fun c23 => ?_) (fun c23 => ?_)
            · have c23n := q_lt (a := n) (b := (b + 1)) (by omega) (by omega) c23
              exact J89 (upd (upd fi 7 2) 8 (nI j)) g (fun j q1 q2 => by simp [upd, q1, q2]) (by rw [← hgo]; rfl) (fun _ => by rw [← hgo]; rfl) (fun k q => by rw [← hgo]; exact hg k q) _ _ hW hS _ (lv_sub hl [2] rfl)
            · have c23n := q_nlt (a := n) (b := (b + 1)) (by omega) (by omega) c23
              refine lv_aload_n hx hb dX8_reads_38 rfl (lv_at hl 2 rfl) ?_
              refine m_getI (v := 2) C hm hW 7 (by decide) rfl tw_5_210 rfl dX8_reads_39 ?_
              refine lv_if_ne (tgt := 89) hx hb dX8_reads_42 (by decide) (fun _ => ?_) (fun c9 => absurd c9 (by decide))
              exact J89 (upd (upd fi 7 2) 8 (nI j)) g (fun j q1 q2 => by simp [upd, q1, q2]) (by rw [← hgo]; rfl) (fun _ => by rw [← hgo]; rfl) (fun k q => by rw [← hgo]; exact hg k q) _ _ hW hS _ (lv_sub hl [2] rfl)
          · rw [z1, z2, upd_same, rowu_same] at hW
            rw [k1, if_neg (nI_m1 hj), nI_clamp (by omega), if_neg (by rw [← hg j hj]; exact fun q => q k2), if_pos k3] at hgo
            refine lv_iinc (v := nI (part + 1)) (lv' := [(1, .int (nI (part + 1))), (0, .ref (ad (100, 0))), (2, .int (nI a)), (3, .int (nI b))]) hx hb dX8_reads_79 hl (k := 1) rfl (nI_1 part) (by decide) rfl (fun ls hl => ?_)
            refine lv_iload_n hx hb dX8_reads_82 rfl (lv_at hl 3 rfl) ?_
            refine lv_iconst (v := 1) hx hb dX8_reads_83 (by decide) ?_
            refine lv_iadd hx hb dX8_reads_84 ?_
            refine lv_topE (y := nI (b + 1)) (nI_1 b) ?_
            refine lv_istore_n (lv' := [(2, .int (nI (b + 1))), (1, .int (nI (part + 1))), (0, .ref (ad (100, 0))), (3, .int (nI b))]) hx hb dX8_reads_85 rfl hl (by decide) rfl (fun ls hl => ?_)
            refine lv_goto (tgt := 30) hx hb dX8_reads_86 (by decide) ?_
            refine lv_iload_n hx hb dX8_reads_30 rfl (lv_at hl 0 rfl) ?_
            refine lv_aload_n hx hb dX8_reads_31 rfl (lv_at hl 2 rfl) ?_
            refine m_getI (v := nI n) C hm hW 3 (by decide) rfl tw_5_206 hn dX8_reads_32 ?_
            refine lv_icmp_gt (tgt := 89) hx hb dX8_reads_35 (by decide) (fun c25 => ?_) (fun c25 => ?_)
            · have c25n := q_lt (a := n) (b := (b + 1)) (by omega) (by omega) c25
              exact J89 (upd (upd fi 7 3) 8 (nI j)) (upd g j (-1)) (fun j q1 q2 => by simp [upd, q1, q2]) (by rw [← hgo]; rfl) (fun _ => by rw [← hgo]; rfl) (fun k q => by rw [← hgo]; simp only [upd]; rw [hg k q]) _ _ hW hS _ (lv_sub hl [2] rfl)
            · have c25n := q_nlt (a := n) (b := (b + 1)) (by omega) (by omega) c25
              refine lv_aload_n hx hb dX8_reads_38 rfl (lv_at hl 2 rfl) ?_
              refine m_getI (v := 3) C hm hW 7 (by decide) rfl tw_5_210 rfl dX8_reads_39 ?_
              refine lv_if_ne (tgt := 89) hx hb dX8_reads_42 (by decide) (fun _ => ?_) (fun c9 => absurd c9 (by decide))
              exact J89 (upd (upd fi 7 3) 8 (nI j)) (upd g j (-1)) (fun j q1 q2 => by simp [upd, q1, q2]) (by rw [← hgo]; rfl) (fun _ => by rw [← hgo]; rfl) (fun k q => by rw [← hgo]; simp only [upd]; rw [hg k q]) _ _ hW hS _ (lv_sub hl [2] rfl)
          · rw [z1, z2, rowu_same] at hW
            rw [k1, if_neg (nI_m1 hj), nI_clamp (by omega), if_neg (by rw [← hg j hj]; exact fun q => q k2), if_neg k3] at hgo
            refine lv_iinc (v := nI (part + 1)) (lv' := [(1, .int (nI (part + 1))), (0, .ref (ad (100, 0))), (2, .int (nI a)), (3, .int (nI b))]) hx hb dX8_reads_79 hl (k := 1) rfl (nI_1 part) (by decide) rfl (fun ls hl => ?_)
            refine lv_iload_n hx hb dX8_reads_82 rfl (lv_at hl 3 rfl) ?_
            refine lv_iconst (v := 1) hx hb dX8_reads_83 (by decide) ?_
            refine lv_iadd hx hb dX8_reads_84 ?_
            refine lv_topE (y := nI (b + 1)) (nI_1 b) ?_
            refine lv_istore_n (lv' := [(2, .int (nI (b + 1))), (1, .int (nI (part + 1))), (0, .ref (ad (100, 0))), (3, .int (nI b))]) hx hb dX8_reads_85 rfl hl (by decide) rfl (fun ls hl => ?_)
            refine lv_goto (tgt := 30) hx hb dX8_reads_86 (by decide) ?_
            exact ih (part + 1) (b + 1) (upd g j (rdVal (fa 2) (nI j) (a + 2) b)) (upd vals j (rdVal (fa 2) (nI j) (a + 2) b)) F1 (by omega) (by omega) (by omega) (by omega) (fun k q => by simp only [upd]; rw [hg k q]) hgo _ _ hW hS _ (lv_sub hl [2, 1, 0] rfl)
        have scan : ∀ (f : Nat) (k : Nat), (n - k < f) → (a ≤ k ∧ k ≤ n) → (rdE (fa 2) n k = rdE (fa 2) n a) → ∀ (H : Heap) (locs : List Loc), gW X A L ad (mSt X ad st0 (upd fi 7 0) (rowu fa 6 g)) s H → va_S A s.heap H locs → ∀ ls : Array Slot, lv_has ls 4 [(0, .ref (ad (100, 0))), (1, .int (nI part)), (2, .int (nI a)), (3, .int (nI k))] → W p l e R s m args below meth c H locs 0 0 Q (F0 m 47 ls []) := by
          intro f
          induction f with
          | zero =>
            intro k hf9
            exact absurd hf9 (Nat.not_lt_zero _)
          | succ f ih2 =>
            intro k hf2 hk1 hkE H locs hW hS ls hl
            refine lv_iload_n hx hb dX8_reads_47 rfl (lv_at hl 3 rfl) ?_
            refine lv_aload_n hx hb dX8_reads_48 rfl (lv_at hl 0 rfl) ?_
            refine m_getI (v := nI n) C hm hW 3 (by decide) rfl tw_5_206 hn dX8_reads_49 ?_
            refine lv_icmp_ge (tgt := 72) hx hb dX8_reads_52 (by decide) (fun c27 => ?_) (fun c27 => ?_)
            · have c27n := q_le (a := n) (b := k) (by omega) (by omega) c27
              have hkb : k = b := by rw [hbE, ← hkE]; exact (rdE_stop (by grind)).symm
              subst hkb
              exact J72 _ _ hW hS _ (lv_sub hl [0, 1, 2, 3] rfl)
            · have c27n := q_nle (a := n) (b := k) (by omega) (by omega) c27
              refine lv_aload_n hx hb dX8_reads_55 rfl (lv_at hl 0 rfl) ?_
              refine m_getA C hm hW 2 (by decide) rfl tw_5_205 dX8_reads_56 ?_
              refine lv_iload_n hx hb dX8_reads_59 rfl (lv_at hl 3 rfl) ?_
              refine m_cald (v := (fa 2) k) (j := k) C hm hW 2 (by decide) rfl rfl (vp_in_nI (N := 60) (by omega) (by decide)) (nI_clamp (by omega)) rfl dX8_reads_60 ?_
              refine lv_topi (fun x28 ex28 => ?_)
              refine lv_bipush (v := 59) hx hb dX8_reads_61 (by decide) ?_
              refine lv_icmp_eq (tgt := 72) hx hb dX8_reads_63 (by decide) (fun c29 => ?_) (fun c29 => ?_)
              · have hkb : k = b := by rw [hbE, ← hkE]; exact (rdE_stop (by grind)).symm
                subst hkb
                exact J72 _ _ hW hS _ (lv_sub hl [0, 1, 2, 3] rfl)
              · refine lv_iinc (v := nI (k + 1)) (lv' := [(3, .int (nI (k + 1))), (0, .ref (ad (100, 0))), (1, .int (nI part)), (2, .int (nI a))]) hx hb dX8_reads_66 hl (k := 3) rfl (nI_1 k) (by decide) rfl (fun ls hl => ?_)
                refine lv_goto (tgt := 47) hx hb dX8_reads_69 (by decide) ?_
                exact ih2 (k + 1) (by omega) (by omega) (by rw [← hkE]; exact (rdE_go (by omega) (by grind)).symm) _ _ hW hS _ (lv_sub hl [1, 2, 3, 0] rfl)
        refine lv_iload_n hx hb dX8_reads_45 rfl (lv_at hl 2 rfl) ?_
        refine lv_istore_n (lv' := [(3, .int (nI a)), (0, .ref (ad (100, 0))), (1, .int (nI part)), (2, .int (nI a))]) hx hb dX8_reads_46 rfl hl (by decide) rfl (fun ls hl => ?_)
        exact scan _ a (Nat.lt_succ_self _) (by omega) rfl _ _ hW hS _ (lv_sub hl [1, 2, 3, 0] rfl)
  refine lv_aload_n hx hb dX8_reads_0 rfl (lv_at hl 0 rfl) ?_
  refine lv_iconst (v := 0) hx hb dX8_reads_1 (by decide) ?_
  refine m_putI C hm hW hS 7 (by decide) rfl tw_5_210 dX8_reads_2 (fun H locs hW hS => ?_)
  refine lv_iconst (v := 0) hx hb dX8_reads_5 (by decide) ?_
  refine lv_istore_n (lv' := [(1, .int 0), (0, .ref (ad (100, 0)))]) hx hb dX8_reads_6 rfl hl (by decide) rfl (fun ls hl => ?_)
  refine lv_iload_n hx hb dX8_reads_7 rfl (lv_at hl 0 rfl) ?_
  refine lv_bipush (v := 6) hx hb dX8_reads_8 (by decide) ?_
  refine lv_icmp_ge (tgt := 26) hx hb dX8_reads_10 (by decide) (fun c9 => absurd c9 (by decide)) (fun _ => ?_)
  refine lv_aload_n hx hb dX8_reads_13 rfl (lv_at hl 1 rfl) ?_
  refine m_getA C hm hW 6 (by decide) rfl tw_5_209 dX8_reads_14 ?_
  refine lv_iload_n hx hb dX8_reads_17 rfl (lv_at hl 0 rfl) ?_
  refine lv_iconst (v := (-1)) hx hb dX8_reads_18 (by decide) ?_
  refine m_iast (j := 0) C hm hW hS 6 (by decide) rfl rfl (vp_in_nI (n := 0) (N := 6) (by decide) (by decide)) (by decide) dX8_reads_19 (fun H locs hW hS => ?_)
  refine lv_iinc (v := 1) (lv' := [(1, .int 1), (0, .ref (ad (100, 0)))]) hx hb dX8_reads_20 hl (k := 0) rfl (by decide) (by decide) rfl (fun ls hl => ?_)
  refine lv_goto (tgt := 7) hx hb dX8_reads_23 (by decide) ?_
  refine lv_iload_n hx hb dX8_reads_7 rfl (lv_at hl 0 rfl) ?_
  refine lv_bipush (v := 6) hx hb dX8_reads_8 (by decide) ?_
  refine lv_icmp_ge (tgt := 26) hx hb dX8_reads_10 (by decide) (fun c9 => absurd c9 (by decide)) (fun _ => ?_)
  refine lv_aload_n hx hb dX8_reads_13 rfl (lv_at hl 1 rfl) ?_
  refine m_getA C hm hW 6 (by decide) rfl tw_5_209 dX8_reads_14 ?_
  refine lv_iload_n hx hb dX8_reads_17 rfl (lv_at hl 0 rfl) ?_
  refine lv_iconst (v := (-1)) hx hb dX8_reads_18 (by decide) ?_
  refine m_iast (j := 1) C hm hW hS 6 (by decide) rfl rfl (vp_in_nI (n := 1) (N := 6) (by decide) (by decide)) (by decide) dX8_reads_19 (fun H locs hW hS => ?_)
  rw [rowu_same] at hW
  refine lv_iinc (v := 2) (lv' := [(1, .int 2), (0, .ref (ad (100, 0)))]) hx hb dX8_reads_20 hl (k := 0) rfl (by decide) (by decide) rfl (fun ls hl => ?_)
  refine lv_goto (tgt := 7) hx hb dX8_reads_23 (by decide) ?_
  refine lv_iload_n hx hb dX8_reads_7 rfl (lv_at hl 0 rfl) ?_
  refine lv_bipush (v := 6) hx hb dX8_reads_8 (by decide) ?_
  refine lv_icmp_ge (tgt := 26) hx hb dX8_reads_10 (by decide) (fun c9 => absurd c9 (by decide)) (fun _ => ?_)
  refine lv_aload_n hx hb dX8_reads_13 rfl (lv_at hl 1 rfl) ?_
  refine m_getA C hm hW 6 (by decide) rfl tw_5_209 dX8_reads_14 ?_
  refine lv_iload_n hx hb dX8_reads_17 rfl (lv_at hl 0 rfl) ?_
  refine lv_iconst (v := (-1)) hx hb dX8_reads_18 (by decide) ?_
  refine m_iast (j := 2) C hm hW hS 6 (by decide) rfl rfl (vp_in_nI (n := 2) (N := 6) (by decide) (by decide)) (by decide) dX8_reads_19 (fun H locs hW hS => ?_)
  rw [rowu_same] at hW
  refine lv_iinc (v := 3) (lv' := [(1, .int 3), (0, .ref (ad (100, 0)))]) hx hb dX8_reads_20 hl (k := 0) rfl (by decide) (by decide) rfl (fun ls hl => ?_)
  refine lv_goto (tgt := 7) hx hb dX8_reads_23 (by decide) ?_
  refine lv_iload_n hx hb dX8_reads_7 rfl (lv_at hl 0 rfl) ?_
  refine lv_bipush (v := 6) hx hb dX8_reads_8 (by decide) ?_
  refine lv_icmp_ge (tgt := 26) hx hb dX8_reads_10 (by decide) (fun c9 => absurd c9 (by decide)) (fun _ => ?_)
  refine lv_aload_n hx hb dX8_reads_13 rfl (lv_at hl 1 rfl) ?_
  refine m_getA C hm hW 6 (by decide) rfl tw_5_209 dX8_reads_14 ?_
  refine lv_iload_n hx hb dX8_reads_17 rfl (lv_at hl 0 rfl) ?_
  refine lv_iconst (v := (-1)) hx hb dX8_reads_18 (by decide) ?_
  refine m_iast (j := 3) C hm hW hS 6 (by decide) rfl rfl (vp_in_nI (n := 3) (N := 6) (by decide) (by decide)) (by decide) dX8_reads_19 (fun H locs hW hS => ?_)
  rw [rowu_same] at hW
  refine lv_iinc (v := 4) (lv' := [(1, .int 4), (0, .ref (ad (100, 0)))]) hx hb dX8_reads_20 hl (k := 0) rfl (by decide) (by decide) rfl (fun ls hl => ?_)
  refine lv_goto (tgt := 7) hx hb dX8_reads_23 (by decide) ?_
  refine lv_iload_n hx hb dX8_reads_7 rfl (lv_at hl 0 rfl) ?_
  refine lv_bipush (v := 6) hx hb dX8_reads_8 (by decide) ?_
  refine lv_icmp_ge (tgt := 26) hx hb dX8_reads_10 (by decide) (fun c9 => absurd c9 (by decide)) (fun _ => ?_)
  refine lv_aload_n hx hb dX8_reads_13 rfl (lv_at hl 1 rfl) ?_
  refine m_getA C hm hW 6 (by decide) rfl tw_5_209 dX8_reads_14 ?_
  refine lv_iload_n hx hb dX8_reads_17 rfl (lv_at hl 0 rfl) ?_
  refine lv_iconst (v := (-1)) hx hb dX8_reads_18 (by decide) ?_
  refine m_iast (j := 4) C hm hW hS 6 (by decide) rfl rfl (vp_in_nI (n := 4) (N := 6) (by decide) (by decide)) (by decide) dX8_reads_19 (fun H locs hW hS => ?_)
  rw [rowu_same] at hW
  refine lv_iinc (v := 5) (lv' := [(1, .int 5), (0, .ref (ad (100, 0)))]) hx hb dX8_reads_20 hl (k := 0) rfl (by decide) (by decide) rfl (fun ls hl => ?_)
  refine lv_goto (tgt := 7) hx hb dX8_reads_23 (by decide) ?_
  refine lv_iload_n hx hb dX8_reads_7 rfl (lv_at hl 0 rfl) ?_
  refine lv_bipush (v := 6) hx hb dX8_reads_8 (by decide) ?_
  refine lv_icmp_ge (tgt := 26) hx hb dX8_reads_10 (by decide) (fun c9 => absurd c9 (by decide)) (fun _ => ?_)
  refine lv_aload_n hx hb dX8_reads_13 rfl (lv_at hl 1 rfl) ?_
  refine m_getA C hm hW 6 (by decide) rfl tw_5_209 dX8_reads_14 ?_
  refine lv_iload_n hx hb dX8_reads_17 rfl (lv_at hl 0 rfl) ?_
  refine lv_iconst (v := (-1)) hx hb dX8_reads_18 (by decide) ?_
  refine m_iast (j := 5) C hm hW hS 6 (by decide) rfl rfl (vp_in_nI (n := 5) (N := 6) (by decide) (by decide)) (by decide) dX8_reads_19 (fun H locs hW hS => ?_)
  rw [rowu_same] at hW
  refine lv_iinc (v := 6) (lv' := [(1, .int 6), (0, .ref (ad (100, 0)))]) hx hb dX8_reads_20 hl (k := 0) rfl (by decide) (by decide) rfl (fun ls hl => ?_)
  refine lv_goto (tgt := 7) hx hb dX8_reads_23 (by decide) ?_
  refine lv_iload_n hx hb dX8_reads_7 rfl (lv_at hl 0 rfl) ?_
  refine lv_bipush (v := 6) hx hb dX8_reads_8 (by decide) ?_
  refine lv_icmp_ge (tgt := 26) hx hb dX8_reads_10 (by decide) (fun _ => ?_) (fun c9 => absurd (by decide) c9)
  refine lv_iconst (v := 0) hx hb dX8_reads_26 (by decide) ?_
  refine lv_istore_n (lv' := [(1, .int 0), (0, .ref (ad (100, 0)))]) hx hb dX8_reads_27 rfl hl (by decide) rfl (fun ls hl => ?_)
  refine lv_iconst (v := 0) hx hb dX8_reads_28 (by decide) ?_
  refine lv_istore_n (lv' := [(2, .int 0), (1, .int 0), (0, .ref (ad (100, 0)))]) hx hb dX8_reads_29 rfl hl (by decide) rfl (fun ls hl => ?_)
  exact parts _ 0 0 (upd (upd (upd (upd (upd (upd (fa 6) 0 (-1)) 1 (-1)) 2 (-1)) 3 (-1)) 4 (-1)) 5 (-1)) (fun _ => -1) (n + 1) (Nat.lt_succ_self _) (by omega) (by omega) (by omega) (by intro k q; rcases (show k = 0 ∨ k = 1 ∨ k = 2 ∨ k = 3 ∨ k = 4 ∨ k = 5 by omega) with rfl | rfl | rfl | rfl | rfl | rfl <;> rfl) rfl _ _ hW hS _ (lv_sub hl [2, 1, 0] rfl)

