set_option maxHeartbeats 4000000 in
set_option maxRecDepth 100000 in
theorem c_X8_tells (l : Launch) (X : GX) (L : List ro) (ad : ro → Nat) (st0 : ro → va_E) (fi : Nat → Int32) (fa : Nat → Nat → Int32) (hm : mL L) (n : Nat) (hn : fi 3 = nI n) (hn60 : n ≤ 60) (h4 : ∀ k, k < 6 → fa 4 k = keyc k) (h5 : ∀ k, k < 24 → fa 5 k = wordc k) : mMv l yX8_tells cX8_tells 4 none 5 121 X [] L ad st0 fi fa (fun fi' fa' => (∀ j, j ≠ 7 → j ≠ 8 → j ≠ 10 → fi' j = fi j) ∧ (∀ a, a ≠ 6 → a ≠ 9 → fa' a = fa a) ∧ fi' 10 = nI (tlen (rdR (fa 2) n).1) ∧ ∀ i, i < tlen (rdR (fa 2) n).1 → fa' 9 i = tellc (rdR (fa 2) n).1 (rdR (fa 2) n).2.1 i) := by
  intro sz
  refine gM_of2 (Qc := fun A => va_Qv _ (gB X A) A) (by decide) (Nat.le_of_ble_eq_true rfl) ?_ sz
  intro p e s m args below meth c A R Q hR hQ C hW hS ls hl
  obtain ⟨hR1, hR2, hR3, hR4⟩ := hR
  have hx := C.1.1
  have hb := C.1.2.1
  have hml := C.1.2.2.1
  have hl : lv_has ls 4 [(0, .ref (ad (100, 0)))] := hl
  refine lv_aload_n hx hb dX8_tells_0 rfl (lv_at hl 0 rfl) ?_
  refine lv_iconst (v := 0) hx hb dX8_tells_1 (by decide) ?_
  refine m_putI C hm hW hS 10 (by decide) rfl tw_5_213 dX8_tells_2 (fun H locs hW hS => ?_)
  refine lv_aload_n hx hb dX8_tells_5 rfl (lv_at hl 0 rfl) ?_
  refine m_callVi (k2 := 0) (As := []) (rest := []) C (c_X8_reads l X L ad st0 (upd fi 10 0) fa hm n hn hn60 h4) tw_6_124 tw_6_126 tw_0_25 tw_1_10 tw_6_127 (by decide +kernel) ⟨by rw [hR1]; exact Nat.le_of_ble_eq_true rfl, by rw [hR2]; exact Nat.le_of_ble_eq_true rfl⟩ hm hW hS rfl hl.1 rfl (Nat.le_of_ble_eq_true rfl) dX8_tells_6 ⟨Nat.zero_le _, Nat.zero_le _⟩ (fun v9 fi1 fa1 H locs hp hW hS => ?_)
  obtain ⟨fr, fra, hv6, e7, e8, hb9⟩ := hp
  have h51 : ∀ k, k < 24 → fa1 5 k = wordc k := fun k q => by rw [fra 5 (by decide)]; exact h5 k q
  have h41 : ∀ k, k < 6 → fa1 4 k = keyc k := fun k q => by rw [fra 4 (by decide)]; exact h4 k q
  rcases hb9 with ⟨r0, r9⟩ | ⟨r0, r9⟩
  · subst r9
    refine lv_if_eq (tgt := 13) hx hb dX8_tells_9 (by decide) (fun c9 => absurd c9 (by decide)) (fun _ => ?_)
    exact g_vret2 C hQ hW hS ⟨_, _, rfl, (fun j q1 q2 q3 => by rw [fr j q1 q2]; simp [upd, q3]), (fun a q1 q2 => fra a q1), by rw [r0]; exact fr 10 (by decide) (by decide), fun i hi => by rw [r0] at hi; exact absurd hi (Nat.not_lt_zero i)⟩ (Nat.zero_le _) (Nat.zero_le _) dX8_tells_12
  · subst r9
    have rk := (rdR_ok (fa 2) n).2
    rcases rk with q1 | ⟨q1, pp, hpp, e1⟩ | ⟨q1 | q1 | q1, j, hj, e1⟩
    · exact absurd q1 r0
    · refine lv_if_eq (tgt := 13) hx hb dX8_tells_9 (by decide) (fun _ => ?_) (fun c9 => absurd (by decide) c9)
      refine lv_aload_n hx hb dX8_tells_13 rfl (lv_at hl 0 rfl) ?_
      refine m_getI (v := 1) C hm hW 7 (by decide) rfl tw_5_210 (e7.trans q1) dX8_tells_14 ?_
      refine lv_iconst (v := 1) hx hb dX8_tells_17 (by decide) ?_
      refine lv_icmp_ne (tgt := 25) hx hb dX8_tells_18 (by decide) (fun c9 => absurd c9 (by decide)) (fun _ => ?_)
      refine lv_iconst (v := 0) hx hb dX8_tells_21 (by decide) ?_
      refine lv_goto (tgt := 53) hx hb dX8_tells_22 (by decide) ?_
      refine lv_istore_n (lv' := [(1, .int 0), (0, .ref (ad (100, 0)))]) hx hb dX8_tells_53 rfl hl (by decide) rfl (fun ls hl => ?_)
      refine lv_aload_n hx hb dX8_tells_54 rfl (lv_at hl 1 rfl) ?_
      refine m_getI (v := 1) C hm hW 7 (by decide) rfl tw_5_210 (e7.trans q1) dX8_tells_55 ?_
      refine lv_iconst (v := 1) hx hb dX8_tells_58 (by decide) ?_
      refine lv_icmp_ne (tgt := 67) hx hb dX8_tells_59 (by decide) (fun c9 => absurd c9 (by decide)) (fun _ => ?_)
      refine lv_bipush (v := 7) hx hb dX8_tells_62 (by decide) ?_
      refine lv_goto (tgt := 95) hx hb dX8_tells_64 (by decide) ?_
      refine lv_istore_n (lv' := [(2, .int 7), (1, .int 0), (0, .ref (ad (100, 0)))]) hx hb dX8_tells_95 rfl hl (by decide) rfl (fun ls hl => ?_)
      refine lv_iload_n hx hb dX8_tells_96 rfl (lv_at hl 1 rfl) ?_
      refine lv_istore_n (lv' := [(3, .int 0), (2, .int 7), (1, .int 0), (0, .ref (ad (100, 0)))]) hx hb dX8_tells_97 rfl hl (by decide) rfl (fun ls hl => ?_)
      refine lv_iload_n hx hb dX8_tells_98 rfl (lv_at hl 0 rfl) ?_
      refine lv_iload_n hx hb dX8_tells_99 rfl (lv_at hl 1 rfl) ?_
      refine lv_icmp_ge (tgt := 134) hx hb dX8_tells_100 (by decide) (fun c9 => absurd c9 (by decide)) (fun _ => ?_)
      refine lv_aload_n hx hb dX8_tells_103 rfl (lv_at hl 3 rfl) ?_
      refine m_getA C hm hW 9 (by decide) rfl tw_5_212 dX8_tells_104 ?_
      refine lv_aload_n hx hb dX8_tells_107 rfl (lv_at hl 3 rfl) ?_
      refine m_getI (v := 0) C hm hW 10 (by decide) rfl tw_5_213 (fr 10 (by decide) (by decide)) dX8_tells_108 ?_
      refine lv_aload_n hx hb dX8_tells_111 rfl (lv_at hl 3 rfl) ?_
      refine m_getA C hm hW 5 (by decide) rfl tw_5_208 dX8_tells_112 ?_
      refine lv_iload_n hx hb dX8_tells_115 rfl (lv_at hl 0 rfl) ?_
      refine m_cald (v := (fa1 5) 0) (j := 0) C hm hW 5 (by decide) rfl rfl (vp_in_nI (n := 0) (N := 24) (by decide) (by decide)) (by decide) rfl dX8_tells_116 ?_
      refine lv_topE (y := 85) ((h51 0 (by decide)).trans (by decide)) ?_
      refine m_cast (j := 0) C hm hW hS 9 (by decide) rfl rfl (vp_in_nI (n := 0) (N := 20) (by decide) (by decide)) (by decide) dX8_tells_117 (fun H locs hW hS => ?_)
      refine lv_aload_n hx hb dX8_tells_118 rfl (lv_at hl 3 rfl) ?_
      refine lv_dup hx hb dX8_tells_119 rfl ?_
      refine m_getI (v := 0) C hm hW 10 (by decide) rfl tw_5_213 (fr 10 (by decide) (by decide)) dX8_tells_120 ?_
      refine lv_iconst (v := 1) hx hb dX8_tells_123 (by decide) ?_
      refine lv_iadd hx hb dX8_tells_124 ?_
      refine lv_topE (y := 1) (by decide) ?_
      refine m_putI C hm hW hS 10 (by decide) rfl tw_5_213 dX8_tells_125 (fun H locs hW hS => ?_)
      refine lv_iinc (v := 1) (lv' := [(3, .int 1), (2, .int 7), (1, .int 0), (0, .ref (ad (100, 0)))]) hx hb dX8_tells_128 hl (k := 0) rfl (by decide) (by decide) rfl (fun ls hl => ?_)
      refine lv_goto (tgt := 98) hx hb dX8_tells_131 (by decide) ?_
      refine lv_iload_n hx hb dX8_tells_98 rfl (lv_at hl 0 rfl) ?_
      refine lv_iload_n hx hb dX8_tells_99 rfl (lv_at hl 1 rfl) ?_
      refine lv_icmp_ge (tgt := 134) hx hb dX8_tells_100 (by decide) (fun c9 => absurd c9 (by decide)) (fun _ => ?_)
      refine lv_aload_n hx hb dX8_tells_103 rfl (lv_at hl 3 rfl) ?_
      refine m_getA C hm hW 9 (by decide) rfl tw_5_212 dX8_tells_104 ?_
      refine lv_aload_n hx hb dX8_tells_107 rfl (lv_at hl 3 rfl) ?_
      refine m_getI (v := 1) C hm hW 10 (by decide) rfl tw_5_213 rfl dX8_tells_108 ?_
      refine lv_aload_n hx hb dX8_tells_111 rfl (lv_at hl 3 rfl) ?_
      refine m_getA C hm hW 5 (by decide) rfl tw_5_208 dX8_tells_112 ?_
      refine lv_iload_n hx hb dX8_tells_115 rfl (lv_at hl 0 rfl) ?_
      refine m_cald (v := (fa1 5) 1) (j := 1) C hm hW 5 (by decide) rfl rfl (vp_in_nI (n := 1) (N := 24) (by decide) (by decide)) (by decide) rfl dX8_tells_116 ?_
      refine lv_topE (y := 78) ((h51 1 (by decide)).trans (by decide)) ?_
      refine m_cast (j := 1) C hm hW hS 9 (by decide) rfl rfl (vp_in_nI (n := 1) (N := 20) (by decide) (by decide)) (by decide) dX8_tells_117 (fun H locs hW hS => ?_)
      rw [rowu_same] at hW
      refine lv_aload_n hx hb dX8_tells_118 rfl (lv_at hl 3 rfl) ?_
      refine lv_dup hx hb dX8_tells_119 rfl ?_
      refine m_getI (v := 1) C hm hW 10 (by decide) rfl tw_5_213 rfl dX8_tells_120 ?_
      refine lv_iconst (v := 1) hx hb dX8_tells_123 (by decide) ?_
      refine lv_iadd hx hb dX8_tells_124 ?_
      refine lv_topE (y := 2) (by decide) ?_
      refine m_putI C hm hW hS 10 (by decide) rfl tw_5_213 dX8_tells_125 (fun H locs hW hS => ?_)
      rw [upd_same] at hW
      refine lv_iinc (v := 2) (lv' := [(3, .int 2), (2, .int 7), (1, .int 0), (0, .ref (ad (100, 0)))]) hx hb dX8_tells_128 hl (k := 0) rfl (by decide) (by decide) rfl (fun ls hl => ?_)
      refine lv_goto (tgt := 98) hx hb dX8_tells_131 (by decide) ?_
      refine lv_iload_n hx hb dX8_tells_98 rfl (lv_at hl 0 rfl) ?_
      refine lv_iload_n hx hb dX8_tells_99 rfl (lv_at hl 1 rfl) ?_
      refine lv_icmp_ge (tgt := 134) hx hb dX8_tells_100 (by decide) (fun c9 => absurd c9 (by decide)) (fun _ => ?_)
      refine lv_aload_n hx hb dX8_tells_103 rfl (lv_at hl 3 rfl) ?_
      refine m_getA C hm hW 9 (by decide) rfl tw_5_212 dX8_tells_104 ?_
      refine lv_aload_n hx hb dX8_tells_107 rfl (lv_at hl 3 rfl) ?_
      refine m_getI (v := 2) C hm hW 10 (by decide) rfl tw_5_213 rfl dX8_tells_108 ?_
      refine lv_aload_n hx hb dX8_tells_111 rfl (lv_at hl 3 rfl) ?_
      refine m_getA C hm hW 5 (by decide) rfl tw_5_208 dX8_tells_112 ?_
      refine lv_iload_n hx hb dX8_tells_115 rfl (lv_at hl 0 rfl) ?_
      refine m_cald (v := (fa1 5) 2) (j := 2) C hm hW 5 (by decide) rfl rfl (vp_in_nI (n := 2) (N := 24) (by decide) (by decide)) (by decide) rfl dX8_tells_116 ?_
      refine lv_topE (y := 75) ((h51 2 (by decide)).trans (by decide)) ?_
      refine m_cast (j := 2) C hm hW hS 9 (by decide) rfl rfl (vp_in_nI (n := 2) (N := 20) (by decide) (by decide)) (by decide) dX8_tells_117 (fun H locs hW hS => ?_)
      rw [rowu_same] at hW
      refine lv_aload_n hx hb dX8_tells_118 rfl (lv_at hl 3 rfl) ?_
      refine lv_dup hx hb dX8_tells_119 rfl ?_
      refine m_getI (v := 2) C hm hW 10 (by decide) rfl tw_5_213 rfl dX8_tells_120 ?_
      refine lv_iconst (v := 1) hx hb dX8_tells_123 (by decide) ?_
      refine lv_iadd hx hb dX8_tells_124 ?_
      refine lv_topE (y := 3) (by decide) ?_
      refine m_putI C hm hW hS 10 (by decide) rfl tw_5_213 dX8_tells_125 (fun H locs hW hS => ?_)
      rw [upd_same] at hW
      refine lv_iinc (v := 3) (lv' := [(3, .int 3), (2, .int 7), (1, .int 0), (0, .ref (ad (100, 0)))]) hx hb dX8_tells_128 hl (k := 0) rfl (by decide) (by decide) rfl (fun ls hl => ?_)
      refine lv_goto (tgt := 98) hx hb dX8_tells_131 (by decide) ?_
      refine lv_iload_n hx hb dX8_tells_98 rfl (lv_at hl 0 rfl) ?_
      refine lv_iload_n hx hb dX8_tells_99 rfl (lv_at hl 1 rfl) ?_
      refine lv_icmp_ge (tgt := 134) hx hb dX8_tells_100 (by decide) (fun c9 => absurd c9 (by decide)) (fun _ => ?_)
      refine lv_aload_n hx hb dX8_tells_103 rfl (lv_at hl 3 rfl) ?_
      refine m_getA C hm hW 9 (by decide) rfl tw_5_212 dX8_tells_104 ?_
      refine lv_aload_n hx hb dX8_tells_107 rfl (lv_at hl 3 rfl) ?_
      refine m_getI (v := 3) C hm hW 10 (by decide) rfl tw_5_213 rfl dX8_tells_108 ?_
      refine lv_aload_n hx hb dX8_tells_111 rfl (lv_at hl 3 rfl) ?_
      refine m_getA C hm hW 5 (by decide) rfl tw_5_208 dX8_tells_112 ?_
      refine lv_iload_n hx hb dX8_tells_115 rfl (lv_at hl 0 rfl) ?_
      refine m_cald (v := (fa1 5) 3) (j := 3) C hm hW 5 (by decide) rfl rfl (vp_in_nI (n := 3) (N := 24) (by decide) (by decide)) (by decide) rfl dX8_tells_116 ?_
      refine lv_topE (y := 78) ((h51 3 (by decide)).trans (by decide)) ?_
      refine m_cast (j := 3) C hm hW hS 9 (by decide) rfl rfl (vp_in_nI (n := 3) (N := 20) (by decide) (by decide)) (by decide) dX8_tells_117 (fun H locs hW hS => ?_)
      rw [rowu_same] at hW
      refine lv_aload_n hx hb dX8_tells_118 rfl (lv_at hl 3 rfl) ?_
      refine lv_dup hx hb dX8_tells_119 rfl ?_
      refine m_getI (v := 3) C hm hW 10 (by decide) rfl tw_5_213 rfl dX8_tells_120 ?_
      refine lv_iconst (v := 1) hx hb dX8_tells_123 (by decide) ?_
      refine lv_iadd hx hb dX8_tells_124 ?_
      refine lv_topE (y := 4) (by decide) ?_
      refine m_putI C hm hW hS 10 (by decide) rfl tw_5_213 dX8_tells_125 (fun H locs hW hS => ?_)
      rw [upd_same] at hW
      refine lv_iinc (v := 4) (lv' := [(3, .int 4), (2, .int 7), (1, .int 0), (0, .ref (ad (100, 0)))]) hx hb dX8_tells_128 hl (k := 0) rfl (by decide) (by decide) rfl (fun ls hl => ?_)
      refine lv_goto (tgt := 98) hx hb dX8_tells_131 (by decide) ?_
      refine lv_iload_n hx hb dX8_tells_98 rfl (lv_at hl 0 rfl) ?_
      refine lv_iload_n hx hb dX8_tells_99 rfl (lv_at hl 1 rfl) ?_
      refine lv_icmp_ge (tgt := 134) hx hb dX8_tells_100 (by decide) (fun c9 => absurd c9 (by decide)) (fun _ => ?_)
      refine lv_aload_n hx hb dX8_tells_103 rfl (lv_at hl 3 rfl) ?_
      refine m_getA C hm hW 9 (by decide) rfl tw_5_212 dX8_tells_104 ?_
      refine lv_aload_n hx hb dX8_tells_107 rfl (lv_at hl 3 rfl) ?_
      refine m_getI (v := 4) C hm hW 10 (by decide) rfl tw_5_213 rfl dX8_tells_108 ?_
      refine lv_aload_n hx hb dX8_tells_111 rfl (lv_at hl 3 rfl) ?_
      refine m_getA C hm hW 5 (by decide) rfl tw_5_208 dX8_tells_112 ?_
      refine lv_iload_n hx hb dX8_tells_115 rfl (lv_at hl 0 rfl) ?_
      refine m_cald (v := (fa1 5) 4) (j := 4) C hm hW 5 (by decide) rfl rfl (vp_in_nI (n := 4) (N := 24) (by decide) (by decide)) (by decide) rfl dX8_tells_116 ?_
      refine lv_topE (y := 79) ((h51 4 (by decide)).trans (by decide)) ?_
      refine m_cast (j := 4) C hm hW hS 9 (by decide) rfl rfl (vp_in_nI (n := 4) (N := 20) (by decide) (by decide)) (by decide) dX8_tells_117 (fun H locs hW hS => ?_)
      rw [rowu_same] at hW
      refine lv_aload_n hx hb dX8_tells_118 rfl (lv_at hl 3 rfl) ?_
      refine lv_dup hx hb dX8_tells_119 rfl ?_
      refine m_getI (v := 4) C hm hW 10 (by decide) rfl tw_5_213 rfl dX8_tells_120 ?_
      refine lv_iconst (v := 1) hx hb dX8_tells_123 (by decide) ?_
      refine lv_iadd hx hb dX8_tells_124 ?_
      refine lv_topE (y := 5) (by decide) ?_
      refine m_putI C hm hW hS 10 (by decide) rfl tw_5_213 dX8_tells_125 (fun H locs hW hS => ?_)
      rw [upd_same] at hW
      refine lv_iinc (v := 5) (lv' := [(3, .int 5), (2, .int 7), (1, .int 0), (0, .ref (ad (100, 0)))]) hx hb dX8_tells_128 hl (k := 0) rfl (by decide) (by decide) rfl (fun ls hl => ?_)
      refine lv_goto (tgt := 98) hx hb dX8_tells_131 (by decide) ?_
      refine lv_iload_n hx hb dX8_tells_98 rfl (lv_at hl 0 rfl) ?_
      refine lv_iload_n hx hb dX8_tells_99 rfl (lv_at hl 1 rfl) ?_
      refine lv_icmp_ge (tgt := 134) hx hb dX8_tells_100 (by decide) (fun c9 => absurd c9 (by decide)) (fun _ => ?_)
      refine lv_aload_n hx hb dX8_tells_103 rfl (lv_at hl 3 rfl) ?_
      refine m_getA C hm hW 9 (by decide) rfl tw_5_212 dX8_tells_104 ?_
      refine lv_aload_n hx hb dX8_tells_107 rfl (lv_at hl 3 rfl) ?_
      refine m_getI (v := 5) C hm hW 10 (by decide) rfl tw_5_213 rfl dX8_tells_108 ?_
      refine lv_aload_n hx hb dX8_tells_111 rfl (lv_at hl 3 rfl) ?_
      refine m_getA C hm hW 5 (by decide) rfl tw_5_208 dX8_tells_112 ?_
      refine lv_iload_n hx hb dX8_tells_115 rfl (lv_at hl 0 rfl) ?_
      refine m_cald (v := (fa1 5) 5) (j := 5) C hm hW 5 (by decide) rfl rfl (vp_in_nI (n := 5) (N := 24) (by decide) (by decide)) (by decide) rfl dX8_tells_116 ?_
      refine lv_topE (y := 87) ((h51 5 (by decide)).trans (by decide)) ?_
      refine m_cast (j := 5) C hm hW hS 9 (by decide) rfl rfl (vp_in_nI (n := 5) (N := 20) (by decide) (by decide)) (by decide) dX8_tells_117 (fun H locs hW hS => ?_)
      rw [rowu_same] at hW
      refine lv_aload_n hx hb dX8_tells_118 rfl (lv_at hl 3 rfl) ?_
      refine lv_dup hx hb dX8_tells_119 rfl ?_
      refine m_getI (v := 5) C hm hW 10 (by decide) rfl tw_5_213 rfl dX8_tells_120 ?_
      refine lv_iconst (v := 1) hx hb dX8_tells_123 (by decide) ?_
      refine lv_iadd hx hb dX8_tells_124 ?_
      refine lv_topE (y := 6) (by decide) ?_
      refine m_putI C hm hW hS 10 (by decide) rfl tw_5_213 dX8_tells_125 (fun H locs hW hS => ?_)
      rw [upd_same] at hW
      refine lv_iinc (v := 6) (lv' := [(3, .int 6), (2, .int 7), (1, .int 0), (0, .ref (ad (100, 0)))]) hx hb dX8_tells_128 hl (k := 0) rfl (by decide) (by decide) rfl (fun ls hl => ?_)
      refine lv_goto (tgt := 98) hx hb dX8_tells_131 (by decide) ?_
      refine lv_iload_n hx hb dX8_tells_98 rfl (lv_at hl 0 rfl) ?_
      refine lv_iload_n hx hb dX8_tells_99 rfl (lv_at hl 1 rfl) ?_
      refine lv_icmp_ge (tgt := 134) hx hb dX8_tells_100 (by decide) (fun c9 => absurd c9 (by decide)) (fun _ => ?_)
      refine lv_aload_n hx hb dX8_tells_103 rfl (lv_at hl 3 rfl) ?_
      refine m_getA C hm hW 9 (by decide) rfl tw_5_212 dX8_tells_104 ?_
      refine lv_aload_n hx hb dX8_tells_107 rfl (lv_at hl 3 rfl) ?_
      refine m_getI (v := 6) C hm hW 10 (by decide) rfl tw_5_213 rfl dX8_tells_108 ?_
      refine lv_aload_n hx hb dX8_tells_111 rfl (lv_at hl 3 rfl) ?_
      refine m_getA C hm hW 5 (by decide) rfl tw_5_208 dX8_tells_112 ?_
      refine lv_iload_n hx hb dX8_tells_115 rfl (lv_at hl 0 rfl) ?_
      refine m_cald (v := (fa1 5) 6) (j := 6) C hm hW 5 (by decide) rfl rfl (vp_in_nI (n := 6) (N := 24) (by decide) (by decide)) (by decide) rfl dX8_tells_116 ?_
      refine lv_topE (y := 78) ((h51 6 (by decide)).trans (by decide)) ?_
      refine m_cast (j := 6) C hm hW hS 9 (by decide) rfl rfl (vp_in_nI (n := 6) (N := 20) (by decide) (by decide)) (by decide) dX8_tells_117 (fun H locs hW hS => ?_)
      rw [rowu_same] at hW
      refine lv_aload_n hx hb dX8_tells_118 rfl (lv_at hl 3 rfl) ?_
      refine lv_dup hx hb dX8_tells_119 rfl ?_
      refine m_getI (v := 6) C hm hW 10 (by decide) rfl tw_5_213 rfl dX8_tells_120 ?_
      refine lv_iconst (v := 1) hx hb dX8_tells_123 (by decide) ?_
      refine lv_iadd hx hb dX8_tells_124 ?_
      refine lv_topE (y := 7) (by decide) ?_
      refine m_putI C hm hW hS 10 (by decide) rfl tw_5_213 dX8_tells_125 (fun H locs hW hS => ?_)
      rw [upd_same] at hW
      refine lv_iinc (v := 7) (lv' := [(3, .int 7), (2, .int 7), (1, .int 0), (0, .ref (ad (100, 0)))]) hx hb dX8_tells_128 hl (k := 0) rfl (by decide) (by decide) rfl (fun ls hl => ?_)
      refine lv_goto (tgt := 98) hx hb dX8_tells_131 (by decide) ?_
      refine lv_iload_n hx hb dX8_tells_98 rfl (lv_at hl 0 rfl) ?_
      refine lv_iload_n hx hb dX8_tells_99 rfl (lv_at hl 1 rfl) ?_
      refine lv_icmp_ge (tgt := 134) hx hb dX8_tells_100 (by decide) (fun _ => ?_) (fun c9 => absurd (by decide) c9)
      refine lv_aload_n hx hb dX8_tells_134 rfl (lv_at hl 3 rfl) ?_
      refine m_getA C hm hW 9 (by decide) rfl tw_5_212 dX8_tells_135 ?_
      refine lv_aload_n hx hb dX8_tells_138 rfl (lv_at hl 3 rfl) ?_
      refine m_getI (v := 7) C hm hW 10 (by decide) rfl tw_5_213 rfl dX8_tells_139 ?_
      refine lv_bipush (v := 32) hx hb dX8_tells_142 (by decide) ?_
      refine m_cast (j := 7) C hm hW hS 9 (by decide) rfl rfl (vp_in_nI (n := 7) (N := 20) (by decide) (by decide)) (by decide) dX8_tells_144 (fun H locs hW hS => ?_)
      rw [rowu_same] at hW
      refine lv_aload_n hx hb dX8_tells_145 rfl (lv_at hl 3 rfl) ?_
      refine lv_dup hx hb dX8_tells_146 rfl ?_
      refine m_getI (v := 7) C hm hW 10 (by decide) rfl tw_5_213 rfl dX8_tells_147 ?_
      refine lv_iconst (v := 1) hx hb dX8_tells_150 (by decide) ?_
      refine lv_iadd hx hb dX8_tells_151 ?_
      refine lv_topE (y := 8) (by decide) ?_
      refine m_putI C hm hW hS 10 (by decide) rfl tw_5_213 dX8_tells_152 (fun H locs hW hS => ?_)
      rw [upd_same] at hW
      refine lv_aload_n hx hb dX8_tells_155 rfl (lv_at hl 3 rfl) ?_
      refine m_getI (v := 1) C hm hW 7 (by decide) rfl tw_5_210 (e7.trans q1) dX8_tells_156 ?_
      refine lv_iconst (v := 1) hx hb dX8_tells_159 (by decide) ?_
      refine lv_icmp_ne (tgt := 202) hx hb dX8_tells_160 (by decide) (fun c9 => absurd c9 (by decide)) (fun _ => ?_)
      refine lv_aload_n hx hb dX8_tells_163 rfl (lv_at hl 3 rfl) ?_
      refine m_getI (v := nI pp) C hm hW 8 (by decide) rfl tw_5_211 ((e8 r0).trans e1) dX8_tells_164 ?_
      refine lv_bipush (v := 9) hx hb dX8_tells_167 (by decide) ?_
      refine lv_icmp_le (tgt := 202) hx hb dX8_tells_169 (by decide) (fun _ => ?_) (fun c9 => absurd (nI_le (a := pp) (b := 9) (by omega) (by decide)) c9)
      refine lv_aload_n hx hb dX8_tells_202 rfl (lv_at hl 3 rfl) ?_
      refine m_getA C hm hW 9 (by decide) rfl tw_5_212 dX8_tells_203 ?_
      refine lv_aload_n hx hb dX8_tells_206 rfl (lv_at hl 3 rfl) ?_
      refine m_getI (v := 8) C hm hW 10 (by decide) rfl tw_5_213 rfl dX8_tells_207 ?_
      refine lv_aload_n hx hb dX8_tells_210 rfl (lv_at hl 3 rfl) ?_
      refine m_getI (v := 1) C hm hW 7 (by decide) rfl tw_5_210 (e7.trans q1) dX8_tells_211 ?_
      refine lv_iconst (v := 1) hx hb dX8_tells_214 (by decide) ?_
      refine lv_icmp_ne (tgt := 232) hx hb dX8_tells_215 (by decide) (fun c9 => absurd c9 (by decide)) (fun _ => ?_)
      refine lv_bipush (v := 48) hx hb dX8_tells_218 (by decide) ?_
      refine lv_aload_n hx hb dX8_tells_220 rfl (lv_at hl 3 rfl) ?_
      refine m_getI (v := nI pp) C hm hW 8 (by decide) rfl tw_5_211 ((e8 r0).trans e1) dX8_tells_221 ?_
      refine lv_bipush (v := 10) hx hb dX8_tells_224 (by decide) ?_
      refine lv_irem hx hb dX8_tells_226 (by decide) ?_
      refine lv_topE (y := nI pp) (by have h9 := pk_rem (a := pp) (d := 10) (by omega) (by decide) (by decide); rw [Nat.mod_eq_of_lt (by omega)] at h9; exact h9) ?_
      refine lv_iadd hx hb dX8_tells_227 ?_
      refine lv_topE (y := nI (48 + pp)) (nI_add 48 pp) ?_
      refine lv_i2c hx hb dX8_tells_228 rfl ?_
      refine lv_topE (y := nI (48 + pp)) (by rw [pk_char, pk_tn (by omega), Nat.mod_eq_of_lt (by omega)]) ?_
      refine lv_goto (tgt := 241) hx hb dX8_tells_229 (by decide) ?_
      refine m_cast (j := 8) C hm hW hS 9 (by decide) rfl rfl (vp_in_nI (n := 8) (N := 20) (by decide) (by decide)) (by decide) dX8_tells_241 (fun H locs hW hS => ?_)
      rw [rowu_same] at hW
      refine lv_aload_n hx hb dX8_tells_242 rfl (lv_at hl 3 rfl) ?_
      refine lv_dup hx hb dX8_tells_243 rfl ?_
      refine m_getI (v := 8) C hm hW 10 (by decide) rfl tw_5_213 rfl dX8_tells_244 ?_
      refine lv_iconst (v := 1) hx hb dX8_tells_247 (by decide) ?_
      refine lv_iadd hx hb dX8_tells_248 ?_
      refine lv_topE (y := 9) (by decide) ?_
      refine m_putI C hm hW hS 10 (by decide) rfl tw_5_213 dX8_tells_249 (fun H locs hW hS => ?_)
      rw [upd_same] at hW
      exact g_vret2 C hQ hW hS ⟨_, _, rfl, (fun j q1 q2 q3 => by simp only [upd]; rw [if_neg q3, fr j q1 q2]; simp [upd, q3]), (fun a q1 q2 => by simp only [rowu]; rw [if_neg q2]; exact fra a q1), by rw [q1]; rfl, (fun i hi => by rw [q1] at hi; have hi9 : i < 9 := hi; rw [q1, e1]; rcases (show i = 0 ∨ i = 1 ∨ i = 2 ∨ i = 3 ∨ i = 4 ∨ i = 5 ∨ i = 6 ∨ i = 7 ∨ i = 8 by omega) with rfl | rfl | rfl | rfl | rfl | rfl | rfl | rfl | rfl <;> first | rfl | decide | exact (vp_narN (by omega)).trans (by rw [← nI_add]; rfl))⟩ (Nat.zero_le _) (Nat.zero_le _) dX8_tells_252
    · refine lv_if_eq (tgt := 13) hx hb dX8_tells_9 (by decide) (fun _ => ?_) (fun c9 => absurd (by decide) c9)
      refine lv_aload_n hx hb dX8_tells_13 rfl (lv_at hl 0 rfl) ?_
      refine m_getI (v := 2) C hm hW 7 (by decide) rfl tw_5_210 (e7.trans q1) dX8_tells_14 ?_
      refine lv_iconst (v := 1) hx hb dX8_tells_17 (by decide) ?_
      refine lv_icmp_ne (tgt := 25) hx hb dX8_tells_18 (by decide) (fun _ => ?_) (fun c9 => absurd c9 (by decide))
      refine lv_aload_n hx hb dX8_tells_25 rfl (lv_at hl 0 rfl) ?_
      refine m_getI (v := 2) C hm hW 7 (by decide) rfl tw_5_210 (e7.trans q1) dX8_tells_26 ?_
      refine lv_iconst (v := 2) hx hb dX8_tells_29 (by decide) ?_
      refine lv_icmp_ne (tgt := 38) hx hb dX8_tells_30 (by decide) (fun c9 => absurd c9 (by decide)) (fun _ => ?_)
      refine lv_bipush (v := 7) hx hb dX8_tells_33 (by decide) ?_
      refine lv_goto (tgt := 53) hx hb dX8_tells_35 (by decide) ?_
      refine lv_istore_n (lv' := [(1, .int 7), (0, .ref (ad (100, 0)))]) hx hb dX8_tells_53 rfl hl (by decide) rfl (fun ls hl => ?_)
      refine lv_aload_n hx hb dX8_tells_54 rfl (lv_at hl 1 rfl) ?_
      refine m_getI (v := 2) C hm hW 7 (by decide) rfl tw_5_210 (e7.trans q1) dX8_tells_55 ?_
      refine lv_iconst (v := 1) hx hb dX8_tells_58 (by decide) ?_
      refine lv_icmp_ne (tgt := 67) hx hb dX8_tells_59 (by decide) (fun _ => ?_) (fun c9 => absurd c9 (by decide))
      refine lv_aload_n hx hb dX8_tells_67 rfl (lv_at hl 1 rfl) ?_
      refine m_getI (v := 2) C hm hW 7 (by decide) rfl tw_5_210 (e7.trans q1) dX8_tells_68 ?_
      refine lv_iconst (v := 2) hx hb dX8_tells_71 (by decide) ?_
      refine lv_icmp_ne (tgt := 80) hx hb dX8_tells_72 (by decide) (fun c9 => absurd c9 (by decide)) (fun _ => ?_)
      refine lv_bipush (v := 14) hx hb dX8_tells_75 (by decide) ?_
      refine lv_goto (tgt := 95) hx hb dX8_tells_77 (by decide) ?_
      refine lv_istore_n (lv' := [(2, .int 14), (1, .int 7), (0, .ref (ad (100, 0)))]) hx hb dX8_tells_95 rfl hl (by decide) rfl (fun ls hl => ?_)
      refine lv_iload_n hx hb dX8_tells_96 rfl (lv_at hl 1 rfl) ?_
      refine lv_istore_n (lv' := [(3, .int 7), (2, .int 14), (1, .int 7), (0, .ref (ad (100, 0)))]) hx hb dX8_tells_97 rfl hl (by decide) rfl (fun ls hl => ?_)
      refine lv_iload_n hx hb dX8_tells_98 rfl (lv_at hl 0 rfl) ?_
      refine lv_iload_n hx hb dX8_tells_99 rfl (lv_at hl 1 rfl) ?_
      refine lv_icmp_ge (tgt := 134) hx hb dX8_tells_100 (by decide) (fun c9 => absurd c9 (by decide)) (fun _ => ?_)
      refine lv_aload_n hx hb dX8_tells_103 rfl (lv_at hl 3 rfl) ?_
      refine m_getA C hm hW 9 (by decide) rfl tw_5_212 dX8_tells_104 ?_
      refine lv_aload_n hx hb dX8_tells_107 rfl (lv_at hl 3 rfl) ?_
      refine m_getI (v := 0) C hm hW 10 (by decide) rfl tw_5_213 (fr 10 (by decide) (by decide)) dX8_tells_108 ?_
      refine lv_aload_n hx hb dX8_tells_111 rfl (lv_at hl 3 rfl) ?_
      refine m_getA C hm hW 5 (by decide) rfl tw_5_208 dX8_tells_112 ?_
      refine lv_iload_n hx hb dX8_tells_115 rfl (lv_at hl 0 rfl) ?_
      refine m_cald (v := (fa1 5) 7) (j := 7) C hm hW 5 (by decide) rfl rfl (vp_in_nI (n := 7) (N := 24) (by decide) (by decide)) (by decide) rfl dX8_tells_116 ?_
      refine lv_topE (y := 68) ((h51 7 (by decide)).trans (by decide)) ?_
      refine m_cast (j := 0) C hm hW hS 9 (by decide) rfl rfl (vp_in_nI (n := 0) (N := 20) (by decide) (by decide)) (by decide) dX8_tells_117 (fun H locs hW hS => ?_)
      refine lv_aload_n hx hb dX8_tells_118 rfl (lv_at hl 3 rfl) ?_
      refine lv_dup hx hb dX8_tells_119 rfl ?_
      refine m_getI (v := 0) C hm hW 10 (by decide) rfl tw_5_213 (fr 10 (by decide) (by decide)) dX8_tells_120 ?_
      refine lv_iconst (v := 1) hx hb dX8_tells_123 (by decide) ?_
      refine lv_iadd hx hb dX8_tells_124 ?_
      refine lv_topE (y := 1) (by decide) ?_
      refine m_putI C hm hW hS 10 (by decide) rfl tw_5_213 dX8_tells_125 (fun H locs hW hS => ?_)
      refine lv_iinc (v := 8) (lv' := [(3, .int 8), (2, .int 14), (1, .int 7), (0, .ref (ad (100, 0)))]) hx hb dX8_tells_128 hl (k := 0) rfl (by decide) (by decide) rfl (fun ls hl => ?_)
      refine lv_goto (tgt := 98) hx hb dX8_tells_131 (by decide) ?_
      refine lv_iload_n hx hb dX8_tells_98 rfl (lv_at hl 0 rfl) ?_
      refine lv_iload_n hx hb dX8_tells_99 rfl (lv_at hl 1 rfl) ?_
      refine lv_icmp_ge (tgt := 134) hx hb dX8_tells_100 (by decide) (fun c9 => absurd c9 (by decide)) (fun _ => ?_)
      refine lv_aload_n hx hb dX8_tells_103 rfl (lv_at hl 3 rfl) ?_
      refine m_getA C hm hW 9 (by decide) rfl tw_5_212 dX8_tells_104 ?_
      refine lv_aload_n hx hb dX8_tells_107 rfl (lv_at hl 3 rfl) ?_
      refine m_getI (v := 1) C hm hW 10 (by decide) rfl tw_5_213 rfl dX8_tells_108 ?_
      refine lv_aload_n hx hb dX8_tells_111 rfl (lv_at hl 3 rfl) ?_
      refine m_getA C hm hW 5 (by decide) rfl tw_5_208 dX8_tells_112 ?_
      refine lv_iload_n hx hb dX8_tells_115 rfl (lv_at hl 0 rfl) ?_
      refine m_cald (v := (fa1 5) 8) (j := 8) C hm hW 5 (by decide) rfl rfl (vp_in_nI (n := 8) (N := 24) (by decide) (by decide)) (by decide) rfl dX8_tells_116 ?_
      refine lv_topE (y := 79) ((h51 8 (by decide)).trans (by decide)) ?_
      refine m_cast (j := 1) C hm hW hS 9 (by decide) rfl rfl (vp_in_nI (n := 1) (N := 20) (by decide) (by decide)) (by decide) dX8_tells_117 (fun H locs hW hS => ?_)
      rw [rowu_same] at hW
      refine lv_aload_n hx hb dX8_tells_118 rfl (lv_at hl 3 rfl) ?_
      refine lv_dup hx hb dX8_tells_119 rfl ?_
      refine m_getI (v := 1) C hm hW 10 (by decide) rfl tw_5_213 rfl dX8_tells_120 ?_
      refine lv_iconst (v := 1) hx hb dX8_tells_123 (by decide) ?_
      refine lv_iadd hx hb dX8_tells_124 ?_
      refine lv_topE (y := 2) (by decide) ?_
      refine m_putI C hm hW hS 10 (by decide) rfl tw_5_213 dX8_tells_125 (fun H locs hW hS => ?_)
      rw [upd_same] at hW
      refine lv_iinc (v := 9) (lv' := [(3, .int 9), (2, .int 14), (1, .int 7), (0, .ref (ad (100, 0)))]) hx hb dX8_tells_128 hl (k := 0) rfl (by decide) (by decide) rfl (fun ls hl => ?_)
      refine lv_goto (tgt := 98) hx hb dX8_tells_131 (by decide) ?_
      refine lv_iload_n hx hb dX8_tells_98 rfl (lv_at hl 0 rfl) ?_
      refine lv_iload_n hx hb dX8_tells_99 rfl (lv_at hl 1 rfl) ?_
      refine lv_icmp_ge (tgt := 134) hx hb dX8_tells_100 (by decide) (fun c9 => absurd c9 (by decide)) (fun _ => ?_)
      refine lv_aload_n hx hb dX8_tells_103 rfl (lv_at hl 3 rfl) ?_
      refine m_getA C hm hW 9 (by decide) rfl tw_5_212 dX8_tells_104 ?_
      refine lv_aload_n hx hb dX8_tells_107 rfl (lv_at hl 3 rfl) ?_
      refine m_getI (v := 2) C hm hW 10 (by decide) rfl tw_5_213 rfl dX8_tells_108 ?_
      refine lv_aload_n hx hb dX8_tells_111 rfl (lv_at hl 3 rfl) ?_
      refine m_getA C hm hW 5 (by decide) rfl tw_5_208 dX8_tells_112 ?_
      refine lv_iload_n hx hb dX8_tells_115 rfl (lv_at hl 0 rfl) ?_
      refine m_cald (v := (fa1 5) 9) (j := 9) C hm hW 5 (by decide) rfl rfl (vp_in_nI (n := 9) (N := 24) (by decide) (by decide)) (by decide) rfl dX8_tells_116 ?_
      refine lv_topE (y := 85) ((h51 9 (by decide)).trans (by decide)) ?_
      refine m_cast (j := 2) C hm hW hS 9 (by decide) rfl rfl (vp_in_nI (n := 2) (N := 20) (by decide) (by decide)) (by decide) dX8_tells_117 (fun H locs hW hS => ?_)
      rw [rowu_same] at hW
      refine lv_aload_n hx hb dX8_tells_118 rfl (lv_at hl 3 rfl) ?_
      refine lv_dup hx hb dX8_tells_119 rfl ?_
      refine m_getI (v := 2) C hm hW 10 (by decide) rfl tw_5_213 rfl dX8_tells_120 ?_
      refine lv_iconst (v := 1) hx hb dX8_tells_123 (by decide) ?_
      refine lv_iadd hx hb dX8_tells_124 ?_
      refine lv_topE (y := 3) (by decide) ?_
      refine m_putI C hm hW hS 10 (by decide) rfl tw_5_213 dX8_tells_125 (fun H locs hW hS => ?_)
      rw [upd_same] at hW
      refine lv_iinc (v := 10) (lv' := [(3, .int 10), (2, .int 14), (1, .int 7), (0, .ref (ad (100, 0)))]) hx hb dX8_tells_128 hl (k := 0) rfl (by decide) (by decide) rfl (fun ls hl => ?_)
      refine lv_goto (tgt := 98) hx hb dX8_tells_131 (by decide) ?_
      refine lv_iload_n hx hb dX8_tells_98 rfl (lv_at hl 0 rfl) ?_
      refine lv_iload_n hx hb dX8_tells_99 rfl (lv_at hl 1 rfl) ?_
      refine lv_icmp_ge (tgt := 134) hx hb dX8_tells_100 (by decide) (fun c9 => absurd c9 (by decide)) (fun _ => ?_)
      refine lv_aload_n hx hb dX8_tells_103 rfl (lv_at hl 3 rfl) ?_
      refine m_getA C hm hW 9 (by decide) rfl tw_5_212 dX8_tells_104 ?_
      refine lv_aload_n hx hb dX8_tells_107 rfl (lv_at hl 3 rfl) ?_
      refine m_getI (v := 3) C hm hW 10 (by decide) rfl tw_5_213 rfl dX8_tells_108 ?_
      refine lv_aload_n hx hb dX8_tells_111 rfl (lv_at hl 3 rfl) ?_
      refine m_getA C hm hW 5 (by decide) rfl tw_5_208 dX8_tells_112 ?_
      refine lv_iload_n hx hb dX8_tells_115 rfl (lv_at hl 0 rfl) ?_
      refine m_cald (v := (fa1 5) 10) (j := 10) C hm hW 5 (by decide) rfl rfl (vp_in_nI (n := 10) (N := 24) (by decide) (by decide)) (by decide) rfl dX8_tells_116 ?_
      refine lv_topE (y := 66) ((h51 10 (by decide)).trans (by decide)) ?_
      refine m_cast (j := 3) C hm hW hS 9 (by decide) rfl rfl (vp_in_nI (n := 3) (N := 20) (by decide) (by decide)) (by decide) dX8_tells_117 (fun H locs hW hS => ?_)
      rw [rowu_same] at hW
      refine lv_aload_n hx hb dX8_tells_118 rfl (lv_at hl 3 rfl) ?_
      refine lv_dup hx hb dX8_tells_119 rfl ?_
      refine m_getI (v := 3) C hm hW 10 (by decide) rfl tw_5_213 rfl dX8_tells_120 ?_
      refine lv_iconst (v := 1) hx hb dX8_tells_123 (by decide) ?_
      refine lv_iadd hx hb dX8_tells_124 ?_
      refine lv_topE (y := 4) (by decide) ?_
      refine m_putI C hm hW hS 10 (by decide) rfl tw_5_213 dX8_tells_125 (fun H locs hW hS => ?_)
      rw [upd_same] at hW
      refine lv_iinc (v := 11) (lv' := [(3, .int 11), (2, .int 14), (1, .int 7), (0, .ref (ad (100, 0)))]) hx hb dX8_tells_128 hl (k := 0) rfl (by decide) (by decide) rfl (fun ls hl => ?_)
      refine lv_goto (tgt := 98) hx hb dX8_tells_131 (by decide) ?_
      refine lv_iload_n hx hb dX8_tells_98 rfl (lv_at hl 0 rfl) ?_
      refine lv_iload_n hx hb dX8_tells_99 rfl (lv_at hl 1 rfl) ?_
      refine lv_icmp_ge (tgt := 134) hx hb dX8_tells_100 (by decide) (fun c9 => absurd c9 (by decide)) (fun _ => ?_)
      refine lv_aload_n hx hb dX8_tells_103 rfl (lv_at hl 3 rfl) ?_
      refine m_getA C hm hW 9 (by decide) rfl tw_5_212 dX8_tells_104 ?_
      refine lv_aload_n hx hb dX8_tells_107 rfl (lv_at hl 3 rfl) ?_
      refine m_getI (v := 4) C hm hW 10 (by decide) rfl tw_5_213 rfl dX8_tells_108 ?_
      refine lv_aload_n hx hb dX8_tells_111 rfl (lv_at hl 3 rfl) ?_
      refine m_getA C hm hW 5 (by decide) rfl tw_5_208 dX8_tells_112 ?_
      refine lv_iload_n hx hb dX8_tells_115 rfl (lv_at hl 0 rfl) ?_
      refine m_cald (v := (fa1 5) 11) (j := 11) C hm hW 5 (by decide) rfl rfl (vp_in_nI (n := 11) (N := 24) (by decide) (by decide)) (by decide) rfl dX8_tells_116 ?_
      refine lv_topE (y := 76) ((h51 11 (by decide)).trans (by decide)) ?_
      refine m_cast (j := 4) C hm hW hS 9 (by decide) rfl rfl (vp_in_nI (n := 4) (N := 20) (by decide) (by decide)) (by decide) dX8_tells_117 (fun H locs hW hS => ?_)
      rw [rowu_same] at hW
      refine lv_aload_n hx hb dX8_tells_118 rfl (lv_at hl 3 rfl) ?_
      refine lv_dup hx hb dX8_tells_119 rfl ?_
      refine m_getI (v := 4) C hm hW 10 (by decide) rfl tw_5_213 rfl dX8_tells_120 ?_
      refine lv_iconst (v := 1) hx hb dX8_tells_123 (by decide) ?_
      refine lv_iadd hx hb dX8_tells_124 ?_
      refine lv_topE (y := 5) (by decide) ?_
      refine m_putI C hm hW hS 10 (by decide) rfl tw_5_213 dX8_tells_125 (fun H locs hW hS => ?_)
      rw [upd_same] at hW
      refine lv_iinc (v := 12) (lv' := [(3, .int 12), (2, .int 14), (1, .int 7), (0, .ref (ad (100, 0)))]) hx hb dX8_tells_128 hl (k := 0) rfl (by decide) (by decide) rfl (fun ls hl => ?_)
      refine lv_goto (tgt := 98) hx hb dX8_tells_131 (by decide) ?_
      refine lv_iload_n hx hb dX8_tells_98 rfl (lv_at hl 0 rfl) ?_
      refine lv_iload_n hx hb dX8_tells_99 rfl (lv_at hl 1 rfl) ?_
      refine lv_icmp_ge (tgt := 134) hx hb dX8_tells_100 (by decide) (fun c9 => absurd c9 (by decide)) (fun _ => ?_)
      refine lv_aload_n hx hb dX8_tells_103 rfl (lv_at hl 3 rfl) ?_
      refine m_getA C hm hW 9 (by decide) rfl tw_5_212 dX8_tells_104 ?_
      refine lv_aload_n hx hb dX8_tells_107 rfl (lv_at hl 3 rfl) ?_
      refine m_getI (v := 5) C hm hW 10 (by decide) rfl tw_5_213 rfl dX8_tells_108 ?_
      refine lv_aload_n hx hb dX8_tells_111 rfl (lv_at hl 3 rfl) ?_
      refine m_getA C hm hW 5 (by decide) rfl tw_5_208 dX8_tells_112 ?_
      refine lv_iload_n hx hb dX8_tells_115 rfl (lv_at hl 0 rfl) ?_
      refine m_cald (v := (fa1 5) 12) (j := 12) C hm hW 5 (by decide) rfl rfl (vp_in_nI (n := 12) (N := 24) (by decide) (by decide)) (by decide) rfl dX8_tells_116 ?_
      refine lv_topE (y := 69) ((h51 12 (by decide)).trans (by decide)) ?_
      refine m_cast (j := 5) C hm hW hS 9 (by decide) rfl rfl (vp_in_nI (n := 5) (N := 20) (by decide) (by decide)) (by decide) dX8_tells_117 (fun H locs hW hS => ?_)
      rw [rowu_same] at hW
      refine lv_aload_n hx hb dX8_tells_118 rfl (lv_at hl 3 rfl) ?_
      refine lv_dup hx hb dX8_tells_119 rfl ?_
      refine m_getI (v := 5) C hm hW 10 (by decide) rfl tw_5_213 rfl dX8_tells_120 ?_
      refine lv_iconst (v := 1) hx hb dX8_tells_123 (by decide) ?_
      refine lv_iadd hx hb dX8_tells_124 ?_
      refine lv_topE (y := 6) (by decide) ?_
      refine m_putI C hm hW hS 10 (by decide) rfl tw_5_213 dX8_tells_125 (fun H locs hW hS => ?_)
      rw [upd_same] at hW
      refine lv_iinc (v := 13) (lv' := [(3, .int 13), (2, .int 14), (1, .int 7), (0, .ref (ad (100, 0)))]) hx hb dX8_tells_128 hl (k := 0) rfl (by decide) (by decide) rfl (fun ls hl => ?_)
      refine lv_goto (tgt := 98) hx hb dX8_tells_131 (by decide) ?_
      refine lv_iload_n hx hb dX8_tells_98 rfl (lv_at hl 0 rfl) ?_
      refine lv_iload_n hx hb dX8_tells_99 rfl (lv_at hl 1 rfl) ?_
      refine lv_icmp_ge (tgt := 134) hx hb dX8_tells_100 (by decide) (fun c9 => absurd c9 (by decide)) (fun _ => ?_)
      refine lv_aload_n hx hb dX8_tells_103 rfl (lv_at hl 3 rfl) ?_
      refine m_getA C hm hW 9 (by decide) rfl tw_5_212 dX8_tells_104 ?_
      refine lv_aload_n hx hb dX8_tells_107 rfl (lv_at hl 3 rfl) ?_
      refine m_getI (v := 6) C hm hW 10 (by decide) rfl tw_5_213 rfl dX8_tells_108 ?_
      refine lv_aload_n hx hb dX8_tells_111 rfl (lv_at hl 3 rfl) ?_
      refine m_getA C hm hW 5 (by decide) rfl tw_5_208 dX8_tells_112 ?_
      refine lv_iload_n hx hb dX8_tells_115 rfl (lv_at hl 0 rfl) ?_
      refine m_cald (v := (fa1 5) 13) (j := 13) C hm hW 5 (by decide) rfl rfl (vp_in_nI (n := 13) (N := 24) (by decide) (by decide)) (by decide) rfl dX8_tells_116 ?_
      refine lv_topE (y := 68) ((h51 13 (by decide)).trans (by decide)) ?_
      refine m_cast (j := 6) C hm hW hS 9 (by decide) rfl rfl (vp_in_nI (n := 6) (N := 20) (by decide) (by decide)) (by decide) dX8_tells_117 (fun H locs hW hS => ?_)
      rw [rowu_same] at hW
      refine lv_aload_n hx hb dX8_tells_118 rfl (lv_at hl 3 rfl) ?_
      refine lv_dup hx hb dX8_tells_119 rfl ?_
      refine m_getI (v := 6) C hm hW 10 (by decide) rfl tw_5_213 rfl dX8_tells_120 ?_
      refine lv_iconst (v := 1) hx hb dX8_tells_123 (by decide) ?_
      refine lv_iadd hx hb dX8_tells_124 ?_
      refine lv_topE (y := 7) (by decide) ?_
      refine m_putI C hm hW hS 10 (by decide) rfl tw_5_213 dX8_tells_125 (fun H locs hW hS => ?_)
      rw [upd_same] at hW
      refine lv_iinc (v := 14) (lv' := [(3, .int 14), (2, .int 14), (1, .int 7), (0, .ref (ad (100, 0)))]) hx hb dX8_tells_128 hl (k := 0) rfl (by decide) (by decide) rfl (fun ls hl => ?_)
      refine lv_goto (tgt := 98) hx hb dX8_tells_131 (by decide) ?_
      refine lv_iload_n hx hb dX8_tells_98 rfl (lv_at hl 0 rfl) ?_
      refine lv_iload_n hx hb dX8_tells_99 rfl (lv_at hl 1 rfl) ?_
      refine lv_icmp_ge (tgt := 134) hx hb dX8_tells_100 (by decide) (fun _ => ?_) (fun c9 => absurd (by decide) c9)
      refine lv_aload_n hx hb dX8_tells_134 rfl (lv_at hl 3 rfl) ?_
      refine m_getA C hm hW 9 (by decide) rfl tw_5_212 dX8_tells_135 ?_
      refine lv_aload_n hx hb dX8_tells_138 rfl (lv_at hl 3 rfl) ?_
      refine m_getI (v := 7) C hm hW 10 (by decide) rfl tw_5_213 rfl dX8_tells_139 ?_
      refine lv_bipush (v := 32) hx hb dX8_tells_142 (by decide) ?_
      refine m_cast (j := 7) C hm hW hS 9 (by decide) rfl rfl (vp_in_nI (n := 7) (N := 20) (by decide) (by decide)) (by decide) dX8_tells_144 (fun H locs hW hS => ?_)
      rw [rowu_same] at hW
      refine lv_aload_n hx hb dX8_tells_145 rfl (lv_at hl 3 rfl) ?_
      refine lv_dup hx hb dX8_tells_146 rfl ?_
      refine m_getI (v := 7) C hm hW 10 (by decide) rfl tw_5_213 rfl dX8_tells_147 ?_
      refine lv_iconst (v := 1) hx hb dX8_tells_150 (by decide) ?_
      refine lv_iadd hx hb dX8_tells_151 ?_
      refine lv_topE (y := 8) (by decide) ?_
      refine m_putI C hm hW hS 10 (by decide) rfl tw_5_213 dX8_tells_152 (fun H locs hW hS => ?_)
      rw [upd_same] at hW
      refine lv_aload_n hx hb dX8_tells_155 rfl (lv_at hl 3 rfl) ?_
      refine m_getI (v := 2) C hm hW 7 (by decide) rfl tw_5_210 (e7.trans q1) dX8_tells_156 ?_
      refine lv_iconst (v := 1) hx hb dX8_tells_159 (by decide) ?_
      refine lv_icmp_ne (tgt := 202) hx hb dX8_tells_160 (by decide) (fun _ => ?_) (fun c9 => absurd c9 (by decide))
      refine lv_aload_n hx hb dX8_tells_202 rfl (lv_at hl 3 rfl) ?_
      refine m_getA C hm hW 9 (by decide) rfl tw_5_212 dX8_tells_203 ?_
      refine lv_aload_n hx hb dX8_tells_206 rfl (lv_at hl 3 rfl) ?_
      refine m_getI (v := 8) C hm hW 10 (by decide) rfl tw_5_213 rfl dX8_tells_207 ?_
      refine lv_aload_n hx hb dX8_tells_210 rfl (lv_at hl 3 rfl) ?_
      refine m_getI (v := 2) C hm hW 7 (by decide) rfl tw_5_210 (e7.trans q1) dX8_tells_211 ?_
      refine lv_iconst (v := 1) hx hb dX8_tells_214 (by decide) ?_
      refine lv_icmp_ne (tgt := 232) hx hb dX8_tells_215 (by decide) (fun _ => ?_) (fun c9 => absurd c9 (by decide))
      refine lv_aload_n hx hb dX8_tells_232 rfl (lv_at hl 3 rfl) ?_
      refine m_getA C hm hW 4 (by decide) rfl tw_5_207 dX8_tells_233 ?_
      refine lv_aload_n hx hb dX8_tells_236 rfl (lv_at hl 3 rfl) ?_
      refine m_getI (v := nI j) C hm hW 8 (by decide) rfl tw_5_211 ((e8 r0).trans e1) dX8_tells_237 ?_
      refine m_cald (v := (fa1 4) j) (j := j) C hm hW 4 (by decide) rfl rfl (vp_in_nI (N := 6) (by omega) (by decide)) (nI_clamp (by omega)) rfl dX8_tells_240 ?_
      refine lv_topE (y := keyc j) (h41 j hj) ?_
      refine m_cast (j := 8) C hm hW hS 9 (by decide) rfl rfl (vp_in_nI (n := 8) (N := 20) (by decide) (by decide)) (by decide) dX8_tells_241 (fun H locs hW hS => ?_)
      rw [rowu_same] at hW
      refine lv_aload_n hx hb dX8_tells_242 rfl (lv_at hl 3 rfl) ?_
      refine lv_dup hx hb dX8_tells_243 rfl ?_
      refine m_getI (v := 8) C hm hW 10 (by decide) rfl tw_5_213 rfl dX8_tells_244 ?_
      refine lv_iconst (v := 1) hx hb dX8_tells_247 (by decide) ?_
      refine lv_iadd hx hb dX8_tells_248 ?_
      refine lv_topE (y := 9) (by decide) ?_
      refine m_putI C hm hW hS 10 (by decide) rfl tw_5_213 dX8_tells_249 (fun H locs hW hS => ?_)
      rw [upd_same] at hW
      exact g_vret2 C hQ hW hS ⟨_, _, rfl, (fun j q1 q2 q3 => by simp only [upd]; rw [if_neg q3, fr j q1 q2]; simp [upd, q3]), (fun a q1 q2 => by simp only [rowu]; rw [if_neg q2]; exact fra a q1), by rw [q1]; rfl, (fun i hi => by rw [q1] at hi; have hi9 : i < 9 := hi; rw [q1, e1]; rcases (show i = 0 ∨ i = 1 ∨ i = 2 ∨ i = 3 ∨ i = 4 ∨ i = 5 ∨ i = 6 ∨ i = 7 ∨ i = 8 by omega) with rfl | rfl | rfl | rfl | rfl | rfl | rfl | rfl | rfl <;> first | rfl | decide | exact vp_nark.trans (by show _ = keyc (nI j).toNatClampNeg; rw [nI_clamp (by omega)]))⟩ (Nat.zero_le _) (Nat.zero_le _) dX8_tells_252
    · refine lv_if_eq (tgt := 13) hx hb dX8_tells_9 (by decide) (fun _ => ?_) (fun c9 => absurd (by decide) c9)
      refine lv_aload_n hx hb dX8_tells_13 rfl (lv_at hl 0 rfl) ?_
      refine m_getI (v := 3) C hm hW 7 (by decide) rfl tw_5_210 (e7.trans q1) dX8_tells_14 ?_
      refine lv_iconst (v := 1) hx hb dX8_tells_17 (by decide) ?_
      refine lv_icmp_ne (tgt := 25) hx hb dX8_tells_18 (by decide) (fun _ => ?_) (fun c9 => absurd c9 (by decide))
      refine lv_aload_n hx hb dX8_tells_25 rfl (lv_at hl 0 rfl) ?_
      refine m_getI (v := 3) C hm hW 7 (by decide) rfl tw_5_210 (e7.trans q1) dX8_tells_26 ?_
      refine lv_iconst (v := 2) hx hb dX8_tells_29 (by decide) ?_
      refine lv_icmp_ne (tgt := 38) hx hb dX8_tells_30 (by decide) (fun _ => ?_) (fun c9 => absurd c9 (by decide))
      refine lv_aload_n hx hb dX8_tells_38 rfl (lv_at hl 0 rfl) ?_
      refine m_getI (v := 3) C hm hW 7 (by decide) rfl tw_5_210 (e7.trans q1) dX8_tells_39 ?_
      refine lv_iconst (v := 3) hx hb dX8_tells_42 (by decide) ?_
      refine lv_icmp_ne (tgt := 51) hx hb dX8_tells_43 (by decide) (fun c9 => absurd c9 (by decide)) (fun _ => ?_)
      refine lv_bipush (v := 14) hx hb dX8_tells_46 (by decide) ?_
      refine lv_goto (tgt := 53) hx hb dX8_tells_48 (by decide) ?_
      refine lv_istore_n (lv' := [(1, .int 14), (0, .ref (ad (100, 0)))]) hx hb dX8_tells_53 rfl hl (by decide) rfl (fun ls hl => ?_)
      refine lv_aload_n hx hb dX8_tells_54 rfl (lv_at hl 1 rfl) ?_
      refine m_getI (v := 3) C hm hW 7 (by decide) rfl tw_5_210 (e7.trans q1) dX8_tells_55 ?_
      refine lv_iconst (v := 1) hx hb dX8_tells_58 (by decide) ?_
      refine lv_icmp_ne (tgt := 67) hx hb dX8_tells_59 (by decide) (fun _ => ?_) (fun c9 => absurd c9 (by decide))
      refine lv_aload_n hx hb dX8_tells_67 rfl (lv_at hl 1 rfl) ?_
      refine m_getI (v := 3) C hm hW 7 (by decide) rfl tw_5_210 (e7.trans q1) dX8_tells_68 ?_
      refine lv_iconst (v := 2) hx hb dX8_tells_71 (by decide) ?_
      refine lv_icmp_ne (tgt := 80) hx hb dX8_tells_72 (by decide) (fun _ => ?_) (fun c9 => absurd c9 (by decide))
      refine lv_aload_n hx hb dX8_tells_80 rfl (lv_at hl 1 rfl) ?_
      refine m_getI (v := 3) C hm hW 7 (by decide) rfl tw_5_210 (e7.trans q1) dX8_tells_81 ?_
      refine lv_iconst (v := 3) hx hb dX8_tells_84 (by decide) ?_
      refine lv_icmp_ne (tgt := 93) hx hb dX8_tells_85 (by decide) (fun c9 => absurd c9 (by decide)) (fun _ => ?_)
      refine lv_bipush (v := 17) hx hb dX8_tells_88 (by decide) ?_
      refine lv_goto (tgt := 95) hx hb dX8_tells_90 (by decide) ?_
      refine lv_istore_n (lv' := [(2, .int 17), (1, .int 14), (0, .ref (ad (100, 0)))]) hx hb dX8_tells_95 rfl hl (by decide) rfl (fun ls hl => ?_)
      refine lv_iload_n hx hb dX8_tells_96 rfl (lv_at hl 1 rfl) ?_
      refine lv_istore_n (lv' := [(3, .int 14), (2, .int 17), (1, .int 14), (0, .ref (ad (100, 0)))]) hx hb dX8_tells_97 rfl hl (by decide) rfl (fun ls hl => ?_)
      refine lv_iload_n hx hb dX8_tells_98 rfl (lv_at hl 0 rfl) ?_
      refine lv_iload_n hx hb dX8_tells_99 rfl (lv_at hl 1 rfl) ?_
      refine lv_icmp_ge (tgt := 134) hx hb dX8_tells_100 (by decide) (fun c9 => absurd c9 (by decide)) (fun _ => ?_)
      refine lv_aload_n hx hb dX8_tells_103 rfl (lv_at hl 3 rfl) ?_
      refine m_getA C hm hW 9 (by decide) rfl tw_5_212 dX8_tells_104 ?_
      refine lv_aload_n hx hb dX8_tells_107 rfl (lv_at hl 3 rfl) ?_
      refine m_getI (v := 0) C hm hW 10 (by decide) rfl tw_5_213 (fr 10 (by decide) (by decide)) dX8_tells_108 ?_
      refine lv_aload_n hx hb dX8_tells_111 rfl (lv_at hl 3 rfl) ?_
      refine m_getA C hm hW 5 (by decide) rfl tw_5_208 dX8_tells_112 ?_
      refine lv_iload_n hx hb dX8_tells_115 rfl (lv_at hl 0 rfl) ?_
      refine m_cald (v := (fa1 5) 14) (j := 14) C hm hW 5 (by decide) rfl rfl (vp_in_nI (n := 14) (N := 24) (by decide) (by decide)) (by decide) rfl dX8_tells_116 ?_
      refine lv_topE (y := 66) ((h51 14 (by decide)).trans (by decide)) ?_
      refine m_cast (j := 0) C hm hW hS 9 (by decide) rfl rfl (vp_in_nI (n := 0) (N := 20) (by decide) (by decide)) (by decide) dX8_tells_117 (fun H locs hW hS => ?_)
      refine lv_aload_n hx hb dX8_tells_118 rfl (lv_at hl 3 rfl) ?_
      refine lv_dup hx hb dX8_tells_119 rfl ?_
      refine m_getI (v := 0) C hm hW 10 (by decide) rfl tw_5_213 (fr 10 (by decide) (by decide)) dX8_tells_120 ?_
      refine lv_iconst (v := 1) hx hb dX8_tells_123 (by decide) ?_
      refine lv_iadd hx hb dX8_tells_124 ?_
      refine lv_topE (y := 1) (by decide) ?_
      refine m_putI C hm hW hS 10 (by decide) rfl tw_5_213 dX8_tells_125 (fun H locs hW hS => ?_)
      refine lv_iinc (v := 15) (lv' := [(3, .int 15), (2, .int 17), (1, .int 14), (0, .ref (ad (100, 0)))]) hx hb dX8_tells_128 hl (k := 0) rfl (by decide) (by decide) rfl (fun ls hl => ?_)
      refine lv_goto (tgt := 98) hx hb dX8_tells_131 (by decide) ?_
      refine lv_iload_n hx hb dX8_tells_98 rfl (lv_at hl 0 rfl) ?_
      refine lv_iload_n hx hb dX8_tells_99 rfl (lv_at hl 1 rfl) ?_
      refine lv_icmp_ge (tgt := 134) hx hb dX8_tells_100 (by decide) (fun c9 => absurd c9 (by decide)) (fun _ => ?_)
      refine lv_aload_n hx hb dX8_tells_103 rfl (lv_at hl 3 rfl) ?_
      refine m_getA C hm hW 9 (by decide) rfl tw_5_212 dX8_tells_104 ?_
      refine lv_aload_n hx hb dX8_tells_107 rfl (lv_at hl 3 rfl) ?_
      refine m_getI (v := 1) C hm hW 10 (by decide) rfl tw_5_213 rfl dX8_tells_108 ?_
      refine lv_aload_n hx hb dX8_tells_111 rfl (lv_at hl 3 rfl) ?_
      refine m_getA C hm hW 5 (by decide) rfl tw_5_208 dX8_tells_112 ?_
      refine lv_iload_n hx hb dX8_tells_115 rfl (lv_at hl 0 rfl) ?_
      refine m_cald (v := (fa1 5) 15) (j := 15) C hm hW 5 (by decide) rfl rfl (vp_in_nI (n := 15) (N := 24) (by decide) (by decide)) (by decide) rfl dX8_tells_116 ?_
      refine lv_topE (y := 65) ((h51 15 (by decide)).trans (by decide)) ?_
      refine m_cast (j := 1) C hm hW hS 9 (by decide) rfl rfl (vp_in_nI (n := 1) (N := 20) (by decide) (by decide)) (by decide) dX8_tells_117 (fun H locs hW hS => ?_)
      rw [rowu_same] at hW
      refine lv_aload_n hx hb dX8_tells_118 rfl (lv_at hl 3 rfl) ?_
      refine lv_dup hx hb dX8_tells_119 rfl ?_
      refine m_getI (v := 1) C hm hW 10 (by decide) rfl tw_5_213 rfl dX8_tells_120 ?_
      refine lv_iconst (v := 1) hx hb dX8_tells_123 (by decide) ?_
      refine lv_iadd hx hb dX8_tells_124 ?_
      refine lv_topE (y := 2) (by decide) ?_
      refine m_putI C hm hW hS 10 (by decide) rfl tw_5_213 dX8_tells_125 (fun H locs hW hS => ?_)
      rw [upd_same] at hW
      refine lv_iinc (v := 16) (lv' := [(3, .int 16), (2, .int 17), (1, .int 14), (0, .ref (ad (100, 0)))]) hx hb dX8_tells_128 hl (k := 0) rfl (by decide) (by decide) rfl (fun ls hl => ?_)
      refine lv_goto (tgt := 98) hx hb dX8_tells_131 (by decide) ?_
      refine lv_iload_n hx hb dX8_tells_98 rfl (lv_at hl 0 rfl) ?_
      refine lv_iload_n hx hb dX8_tells_99 rfl (lv_at hl 1 rfl) ?_
      refine lv_icmp_ge (tgt := 134) hx hb dX8_tells_100 (by decide) (fun c9 => absurd c9 (by decide)) (fun _ => ?_)
      refine lv_aload_n hx hb dX8_tells_103 rfl (lv_at hl 3 rfl) ?_
      refine m_getA C hm hW 9 (by decide) rfl tw_5_212 dX8_tells_104 ?_
      refine lv_aload_n hx hb dX8_tells_107 rfl (lv_at hl 3 rfl) ?_
      refine m_getI (v := 2) C hm hW 10 (by decide) rfl tw_5_213 rfl dX8_tells_108 ?_
      refine lv_aload_n hx hb dX8_tells_111 rfl (lv_at hl 3 rfl) ?_
      refine m_getA C hm hW 5 (by decide) rfl tw_5_208 dX8_tells_112 ?_
      refine lv_iload_n hx hb dX8_tells_115 rfl (lv_at hl 0 rfl) ?_
      refine m_cald (v := (fa1 5) 16) (j := 16) C hm hW 5 (by decide) rfl rfl (vp_in_nI (n := 16) (N := 24) (by decide) (by decide)) (by decide) rfl dX8_tells_116 ?_
      refine lv_topE (y := 68) ((h51 16 (by decide)).trans (by decide)) ?_
      refine m_cast (j := 2) C hm hW hS 9 (by decide) rfl rfl (vp_in_nI (n := 2) (N := 20) (by decide) (by decide)) (by decide) dX8_tells_117 (fun H locs hW hS => ?_)
      rw [rowu_same] at hW
      refine lv_aload_n hx hb dX8_tells_118 rfl (lv_at hl 3 rfl) ?_
      refine lv_dup hx hb dX8_tells_119 rfl ?_
      refine m_getI (v := 2) C hm hW 10 (by decide) rfl tw_5_213 rfl dX8_tells_120 ?_
      refine lv_iconst (v := 1) hx hb dX8_tells_123 (by decide) ?_
      refine lv_iadd hx hb dX8_tells_124 ?_
      refine lv_topE (y := 3) (by decide) ?_
      refine m_putI C hm hW hS 10 (by decide) rfl tw_5_213 dX8_tells_125 (fun H locs hW hS => ?_)
      rw [upd_same] at hW
      refine lv_iinc (v := 17) (lv' := [(3, .int 17), (2, .int 17), (1, .int 14), (0, .ref (ad (100, 0)))]) hx hb dX8_tells_128 hl (k := 0) rfl (by decide) (by decide) rfl (fun ls hl => ?_)
      refine lv_goto (tgt := 98) hx hb dX8_tells_131 (by decide) ?_
      refine lv_iload_n hx hb dX8_tells_98 rfl (lv_at hl 0 rfl) ?_
      refine lv_iload_n hx hb dX8_tells_99 rfl (lv_at hl 1 rfl) ?_
      refine lv_icmp_ge (tgt := 134) hx hb dX8_tells_100 (by decide) (fun _ => ?_) (fun c9 => absurd (by decide) c9)
      refine lv_aload_n hx hb dX8_tells_134 rfl (lv_at hl 3 rfl) ?_
      refine m_getA C hm hW 9 (by decide) rfl tw_5_212 dX8_tells_135 ?_
      refine lv_aload_n hx hb dX8_tells_138 rfl (lv_at hl 3 rfl) ?_
      refine m_getI (v := 3) C hm hW 10 (by decide) rfl tw_5_213 rfl dX8_tells_139 ?_
      refine lv_bipush (v := 32) hx hb dX8_tells_142 (by decide) ?_
      refine m_cast (j := 3) C hm hW hS 9 (by decide) rfl rfl (vp_in_nI (n := 3) (N := 20) (by decide) (by decide)) (by decide) dX8_tells_144 (fun H locs hW hS => ?_)
      rw [rowu_same] at hW
      refine lv_aload_n hx hb dX8_tells_145 rfl (lv_at hl 3 rfl) ?_
      refine lv_dup hx hb dX8_tells_146 rfl ?_
      refine m_getI (v := 3) C hm hW 10 (by decide) rfl tw_5_213 rfl dX8_tells_147 ?_
      refine lv_iconst (v := 1) hx hb dX8_tells_150 (by decide) ?_
      refine lv_iadd hx hb dX8_tells_151 ?_
      refine lv_topE (y := 4) (by decide) ?_
      refine m_putI C hm hW hS 10 (by decide) rfl tw_5_213 dX8_tells_152 (fun H locs hW hS => ?_)
      rw [upd_same] at hW
      refine lv_aload_n hx hb dX8_tells_155 rfl (lv_at hl 3 rfl) ?_
      refine m_getI (v := 3) C hm hW 7 (by decide) rfl tw_5_210 (e7.trans q1) dX8_tells_156 ?_
      refine lv_iconst (v := 1) hx hb dX8_tells_159 (by decide) ?_
      refine lv_icmp_ne (tgt := 202) hx hb dX8_tells_160 (by decide) (fun _ => ?_) (fun c9 => absurd c9 (by decide))
      refine lv_aload_n hx hb dX8_tells_202 rfl (lv_at hl 3 rfl) ?_
      refine m_getA C hm hW 9 (by decide) rfl tw_5_212 dX8_tells_203 ?_
      refine lv_aload_n hx hb dX8_tells_206 rfl (lv_at hl 3 rfl) ?_
      refine m_getI (v := 4) C hm hW 10 (by decide) rfl tw_5_213 rfl dX8_tells_207 ?_
      refine lv_aload_n hx hb dX8_tells_210 rfl (lv_at hl 3 rfl) ?_
      refine m_getI (v := 3) C hm hW 7 (by decide) rfl tw_5_210 (e7.trans q1) dX8_tells_211 ?_
      refine lv_iconst (v := 1) hx hb dX8_tells_214 (by decide) ?_
      refine lv_icmp_ne (tgt := 232) hx hb dX8_tells_215 (by decide) (fun _ => ?_) (fun c9 => absurd c9 (by decide))
      refine lv_aload_n hx hb dX8_tells_232 rfl (lv_at hl 3 rfl) ?_
      refine m_getA C hm hW 4 (by decide) rfl tw_5_207 dX8_tells_233 ?_
      refine lv_aload_n hx hb dX8_tells_236 rfl (lv_at hl 3 rfl) ?_
      refine m_getI (v := nI j) C hm hW 8 (by decide) rfl tw_5_211 ((e8 r0).trans e1) dX8_tells_237 ?_
      refine m_cald (v := (fa1 4) j) (j := j) C hm hW 4 (by decide) rfl rfl (vp_in_nI (N := 6) (by omega) (by decide)) (nI_clamp (by omega)) rfl dX8_tells_240 ?_
      refine lv_topE (y := keyc j) (h41 j hj) ?_
      refine m_cast (j := 4) C hm hW hS 9 (by decide) rfl rfl (vp_in_nI (n := 4) (N := 20) (by decide) (by decide)) (by decide) dX8_tells_241 (fun H locs hW hS => ?_)
      rw [rowu_same] at hW
      refine lv_aload_n hx hb dX8_tells_242 rfl (lv_at hl 3 rfl) ?_
      refine lv_dup hx hb dX8_tells_243 rfl ?_
      refine m_getI (v := 4) C hm hW 10 (by decide) rfl tw_5_213 rfl dX8_tells_244 ?_
      refine lv_iconst (v := 1) hx hb dX8_tells_247 (by decide) ?_
      refine lv_iadd hx hb dX8_tells_248 ?_
      refine lv_topE (y := 5) (by decide) ?_
      refine m_putI C hm hW hS 10 (by decide) rfl tw_5_213 dX8_tells_249 (fun H locs hW hS => ?_)
      rw [upd_same] at hW
      exact g_vret2 C hQ hW hS ⟨_, _, rfl, (fun j q1 q2 q3 => by simp only [upd]; rw [if_neg q3, fr j q1 q2]; simp [upd, q3]), (fun a q1 q2 => by simp only [rowu]; rw [if_neg q2]; exact fra a q1), by rw [q1]; rfl, (fun i hi => by rw [q1] at hi; have hi9 : i < 5 := hi; rw [q1, e1]; rcases (show i = 0 ∨ i = 1 ∨ i = 2 ∨ i = 3 ∨ i = 4 by omega) with rfl | rfl | rfl | rfl | rfl <;> first | rfl | decide | exact vp_nark.trans (by show _ = keyc (nI j).toNatClampNeg; rw [nI_clamp (by omega)]))⟩ (Nat.zero_le _) (Nat.zero_le _) dX8_tells_252
    · refine lv_if_eq (tgt := 13) hx hb dX8_tells_9 (by decide) (fun _ => ?_) (fun c9 => absurd (by decide) c9)
      refine lv_aload_n hx hb dX8_tells_13 rfl (lv_at hl 0 rfl) ?_
      refine m_getI (v := 4) C hm hW 7 (by decide) rfl tw_5_210 (e7.trans q1) dX8_tells_14 ?_
      refine lv_iconst (v := 1) hx hb dX8_tells_17 (by decide) ?_
      refine lv_icmp_ne (tgt := 25) hx hb dX8_tells_18 (by decide) (fun _ => ?_) (fun c9 => absurd c9 (by decide))
      refine lv_aload_n hx hb dX8_tells_25 rfl (lv_at hl 0 rfl) ?_
      refine m_getI (v := 4) C hm hW 7 (by decide) rfl tw_5_210 (e7.trans q1) dX8_tells_26 ?_
      refine lv_iconst (v := 2) hx hb dX8_tells_29 (by decide) ?_
      refine lv_icmp_ne (tgt := 38) hx hb dX8_tells_30 (by decide) (fun _ => ?_) (fun c9 => absurd c9 (by decide))
      refine lv_aload_n hx hb dX8_tells_38 rfl (lv_at hl 0 rfl) ?_
      refine m_getI (v := 4) C hm hW 7 (by decide) rfl tw_5_210 (e7.trans q1) dX8_tells_39 ?_
      refine lv_iconst (v := 3) hx hb dX8_tells_42 (by decide) ?_
      refine lv_icmp_ne (tgt := 51) hx hb dX8_tells_43 (by decide) (fun _ => ?_) (fun c9 => absurd c9 (by decide))
      refine lv_bipush (v := 17) hx hb dX8_tells_51 (by decide) ?_
      refine lv_istore_n (lv' := [(1, .int 17), (0, .ref (ad (100, 0)))]) hx hb dX8_tells_53 rfl hl (by decide) rfl (fun ls hl => ?_)
      refine lv_aload_n hx hb dX8_tells_54 rfl (lv_at hl 1 rfl) ?_
      refine m_getI (v := 4) C hm hW 7 (by decide) rfl tw_5_210 (e7.trans q1) dX8_tells_55 ?_
      refine lv_iconst (v := 1) hx hb dX8_tells_58 (by decide) ?_
      refine lv_icmp_ne (tgt := 67) hx hb dX8_tells_59 (by decide) (fun _ => ?_) (fun c9 => absurd c9 (by decide))
      refine lv_aload_n hx hb dX8_tells_67 rfl (lv_at hl 1 rfl) ?_
      refine m_getI (v := 4) C hm hW 7 (by decide) rfl tw_5_210 (e7.trans q1) dX8_tells_68 ?_
      refine lv_iconst (v := 2) hx hb dX8_tells_71 (by decide) ?_
      refine lv_icmp_ne (tgt := 80) hx hb dX8_tells_72 (by decide) (fun _ => ?_) (fun c9 => absurd c9 (by decide))
      refine lv_aload_n hx hb dX8_tells_80 rfl (lv_at hl 1 rfl) ?_
      refine m_getI (v := 4) C hm hW 7 (by decide) rfl tw_5_210 (e7.trans q1) dX8_tells_81 ?_
      refine lv_iconst (v := 3) hx hb dX8_tells_84 (by decide) ?_
      refine lv_icmp_ne (tgt := 93) hx hb dX8_tells_85 (by decide) (fun _ => ?_) (fun c9 => absurd c9 (by decide))
      refine lv_bipush (v := 24) hx hb dX8_tells_93 (by decide) ?_
      refine lv_istore_n (lv' := [(2, .int 24), (1, .int 17), (0, .ref (ad (100, 0)))]) hx hb dX8_tells_95 rfl hl (by decide) rfl (fun ls hl => ?_)
      refine lv_iload_n hx hb dX8_tells_96 rfl (lv_at hl 1 rfl) ?_
      refine lv_istore_n (lv' := [(3, .int 17), (2, .int 24), (1, .int 17), (0, .ref (ad (100, 0)))]) hx hb dX8_tells_97 rfl hl (by decide) rfl (fun ls hl => ?_)
      refine lv_iload_n hx hb dX8_tells_98 rfl (lv_at hl 0 rfl) ?_
      refine lv_iload_n hx hb dX8_tells_99 rfl (lv_at hl 1 rfl) ?_
      refine lv_icmp_ge (tgt := 134) hx hb dX8_tells_100 (by decide) (fun c9 => absurd c9 (by decide)) (fun _ => ?_)
      refine lv_aload_n hx hb dX8_tells_103 rfl (lv_at hl 3 rfl) ?_
      refine m_getA C hm hW 9 (by decide) rfl tw_5_212 dX8_tells_104 ?_
      refine lv_aload_n hx hb dX8_tells_107 rfl (lv_at hl 3 rfl) ?_
      refine m_getI (v := 0) C hm hW 10 (by decide) rfl tw_5_213 (fr 10 (by decide) (by decide)) dX8_tells_108 ?_
      refine lv_aload_n hx hb dX8_tells_111 rfl (lv_at hl 3 rfl) ?_
      refine m_getA C hm hW 5 (by decide) rfl tw_5_208 dX8_tells_112 ?_
      refine lv_iload_n hx hb dX8_tells_115 rfl (lv_at hl 0 rfl) ?_
      refine m_cald (v := (fa1 5) 17) (j := 17) C hm hW 5 (by decide) rfl rfl (vp_in_nI (n := 17) (N := 24) (by decide) (by decide)) (by decide) rfl dX8_tells_116 ?_
      refine lv_topE (y := 77) ((h51 17 (by decide)).trans (by decide)) ?_
      refine m_cast (j := 0) C hm hW hS 9 (by decide) rfl rfl (vp_in_nI (n := 0) (N := 20) (by decide) (by decide)) (by decide) dX8_tells_117 (fun H locs hW hS => ?_)
      refine lv_aload_n hx hb dX8_tells_118 rfl (lv_at hl 3 rfl) ?_
      refine lv_dup hx hb dX8_tells_119 rfl ?_
      refine m_getI (v := 0) C hm hW 10 (by decide) rfl tw_5_213 (fr 10 (by decide) (by decide)) dX8_tells_120 ?_
      refine lv_iconst (v := 1) hx hb dX8_tells_123 (by decide) ?_
      refine lv_iadd hx hb dX8_tells_124 ?_
      refine lv_topE (y := 1) (by decide) ?_
      refine m_putI C hm hW hS 10 (by decide) rfl tw_5_213 dX8_tells_125 (fun H locs hW hS => ?_)
      refine lv_iinc (v := 18) (lv' := [(3, .int 18), (2, .int 24), (1, .int 17), (0, .ref (ad (100, 0)))]) hx hb dX8_tells_128 hl (k := 0) rfl (by decide) (by decide) rfl (fun ls hl => ?_)
      refine lv_goto (tgt := 98) hx hb dX8_tells_131 (by decide) ?_
      refine lv_iload_n hx hb dX8_tells_98 rfl (lv_at hl 0 rfl) ?_
      refine lv_iload_n hx hb dX8_tells_99 rfl (lv_at hl 1 rfl) ?_
      refine lv_icmp_ge (tgt := 134) hx hb dX8_tells_100 (by decide) (fun c9 => absurd c9 (by decide)) (fun _ => ?_)
      refine lv_aload_n hx hb dX8_tells_103 rfl (lv_at hl 3 rfl) ?_
      refine m_getA C hm hW 9 (by decide) rfl tw_5_212 dX8_tells_104 ?_
      refine lv_aload_n hx hb dX8_tells_107 rfl (lv_at hl 3 rfl) ?_
      refine m_getI (v := 1) C hm hW 10 (by decide) rfl tw_5_213 rfl dX8_tells_108 ?_
      refine lv_aload_n hx hb dX8_tells_111 rfl (lv_at hl 3 rfl) ?_
      refine m_getA C hm hW 5 (by decide) rfl tw_5_208 dX8_tells_112 ?_
      refine lv_iload_n hx hb dX8_tells_115 rfl (lv_at hl 0 rfl) ?_
      refine m_cald (v := (fa1 5) 18) (j := 18) C hm hW 5 (by decide) rfl rfl (vp_in_nI (n := 18) (N := 24) (by decide) (by decide)) (by decide) rfl dX8_tells_116 ?_
      refine lv_topE (y := 73) ((h51 18 (by decide)).trans (by decide)) ?_
      refine m_cast (j := 1) C hm hW hS 9 (by decide) rfl rfl (vp_in_nI (n := 1) (N := 20) (by decide) (by decide)) (by decide) dX8_tells_117 (fun H locs hW hS => ?_)
      rw [rowu_same] at hW
      refine lv_aload_n hx hb dX8_tells_118 rfl (lv_at hl 3 rfl) ?_
      refine lv_dup hx hb dX8_tells_119 rfl ?_
      refine m_getI (v := 1) C hm hW 10 (by decide) rfl tw_5_213 rfl dX8_tells_120 ?_
      refine lv_iconst (v := 1) hx hb dX8_tells_123 (by decide) ?_
      refine lv_iadd hx hb dX8_tells_124 ?_
      refine lv_topE (y := 2) (by decide) ?_
      refine m_putI C hm hW hS 10 (by decide) rfl tw_5_213 dX8_tells_125 (fun H locs hW hS => ?_)
      rw [upd_same] at hW
      refine lv_iinc (v := 19) (lv' := [(3, .int 19), (2, .int 24), (1, .int 17), (0, .ref (ad (100, 0)))]) hx hb dX8_tells_128 hl (k := 0) rfl (by decide) (by decide) rfl (fun ls hl => ?_)
      refine lv_goto (tgt := 98) hx hb dX8_tells_131 (by decide) ?_
      refine lv_iload_n hx hb dX8_tells_98 rfl (lv_at hl 0 rfl) ?_
      refine lv_iload_n hx hb dX8_tells_99 rfl (lv_at hl 1 rfl) ?_
      refine lv_icmp_ge (tgt := 134) hx hb dX8_tells_100 (by decide) (fun c9 => absurd c9 (by decide)) (fun _ => ?_)
      refine lv_aload_n hx hb dX8_tells_103 rfl (lv_at hl 3 rfl) ?_
      refine m_getA C hm hW 9 (by decide) rfl tw_5_212 dX8_tells_104 ?_
      refine lv_aload_n hx hb dX8_tells_107 rfl (lv_at hl 3 rfl) ?_
      refine m_getI (v := 2) C hm hW 10 (by decide) rfl tw_5_213 rfl dX8_tells_108 ?_
      refine lv_aload_n hx hb dX8_tells_111 rfl (lv_at hl 3 rfl) ?_
      refine m_getA C hm hW 5 (by decide) rfl tw_5_208 dX8_tells_112 ?_
      refine lv_iload_n hx hb dX8_tells_115 rfl (lv_at hl 0 rfl) ?_
      refine m_cald (v := (fa1 5) 19) (j := 19) C hm hW 5 (by decide) rfl rfl (vp_in_nI (n := 19) (N := 24) (by decide) (by decide)) (by decide) rfl dX8_tells_116 ?_
      refine lv_topE (y := 83) ((h51 19 (by decide)).trans (by decide)) ?_
      refine m_cast (j := 2) C hm hW hS 9 (by decide) rfl rfl (vp_in_nI (n := 2) (N := 20) (by decide) (by decide)) (by decide) dX8_tells_117 (fun H locs hW hS => ?_)
      rw [rowu_same] at hW
      refine lv_aload_n hx hb dX8_tells_118 rfl (lv_at hl 3 rfl) ?_
      refine lv_dup hx hb dX8_tells_119 rfl ?_
      refine m_getI (v := 2) C hm hW 10 (by decide) rfl tw_5_213 rfl dX8_tells_120 ?_
      refine lv_iconst (v := 1) hx hb dX8_tells_123 (by decide) ?_
      refine lv_iadd hx hb dX8_tells_124 ?_
      refine lv_topE (y := 3) (by decide) ?_
      refine m_putI C hm hW hS 10 (by decide) rfl tw_5_213 dX8_tells_125 (fun H locs hW hS => ?_)
      rw [upd_same] at hW
      refine lv_iinc (v := 20) (lv' := [(3, .int 20), (2, .int 24), (1, .int 17), (0, .ref (ad (100, 0)))]) hx hb dX8_tells_128 hl (k := 0) rfl (by decide) (by decide) rfl (fun ls hl => ?_)
      refine lv_goto (tgt := 98) hx hb dX8_tells_131 (by decide) ?_
      refine lv_iload_n hx hb dX8_tells_98 rfl (lv_at hl 0 rfl) ?_
      refine lv_iload_n hx hb dX8_tells_99 rfl (lv_at hl 1 rfl) ?_
      refine lv_icmp_ge (tgt := 134) hx hb dX8_tells_100 (by decide) (fun c9 => absurd c9 (by decide)) (fun _ => ?_)
      refine lv_aload_n hx hb dX8_tells_103 rfl (lv_at hl 3 rfl) ?_
      refine m_getA C hm hW 9 (by decide) rfl tw_5_212 dX8_tells_104 ?_
      refine lv_aload_n hx hb dX8_tells_107 rfl (lv_at hl 3 rfl) ?_
      refine m_getI (v := 3) C hm hW 10 (by decide) rfl tw_5_213 rfl dX8_tells_108 ?_
      refine lv_aload_n hx hb dX8_tells_111 rfl (lv_at hl 3 rfl) ?_
      refine m_getA C hm hW 5 (by decide) rfl tw_5_208 dX8_tells_112 ?_
      refine lv_iload_n hx hb dX8_tells_115 rfl (lv_at hl 0 rfl) ?_
      refine m_cald (v := (fa1 5) 20) (j := 20) C hm hW 5 (by decide) rfl rfl (vp_in_nI (n := 20) (N := 24) (by decide) (by decide)) (by decide) rfl dX8_tells_116 ?_
      refine lv_topE (y := 83) ((h51 20 (by decide)).trans (by decide)) ?_
      refine m_cast (j := 3) C hm hW hS 9 (by decide) rfl rfl (vp_in_nI (n := 3) (N := 20) (by decide) (by decide)) (by decide) dX8_tells_117 (fun H locs hW hS => ?_)
      rw [rowu_same] at hW
      refine lv_aload_n hx hb dX8_tells_118 rfl (lv_at hl 3 rfl) ?_
      refine lv_dup hx hb dX8_tells_119 rfl ?_
      refine m_getI (v := 3) C hm hW 10 (by decide) rfl tw_5_213 rfl dX8_tells_120 ?_
      refine lv_iconst (v := 1) hx hb dX8_tells_123 (by decide) ?_
      refine lv_iadd hx hb dX8_tells_124 ?_
      refine lv_topE (y := 4) (by decide) ?_
      refine m_putI C hm hW hS 10 (by decide) rfl tw_5_213 dX8_tells_125 (fun H locs hW hS => ?_)
      rw [upd_same] at hW
      refine lv_iinc (v := 21) (lv' := [(3, .int 21), (2, .int 24), (1, .int 17), (0, .ref (ad (100, 0)))]) hx hb dX8_tells_128 hl (k := 0) rfl (by decide) (by decide) rfl (fun ls hl => ?_)
      refine lv_goto (tgt := 98) hx hb dX8_tells_131 (by decide) ?_
      refine lv_iload_n hx hb dX8_tells_98 rfl (lv_at hl 0 rfl) ?_
      refine lv_iload_n hx hb dX8_tells_99 rfl (lv_at hl 1 rfl) ?_
      refine lv_icmp_ge (tgt := 134) hx hb dX8_tells_100 (by decide) (fun c9 => absurd c9 (by decide)) (fun _ => ?_)
      refine lv_aload_n hx hb dX8_tells_103 rfl (lv_at hl 3 rfl) ?_
      refine m_getA C hm hW 9 (by decide) rfl tw_5_212 dX8_tells_104 ?_
      refine lv_aload_n hx hb dX8_tells_107 rfl (lv_at hl 3 rfl) ?_
      refine m_getI (v := 4) C hm hW 10 (by decide) rfl tw_5_213 rfl dX8_tells_108 ?_
      refine lv_aload_n hx hb dX8_tells_111 rfl (lv_at hl 3 rfl) ?_
      refine m_getA C hm hW 5 (by decide) rfl tw_5_208 dX8_tells_112 ?_
      refine lv_iload_n hx hb dX8_tells_115 rfl (lv_at hl 0 rfl) ?_
      refine m_cald (v := (fa1 5) 21) (j := 21) C hm hW 5 (by decide) rfl rfl (vp_in_nI (n := 21) (N := 24) (by decide) (by decide)) (by decide) rfl dX8_tells_116 ?_
      refine lv_topE (y := 73) ((h51 21 (by decide)).trans (by decide)) ?_
      refine m_cast (j := 4) C hm hW hS 9 (by decide) rfl rfl (vp_in_nI (n := 4) (N := 20) (by decide) (by decide)) (by decide) dX8_tells_117 (fun H locs hW hS => ?_)
      rw [rowu_same] at hW
      refine lv_aload_n hx hb dX8_tells_118 rfl (lv_at hl 3 rfl) ?_
      refine lv_dup hx hb dX8_tells_119 rfl ?_
      refine m_getI (v := 4) C hm hW 10 (by decide) rfl tw_5_213 rfl dX8_tells_120 ?_
      refine lv_iconst (v := 1) hx hb dX8_tells_123 (by decide) ?_
      refine lv_iadd hx hb dX8_tells_124 ?_
      refine lv_topE (y := 5) (by decide) ?_
      refine m_putI C hm hW hS 10 (by decide) rfl tw_5_213 dX8_tells_125 (fun H locs hW hS => ?_)
      rw [upd_same] at hW
      refine lv_iinc (v := 22) (lv' := [(3, .int 22), (2, .int 24), (1, .int 17), (0, .ref (ad (100, 0)))]) hx hb dX8_tells_128 hl (k := 0) rfl (by decide) (by decide) rfl (fun ls hl => ?_)
      refine lv_goto (tgt := 98) hx hb dX8_tells_131 (by decide) ?_
      refine lv_iload_n hx hb dX8_tells_98 rfl (lv_at hl 0 rfl) ?_
      refine lv_iload_n hx hb dX8_tells_99 rfl (lv_at hl 1 rfl) ?_
      refine lv_icmp_ge (tgt := 134) hx hb dX8_tells_100 (by decide) (fun c9 => absurd c9 (by decide)) (fun _ => ?_)
      refine lv_aload_n hx hb dX8_tells_103 rfl (lv_at hl 3 rfl) ?_
      refine m_getA C hm hW 9 (by decide) rfl tw_5_212 dX8_tells_104 ?_
      refine lv_aload_n hx hb dX8_tells_107 rfl (lv_at hl 3 rfl) ?_
      refine m_getI (v := 5) C hm hW 10 (by decide) rfl tw_5_213 rfl dX8_tells_108 ?_
      refine lv_aload_n hx hb dX8_tells_111 rfl (lv_at hl 3 rfl) ?_
      refine m_getA C hm hW 5 (by decide) rfl tw_5_208 dX8_tells_112 ?_
      refine lv_iload_n hx hb dX8_tells_115 rfl (lv_at hl 0 rfl) ?_
      refine m_cald (v := (fa1 5) 22) (j := 22) C hm hW 5 (by decide) rfl rfl (vp_in_nI (n := 22) (N := 24) (by decide) (by decide)) (by decide) rfl dX8_tells_116 ?_
      refine lv_topE (y := 78) ((h51 22 (by decide)).trans (by decide)) ?_
      refine m_cast (j := 5) C hm hW hS 9 (by decide) rfl rfl (vp_in_nI (n := 5) (N := 20) (by decide) (by decide)) (by decide) dX8_tells_117 (fun H locs hW hS => ?_)
      rw [rowu_same] at hW
      refine lv_aload_n hx hb dX8_tells_118 rfl (lv_at hl 3 rfl) ?_
      refine lv_dup hx hb dX8_tells_119 rfl ?_
      refine m_getI (v := 5) C hm hW 10 (by decide) rfl tw_5_213 rfl dX8_tells_120 ?_
      refine lv_iconst (v := 1) hx hb dX8_tells_123 (by decide) ?_
      refine lv_iadd hx hb dX8_tells_124 ?_
      refine lv_topE (y := 6) (by decide) ?_
      refine m_putI C hm hW hS 10 (by decide) rfl tw_5_213 dX8_tells_125 (fun H locs hW hS => ?_)
      rw [upd_same] at hW
      refine lv_iinc (v := 23) (lv' := [(3, .int 23), (2, .int 24), (1, .int 17), (0, .ref (ad (100, 0)))]) hx hb dX8_tells_128 hl (k := 0) rfl (by decide) (by decide) rfl (fun ls hl => ?_)
      refine lv_goto (tgt := 98) hx hb dX8_tells_131 (by decide) ?_
      refine lv_iload_n hx hb dX8_tells_98 rfl (lv_at hl 0 rfl) ?_
      refine lv_iload_n hx hb dX8_tells_99 rfl (lv_at hl 1 rfl) ?_
      refine lv_icmp_ge (tgt := 134) hx hb dX8_tells_100 (by decide) (fun c9 => absurd c9 (by decide)) (fun _ => ?_)
      refine lv_aload_n hx hb dX8_tells_103 rfl (lv_at hl 3 rfl) ?_
      refine m_getA C hm hW 9 (by decide) rfl tw_5_212 dX8_tells_104 ?_
      refine lv_aload_n hx hb dX8_tells_107 rfl (lv_at hl 3 rfl) ?_
      refine m_getI (v := 6) C hm hW 10 (by decide) rfl tw_5_213 rfl dX8_tells_108 ?_
      refine lv_aload_n hx hb dX8_tells_111 rfl (lv_at hl 3 rfl) ?_
      refine m_getA C hm hW 5 (by decide) rfl tw_5_208 dX8_tells_112 ?_
      refine lv_iload_n hx hb dX8_tells_115 rfl (lv_at hl 0 rfl) ?_
      refine m_cald (v := (fa1 5) 23) (j := 23) C hm hW 5 (by decide) rfl rfl (vp_in_nI (n := 23) (N := 24) (by decide) (by decide)) (by decide) rfl dX8_tells_116 ?_
      refine lv_topE (y := 71) ((h51 23 (by decide)).trans (by decide)) ?_
      refine m_cast (j := 6) C hm hW hS 9 (by decide) rfl rfl (vp_in_nI (n := 6) (N := 20) (by decide) (by decide)) (by decide) dX8_tells_117 (fun H locs hW hS => ?_)
      rw [rowu_same] at hW
      refine lv_aload_n hx hb dX8_tells_118 rfl (lv_at hl 3 rfl) ?_
      refine lv_dup hx hb dX8_tells_119 rfl ?_
      refine m_getI (v := 6) C hm hW 10 (by decide) rfl tw_5_213 rfl dX8_tells_120 ?_
      refine lv_iconst (v := 1) hx hb dX8_tells_123 (by decide) ?_
      refine lv_iadd hx hb dX8_tells_124 ?_
      refine lv_topE (y := 7) (by decide) ?_
      refine m_putI C hm hW hS 10 (by decide) rfl tw_5_213 dX8_tells_125 (fun H locs hW hS => ?_)
      rw [upd_same] at hW
      refine lv_iinc (v := 24) (lv' := [(3, .int 24), (2, .int 24), (1, .int 17), (0, .ref (ad (100, 0)))]) hx hb dX8_tells_128 hl (k := 0) rfl (by decide) (by decide) rfl (fun ls hl => ?_)
      refine lv_goto (tgt := 98) hx hb dX8_tells_131 (by decide) ?_
      refine lv_iload_n hx hb dX8_tells_98 rfl (lv_at hl 0 rfl) ?_
      refine lv_iload_n hx hb dX8_tells_99 rfl (lv_at hl 1 rfl) ?_
      refine lv_icmp_ge (tgt := 134) hx hb dX8_tells_100 (by decide) (fun _ => ?_) (fun c9 => absurd (by decide) c9)
      refine lv_aload_n hx hb dX8_tells_134 rfl (lv_at hl 3 rfl) ?_
      refine m_getA C hm hW 9 (by decide) rfl tw_5_212 dX8_tells_135 ?_
      refine lv_aload_n hx hb dX8_tells_138 rfl (lv_at hl 3 rfl) ?_
      refine m_getI (v := 7) C hm hW 10 (by decide) rfl tw_5_213 rfl dX8_tells_139 ?_
      refine lv_bipush (v := 32) hx hb dX8_tells_142 (by decide) ?_
      refine m_cast (j := 7) C hm hW hS 9 (by decide) rfl rfl (vp_in_nI (n := 7) (N := 20) (by decide) (by decide)) (by decide) dX8_tells_144 (fun H locs hW hS => ?_)
      rw [rowu_same] at hW
      refine lv_aload_n hx hb dX8_tells_145 rfl (lv_at hl 3 rfl) ?_
      refine lv_dup hx hb dX8_tells_146 rfl ?_
      refine m_getI (v := 7) C hm hW 10 (by decide) rfl tw_5_213 rfl dX8_tells_147 ?_
      refine lv_iconst (v := 1) hx hb dX8_tells_150 (by decide) ?_
      refine lv_iadd hx hb dX8_tells_151 ?_
      refine lv_topE (y := 8) (by decide) ?_
      refine m_putI C hm hW hS 10 (by decide) rfl tw_5_213 dX8_tells_152 (fun H locs hW hS => ?_)
      rw [upd_same] at hW
      refine lv_aload_n hx hb dX8_tells_155 rfl (lv_at hl 3 rfl) ?_
      refine m_getI (v := 4) C hm hW 7 (by decide) rfl tw_5_210 (e7.trans q1) dX8_tells_156 ?_
      refine lv_iconst (v := 1) hx hb dX8_tells_159 (by decide) ?_
      refine lv_icmp_ne (tgt := 202) hx hb dX8_tells_160 (by decide) (fun _ => ?_) (fun c9 => absurd c9 (by decide))
      refine lv_aload_n hx hb dX8_tells_202 rfl (lv_at hl 3 rfl) ?_
      refine m_getA C hm hW 9 (by decide) rfl tw_5_212 dX8_tells_203 ?_
      refine lv_aload_n hx hb dX8_tells_206 rfl (lv_at hl 3 rfl) ?_
      refine m_getI (v := 8) C hm hW 10 (by decide) rfl tw_5_213 rfl dX8_tells_207 ?_
      refine lv_aload_n hx hb dX8_tells_210 rfl (lv_at hl 3 rfl) ?_
      refine m_getI (v := 4) C hm hW 7 (by decide) rfl tw_5_210 (e7.trans q1) dX8_tells_211 ?_
      refine lv_iconst (v := 1) hx hb dX8_tells_214 (by decide) ?_
      refine lv_icmp_ne (tgt := 232) hx hb dX8_tells_215 (by decide) (fun _ => ?_) (fun c9 => absurd c9 (by decide))
      refine lv_aload_n hx hb dX8_tells_232 rfl (lv_at hl 3 rfl) ?_
      refine m_getA C hm hW 4 (by decide) rfl tw_5_207 dX8_tells_233 ?_
      refine lv_aload_n hx hb dX8_tells_236 rfl (lv_at hl 3 rfl) ?_
      refine m_getI (v := nI j) C hm hW 8 (by decide) rfl tw_5_211 ((e8 r0).trans e1) dX8_tells_237 ?_
      refine m_cald (v := (fa1 4) j) (j := j) C hm hW 4 (by decide) rfl rfl (vp_in_nI (N := 6) (by omega) (by decide)) (nI_clamp (by omega)) rfl dX8_tells_240 ?_
      refine lv_topE (y := keyc j) (h41 j hj) ?_
      refine m_cast (j := 8) C hm hW hS 9 (by decide) rfl rfl (vp_in_nI (n := 8) (N := 20) (by decide) (by decide)) (by decide) dX8_tells_241 (fun H locs hW hS => ?_)
      rw [rowu_same] at hW
      refine lv_aload_n hx hb dX8_tells_242 rfl (lv_at hl 3 rfl) ?_
      refine lv_dup hx hb dX8_tells_243 rfl ?_
      refine m_getI (v := 8) C hm hW 10 (by decide) rfl tw_5_213 rfl dX8_tells_244 ?_
      refine lv_iconst (v := 1) hx hb dX8_tells_247 (by decide) ?_
      refine lv_iadd hx hb dX8_tells_248 ?_
      refine lv_topE (y := 9) (by decide) ?_
      refine m_putI C hm hW hS 10 (by decide) rfl tw_5_213 dX8_tells_249 (fun H locs hW hS => ?_)
      rw [upd_same] at hW
      exact g_vret2 C hQ hW hS ⟨_, _, rfl, (fun j q1 q2 q3 => by simp only [upd]; rw [if_neg q3, fr j q1 q2]; simp [upd, q3]), (fun a q1 q2 => by simp only [rowu]; rw [if_neg q2]; exact fra a q1), by rw [q1]; rfl, (fun i hi => by rw [q1] at hi; have hi9 : i < 9 := hi; rw [q1, e1]; rcases (show i = 0 ∨ i = 1 ∨ i = 2 ∨ i = 3 ∨ i = 4 ∨ i = 5 ∨ i = 6 ∨ i = 7 ∨ i = 8 by omega) with rfl | rfl | rfl | rfl | rfl | rfl | rfl | rfl | rfl <;> first | rfl | decide | exact vp_nark.trans (by show _ = keyc (nI j).toNatClampNeg; rw [nI_clamp (by omega)]))⟩ (Nat.zero_le _) (Nat.zero_le _) dX8_tells_252

