def mAr : List ro := [(101, 2), (101, 4), (101, 5), (101, 6), (101, 9), (101, 11), (101, 12), (101, 13), (101, 14), (101, 15), (101, 16), (101, 17), (101, 18), (101, 19), (101, 20), (101, 21), (101, 24), (101, 25), (101, 26), (101, 27), (101, 28), (101, 29), (101, 30), (101, 31), (101, 33), (101, 34), (101, 35), (101, 36), (101, 37), (101, 38), (101, 39), (101, 40), (101, 41), (101, 43), (101, 44), (101, 45), (101, 46)]
set_option maxHeartbeats 4000000 in
set_option maxRecDepth 100000 in
theorem c_X8_init (l : Launch) (X : GX) (L : List ro) (ad : ro → Nat) (st : ro → va_E) (hmo : (100, 0) ∈ L) (hno : ∀ k, (101, k) ∉ L) (hst0 : st (100, 0) = .inr (11, mP ad 0)) : gMv l yX8_init cX8_init 2 none 1 12 37 11420 X [.ref (ad (100, 0))] L ad st (fun u => ∃ ad' fa', u = (L ++ mAr, ad', mSt X ad' st (fun _ => 0) fa') ∧ (∀ r : ro, r.1 ≠ 101 → ad' r = ad r) ∧ (∀ k, k ≠ 4 → k ≠ 5 → k ≠ 11 → k ≠ 12 → k ≠ 19 → k ≠ 20 → k ≠ 21 → k ≠ 28 → fa' k = fun _ => 0) ∧ (∀ k, k < 6 → fa' 4 k = keyc k) ∧ (∀ k, k < 24 → fa' 5 k = wordc k) ∧ (∀ i, i < 6 → fa' 11 i = 10 ∧ fa' 12 i = 60) ∧ (∀ i, i < 4 → fa' 19 i = 500 ∧ fa' 20 i = 100 ∧ fa' 21 i = 20) ∧ (∀ z, z < 1536 → fa' 28 z = -1)) := by
  intro sz
  refine gM_of2 (Qc := fun A => va_Qv _ (gB X A) A) (by decide) (Nat.le_of_ble_eq_true rfl) ?_ sz
  intro p e s m args below meth c A R Q hR hQ C hW hS ls hl
  obtain ⟨hR1, hR2, hR3, hR4⟩ := hR
  have hx := C.1.1
  have hb := C.1.2.1
  have hml := C.1.2.2.1
  have hl : lv_has ls 2 [(0, .ref (ad (100, 0)))] := hl
  have hW : gW X A L ad (pSt X ad st 0 (fun _ _ => 0)) s s.heap := gW_congr (fun r hr => if e1 : r = (100, 0) then (by rw [e1, hst0, pSt_obj]) else if e2 : r.1 = 101 then absurd (show ((101, r.2) : ro) ∈ L by rw [← e2]; exact hr) (hno r.2) else (by simp [pSt, e1, e2])) hW
  refine lv_aload_n hx hb dX8_init_0 rfl (lv_at hl 0 rfl) ?_
  refine W.objInit hx hb C.1.2.2.2.1 (C.1.2.2.2.2 _ oi_link) (C.1.2.2.2.2 _ oi_inst) (C.1.2.2.2.2 _ oi_code) rfl (by rw [hml]; exact hl.1) rfl dX8_init_1 (by rw [hR1]; exact Nat.le_of_ble_eq_true rfl) (by rw [hR2]; exact Nat.le_of_ble_eq_true rfl) ?_
  refine W.eq (g2 := F0 m 4 ls []) rfl ?_
  refine lv_aload_n hx hb dX8_init_4 rfl (lv_at hl 0 rfl) ?_
  refine lv_bipush (v := 60) hx hb dX8_init_5 (by decide) ?_
  refine m_newK (k := 0) (atype := .char) C hW hS 2 (by decide) (by simp [hno]) tw_1_64 rfl rfl (fun _ => rfl) (by decide) (by decide) (by decide) (by rw [hR3]; exact Nat.le_of_ble_eq_true rfl) (by rw [hR4]; exact Nat.le_of_ble_eq_true rfl) dX8_init_7 (fun ad1 H h1 hW hS => ?_)
  rw [← h1 (100, 0) (by decide)] at hl ⊢
  have hl : lv_has ls 2 [(0, .ref (ad1 (100, 0)))] := hl
  rw [rowu_zero rfl] at hW
  refine m_putK C hW hS 2 (by simp [hmo]) (by decide) (by decide) (fun j a1 a2 => by rcases (show j = 0 ∨ j = 1 by omega) with rfl | rfl <;> rfl) rfl tw_5_205 rfl rfl rfl rfl dX8_init_9 (fun H locs hW hS => ?_)
  refine W.eq (g2 := F0 m 12 ls []) rfl ?_
  refine W.widen (k := 1) (n := 60) (Nat.le_of_ble_eq_true rfl) (Nat.le_of_ble_eq_true rfl) ?_
  refine lv_aload_n hx hb dX8_init_12 rfl (lv_at hl 0 rfl) ?_
  refine lv_bipush (v := 6) hx hb dX8_init_13 (by decide) ?_
  refine m_newK (k := 0) (atype := .char) C hW hS 4 (by decide) (by simp [hno]) tw_1_64 rfl rfl (fun _ => rfl) (by decide) (by decide) (by decide) (by rw [hR3]; exact Nat.le_of_ble_eq_true rfl) (by rw [hR4]; exact Nat.le_of_ble_eq_true rfl) dX8_init_15 (fun ad2 H h2 hW hS => ?_)
  rw [← h2 (100, 0) (by decide)] at hl ⊢
  have hl : lv_has ls 2 [(0, .ref (ad2 (100, 0)))] := hl
  rw [rowu_zero rfl] at hW
  refine lv_dup hx hb dX8_init_17 rfl ?_
  refine lv_iconst (v := 0) hx hb dX8_init_18 (by decide) ?_
  refine lv_bipush (v := 83) hx hb dX8_init_19 (by decide) ?_
  refine m_castK (j := 0) C hW hS 4 (by simp) rfl (vp_in_nI (n := 0) (N := 6) (by decide) (by decide)) (by decide) rfl dX8_init_21 (fun H locs hW hS => ?_)
  try rw [rowu_same] at hW
  refine W.eq (g2 := F0 m 22 ls [.ref (ad2 (101, 4)), .ref (ad2 (100, 0))]) rfl ?_
  refine lv_dup hx hb dX8_init_22 rfl ?_
  refine lv_iconst (v := 1) hx hb dX8_init_23 (by decide) ?_
  refine lv_bipush (v := 67) hx hb dX8_init_24 (by decide) ?_
  refine m_castK (j := 1) C hW hS 4 (by simp) rfl (vp_in_nI (n := 1) (N := 6) (by decide) (by decide)) (by decide) rfl dX8_init_26 (fun H locs hW hS => ?_)
  try rw [rowu_same] at hW
  refine W.eq (g2 := F0 m 27 ls [.ref (ad2 (101, 4)), .ref (ad2 (100, 0))]) rfl ?_
  refine lv_dup hx hb dX8_init_27 rfl ?_
  refine lv_iconst (v := 2) hx hb dX8_init_28 (by decide) ?_
  refine lv_bipush (v := 70) hx hb dX8_init_29 (by decide) ?_
  refine m_castK (j := 2) C hW hS 4 (by simp) rfl (vp_in_nI (n := 2) (N := 6) (by decide) (by decide)) (by decide) rfl dX8_init_31 (fun H locs hW hS => ?_)
  try rw [rowu_same] at hW
  refine W.eq (g2 := F0 m 32 ls [.ref (ad2 (101, 4)), .ref (ad2 (100, 0))]) rfl ?_
  refine lv_dup hx hb dX8_init_32 rfl ?_
  refine lv_iconst (v := 3) hx hb dX8_init_33 (by decide) ?_
  refine lv_bipush (v := 84) hx hb dX8_init_34 (by decide) ?_
  refine m_castK (j := 3) C hW hS 4 (by simp) rfl (vp_in_nI (n := 3) (N := 6) (by decide) (by decide)) (by decide) rfl dX8_init_36 (fun H locs hW hS => ?_)
  try rw [rowu_same] at hW
  refine W.eq (g2 := F0 m 37 ls [.ref (ad2 (101, 4)), .ref (ad2 (100, 0))]) rfl ?_
  refine lv_dup hx hb dX8_init_37 rfl ?_
  refine lv_iconst (v := 4) hx hb dX8_init_38 (by decide) ?_
  refine lv_bipush (v := 87) hx hb dX8_init_39 (by decide) ?_
  refine m_castK (j := 4) C hW hS 4 (by simp) rfl (vp_in_nI (n := 4) (N := 6) (by decide) (by decide)) (by decide) rfl dX8_init_41 (fun H locs hW hS => ?_)
  try rw [rowu_same] at hW
  refine W.eq (g2 := F0 m 42 ls [.ref (ad2 (101, 4)), .ref (ad2 (100, 0))]) rfl ?_
  refine lv_dup hx hb dX8_init_42 rfl ?_
  refine lv_iconst (v := 5) hx hb dX8_init_43 (by decide) ?_
  refine lv_bipush (v := 88) hx hb dX8_init_44 (by decide) ?_
  refine m_castK (j := 5) C hW hS 4 (by simp) rfl (vp_in_nI (n := 5) (N := 6) (by decide) (by decide)) (by decide) rfl dX8_init_46 (fun H locs hW hS => ?_)
  try rw [rowu_same] at hW
  refine W.eq (g2 := F0 m 47 ls [.ref (ad2 (101, 4)), .ref (ad2 (100, 0))]) rfl ?_
  refine m_putK C hW hS 4 (by simp [hmo]) (by decide) (by decide) (fun j a1 a2 => by rcases (show j = 3 by omega) with rfl <;> rfl) rfl tw_5_207 rfl rfl rfl rfl dX8_init_47 (fun H locs hW hS => ?_)
  refine W.eq (g2 := F0 m 50 ls []) rfl ?_
  refine W.widen (k := 2) (n := 66) (Nat.le_of_ble_eq_true rfl) (Nat.le_of_ble_eq_true rfl) ?_
  obtain ⟨fa4, hz4, hk4, hW⟩ : ∃ f : Nat → Nat → Int32, (∀ k, k ≠ 4 → f k = fun _ => 0) ∧ (∀ k, k < 6 → f 4 k = keyc k) ∧ gW X A (L ++ [(101, 2)] ++ [(101, 4)]) ad2 (pSt X ad2 st 5 f) s H := ⟨_, (fun k q => rowu_ne q), (fun k hk => by rcases (show k = 0 ∨ k = 1 ∨ k = 2 ∨ k = 3 ∨ k = 4 ∨ k = 5 by omega) with rfl | rfl | rfl | rfl | rfl | rfl <;> rfl), hW⟩
  refine lv_aload_n hx hb dX8_init_50 rfl (lv_at hl 0 rfl) ?_
  refine lv_bipush (v := 24) hx hb dX8_init_51 (by decide) ?_
  refine m_newK (k := 0) (atype := .char) C hW hS 5 (by decide) (by simp [hno]) tw_1_64 rfl rfl (fun _ => rfl) (by decide) (by decide) (by decide) (by rw [hR3]; exact Nat.le_of_ble_eq_true rfl) (by rw [hR4]; exact Nat.le_of_ble_eq_true rfl) dX8_init_53 (fun ad3 H h3 hW hS => ?_)
  rw [← h3 (100, 0) (by decide)] at hl ⊢
  have hl : lv_has ls 2 [(0, .ref (ad3 (100, 0)))] := hl
  rw [rowu_zero (hz4 5 (by decide))] at hW
  refine lv_dup hx hb dX8_init_55 rfl ?_
  refine lv_iconst (v := 0) hx hb dX8_init_56 (by decide) ?_
  refine lv_bipush (v := 85) hx hb dX8_init_57 (by decide) ?_
  refine m_castK (j := 0) C hW hS 5 (by simp) rfl (vp_in_nI (n := 0) (N := 24) (by decide) (by decide)) (by decide) rfl dX8_init_59 (fun H locs hW hS => ?_)
  try rw [rowu_same] at hW
  refine W.eq (g2 := F0 m 60 ls [.ref (ad3 (101, 5)), .ref (ad3 (100, 0))]) rfl ?_
  refine lv_dup hx hb dX8_init_60 rfl ?_
  refine lv_iconst (v := 1) hx hb dX8_init_61 (by decide) ?_
  refine lv_bipush (v := 78) hx hb dX8_init_62 (by decide) ?_
  refine m_castK (j := 1) C hW hS 5 (by simp) rfl (vp_in_nI (n := 1) (N := 24) (by decide) (by decide)) (by decide) rfl dX8_init_64 (fun H locs hW hS => ?_)
  try rw [rowu_same] at hW
  refine W.eq (g2 := F0 m 65 ls [.ref (ad3 (101, 5)), .ref (ad3 (100, 0))]) rfl ?_
  refine lv_dup hx hb dX8_init_65 rfl ?_
  refine lv_iconst (v := 2) hx hb dX8_init_66 (by decide) ?_
  refine lv_bipush (v := 75) hx hb dX8_init_67 (by decide) ?_
  refine m_castK (j := 2) C hW hS 5 (by simp) rfl (vp_in_nI (n := 2) (N := 24) (by decide) (by decide)) (by decide) rfl dX8_init_69 (fun H locs hW hS => ?_)
  try rw [rowu_same] at hW
  refine W.eq (g2 := F0 m 70 ls [.ref (ad3 (101, 5)), .ref (ad3 (100, 0))]) rfl ?_
  refine lv_dup hx hb dX8_init_70 rfl ?_
  refine lv_iconst (v := 3) hx hb dX8_init_71 (by decide) ?_
  refine lv_bipush (v := 78) hx hb dX8_init_72 (by decide) ?_
  refine m_castK (j := 3) C hW hS 5 (by simp) rfl (vp_in_nI (n := 3) (N := 24) (by decide) (by decide)) (by decide) rfl dX8_init_74 (fun H locs hW hS => ?_)
  try rw [rowu_same] at hW
  refine W.eq (g2 := F0 m 75 ls [.ref (ad3 (101, 5)), .ref (ad3 (100, 0))]) rfl ?_
  refine lv_dup hx hb dX8_init_75 rfl ?_
  refine lv_iconst (v := 4) hx hb dX8_init_76 (by decide) ?_
  refine lv_bipush (v := 79) hx hb dX8_init_77 (by decide) ?_
  refine m_castK (j := 4) C hW hS 5 (by simp) rfl (vp_in_nI (n := 4) (N := 24) (by decide) (by decide)) (by decide) rfl dX8_init_79 (fun H locs hW hS => ?_)
  try rw [rowu_same] at hW
  refine W.eq (g2 := F0 m 80 ls [.ref (ad3 (101, 5)), .ref (ad3 (100, 0))]) rfl ?_
  refine lv_dup hx hb dX8_init_80 rfl ?_
  refine lv_iconst (v := 5) hx hb dX8_init_81 (by decide) ?_
  refine lv_bipush (v := 87) hx hb dX8_init_82 (by decide) ?_
  refine m_castK (j := 5) C hW hS 5 (by simp) rfl (vp_in_nI (n := 5) (N := 24) (by decide) (by decide)) (by decide) rfl dX8_init_84 (fun H locs hW hS => ?_)
  try rw [rowu_same] at hW
  refine W.eq (g2 := F0 m 85 ls [.ref (ad3 (101, 5)), .ref (ad3 (100, 0))]) rfl ?_
  refine lv_dup hx hb dX8_init_85 rfl ?_
  refine lv_bipush (v := 6) hx hb dX8_init_86 (by decide) ?_
  refine lv_bipush (v := 78) hx hb dX8_init_88 (by decide) ?_
  refine m_castK (j := 6) C hW hS 5 (by simp) rfl (vp_in_nI (n := 6) (N := 24) (by decide) (by decide)) (by decide) rfl dX8_init_90 (fun H locs hW hS => ?_)
  try rw [rowu_same] at hW
  refine W.eq (g2 := F0 m 91 ls [.ref (ad3 (101, 5)), .ref (ad3 (100, 0))]) rfl ?_
  refine lv_dup hx hb dX8_init_91 rfl ?_
  refine lv_bipush (v := 7) hx hb dX8_init_92 (by decide) ?_
  refine lv_bipush (v := 68) hx hb dX8_init_94 (by decide) ?_
  refine m_castK (j := 7) C hW hS 5 (by simp) rfl (vp_in_nI (n := 7) (N := 24) (by decide) (by decide)) (by decide) rfl dX8_init_96 (fun H locs hW hS => ?_)
  try rw [rowu_same] at hW
  refine W.eq (g2 := F0 m 97 ls [.ref (ad3 (101, 5)), .ref (ad3 (100, 0))]) rfl ?_
  refine lv_dup hx hb dX8_init_97 rfl ?_
  refine lv_bipush (v := 8) hx hb dX8_init_98 (by decide) ?_
  refine lv_bipush (v := 79) hx hb dX8_init_100 (by decide) ?_
  refine m_castK (j := 8) C hW hS 5 (by simp) rfl (vp_in_nI (n := 8) (N := 24) (by decide) (by decide)) (by decide) rfl dX8_init_102 (fun H locs hW hS => ?_)
  try rw [rowu_same] at hW
  refine W.eq (g2 := F0 m 103 ls [.ref (ad3 (101, 5)), .ref (ad3 (100, 0))]) rfl ?_
  refine lv_dup hx hb dX8_init_103 rfl ?_
  refine lv_bipush (v := 9) hx hb dX8_init_104 (by decide) ?_
  refine lv_bipush (v := 85) hx hb dX8_init_106 (by decide) ?_
  refine m_castK (j := 9) C hW hS 5 (by simp) rfl (vp_in_nI (n := 9) (N := 24) (by decide) (by decide)) (by decide) rfl dX8_init_108 (fun H locs hW hS => ?_)
  try rw [rowu_same] at hW
  refine W.eq (g2 := F0 m 109 ls [.ref (ad3 (101, 5)), .ref (ad3 (100, 0))]) rfl ?_
  refine lv_dup hx hb dX8_init_109 rfl ?_
  refine lv_bipush (v := 10) hx hb dX8_init_110 (by decide) ?_
  refine lv_bipush (v := 66) hx hb dX8_init_112 (by decide) ?_
  refine m_castK (j := 10) C hW hS 5 (by simp) rfl (vp_in_nI (n := 10) (N := 24) (by decide) (by decide)) (by decide) rfl dX8_init_114 (fun H locs hW hS => ?_)
  try rw [rowu_same] at hW
  refine W.eq (g2 := F0 m 115 ls [.ref (ad3 (101, 5)), .ref (ad3 (100, 0))]) rfl ?_
  refine lv_dup hx hb dX8_init_115 rfl ?_
  refine lv_bipush (v := 11) hx hb dX8_init_116 (by decide) ?_
  refine lv_bipush (v := 76) hx hb dX8_init_118 (by decide) ?_
  refine m_castK (j := 11) C hW hS 5 (by simp) rfl (vp_in_nI (n := 11) (N := 24) (by decide) (by decide)) (by decide) rfl dX8_init_120 (fun H locs hW hS => ?_)
  try rw [rowu_same] at hW
  refine W.eq (g2 := F0 m 121 ls [.ref (ad3 (101, 5)), .ref (ad3 (100, 0))]) rfl ?_
  refine lv_dup hx hb dX8_init_121 rfl ?_
  refine lv_bipush (v := 12) hx hb dX8_init_122 (by decide) ?_
  refine lv_bipush (v := 69) hx hb dX8_init_124 (by decide) ?_
  refine m_castK (j := 12) C hW hS 5 (by simp) rfl (vp_in_nI (n := 12) (N := 24) (by decide) (by decide)) (by decide) rfl dX8_init_126 (fun H locs hW hS => ?_)
  try rw [rowu_same] at hW
  refine W.eq (g2 := F0 m 127 ls [.ref (ad3 (101, 5)), .ref (ad3 (100, 0))]) rfl ?_
  refine lv_dup hx hb dX8_init_127 rfl ?_
  refine lv_bipush (v := 13) hx hb dX8_init_128 (by decide) ?_
  refine lv_bipush (v := 68) hx hb dX8_init_130 (by decide) ?_
  refine m_castK (j := 13) C hW hS 5 (by simp) rfl (vp_in_nI (n := 13) (N := 24) (by decide) (by decide)) (by decide) rfl dX8_init_132 (fun H locs hW hS => ?_)
  try rw [rowu_same] at hW
  refine W.eq (g2 := F0 m 133 ls [.ref (ad3 (101, 5)), .ref (ad3 (100, 0))]) rfl ?_
  refine lv_dup hx hb dX8_init_133 rfl ?_
  refine lv_bipush (v := 14) hx hb dX8_init_134 (by decide) ?_
  refine lv_bipush (v := 66) hx hb dX8_init_136 (by decide) ?_
  refine m_castK (j := 14) C hW hS 5 (by simp) rfl (vp_in_nI (n := 14) (N := 24) (by decide) (by decide)) (by decide) rfl dX8_init_138 (fun H locs hW hS => ?_)
  try rw [rowu_same] at hW
  refine W.eq (g2 := F0 m 139 ls [.ref (ad3 (101, 5)), .ref (ad3 (100, 0))]) rfl ?_
  refine lv_dup hx hb dX8_init_139 rfl ?_
  refine lv_bipush (v := 15) hx hb dX8_init_140 (by decide) ?_
  refine lv_bipush (v := 65) hx hb dX8_init_142 (by decide) ?_
  refine m_castK (j := 15) C hW hS 5 (by simp) rfl (vp_in_nI (n := 15) (N := 24) (by decide) (by decide)) (by decide) rfl dX8_init_144 (fun H locs hW hS => ?_)
  try rw [rowu_same] at hW
  refine W.eq (g2 := F0 m 145 ls [.ref (ad3 (101, 5)), .ref (ad3 (100, 0))]) rfl ?_
  refine lv_dup hx hb dX8_init_145 rfl ?_
  refine lv_bipush (v := 16) hx hb dX8_init_146 (by decide) ?_
  refine lv_bipush (v := 68) hx hb dX8_init_148 (by decide) ?_
  refine m_castK (j := 16) C hW hS 5 (by simp) rfl (vp_in_nI (n := 16) (N := 24) (by decide) (by decide)) (by decide) rfl dX8_init_150 (fun H locs hW hS => ?_)
  try rw [rowu_same] at hW
  refine W.eq (g2 := F0 m 151 ls [.ref (ad3 (101, 5)), .ref (ad3 (100, 0))]) rfl ?_
  refine lv_dup hx hb dX8_init_151 rfl ?_
  refine lv_bipush (v := 17) hx hb dX8_init_152 (by decide) ?_
  refine lv_bipush (v := 77) hx hb dX8_init_154 (by decide) ?_
  refine m_castK (j := 17) C hW hS 5 (by simp) rfl (vp_in_nI (n := 17) (N := 24) (by decide) (by decide)) (by decide) rfl dX8_init_156 (fun H locs hW hS => ?_)
  try rw [rowu_same] at hW
  refine W.eq (g2 := F0 m 157 ls [.ref (ad3 (101, 5)), .ref (ad3 (100, 0))]) rfl ?_
  refine lv_dup hx hb dX8_init_157 rfl ?_
  refine lv_bipush (v := 18) hx hb dX8_init_158 (by decide) ?_
  refine lv_bipush (v := 73) hx hb dX8_init_160 (by decide) ?_
  refine m_castK (j := 18) C hW hS 5 (by simp) rfl (vp_in_nI (n := 18) (N := 24) (by decide) (by decide)) (by decide) rfl dX8_init_162 (fun H locs hW hS => ?_)
  try rw [rowu_same] at hW
  refine W.eq (g2 := F0 m 163 ls [.ref (ad3 (101, 5)), .ref (ad3 (100, 0))]) rfl ?_
  refine lv_dup hx hb dX8_init_163 rfl ?_
  refine lv_bipush (v := 19) hx hb dX8_init_164 (by decide) ?_
  refine lv_bipush (v := 83) hx hb dX8_init_166 (by decide) ?_
  refine m_castK (j := 19) C hW hS 5 (by simp) rfl (vp_in_nI (n := 19) (N := 24) (by decide) (by decide)) (by decide) rfl dX8_init_168 (fun H locs hW hS => ?_)
  try rw [rowu_same] at hW
  refine W.eq (g2 := F0 m 169 ls [.ref (ad3 (101, 5)), .ref (ad3 (100, 0))]) rfl ?_
  refine lv_dup hx hb dX8_init_169 rfl ?_
  refine lv_bipush (v := 20) hx hb dX8_init_170 (by decide) ?_
  refine lv_bipush (v := 83) hx hb dX8_init_172 (by decide) ?_
  refine m_castK (j := 20) C hW hS 5 (by simp) rfl (vp_in_nI (n := 20) (N := 24) (by decide) (by decide)) (by decide) rfl dX8_init_174 (fun H locs hW hS => ?_)
  try rw [rowu_same] at hW
  refine W.eq (g2 := F0 m 175 ls [.ref (ad3 (101, 5)), .ref (ad3 (100, 0))]) rfl ?_
  refine lv_dup hx hb dX8_init_175 rfl ?_
  refine lv_bipush (v := 21) hx hb dX8_init_176 (by decide) ?_
  refine lv_bipush (v := 73) hx hb dX8_init_178 (by decide) ?_
  refine m_castK (j := 21) C hW hS 5 (by simp) rfl (vp_in_nI (n := 21) (N := 24) (by decide) (by decide)) (by decide) rfl dX8_init_180 (fun H locs hW hS => ?_)
  try rw [rowu_same] at hW
  refine W.eq (g2 := F0 m 181 ls [.ref (ad3 (101, 5)), .ref (ad3 (100, 0))]) rfl ?_
  refine lv_dup hx hb dX8_init_181 rfl ?_
  refine lv_bipush (v := 22) hx hb dX8_init_182 (by decide) ?_
  refine lv_bipush (v := 78) hx hb dX8_init_184 (by decide) ?_
  refine m_castK (j := 22) C hW hS 5 (by simp) rfl (vp_in_nI (n := 22) (N := 24) (by decide) (by decide)) (by decide) rfl dX8_init_186 (fun H locs hW hS => ?_)
  try rw [rowu_same] at hW
  refine W.eq (g2 := F0 m 187 ls [.ref (ad3 (101, 5)), .ref (ad3 (100, 0))]) rfl ?_
  refine lv_dup hx hb dX8_init_187 rfl ?_
  refine lv_bipush (v := 23) hx hb dX8_init_188 (by decide) ?_
  refine lv_bipush (v := 71) hx hb dX8_init_190 (by decide) ?_
  refine m_castK (j := 23) C hW hS 5 (by simp) rfl (vp_in_nI (n := 23) (N := 24) (by decide) (by decide)) (by decide) rfl dX8_init_192 (fun H locs hW hS => ?_)
  try rw [rowu_same] at hW
  refine W.eq (g2 := F0 m 193 ls [.ref (ad3 (101, 5)), .ref (ad3 (100, 0))]) rfl ?_
  refine m_putK C hW hS 5 (by simp [hmo]) (by decide) (by decide) (fun j a1 a2 => absurd a2 (by omega)) rfl tw_5_208 rfl rfl rfl rfl dX8_init_193 (fun H locs hW hS => ?_)
  refine W.eq (g2 := F0 m 196 ls []) rfl ?_
  refine W.widen (k := 3) (n := 90) (Nat.le_of_ble_eq_true rfl) (Nat.le_of_ble_eq_true rfl) ?_
  obtain ⟨faB, hB0, hB4, hB5, hW⟩ : ∃ f : Nat → Nat → Int32, (∀ k, k ≠ 4 ∧ k ≠ 5 → f k = fun _ => 0) ∧ (∀ k, k < 6 → f 4 k = keyc k) ∧ (∀ k, k < 24 → f 5 k = wordc k) ∧ gW X A (L ++ [(101, 2)] ++ [(101, 4)] ++ [(101, 5)]) ad3 (pSt X ad3 st 6 f) s H := ⟨_, (fun k q => (rowu_ne q.2).trans (hz4 k q.1)), (fun k hk => (congrFun (rowu_ne (by decide)) k).trans (hk4 k hk)), (fun k hk => by rcases (show k = 0 ∨ k = 1 ∨ k = 2 ∨ k = 3 ∨ k = 4 ∨ k = 5 ∨ k = 6 ∨ k = 7 ∨ k = 8 ∨ k = 9 ∨ k = 10 ∨ k = 11 ∨ k = 12 ∨ k = 13 ∨ k = 14 ∨ k = 15 ∨ k = 16 ∨ k = 17 ∨ k = 18 ∨ k = 19 ∨ k = 20 ∨ k = 21 ∨ k = 22 ∨ k = 23 by omega) with rfl | rfl | rfl | rfl | rfl | rfl | rfl | rfl | rfl | rfl | rfl | rfl | rfl | rfl | rfl | rfl | rfl | rfl | rfl | rfl | rfl | rfl | rfl | rfl <;> rfl), hW⟩
  refine lv_aload_n hx hb dX8_init_196 rfl (lv_at hl 0 rfl) ?_
  refine lv_bipush (v := 6) hx hb dX8_init_197 (by decide) ?_
  refine m_newK (k := 0) (atype := .int) C hW hS 6 (by decide) (by simp [hno]) tw_1_65 rfl rfl (fun _ => rfl) (by decide) (by decide) (by decide) (by rw [hR3]; exact Nat.le_of_ble_eq_true rfl) (by rw [hR4]; exact Nat.le_of_ble_eq_true rfl) dX8_init_199 (fun ad4 H h4 hW hS => ?_)
  rw [← h4 (100, 0) (by decide)] at hl ⊢
  have hl : lv_has ls 2 [(0, .ref (ad4 (100, 0)))] := hl
  rw [rowu_zero (hB0 6 (by decide))] at hW
  refine m_putK C hW hS 6 (by simp [hmo]) (by decide) (by decide) (fun j a1 a2 => absurd a2 (by omega)) rfl tw_5_209 rfl rfl rfl rfl dX8_init_201 (fun H locs hW hS => ?_)
  refine W.eq (g2 := F0 m 204 ls []) rfl ?_
  refine W.widen (k := 4) (n := 96) (Nat.le_of_ble_eq_true rfl) (Nat.le_of_ble_eq_true rfl) ?_
  refine lv_aload_n hx hb dX8_init_204 rfl (lv_at hl 0 rfl) ?_
  refine lv_bipush (v := 20) hx hb dX8_init_205 (by decide) ?_
  refine m_newK (k := 0) (atype := .char) C hW hS 9 (by decide) (by simp [hno]) tw_1_64 rfl rfl (fun _ => rfl) (by decide) (by decide) (by decide) (by rw [hR3]; exact Nat.le_of_ble_eq_true rfl) (by rw [hR4]; exact Nat.le_of_ble_eq_true rfl) dX8_init_207 (fun ad5 H h5 hW hS => ?_)
  rw [← h5 (100, 0) (by decide)] at hl ⊢
  have hl : lv_has ls 2 [(0, .ref (ad5 (100, 0)))] := hl
  rw [rowu_zero (hB0 9 (by decide))] at hW
  refine m_putK C hW hS 9 (by simp [hmo]) (by decide) (by decide) (fun j a1 a2 => by rcases (show j = 7 ∨ j = 8 by omega) with rfl | rfl <;> rfl) rfl tw_5_212 rfl rfl rfl rfl dX8_init_209 (fun H locs hW hS => ?_)
  refine W.eq (g2 := F0 m 212 ls []) rfl ?_
  refine W.widen (k := 5) (n := 116) (Nat.le_of_ble_eq_true rfl) (Nat.le_of_ble_eq_true rfl) ?_
  refine lv_aload_n hx hb dX8_init_212 rfl (lv_at hl 0 rfl) ?_
  refine lv_bipush (v := 6) hx hb dX8_init_213 (by decide) ?_
  refine m_newK (k := 0) (atype := .int) C hW hS 11 (by decide) (by simp [hno]) tw_1_65 rfl rfl (fun _ => rfl) (by decide) (by decide) (by decide) (by rw [hR3]; exact Nat.le_of_ble_eq_true rfl) (by rw [hR4]; exact Nat.le_of_ble_eq_true rfl) dX8_init_215 (fun ad6 H h6 hW hS => ?_)
  rw [← h6 (100, 0) (by decide)] at hl ⊢
  have hl : lv_has ls 2 [(0, .ref (ad6 (100, 0)))] := hl
  rw [rowu_zero (hB0 11 (by decide))] at hW
  refine m_putK C hW hS 11 (by simp [hmo]) (by decide) (by decide) (fun j a1 a2 => by rcases (show j = 10 by omega) with rfl <;> rfl) rfl tw_5_214 rfl rfl rfl rfl dX8_init_217 (fun H locs hW hS => ?_)
  refine W.eq (g2 := F0 m 220 ls []) rfl ?_
  refine W.widen (k := 6) (n := 122) (Nat.le_of_ble_eq_true rfl) (Nat.le_of_ble_eq_true rfl) ?_
  refine lv_aload_n hx hb dX8_init_220 rfl (lv_at hl 0 rfl) ?_
  refine lv_bipush (v := 6) hx hb dX8_init_221 (by decide) ?_
  refine m_newK (k := 0) (atype := .int) C hW hS 12 (by decide) (by simp [hno]) tw_1_65 rfl rfl (fun _ => rfl) (by decide) (by decide) (by decide) (by rw [hR3]; exact Nat.le_of_ble_eq_true rfl) (by rw [hR4]; exact Nat.le_of_ble_eq_true rfl) dX8_init_223 (fun ad7 H h7 hW hS => ?_)
  rw [← h7 (100, 0) (by decide)] at hl ⊢
  have hl : lv_has ls 2 [(0, .ref (ad7 (100, 0)))] := hl
  rw [rowu_zero (hB0 12 (by decide))] at hW
  refine m_putK C hW hS 12 (by simp [hmo]) (by decide) (by decide) (fun j a1 a2 => absurd a2 (by omega)) rfl tw_5_215 rfl rfl rfl rfl dX8_init_225 (fun H locs hW hS => ?_)
  refine W.eq (g2 := F0 m 228 ls []) rfl ?_
  refine W.widen (k := 7) (n := 128) (Nat.le_of_ble_eq_true rfl) (Nat.le_of_ble_eq_true rfl) ?_
  refine lv_aload_n hx hb dX8_init_228 rfl (lv_at hl 0 rfl) ?_
  refine lv_iconst (v := 4) hx hb dX8_init_229 (by decide) ?_
  refine m_newK (k := 0) (atype := .boolean) C hW hS 13 (by decide) (by simp [hno]) tw_1_93 rfl rfl (fun _ => rfl) (by decide) (by decide) (by decide) (by rw [hR3]; exact Nat.le_of_ble_eq_true rfl) (by rw [hR4]; exact Nat.le_of_ble_eq_true rfl) dX8_init_230 (fun ad8 H h8 hW hS => ?_)
  rw [← h8 (100, 0) (by decide)] at hl ⊢
  have hl : lv_has ls 2 [(0, .ref (ad8 (100, 0)))] := hl
  rw [rowu_zero (hB0 13 (by decide))] at hW
  refine m_putK C hW hS 13 (by simp [hmo]) (by decide) (by decide) (fun j a1 a2 => absurd a2 (by omega)) rfl tw_5_216 rfl rfl rfl rfl dX8_init_232 (fun H locs hW hS => ?_)
  refine W.eq (g2 := F0 m 235 ls []) rfl ?_
  refine W.widen (k := 8) (n := 132) (Nat.le_of_ble_eq_true rfl) (Nat.le_of_ble_eq_true rfl) ?_
  refine lv_aload_n hx hb dX8_init_235 rfl (lv_at hl 0 rfl) ?_
  refine lv_iconst (v := 4) hx hb dX8_init_236 (by decide) ?_
  refine m_newK (k := 0) (atype := .int) C hW hS 14 (by decide) (by simp [hno]) tw_1_65 rfl rfl (fun _ => rfl) (by decide) (by decide) (by decide) (by rw [hR3]; exact Nat.le_of_ble_eq_true rfl) (by rw [hR4]; exact Nat.le_of_ble_eq_true rfl) dX8_init_237 (fun ad9 H h9 hW hS => ?_)
  rw [← h9 (100, 0) (by decide)] at hl ⊢
  have hl : lv_has ls 2 [(0, .ref (ad9 (100, 0)))] := hl
  rw [rowu_zero (hB0 14 (by decide))] at hW
  refine m_putK C hW hS 14 (by simp [hmo]) (by decide) (by decide) (fun j a1 a2 => absurd a2 (by omega)) rfl tw_5_217 rfl rfl rfl rfl dX8_init_239 (fun H locs hW hS => ?_)
  refine W.eq (g2 := F0 m 242 ls []) rfl ?_
  refine W.widen (k := 9) (n := 136) (Nat.le_of_ble_eq_true rfl) (Nat.le_of_ble_eq_true rfl) ?_
  refine lv_aload_n hx hb dX8_init_242 rfl (lv_at hl 0 rfl) ?_
  refine lv_iconst (v := 4) hx hb dX8_init_243 (by decide) ?_
  refine m_newK (k := 0) (atype := .int) C hW hS 15 (by decide) (by simp [hno]) tw_1_65 rfl rfl (fun _ => rfl) (by decide) (by decide) (by decide) (by rw [hR3]; exact Nat.le_of_ble_eq_true rfl) (by rw [hR4]; exact Nat.le_of_ble_eq_true rfl) dX8_init_244 (fun ad10 H h10 hW hS => ?_)
  rw [← h10 (100, 0) (by decide)] at hl ⊢
  have hl : lv_has ls 2 [(0, .ref (ad10 (100, 0)))] := hl
  rw [rowu_zero (hB0 15 (by decide))] at hW
  refine m_putK C hW hS 15 (by simp [hmo]) (by decide) (by decide) (fun j a1 a2 => absurd a2 (by omega)) rfl tw_5_218 rfl rfl rfl rfl dX8_init_246 (fun H locs hW hS => ?_)
  refine W.eq (g2 := F0 m 249 ls []) rfl ?_
  refine W.widen (k := 10) (n := 140) (Nat.le_of_ble_eq_true rfl) (Nat.le_of_ble_eq_true rfl) ?_
  refine lv_aload_n hx hb dX8_init_249 rfl (lv_at hl 0 rfl) ?_
  refine lv_iconst (v := 4) hx hb dX8_init_250 (by decide) ?_
  refine m_newK (k := 0) (atype := .int) C hW hS 16 (by decide) (by simp [hno]) tw_1_65 rfl rfl (fun _ => rfl) (by decide) (by decide) (by decide) (by rw [hR3]; exact Nat.le_of_ble_eq_true rfl) (by rw [hR4]; exact Nat.le_of_ble_eq_true rfl) dX8_init_251 (fun ad11 H h11 hW hS => ?_)
  rw [← h11 (100, 0) (by decide)] at hl ⊢
  have hl : lv_has ls 2 [(0, .ref (ad11 (100, 0)))] := hl
  rw [rowu_zero (hB0 16 (by decide))] at hW
  refine m_putK C hW hS 16 (by simp [hmo]) (by decide) (by decide) (fun j a1 a2 => absurd a2 (by omega)) rfl tw_5_219 rfl rfl rfl rfl dX8_init_253 (fun H locs hW hS => ?_)
  refine W.eq (g2 := F0 m 256 ls []) rfl ?_
  refine W.widen (k := 11) (n := 144) (Nat.le_of_ble_eq_true rfl) (Nat.le_of_ble_eq_true rfl) ?_
  refine lv_aload_n hx hb dX8_init_256 rfl (lv_at hl 0 rfl) ?_
  refine lv_iconst (v := 4) hx hb dX8_init_257 (by decide) ?_
  refine m_newK (k := 0) (atype := .boolean) C hW hS 17 (by decide) (by simp [hno]) tw_1_93 rfl rfl (fun _ => rfl) (by decide) (by decide) (by decide) (by rw [hR3]; exact Nat.le_of_ble_eq_true rfl) (by rw [hR4]; exact Nat.le_of_ble_eq_true rfl) dX8_init_258 (fun ad12 H h12 hW hS => ?_)
  rw [← h12 (100, 0) (by decide)] at hl ⊢
  have hl : lv_has ls 2 [(0, .ref (ad12 (100, 0)))] := hl
  rw [rowu_zero (hB0 17 (by decide))] at hW
  refine m_putK C hW hS 17 (by simp [hmo]) (by decide) (by decide) (fun j a1 a2 => absurd a2 (by omega)) rfl tw_5_220 rfl rfl rfl rfl dX8_init_260 (fun H locs hW hS => ?_)
  refine W.eq (g2 := F0 m 263 ls []) rfl ?_
  refine W.widen (k := 12) (n := 148) (Nat.le_of_ble_eq_true rfl) (Nat.le_of_ble_eq_true rfl) ?_
  refine lv_aload_n hx hb dX8_init_263 rfl (lv_at hl 0 rfl) ?_
  refine lv_iconst (v := 4) hx hb dX8_init_264 (by decide) ?_
  refine m_newK (k := 0) (atype := .int) C hW hS 18 (by decide) (by simp [hno]) tw_1_65 rfl rfl (fun _ => rfl) (by decide) (by decide) (by decide) (by rw [hR3]; exact Nat.le_of_ble_eq_true rfl) (by rw [hR4]; exact Nat.le_of_ble_eq_true rfl) dX8_init_265 (fun ad13 H h13 hW hS => ?_)
  rw [← h13 (100, 0) (by decide)] at hl ⊢
  have hl : lv_has ls 2 [(0, .ref (ad13 (100, 0)))] := hl
  rw [rowu_zero (hB0 18 (by decide))] at hW
  refine m_putK C hW hS 18 (by simp [hmo]) (by decide) (by decide) (fun j a1 a2 => absurd a2 (by omega)) rfl tw_5_221 rfl rfl rfl rfl dX8_init_267 (fun H locs hW hS => ?_)
  refine W.eq (g2 := F0 m 270 ls []) rfl ?_
  refine W.widen (k := 13) (n := 152) (Nat.le_of_ble_eq_true rfl) (Nat.le_of_ble_eq_true rfl) ?_
  refine lv_aload_n hx hb dX8_init_270 rfl (lv_at hl 0 rfl) ?_
  refine lv_iconst (v := 4) hx hb dX8_init_271 (by decide) ?_
  refine m_newK (k := 0) (atype := .int) C hW hS 19 (by decide) (by simp [hno]) tw_1_65 rfl rfl (fun _ => rfl) (by decide) (by decide) (by decide) (by rw [hR3]; exact Nat.le_of_ble_eq_true rfl) (by rw [hR4]; exact Nat.le_of_ble_eq_true rfl) dX8_init_272 (fun ad14 H h14 hW hS => ?_)
  rw [← h14 (100, 0) (by decide)] at hl ⊢
  have hl : lv_has ls 2 [(0, .ref (ad14 (100, 0)))] := hl
  rw [rowu_zero (hB0 19 (by decide))] at hW
  refine m_putK C hW hS 19 (by simp [hmo]) (by decide) (by decide) (fun j a1 a2 => absurd a2 (by omega)) rfl tw_5_222 rfl rfl rfl rfl dX8_init_274 (fun H locs hW hS => ?_)
  refine W.eq (g2 := F0 m 277 ls []) rfl ?_
  refine W.widen (k := 14) (n := 156) (Nat.le_of_ble_eq_true rfl) (Nat.le_of_ble_eq_true rfl) ?_
  refine lv_aload_n hx hb dX8_init_277 rfl (lv_at hl 0 rfl) ?_
  refine lv_iconst (v := 4) hx hb dX8_init_278 (by decide) ?_
  refine m_newK (k := 0) (atype := .int) C hW hS 20 (by decide) (by simp [hno]) tw_1_65 rfl rfl (fun _ => rfl) (by decide) (by decide) (by decide) (by rw [hR3]; exact Nat.le_of_ble_eq_true rfl) (by rw [hR4]; exact Nat.le_of_ble_eq_true rfl) dX8_init_279 (fun ad15 H h15 hW hS => ?_)
  rw [← h15 (100, 0) (by decide)] at hl ⊢
  have hl : lv_has ls 2 [(0, .ref (ad15 (100, 0)))] := hl
  rw [rowu_zero (hB0 20 (by decide))] at hW
  refine m_putK C hW hS 20 (by simp [hmo]) (by decide) (by decide) (fun j a1 a2 => absurd a2 (by omega)) rfl tw_5_223 rfl rfl rfl rfl dX8_init_281 (fun H locs hW hS => ?_)
  refine W.eq (g2 := F0 m 284 ls []) rfl ?_
  refine W.widen (k := 15) (n := 160) (Nat.le_of_ble_eq_true rfl) (Nat.le_of_ble_eq_true rfl) ?_
  refine lv_aload_n hx hb dX8_init_284 rfl (lv_at hl 0 rfl) ?_
  refine lv_iconst (v := 4) hx hb dX8_init_285 (by decide) ?_
  refine m_newK (k := 0) (atype := .int) C hW hS 21 (by decide) (by simp [hno]) tw_1_65 rfl rfl (fun _ => rfl) (by decide) (by decide) (by decide) (by rw [hR3]; exact Nat.le_of_ble_eq_true rfl) (by rw [hR4]; exact Nat.le_of_ble_eq_true rfl) dX8_init_286 (fun ad16 H h16 hW hS => ?_)
  rw [← h16 (100, 0) (by decide)] at hl ⊢
  have hl : lv_has ls 2 [(0, .ref (ad16 (100, 0)))] := hl
  rw [rowu_zero (hB0 21 (by decide))] at hW
  refine m_putK C hW hS 21 (by simp [hmo]) (by decide) (by decide) (fun j a1 a2 => absurd a2 (by omega)) rfl tw_5_224 rfl rfl rfl rfl dX8_init_288 (fun H locs hW hS => ?_)
  refine W.eq (g2 := F0 m 291 ls []) rfl ?_
  refine W.widen (k := 16) (n := 164) (Nat.le_of_ble_eq_true rfl) (Nat.le_of_ble_eq_true rfl) ?_
  refine lv_aload_n hx hb dX8_init_291 rfl (lv_at hl 0 rfl) ?_
  refine lv_sipush (v := 2000) hx hb dX8_init_292 (by decide) ?_
  refine m_newK (k := 0) (atype := .int) C hW hS 24 (by decide) (by simp [hno]) tw_1_65 rfl rfl (fun _ => rfl) (by decide) (by decide) (by decide) (by rw [hR3]; exact Nat.le_of_ble_eq_true rfl) (by rw [hR4]; exact Nat.le_of_ble_eq_true rfl) dX8_init_295 (fun ad17 H h17 hW hS => ?_)
  rw [← h17 (100, 0) (by decide)] at hl ⊢
  have hl : lv_has ls 2 [(0, .ref (ad17 (100, 0)))] := hl
  rw [rowu_zero (hB0 24 (by decide))] at hW
  refine m_putK C hW hS 24 (by simp [hmo]) (by decide) (by decide) (fun j a1 a2 => by rcases (show j = 22 ∨ j = 23 by omega) with rfl | rfl <;> rfl) rfl tw_5_227 rfl rfl rfl rfl dX8_init_297 (fun H locs hW hS => ?_)
  refine W.eq (g2 := F0 m 300 ls []) rfl ?_
  refine W.widen (k := 17) (n := 2164) (Nat.le_of_ble_eq_true rfl) (Nat.le_of_ble_eq_true rfl) ?_
  refine lv_aload_n hx hb dX8_init_300 rfl (lv_at hl 0 rfl) ?_
  refine lv_sipush (v := 2000) hx hb dX8_init_301 (by decide) ?_
  refine m_newK (k := 0) (atype := .int) C hW hS 25 (by decide) (by simp [hno]) tw_1_65 rfl rfl (fun _ => rfl) (by decide) (by decide) (by decide) (by rw [hR3]; exact Nat.le_of_ble_eq_true rfl) (by rw [hR4]; exact Nat.le_of_ble_eq_true rfl) dX8_init_304 (fun ad18 H h18 hW hS => ?_)
  rw [← h18 (100, 0) (by decide)] at hl ⊢
  have hl : lv_has ls 2 [(0, .ref (ad18 (100, 0)))] := hl
  rw [rowu_zero (hB0 25 (by decide))] at hW
  refine m_putK C hW hS 25 (by simp [hmo]) (by decide) (by decide) (fun j a1 a2 => absurd a2 (by omega)) rfl tw_5_228 rfl rfl rfl rfl dX8_init_306 (fun H locs hW hS => ?_)
  refine W.eq (g2 := F0 m 309 ls []) rfl ?_
  refine W.widen (k := 18) (n := 4164) (Nat.le_of_ble_eq_true rfl) (Nat.le_of_ble_eq_true rfl) ?_
  refine lv_aload_n hx hb dX8_init_309 rfl (lv_at hl 0 rfl) ?_
  refine lv_bipush (v := 6) hx hb dX8_init_310 (by decide) ?_
  refine m_newK (k := 0) (atype := .int) C hW hS 26 (by decide) (by simp [hno]) tw_1_65 rfl rfl (fun _ => rfl) (by decide) (by decide) (by decide) (by rw [hR3]; exact Nat.le_of_ble_eq_true rfl) (by rw [hR4]; exact Nat.le_of_ble_eq_true rfl) dX8_init_312 (fun ad19 H h19 hW hS => ?_)
  rw [← h19 (100, 0) (by decide)] at hl ⊢
  have hl : lv_has ls 2 [(0, .ref (ad19 (100, 0)))] := hl
  rw [rowu_zero (hB0 26 (by decide))] at hW
  refine m_putK C hW hS 26 (by simp [hmo]) (by decide) (by decide) (fun j a1 a2 => absurd a2 (by omega)) rfl tw_5_229 rfl rfl rfl rfl dX8_init_314 (fun H locs hW hS => ?_)
  refine W.eq (g2 := F0 m 317 ls []) rfl ?_
  refine W.widen (k := 19) (n := 4170) (Nat.le_of_ble_eq_true rfl) (Nat.le_of_ble_eq_true rfl) ?_
  refine lv_aload_n hx hb dX8_init_317 rfl (lv_at hl 0 rfl) ?_
  refine lv_bipush (v := 6) hx hb dX8_init_318 (by decide) ?_
  refine m_newK (k := 0) (atype := .int) C hW hS 27 (by decide) (by simp [hno]) tw_1_65 rfl rfl (fun _ => rfl) (by decide) (by decide) (by decide) (by rw [hR3]; exact Nat.le_of_ble_eq_true rfl) (by rw [hR4]; exact Nat.le_of_ble_eq_true rfl) dX8_init_320 (fun ad20 H h20 hW hS => ?_)
  rw [← h20 (100, 0) (by decide)] at hl ⊢
  have hl : lv_has ls 2 [(0, .ref (ad20 (100, 0)))] := hl
  rw [rowu_zero (hB0 27 (by decide))] at hW
  refine m_putK C hW hS 27 (by simp [hmo]) (by decide) (by decide) (fun j a1 a2 => absurd a2 (by omega)) rfl tw_5_230 rfl rfl rfl rfl dX8_init_322 (fun H locs hW hS => ?_)
  refine W.eq (g2 := F0 m 325 ls []) rfl ?_
  refine W.widen (k := 20) (n := 4176) (Nat.le_of_ble_eq_true rfl) (Nat.le_of_ble_eq_true rfl) ?_
  refine lv_aload_n hx hb dX8_init_325 rfl (lv_at hl 0 rfl) ?_
  refine lv_sipush (v := 1536) hx hb dX8_init_326 (by decide) ?_
  refine m_newK (k := 0) (atype := .int) C hW hS 28 (by decide) (by simp [hno]) tw_1_65 rfl rfl (fun _ => rfl) (by decide) (by decide) (by decide) (by rw [hR3]; exact Nat.le_of_ble_eq_true rfl) (by rw [hR4]; exact Nat.le_of_ble_eq_true rfl) dX8_init_329 (fun ad21 H h21 hW hS => ?_)
  rw [← h21 (100, 0) (by decide)] at hl ⊢
  have hl : lv_has ls 2 [(0, .ref (ad21 (100, 0)))] := hl
  rw [rowu_zero (hB0 28 (by decide))] at hW
  refine m_putK C hW hS 28 (by simp [hmo]) (by decide) (by decide) (fun j a1 a2 => absurd a2 (by omega)) rfl tw_5_231 rfl rfl rfl rfl dX8_init_331 (fun H locs hW hS => ?_)
  refine W.eq (g2 := F0 m 334 ls []) rfl ?_
  refine W.widen (k := 21) (n := 5712) (Nat.le_of_ble_eq_true rfl) (Nat.le_of_ble_eq_true rfl) ?_
  refine lv_aload_n hx hb dX8_init_334 rfl (lv_at hl 0 rfl) ?_
  refine lv_sipush (v := 1536) hx hb dX8_init_335 (by decide) ?_
  refine m_newK (k := 0) (atype := .int) C hW hS 29 (by decide) (by simp [hno]) tw_1_65 rfl rfl (fun _ => rfl) (by decide) (by decide) (by decide) (by rw [hR3]; exact Nat.le_of_ble_eq_true rfl) (by rw [hR4]; exact Nat.le_of_ble_eq_true rfl) dX8_init_338 (fun ad22 H h22 hW hS => ?_)
  rw [← h22 (100, 0) (by decide)] at hl ⊢
  have hl : lv_has ls 2 [(0, .ref (ad22 (100, 0)))] := hl
  rw [rowu_zero (hB0 29 (by decide))] at hW
  refine m_putK C hW hS 29 (by simp [hmo]) (by decide) (by decide) (fun j a1 a2 => absurd a2 (by omega)) rfl tw_5_232 rfl rfl rfl rfl dX8_init_340 (fun H locs hW hS => ?_)
  refine W.eq (g2 := F0 m 343 ls []) rfl ?_
  refine W.widen (k := 22) (n := 7248) (Nat.le_of_ble_eq_true rfl) (Nat.le_of_ble_eq_true rfl) ?_
  refine lv_aload_n hx hb dX8_init_343 rfl (lv_at hl 0 rfl) ?_
  refine lv_sipush (v := 1536) hx hb dX8_init_344 (by decide) ?_
  refine m_newK (k := 0) (atype := .int) C hW hS 30 (by decide) (by simp [hno]) tw_1_65 rfl rfl (fun _ => rfl) (by decide) (by decide) (by decide) (by rw [hR3]; exact Nat.le_of_ble_eq_true rfl) (by rw [hR4]; exact Nat.le_of_ble_eq_true rfl) dX8_init_347 (fun ad23 H h23 hW hS => ?_)
  rw [← h23 (100, 0) (by decide)] at hl ⊢
  have hl : lv_has ls 2 [(0, .ref (ad23 (100, 0)))] := hl
  rw [rowu_zero (hB0 30 (by decide))] at hW
  refine m_putK C hW hS 30 (by simp [hmo]) (by decide) (by decide) (fun j a1 a2 => absurd a2 (by omega)) rfl tw_5_233 rfl rfl rfl rfl dX8_init_349 (fun H locs hW hS => ?_)
  refine W.eq (g2 := F0 m 352 ls []) rfl ?_
  refine W.widen (k := 23) (n := 8784) (Nat.le_of_ble_eq_true rfl) (Nat.le_of_ble_eq_true rfl) ?_
  refine lv_aload_n hx hb dX8_init_352 rfl (lv_at hl 0 rfl) ?_
  refine lv_sipush (v := 1536) hx hb dX8_init_353 (by decide) ?_
  refine m_newK (k := 0) (atype := .int) C hW hS 31 (by decide) (by simp [hno]) tw_1_65 rfl rfl (fun _ => rfl) (by decide) (by decide) (by decide) (by rw [hR3]; exact Nat.le_of_ble_eq_true rfl) (by rw [hR4]; exact Nat.le_of_ble_eq_true rfl) dX8_init_356 (fun ad24 H h24 hW hS => ?_)
  rw [← h24 (100, 0) (by decide)] at hl ⊢
  have hl : lv_has ls 2 [(0, .ref (ad24 (100, 0)))] := hl
  rw [rowu_zero (hB0 31 (by decide))] at hW
  refine m_putK C hW hS 31 (by simp [hmo]) (by decide) (by decide) (fun j a1 a2 => absurd a2 (by omega)) rfl tw_5_234 rfl rfl rfl rfl dX8_init_358 (fun H locs hW hS => ?_)
  refine W.eq (g2 := F0 m 361 ls []) rfl ?_
  refine W.widen (k := 24) (n := 10320) (Nat.le_of_ble_eq_true rfl) (Nat.le_of_ble_eq_true rfl) ?_
  refine lv_aload_n hx hb dX8_init_361 rfl (lv_at hl 0 rfl) ?_
  refine lv_bipush (v := 100) hx hb dX8_init_362 (by decide) ?_
  refine m_newK (k := 0) (atype := .int) C hW hS 33 (by decide) (by simp [hno]) tw_1_65 rfl rfl (fun _ => rfl) (by decide) (by decide) (by decide) (by rw [hR3]; exact Nat.le_of_ble_eq_true rfl) (by rw [hR4]; exact Nat.le_of_ble_eq_true rfl) dX8_init_364 (fun ad25 H h25 hW hS => ?_)
  rw [← h25 (100, 0) (by decide)] at hl ⊢
  have hl : lv_has ls 2 [(0, .ref (ad25 (100, 0)))] := hl
  rw [rowu_zero (hB0 33 (by decide))] at hW
  refine m_putK C hW hS 33 (by simp [hmo]) (by decide) (by decide) (fun j a1 a2 => by rcases (show j = 32 by omega) with rfl <;> rfl) rfl tw_5_236 rfl rfl rfl rfl dX8_init_366 (fun H locs hW hS => ?_)
  refine W.eq (g2 := F0 m 369 ls []) rfl ?_
  refine W.widen (k := 25) (n := 10420) (Nat.le_of_ble_eq_true rfl) (Nat.le_of_ble_eq_true rfl) ?_
  refine lv_aload_n hx hb dX8_init_369 rfl (lv_at hl 0 rfl) ?_
  refine lv_bipush (v := 100) hx hb dX8_init_370 (by decide) ?_
  refine m_newK (k := 0) (atype := .int) C hW hS 34 (by decide) (by simp [hno]) tw_1_65 rfl rfl (fun _ => rfl) (by decide) (by decide) (by decide) (by rw [hR3]; exact Nat.le_of_ble_eq_true rfl) (by rw [hR4]; exact Nat.le_of_ble_eq_true rfl) dX8_init_372 (fun ad26 H h26 hW hS => ?_)
  rw [← h26 (100, 0) (by decide)] at hl ⊢
  have hl : lv_has ls 2 [(0, .ref (ad26 (100, 0)))] := hl
  rw [rowu_zero (hB0 34 (by decide))] at hW
  refine m_putK C hW hS 34 (by simp [hmo]) (by decide) (by decide) (fun j a1 a2 => absurd a2 (by omega)) rfl tw_5_237 rfl rfl rfl rfl dX8_init_374 (fun H locs hW hS => ?_)
  refine W.eq (g2 := F0 m 377 ls []) rfl ?_
  refine W.widen (k := 26) (n := 10520) (Nat.le_of_ble_eq_true rfl) (Nat.le_of_ble_eq_true rfl) ?_
  refine lv_aload_n hx hb dX8_init_377 rfl (lv_at hl 0 rfl) ?_
  refine lv_bipush (v := 100) hx hb dX8_init_378 (by decide) ?_
  refine m_newK (k := 0) (atype := .int) C hW hS 35 (by decide) (by simp [hno]) tw_1_65 rfl rfl (fun _ => rfl) (by decide) (by decide) (by decide) (by rw [hR3]; exact Nat.le_of_ble_eq_true rfl) (by rw [hR4]; exact Nat.le_of_ble_eq_true rfl) dX8_init_380 (fun ad27 H h27 hW hS => ?_)
  rw [← h27 (100, 0) (by decide)] at hl ⊢
  have hl : lv_has ls 2 [(0, .ref (ad27 (100, 0)))] := hl
  rw [rowu_zero (hB0 35 (by decide))] at hW
  refine m_putK C hW hS 35 (by simp [hmo]) (by decide) (by decide) (fun j a1 a2 => absurd a2 (by omega)) rfl tw_5_238 rfl rfl rfl rfl dX8_init_382 (fun H locs hW hS => ?_)
  refine W.eq (g2 := F0 m 385 ls []) rfl ?_
  refine W.widen (k := 27) (n := 10620) (Nat.le_of_ble_eq_true rfl) (Nat.le_of_ble_eq_true rfl) ?_
  refine lv_aload_n hx hb dX8_init_385 rfl (lv_at hl 0 rfl) ?_
  refine lv_bipush (v := 100) hx hb dX8_init_386 (by decide) ?_
  refine m_newK (k := 0) (atype := .int) C hW hS 36 (by decide) (by simp [hno]) tw_1_65 rfl rfl (fun _ => rfl) (by decide) (by decide) (by decide) (by rw [hR3]; exact Nat.le_of_ble_eq_true rfl) (by rw [hR4]; exact Nat.le_of_ble_eq_true rfl) dX8_init_388 (fun ad28 H h28 hW hS => ?_)
  rw [← h28 (100, 0) (by decide)] at hl ⊢
  have hl : lv_has ls 2 [(0, .ref (ad28 (100, 0)))] := hl
  rw [rowu_zero (hB0 36 (by decide))] at hW
  refine m_putK C hW hS 36 (by simp [hmo]) (by decide) (by decide) (fun j a1 a2 => absurd a2 (by omega)) rfl tw_5_239 rfl rfl rfl rfl dX8_init_390 (fun H locs hW hS => ?_)
  refine W.eq (g2 := F0 m 393 ls []) rfl ?_
  refine W.widen (k := 28) (n := 10720) (Nat.le_of_ble_eq_true rfl) (Nat.le_of_ble_eq_true rfl) ?_
  refine lv_aload_n hx hb dX8_init_393 rfl (lv_at hl 0 rfl) ?_
  refine lv_bipush (v := 100) hx hb dX8_init_394 (by decide) ?_
  refine m_newK (k := 0) (atype := .boolean) C hW hS 37 (by decide) (by simp [hno]) tw_1_93 rfl rfl (fun _ => rfl) (by decide) (by decide) (by decide) (by rw [hR3]; exact Nat.le_of_ble_eq_true rfl) (by rw [hR4]; exact Nat.le_of_ble_eq_true rfl) dX8_init_396 (fun ad29 H h29 hW hS => ?_)
  rw [← h29 (100, 0) (by decide)] at hl ⊢
  have hl : lv_has ls 2 [(0, .ref (ad29 (100, 0)))] := hl
  rw [rowu_zero (hB0 37 (by decide))] at hW
  refine m_putK C hW hS 37 (by simp [hmo]) (by decide) (by decide) (fun j a1 a2 => absurd a2 (by omega)) rfl tw_6_0 rfl rfl rfl rfl dX8_init_398 (fun H locs hW hS => ?_)
  refine W.eq (g2 := F0 m 401 ls []) rfl ?_
  refine W.widen (k := 29) (n := 10820) (Nat.le_of_ble_eq_true rfl) (Nat.le_of_ble_eq_true rfl) ?_
  refine lv_aload_n hx hb dX8_init_401 rfl (lv_at hl 0 rfl) ?_
  refine lv_bipush (v := 100) hx hb dX8_init_402 (by decide) ?_
  refine m_newK (k := 0) (atype := .int) C hW hS 38 (by decide) (by simp [hno]) tw_1_65 rfl rfl (fun _ => rfl) (by decide) (by decide) (by decide) (by rw [hR3]; exact Nat.le_of_ble_eq_true rfl) (by rw [hR4]; exact Nat.le_of_ble_eq_true rfl) dX8_init_404 (fun ad30 H h30 hW hS => ?_)
  rw [← h30 (100, 0) (by decide)] at hl ⊢
  have hl : lv_has ls 2 [(0, .ref (ad30 (100, 0)))] := hl
  rw [rowu_zero (hB0 38 (by decide))] at hW
  refine m_putK C hW hS 38 (by simp [hmo]) (by decide) (by decide) (fun j a1 a2 => absurd a2 (by omega)) rfl tw_6_1 rfl rfl rfl rfl dX8_init_406 (fun H locs hW hS => ?_)
  refine W.eq (g2 := F0 m 409 ls []) rfl ?_
  refine W.widen (k := 30) (n := 10920) (Nat.le_of_ble_eq_true rfl) (Nat.le_of_ble_eq_true rfl) ?_
  refine lv_aload_n hx hb dX8_init_409 rfl (lv_at hl 0 rfl) ?_
  refine lv_bipush (v := 100) hx hb dX8_init_410 (by decide) ?_
  refine m_newK (k := 0) (atype := .int) C hW hS 39 (by decide) (by simp [hno]) tw_1_65 rfl rfl (fun _ => rfl) (by decide) (by decide) (by decide) (by rw [hR3]; exact Nat.le_of_ble_eq_true rfl) (by rw [hR4]; exact Nat.le_of_ble_eq_true rfl) dX8_init_412 (fun ad31 H h31 hW hS => ?_)
  rw [← h31 (100, 0) (by decide)] at hl ⊢
  have hl : lv_has ls 2 [(0, .ref (ad31 (100, 0)))] := hl
  rw [rowu_zero (hB0 39 (by decide))] at hW
  refine m_putK C hW hS 39 (by simp [hmo]) (by decide) (by decide) (fun j a1 a2 => absurd a2 (by omega)) rfl tw_6_2 rfl rfl rfl rfl dX8_init_414 (fun H locs hW hS => ?_)
  refine W.eq (g2 := F0 m 417 ls []) rfl ?_
  refine W.widen (k := 31) (n := 11020) (Nat.le_of_ble_eq_true rfl) (Nat.le_of_ble_eq_true rfl) ?_
  refine lv_aload_n hx hb dX8_init_417 rfl (lv_at hl 0 rfl) ?_
  refine lv_bipush (v := 100) hx hb dX8_init_418 (by decide) ?_
  refine m_newK (k := 0) (atype := .int) C hW hS 40 (by decide) (by simp [hno]) tw_1_65 rfl rfl (fun _ => rfl) (by decide) (by decide) (by decide) (by rw [hR3]; exact Nat.le_of_ble_eq_true rfl) (by rw [hR4]; exact Nat.le_of_ble_eq_true rfl) dX8_init_420 (fun ad32 H h32 hW hS => ?_)
  rw [← h32 (100, 0) (by decide)] at hl ⊢
  have hl : lv_has ls 2 [(0, .ref (ad32 (100, 0)))] := hl
  rw [rowu_zero (hB0 40 (by decide))] at hW
  refine m_putK C hW hS 40 (by simp [hmo]) (by decide) (by decide) (fun j a1 a2 => absurd a2 (by omega)) rfl tw_6_3 rfl rfl rfl rfl dX8_init_422 (fun H locs hW hS => ?_)
  refine W.eq (g2 := F0 m 425 ls []) rfl ?_
  refine W.widen (k := 32) (n := 11120) (Nat.le_of_ble_eq_true rfl) (Nat.le_of_ble_eq_true rfl) ?_
  refine lv_aload_n hx hb dX8_init_425 rfl (lv_at hl 0 rfl) ?_
  refine lv_bipush (v := 100) hx hb dX8_init_426 (by decide) ?_
  refine m_newK (k := 0) (atype := .int) C hW hS 41 (by decide) (by simp [hno]) tw_1_65 rfl rfl (fun _ => rfl) (by decide) (by decide) (by decide) (by rw [hR3]; exact Nat.le_of_ble_eq_true rfl) (by rw [hR4]; exact Nat.le_of_ble_eq_true rfl) dX8_init_428 (fun ad33 H h33 hW hS => ?_)
  rw [← h33 (100, 0) (by decide)] at hl ⊢
  have hl : lv_has ls 2 [(0, .ref (ad33 (100, 0)))] := hl
  rw [rowu_zero (hB0 41 (by decide))] at hW
  refine m_putK C hW hS 41 (by simp [hmo]) (by decide) (by decide) (fun j a1 a2 => absurd a2 (by omega)) rfl tw_6_4 rfl rfl rfl rfl dX8_init_430 (fun H locs hW hS => ?_)
  refine W.eq (g2 := F0 m 433 ls []) rfl ?_
  refine W.widen (k := 33) (n := 11220) (Nat.le_of_ble_eq_true rfl) (Nat.le_of_ble_eq_true rfl) ?_
  refine lv_aload_n hx hb dX8_init_433 rfl (lv_at hl 0 rfl) ?_
  refine lv_bipush (v := 50) hx hb dX8_init_434 (by decide) ?_
  refine m_newK (k := 0) (atype := .int) C hW hS 43 (by decide) (by simp [hno]) tw_1_65 rfl rfl (fun _ => rfl) (by decide) (by decide) (by decide) (by rw [hR3]; exact Nat.le_of_ble_eq_true rfl) (by rw [hR4]; exact Nat.le_of_ble_eq_true rfl) dX8_init_436 (fun ad34 H h34 hW hS => ?_)
  rw [← h34 (100, 0) (by decide)] at hl ⊢
  have hl : lv_has ls 2 [(0, .ref (ad34 (100, 0)))] := hl
  rw [rowu_zero (hB0 43 (by decide))] at hW
  refine m_putK C hW hS 43 (by simp [hmo]) (by decide) (by decide) (fun j a1 a2 => by rcases (show j = 42 by omega) with rfl <;> rfl) rfl tw_6_6 rfl rfl rfl rfl dX8_init_438 (fun H locs hW hS => ?_)
  refine W.eq (g2 := F0 m 441 ls []) rfl ?_
  refine W.widen (k := 34) (n := 11270) (Nat.le_of_ble_eq_true rfl) (Nat.le_of_ble_eq_true rfl) ?_
  refine lv_aload_n hx hb dX8_init_441 rfl (lv_at hl 0 rfl) ?_
  refine lv_bipush (v := 50) hx hb dX8_init_442 (by decide) ?_
  refine m_newK (k := 0) (atype := .int) C hW hS 44 (by decide) (by simp [hno]) tw_1_65 rfl rfl (fun _ => rfl) (by decide) (by decide) (by decide) (by rw [hR3]; exact Nat.le_of_ble_eq_true rfl) (by rw [hR4]; exact Nat.le_of_ble_eq_true rfl) dX8_init_444 (fun ad35 H h35 hW hS => ?_)
  rw [← h35 (100, 0) (by decide)] at hl ⊢
  have hl : lv_has ls 2 [(0, .ref (ad35 (100, 0)))] := hl
  rw [rowu_zero (hB0 44 (by decide))] at hW
  refine m_putK C hW hS 44 (by simp [hmo]) (by decide) (by decide) (fun j a1 a2 => absurd a2 (by omega)) rfl tw_6_7 rfl rfl rfl rfl dX8_init_446 (fun H locs hW hS => ?_)
  refine W.eq (g2 := F0 m 449 ls []) rfl ?_
  refine W.widen (k := 35) (n := 11320) (Nat.le_of_ble_eq_true rfl) (Nat.le_of_ble_eq_true rfl) ?_
  refine lv_aload_n hx hb dX8_init_449 rfl (lv_at hl 0 rfl) ?_
  refine lv_bipush (v := 50) hx hb dX8_init_450 (by decide) ?_
  refine m_newK (k := 0) (atype := .int) C hW hS 45 (by decide) (by simp [hno]) tw_1_65 rfl rfl (fun _ => rfl) (by decide) (by decide) (by decide) (by rw [hR3]; exact Nat.le_of_ble_eq_true rfl) (by rw [hR4]; exact Nat.le_of_ble_eq_true rfl) dX8_init_452 (fun ad36 H h36 hW hS => ?_)
  rw [← h36 (100, 0) (by decide)] at hl ⊢
  have hl : lv_has ls 2 [(0, .ref (ad36 (100, 0)))] := hl
  rw [rowu_zero (hB0 45 (by decide))] at hW
  refine m_putK C hW hS 45 (by simp [hmo]) (by decide) (by decide) (fun j a1 a2 => absurd a2 (by omega)) rfl tw_6_8 rfl rfl rfl rfl dX8_init_454 (fun H locs hW hS => ?_)
  refine W.eq (g2 := F0 m 457 ls []) rfl ?_
  refine W.widen (k := 36) (n := 11370) (Nat.le_of_ble_eq_true rfl) (Nat.le_of_ble_eq_true rfl) ?_
  refine lv_aload_n hx hb dX8_init_457 rfl (lv_at hl 0 rfl) ?_
  refine lv_bipush (v := 50) hx hb dX8_init_458 (by decide) ?_
  refine m_newK (k := 0) (atype := .int) C hW hS 46 (by decide) (by simp [hno]) tw_1_65 rfl rfl (fun _ => rfl) (by decide) (by decide) (by decide) (by rw [hR3]; exact Nat.le_of_ble_eq_true rfl) (by rw [hR4]; exact Nat.le_of_ble_eq_true rfl) dX8_init_460 (fun ad37 H h37 hW hS => ?_)
  rw [← h37 (100, 0) (by decide)] at hl ⊢
  have hl : lv_has ls 2 [(0, .ref (ad37 (100, 0)))] := hl
  rw [rowu_zero (hB0 46 (by decide))] at hW
  refine m_putK C hW hS 46 (by simp [hmo]) (by decide) (by decide) (fun j a1 a2 => absurd a2 (by omega)) rfl tw_6_9 rfl rfl rfl rfl dX8_init_462 (fun H locs hW hS => ?_)
  refine W.eq (g2 := F0 m 465 ls []) rfl ?_
  refine W.widen (k := 37) (n := 11420) (Nat.le_of_ble_eq_true rfl) (Nat.le_of_ble_eq_true rfl) ?_
  rw [pSt_all] at hW
  have hadF : ∀ r : ro, r.1 ≠ 101 → ad37 r = ad r := fun r hr => by
    rw [h37 r (fun e9 => hr (by rw [e9])), h36 r (fun e9 => hr (by rw [e9])), h35 r (fun e9 => hr (by rw [e9])), h34 r (fun e9 => hr (by rw [e9])), h33 r (fun e9 => hr (by rw [e9])), h32 r (fun e9 => hr (by rw [e9])), h31 r (fun e9 => hr (by rw [e9])), h30 r (fun e9 => hr (by rw [e9])), h29 r (fun e9 => hr (by rw [e9])), h28 r (fun e9 => hr (by rw [e9])), h27 r (fun e9 => hr (by rw [e9])), h26 r (fun e9 => hr (by rw [e9])), h25 r (fun e9 => hr (by rw [e9])), h24 r (fun e9 => hr (by rw [e9])), h23 r (fun e9 => hr (by rw [e9])), h22 r (fun e9 => hr (by rw [e9])), h21 r (fun e9 => hr (by rw [e9])), h20 r (fun e9 => hr (by rw [e9])), h19 r (fun e9 => hr (by rw [e9])), h18 r (fun e9 => hr (by rw [e9])), h17 r (fun e9 => hr (by rw [e9])), h16 r (fun e9 => hr (by rw [e9])), h15 r (fun e9 => hr (by rw [e9])), h14 r (fun e9 => hr (by rw [e9])), h13 r (fun e9 => hr (by rw [e9])), h12 r (fun e9 => hr (by rw [e9])), h11 r (fun e9 => hr (by rw [e9])), h10 r (fun e9 => hr (by rw [e9])), h9 r (fun e9 => hr (by rw [e9])), h8 r (fun e9 => hr (by rw [e9])), h7 r (fun e9 => hr (by rw [e9])), h6 r (fun e9 => hr (by rw [e9])), h5 r (fun e9 => hr (by rw [e9])), h4 r (fun e9 => hr (by rw [e9])), h3 r (fun e9 => hr (by rw [e9])), h2 r (fun e9 => hr (by rw [e9])), h1 r (fun e9 => hr (by rw [e9]))]
  have hm : mL (L ++ [(101, 2)] ++ [(101, 4)] ++ [(101, 5)] ++ [(101, 6)] ++ [(101, 9)] ++ [(101, 11)] ++ [(101, 12)] ++ [(101, 13)] ++ [(101, 14)] ++ [(101, 15)] ++ [(101, 16)] ++ [(101, 17)] ++ [(101, 18)] ++ [(101, 19)] ++ [(101, 20)] ++ [(101, 21)] ++ [(101, 24)] ++ [(101, 25)] ++ [(101, 26)] ++ [(101, 27)] ++ [(101, 28)] ++ [(101, 29)] ++ [(101, 30)] ++ [(101, 31)] ++ [(101, 33)] ++ [(101, 34)] ++ [(101, 35)] ++ [(101, 36)] ++ [(101, 37)] ++ [(101, 38)] ++ [(101, 39)] ++ [(101, 40)] ++ [(101, 41)] ++ [(101, 43)] ++ [(101, 44)] ++ [(101, 45)] ++ [(101, 46)]) := ⟨by simp [hmo], fun k hk hi => by
    have hd : ∀ k, k < 47 → mInt k = false → ((101, k) : ro) ∈ mAr := by decide +kernel
    have hz := hd k hk hi
    simp only [mAr, List.mem_cons, List.not_mem_nil, or_false] at hz
    simp only [List.mem_append, List.mem_singleton]
    grind⟩
  have hLe : (L ++ [(101, 2)] ++ [(101, 4)] ++ [(101, 5)] ++ [(101, 6)] ++ [(101, 9)] ++ [(101, 11)] ++ [(101, 12)] ++ [(101, 13)] ++ [(101, 14)] ++ [(101, 15)] ++ [(101, 16)] ++ [(101, 17)] ++ [(101, 18)] ++ [(101, 19)] ++ [(101, 20)] ++ [(101, 21)] ++ [(101, 24)] ++ [(101, 25)] ++ [(101, 26)] ++ [(101, 27)] ++ [(101, 28)] ++ [(101, 29)] ++ [(101, 30)] ++ [(101, 31)] ++ [(101, 33)] ++ [(101, 34)] ++ [(101, 35)] ++ [(101, 36)] ++ [(101, 37)] ++ [(101, 38)] ++ [(101, 39)] ++ [(101, 40)] ++ [(101, 41)] ++ [(101, 43)] ++ [(101, 44)] ++ [(101, 45)] ++ [(101, 46)]) = L ++ mAr := by simp [mAr]
  rw [hLe] at hW hm
  exact ini_B C ⟨hR1, hR2, hR3, hR4⟩ hQ hm hW hS hl (fun fa2 h9 => ⟨_, _, rfl, hadF, (fun k a4 a5 a11 a12 a19 a20 a21 a28 => (h9.1 k a11 a12 a19 a20 a21 a28).trans (hB0 k ⟨a4, a5⟩)), (fun k hk => (congrFun (h9.1 4 (by decide) (by decide) (by decide) (by decide) (by decide) (by decide)) k).trans (hB4 k hk)), (fun k hk => (congrFun (h9.1 5 (by decide) (by decide) (by decide) (by decide) (by decide) (by decide)) k).trans (hB5 k hk)), h9.2.1, h9.2.2.1, h9.2.2.2⟩)

