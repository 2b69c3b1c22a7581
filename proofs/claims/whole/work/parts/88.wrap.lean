set_option maxHeartbeats 4000000 in
theorem w_type (l : Launch) (X : GX) (L : List ro) (ad : ro → Nat) (st : ro → va_E) (a : Int32) {fs : List Value} {f : Nat → Int64} {post : Int32 → WS → Prop} {px : String → WS → Prop} {P : Int32 → WS → Prop} (hM : gXi l yX7_type cX7_type 2 (some .int) 6 82 10 300 X [.ref (ad (1, 0)), .int a] L ad st post px) (hr : (1, 0) ∈ L) (he : st (1, 0) = .inr (10, fs)) (hP0 : ∀ v u, post v u → (((110, 0) : ro) ∈ u.1 ∧ u.2.1 (110, 0) = ad (110, 0) ∧ u.2.2 (110, 0) = lng X f) ∧ P 0 (u.1, u.2.1, sup u.2.2 (110, 0) (lng X (vp_updL f 0 v.toInt64)))) (hPx : ∀ E u, px E u → (E = "java/lang/IllegalArgumentException" ∧ P 1 u) ∨ (E = "java/lang/IllegalStateException" ∧ P 2 u)) : gWi l yL_type cL_type 4 (some .int) [(0, 9, 12, 13), (0, 9, 15, 15)] 7 103 10 300 X [.ref (ad (1, 0)), .int a, .ref (ad (110, 0))] L ad st P := by
  refine gWi_of (by decide) (Nat.le_of_ble_eq_true rfl) ?_
  intro p e s m args below meth c A R Q hR hQ hT C hW hS ls hl
  obtain ⟨hR1, hR2, hR3, hR4⟩ := hR
  have hx := C.1.1
  have hb := C.1.2.1
  have hl : lv_has ls 4 [(0, .ref (ad (1, 0))), (1, .int a), (2, .ref (ad (110, 0)))] := hl
  refine lv_aload_n hx hb dL_type_0 rfl (lv_at hl 2 rfl) ?_
  refine lv_iconst (v := 0) hx hb dL_type_1 (by decide) ?_
  refine lv_aload_n hx hb dL_type_2 rfl (lv_at hl 0 rfl) ?_
  refine lv_iload_n hx hb dL_type_3 rfl (lv_at hl 1 rfl) ?_
  refine g_callXc (r := (1, 0)) (T := TX7) (N := 7) (k2 := 1) (As := [.int a]) (rest := [.int 0, .ref (ad (110, 0))]) C hM tw_3_235 tw_3_236 tw_3_237 tw_1_1 tw_3_238 (by decide +kernel) ⟨by rw [hR1]; exact Nat.le_of_ble_eq_true rfl, by rw [hR2]; exact Nat.le_of_ble_eq_true rfl⟩ hW hS hr he rfl rfl hl.1 rfl (Nat.le_of_ble_eq_true rfl) dL_type_4 ⟨by rw [hR3]; exact Nat.le_of_ble_eq_true rfl, by rw [hR4]; exact Nat.le_of_ble_eq_true rfl⟩ (fun E L9 ad9 st9 H locs ce q9 hp hW hS hce hcv hcl => ?_) (fun v L9 ad9 st9 H locs hp hW hS => ?_)
  · have hT2 : c.exceptionTable.toList = ([⟨0, 9, 12, 13⟩, ⟨0, 9, 15, 15⟩] : List ExceptionTableEntry) := hT
    rcases hPx _ _ hp with ⟨rfl, hP⟩ | ⟨rfl, hP⟩
    · refine g_catch C [] ⟨0, 9, 12, 13⟩ [⟨0, 9, 15, 15⟩] hT2 (fun z hz => by simp at hz) (by decide) (by decide) tw_3_233 (by decide) hce hcv hcl ?_
      refine lv_astore_n (lv' := [(3, .ref q9), (0, .ref (ad (1, 0))), (1, .int a), (2, .ref (ad (110, 0)))]) hx hb dL_type_12 rfl hl (by decide) rfl (fun ls hl => ?_)
      refine lv_iconst (v := 1) hx hb dL_type_13 (by decide) ?_
      exact g_iret2 C hQ hW hS hP rfl (Nat.le_of_ble_eq_true rfl) (Nat.le_of_ble_eq_true rfl) dL_type_14
    · refine g_catch C [⟨0, 9, 12, 13⟩] ⟨0, 9, 15, 15⟩ [] hT2 (fun z hz => by simp only [List.mem_cons, List.not_mem_nil, or_false] at hz; rcases hz with rfl <;> first | exact ⟨by decide, "java/lang/IllegalArgumentException", tw_3_233, by decide⟩) (by decide) (by decide) tw_3_234 (by decide) hce hcv hcl ?_
      refine lv_astore_n (lv' := [(3, .ref q9), (0, .ref (ad (1, 0))), (1, .int a), (2, .ref (ad (110, 0)))]) hx hb dL_type_15 rfl hl (by decide) rfl (fun ls hl => ?_)
      refine lv_iconst (v := 2) hx hb dL_type_16 (by decide) ?_
      exact g_iret2 C hQ hW hS hP rfl (Nat.le_of_ble_eq_true rfl) (Nat.le_of_ble_eq_true rfl) dL_type_17
  · obtain ⟨⟨h1, h2, h3⟩, hP⟩ := hP0 _ _ hp
    refine lv_i2l hx hb dL_type_7 rfl ?_
    rw [← h2]
    refine g_last (r := (110, 0)) C hW hS h1 h3 (vp_in_nI (n := 0) (N := 1) (by decide) (by decide)) dL_type_8 (fun H locs hW hS => ?_)
    refine lv_goto (tgt := 18) hx hb dL_type_9 (by decide) ?_
    refine lv_iconst (v := 0) hx hb dL_type_18 (by decide) ?_
    exact g_iret2 C hQ hW hS hP rfl (Nat.le_of_ble_eq_true rfl) (Nat.le_of_ble_eq_true rfl) dL_type_19

set_option maxHeartbeats 4000000 in
theorem w_fault (l : Launch) (X : GX) (L : List ro) (ad : ro → Nat) (st : ro → va_E) (a : Int32) {fs : List Value} {f : Nat → Int64} {post : Int32 → WS → Prop} {px : String → WS → Prop} {P : Int32 → WS → Prop} (hM : gXi l yX7_fault cX7_fault 3 (some .char) 8 192 10 300 X [.ref (ad (1, 0)), .int a] L ad st post px) (hr : (1, 0) ∈ L) (he : st (1, 0) = .inr (10, fs)) (hP0 : ∀ v u, post v u → (((110, 0) : ro) ∈ u.1 ∧ u.2.1 (110, 0) = ad (110, 0) ∧ u.2.2 (110, 0) = lng X f) ∧ P 0 (u.1, u.2.1, sup u.2.2 (110, 0) (lng X (vp_updL f 0 v.toInt64)))) (hPx : ∀ E u, px E u → (E = "java/lang/IndexOutOfBoundsException" ∧ P 1 u)) : gWi l yL_fault cL_fault 4 (some .int) [(0, 9, 12, 21)] 9 214 10 300 X [.ref (ad (1, 0)), .int a, .ref (ad (110, 0))] L ad st P := by
  refine gWi_of (by decide) (Nat.le_of_ble_eq_true rfl) ?_
  intro p e s m args below meth c A R Q hR hQ hT C hW hS ls hl
  obtain ⟨hR1, hR2, hR3, hR4⟩ := hR
  have hx := C.1.1
  have hb := C.1.2.1
  have hl : lv_has ls 4 [(0, .ref (ad (1, 0))), (1, .int a), (2, .ref (ad (110, 0)))] := hl
  refine lv_aload_n hx hb dL_fault_0 rfl (lv_at hl 2 rfl) ?_
  refine lv_iconst (v := 0) hx hb dL_fault_1 (by decide) ?_
  refine lv_aload_n hx hb dL_fault_2 rfl (lv_at hl 0 rfl) ?_
  refine lv_iload_n hx hb dL_fault_3 rfl (lv_at hl 1 rfl) ?_
  refine g_callXc (r := (1, 0)) (T := TX7) (N := 7) (k2 := 1) (As := [.int a]) (rest := [.int 0, .ref (ad (110, 0))]) C hM tw_4_33 tw_4_34 tw_4_35 tw_1_1 tw_4_36 (by decide +kernel) ⟨by rw [hR1]; exact Nat.le_of_ble_eq_true rfl, by rw [hR2]; exact Nat.le_of_ble_eq_true rfl⟩ hW hS hr he rfl rfl hl.1 rfl (Nat.le_of_ble_eq_true rfl) dL_fault_4 ⟨by rw [hR3]; exact Nat.le_of_ble_eq_true rfl, by rw [hR4]; exact Nat.le_of_ble_eq_true rfl⟩ (fun E L9 ad9 st9 H locs ce q9 hp hW hS hce hcv hcl => ?_) (fun v L9 ad9 st9 H locs hp hW hS => ?_)
  · have hT2 : c.exceptionTable.toList = ([⟨0, 9, 12, 21⟩] : List ExceptionTableEntry) := hT
    obtain ⟨rfl, hP⟩ := hPx _ _ hp
    refine g_catch C [] ⟨0, 9, 12, 21⟩ [] hT2 (fun z hz => by simp at hz) (by decide) (by decide) tw_4_32 (by decide) hce hcv hcl ?_
    refine lv_astore_n (lv' := [(3, .ref q9), (0, .ref (ad (1, 0))), (1, .int a), (2, .ref (ad (110, 0)))]) hx hb dL_fault_12 rfl hl (by decide) rfl (fun ls hl => ?_)
    refine lv_iconst (v := 1) hx hb dL_fault_13 (by decide) ?_
    exact g_iret2 C hQ hW hS hP rfl (Nat.le_of_ble_eq_true rfl) (Nat.le_of_ble_eq_true rfl) dL_fault_14
  · obtain ⟨⟨h1, h2, h3⟩, hP⟩ := hP0 _ _ hp
    refine lv_i2l hx hb dL_fault_7 rfl ?_
    rw [← h2]
    refine g_last (r := (110, 0)) C hW hS h1 h3 (vp_in_nI (n := 0) (N := 1) (by decide) (by decide)) dL_fault_8 (fun H locs hW hS => ?_)
    refine lv_goto (tgt := 15) hx hb dL_fault_9 (by decide) ?_
    refine lv_iconst (v := 0) hx hb dL_fault_15 (by decide) ?_
    exact g_iret2 C hQ hW hS hP rfl (Nat.le_of_ble_eq_true rfl) (Nat.le_of_ble_eq_true rfl) dL_fault_16

set_option maxHeartbeats 4000000 in
theorem w_pass (l : Launch) (X : GX) (L : List ro) (ad : ro → Nat) (st : ro → va_E) (a : Int32) {fs : List Value} {f : Nat → Int64} {post : Int32 → WS → Prop} {px : String → WS → Prop} {P : Int32 → WS → Prop} (hM : gXi l yX7_pass cX7_pass 2 (some .int) 6 82 10 300 X [.ref (ad (1, 0)), .int a] L ad st post px) (hr : (1, 0) ∈ L) (he : st (1, 0) = .inr (10, fs)) (hP0 : ∀ v u, post v u → (((110, 0) : ro) ∈ u.1 ∧ u.2.1 (110, 0) = ad (110, 0) ∧ u.2.2 (110, 0) = lng X f) ∧ P 0 (u.1, u.2.1, sup u.2.2 (110, 0) (lng X (vp_updL f 0 v.toInt64)))) (hPx : ∀ E u, px E u → (E = "java/lang/IllegalArgumentException" ∧ P 1 u) ∨ (E = "java/lang/IllegalStateException" ∧ P 2 u)) : gWi l yL_pass cL_pass 4 (some .int) [(0, 9, 12, 13), (0, 9, 15, 15)] 7 103 10 300 X [.ref (ad (1, 0)), .int a, .ref (ad (110, 0))] L ad st P := by
  refine gWi_of (by decide) (Nat.le_of_ble_eq_true rfl) ?_
  intro p e s m args below meth c A R Q hR hQ hT C hW hS ls hl
  obtain ⟨hR1, hR2, hR3, hR4⟩ := hR
  have hx := C.1.1
  have hb := C.1.2.1
  have hl : lv_has ls 4 [(0, .ref (ad (1, 0))), (1, .int a), (2, .ref (ad (110, 0)))] := hl
  refine lv_aload_n hx hb dL_pass_0 rfl (lv_at hl 2 rfl) ?_
  refine lv_iconst (v := 0) hx hb dL_pass_1 (by decide) ?_
  refine lv_aload_n hx hb dL_pass_2 rfl (lv_at hl 0 rfl) ?_
  refine lv_iload_n hx hb dL_pass_3 rfl (lv_at hl 1 rfl) ?_
  refine g_callXc (r := (1, 0)) (T := TX7) (N := 7) (k2 := 1) (As := [.int a]) (rest := [.int 0, .ref (ad (110, 0))]) C hM tw_4_57 tw_4_58 tw_4_59 tw_1_1 tw_4_60 (by decide +kernel) ⟨by rw [hR1]; exact Nat.le_of_ble_eq_true rfl, by rw [hR2]; exact Nat.le_of_ble_eq_true rfl⟩ hW hS hr he rfl rfl hl.1 rfl (Nat.le_of_ble_eq_true rfl) dL_pass_4 ⟨by rw [hR3]; exact Nat.le_of_ble_eq_true rfl, by rw [hR4]; exact Nat.le_of_ble_eq_true rfl⟩ (fun E L9 ad9 st9 H locs ce q9 hp hW hS hce hcv hcl => ?_) (fun v L9 ad9 st9 H locs hp hW hS => ?_)
  · have hT2 : c.exceptionTable.toList = ([⟨0, 9, 12, 13⟩, ⟨0, 9, 15, 15⟩] : List ExceptionTableEntry) := hT
    rcases hPx _ _ hp with ⟨rfl, hP⟩ | ⟨rfl, hP⟩
    · refine g_catch C [] ⟨0, 9, 12, 13⟩ [⟨0, 9, 15, 15⟩] hT2 (fun z hz => by simp at hz) (by decide) (by decide) tw_3_233 (by decide) hce hcv hcl ?_
      refine lv_astore_n (lv' := [(3, .ref q9), (0, .ref (ad (1, 0))), (1, .int a), (2, .ref (ad (110, 0)))]) hx hb dL_pass_12 rfl hl (by decide) rfl (fun ls hl => ?_)
      refine lv_iconst (v := 1) hx hb dL_pass_13 (by decide) ?_
      exact g_iret2 C hQ hW hS hP rfl (Nat.le_of_ble_eq_true rfl) (Nat.le_of_ble_eq_true rfl) dL_pass_14
    · refine g_catch C [⟨0, 9, 12, 13⟩] ⟨0, 9, 15, 15⟩ [] hT2 (fun z hz => by simp only [List.mem_cons, List.not_mem_nil, or_false] at hz; rcases hz with rfl <;> first | exact ⟨by decide, "java/lang/IllegalArgumentException", tw_3_233, by decide⟩) (by decide) (by decide) tw_3_234 (by decide) hce hcv hcl ?_
      refine lv_astore_n (lv' := [(3, .ref q9), (0, .ref (ad (1, 0))), (1, .int a), (2, .ref (ad (110, 0)))]) hx hb dL_pass_15 rfl hl (by decide) rfl (fun ls hl => ?_)
      refine lv_iconst (v := 2) hx hb dL_pass_16 (by decide) ?_
      exact g_iret2 C hQ hW hS hP rfl (Nat.le_of_ble_eq_true rfl) (Nat.le_of_ble_eq_true rfl) dL_pass_17
  · obtain ⟨⟨h1, h2, h3⟩, hP⟩ := hP0 _ _ hp
    refine lv_i2l hx hb dL_pass_7 rfl ?_
    rw [← h2]
    refine g_last (r := (110, 0)) C hW hS h1 h3 (vp_in_nI (n := 0) (N := 1) (by decide) (by decide)) dL_pass_8 (fun H locs hW hS => ?_)
    refine lv_goto (tgt := 18) hx hb dL_pass_9 (by decide) ?_
    refine lv_iconst (v := 0) hx hb dL_pass_18 (by decide) ?_
    exact g_iret2 C hQ hW hS hP rfl (Nat.le_of_ble_eq_true rfl) (Nat.le_of_ble_eq_true rfl) dL_pass_19

set_option maxHeartbeats 4000000 in
theorem w_quota (l : Launch) (X : GX) (L : List ro) (ad : ro → Nat) (st : ro → va_E) (a b c8 : Int32) {fs : List Value} {f : Nat → Int64} {post : Int32 → WS → Prop} {px : String → WS → Prop} {P : Int32 → WS → Prop} (hM : gXi l yX7_quota cX7_quota 6 (some .int) 7 103 10 300 X [.ref (ad (1, 0)), .int a, .int b, .int c8] L ad st post px) (hr : (1, 0) ∈ L) (he : st (1, 0) = .inr (10, fs)) (hP0 : ∀ v u, post v u → (((110, 0) : ro) ∈ u.1 ∧ u.2.1 (110, 0) = ad (110, 0) ∧ u.2.2 (110, 0) = lng X f) ∧ P 0 (u.1, u.2.1, sup u.2.2 (110, 0) (lng X (vp_updL f 0 v.toInt64)))) (hPx : ∀ E u, px E u → (E = "java/lang/IndexOutOfBoundsException" ∧ P 1 u) ∨ (E = "java/lang/IllegalArgumentException" ∧ P 2 u)) : gWi l yL_quota cL_quota 6 (some .int) [(0, 12, 15, 21), (0, 12, 19, 13)] 8 128 10 300 X [.ref (ad (1, 0)), .int a, .int b, .int c8, .ref (ad (110, 0))] L ad st P := by
  refine gWi_of (by decide) (Nat.le_of_ble_eq_true rfl) ?_
  intro p e s m args below meth c A R Q hR hQ hT C hW hS ls hl
  obtain ⟨hR1, hR2, hR3, hR4⟩ := hR
  have hx := C.1.1
  have hb := C.1.2.1
  have hl : lv_has ls 6 [(0, .ref (ad (1, 0))), (1, .int a), (2, .int b), (3, .int c8), (4, .ref (ad (110, 0)))] := hl
  refine lv_aload hx hb dL_quota_0 (lv_at hl 4 rfl) ?_
  refine lv_iconst (v := 0) hx hb dL_quota_2 (by decide) ?_
  refine lv_aload_n hx hb dL_quota_3 rfl (lv_at hl 0 rfl) ?_
  refine lv_iload_n hx hb dL_quota_4 rfl (lv_at hl 1 rfl) ?_
  refine lv_iload_n hx hb dL_quota_5 rfl (lv_at hl 2 rfl) ?_
  refine lv_iload_n hx hb dL_quota_6 rfl (lv_at hl 3 rfl) ?_
  refine g_callXc (r := (1, 0)) (T := TX7) (N := 7) (k2 := 3) (As := [.int a, .int b, .int c8]) (rest := [.int 0, .ref (ad (110, 0))]) C hM tw_4_67 tw_4_68 tw_4_69 tw_1_1 tw_4_70 (by decide +kernel) ⟨by rw [hR1]; exact Nat.le_of_ble_eq_true rfl, by rw [hR2]; exact Nat.le_of_ble_eq_true rfl⟩ hW hS hr he rfl rfl hl.1 rfl (Nat.le_of_ble_eq_true rfl) dL_quota_7 ⟨by rw [hR3]; exact Nat.le_of_ble_eq_true rfl, by rw [hR4]; exact Nat.le_of_ble_eq_true rfl⟩ (fun E L9 ad9 st9 H locs ce q9 hp hW hS hce hcv hcl => ?_) (fun v L9 ad9 st9 H locs hp hW hS => ?_)
  · have hT2 : c.exceptionTable.toList = ([⟨0, 12, 15, 21⟩, ⟨0, 12, 19, 13⟩] : List ExceptionTableEntry) := hT
    rcases hPx _ _ hp with ⟨rfl, hP⟩ | ⟨rfl, hP⟩
    · refine g_catch C [] ⟨0, 12, 15, 21⟩ [⟨0, 12, 19, 13⟩] hT2 (fun z hz => by simp at hz) (by decide) (by decide) tw_4_32 (by decide) hce hcv hcl ?_
      refine lv_astore (lv' := [(5, .ref q9), (0, .ref (ad (1, 0))), (1, .int a), (2, .int b), (3, .int c8), (4, .ref (ad (110, 0)))]) hx hb dL_quota_15 hl (by decide) rfl (fun ls hl => ?_)
      refine lv_iconst (v := 1) hx hb dL_quota_17 (by decide) ?_
      exact g_iret2 C hQ hW hS hP rfl (Nat.le_of_ble_eq_true rfl) (Nat.le_of_ble_eq_true rfl) dL_quota_18
    · refine g_catch C [⟨0, 12, 15, 21⟩] ⟨0, 12, 19, 13⟩ [] hT2 (fun z hz => by simp only [List.mem_cons, List.not_mem_nil, or_false] at hz; rcases hz with rfl <;> first | exact ⟨by decide, "java/lang/IndexOutOfBoundsException", tw_4_32, by decide⟩) (by decide) (by decide) tw_3_233 (by decide) hce hcv hcl ?_
      refine lv_astore (lv' := [(5, .ref q9), (0, .ref (ad (1, 0))), (1, .int a), (2, .int b), (3, .int c8), (4, .ref (ad (110, 0)))]) hx hb dL_quota_19 hl (by decide) rfl (fun ls hl => ?_)
      refine lv_iconst (v := 2) hx hb dL_quota_21 (by decide) ?_
      exact g_iret2 C hQ hW hS hP rfl (Nat.le_of_ble_eq_true rfl) (Nat.le_of_ble_eq_true rfl) dL_quota_22
  · obtain ⟨⟨h1, h2, h3⟩, hP⟩ := hP0 _ _ hp
    refine lv_i2l hx hb dL_quota_10 rfl ?_
    rw [← h2]
    refine g_last (r := (110, 0)) C hW hS h1 h3 (vp_in_nI (n := 0) (N := 1) (by decide) (by decide)) dL_quota_11 (fun H locs hW hS => ?_)
    refine lv_goto (tgt := 23) hx hb dL_quota_12 (by decide) ?_
    refine lv_iconst (v := 0) hx hb dL_quota_23 (by decide) ?_
    exact g_iret2 C hQ hW hS hP rfl (Nat.le_of_ble_eq_true rfl) (Nat.le_of_ble_eq_true rfl) dL_quota_24

set_option maxHeartbeats 4000000 in
theorem w_carrier (l : Launch) (X : GX) (L : List ro) (ad : ro → Nat) (st : ro → va_E) (a b c8 : Int32) {fs : List Value} {f : Nat → Int64} {post : Int32 → WS → Prop} {px : String → WS → Prop} {P : Int32 → WS → Prop} (hM : gXi l yX7_carrier cX7_carrier 6 (some .int) 7 103 10 300 X [.ref (ad (1, 0)), .int a, .int b, .int c8] L ad st post px) (hr : (1, 0) ∈ L) (he : st (1, 0) = .inr (10, fs)) (hP0 : ∀ v u, post v u → (((110, 0) : ro) ∈ u.1 ∧ u.2.1 (110, 0) = ad (110, 0) ∧ u.2.2 (110, 0) = lng X f) ∧ P 0 (u.1, u.2.1, sup u.2.2 (110, 0) (lng X (vp_updL f 0 v.toInt64)))) (hPx : ∀ E u, px E u → (E = "java/lang/IndexOutOfBoundsException" ∧ P 1 u) ∨ (E = "java/lang/IllegalArgumentException" ∧ P 2 u)) : gWi l yL_carrier cL_carrier 6 (some .int) [(0, 12, 15, 21), (0, 12, 19, 13)] 8 128 10 300 X [.ref (ad (1, 0)), .int a, .int b, .int c8, .ref (ad (110, 0))] L ad st P := by
  refine gWi_of (by decide) (Nat.le_of_ble_eq_true rfl) ?_
  intro p e s m args below meth c A R Q hR hQ hT C hW hS ls hl
  obtain ⟨hR1, hR2, hR3, hR4⟩ := hR
  have hx := C.1.1
  have hb := C.1.2.1
  have hl : lv_has ls 6 [(0, .ref (ad (1, 0))), (1, .int a), (2, .int b), (3, .int c8), (4, .ref (ad (110, 0)))] := hl
  refine lv_aload hx hb dL_carrier_0 (lv_at hl 4 rfl) ?_
  refine lv_iconst (v := 0) hx hb dL_carrier_2 (by decide) ?_
  refine lv_aload_n hx hb dL_carrier_3 rfl (lv_at hl 0 rfl) ?_
  refine lv_iload_n hx hb dL_carrier_4 rfl (lv_at hl 1 rfl) ?_
  refine lv_iload_n hx hb dL_carrier_5 rfl (lv_at hl 2 rfl) ?_
  refine lv_iload_n hx hb dL_carrier_6 rfl (lv_at hl 3 rfl) ?_
  refine g_callXc (r := (1, 0)) (T := TX7) (N := 7) (k2 := 3) (As := [.int a, .int b, .int c8]) (rest := [.int 0, .ref (ad (110, 0))]) C hM tw_4_80 tw_4_81 tw_4_82 tw_1_1 tw_4_83 (by decide +kernel) ⟨by rw [hR1]; exact Nat.le_of_ble_eq_true rfl, by rw [hR2]; exact Nat.le_of_ble_eq_true rfl⟩ hW hS hr he rfl rfl hl.1 rfl (Nat.le_of_ble_eq_true rfl) dL_carrier_7 ⟨by rw [hR3]; exact Nat.le_of_ble_eq_true rfl, by rw [hR4]; exact Nat.le_of_ble_eq_true rfl⟩ (fun E L9 ad9 st9 H locs ce q9 hp hW hS hce hcv hcl => ?_) (fun v L9 ad9 st9 H locs hp hW hS => ?_)
  · have hT2 : c.exceptionTable.toList = ([⟨0, 12, 15, 21⟩, ⟨0, 12, 19, 13⟩] : List ExceptionTableEntry) := hT
    rcases hPx _ _ hp with ⟨rfl, hP⟩ | ⟨rfl, hP⟩
    · refine g_catch C [] ⟨0, 12, 15, 21⟩ [⟨0, 12, 19, 13⟩] hT2 (fun z hz => by simp at hz) (by decide) (by decide) tw_4_32 (by decide) hce hcv hcl ?_
      refine lv_astore (lv' := [(5, .ref q9), (0, .ref (ad (1, 0))), (1, .int a), (2, .int b), (3, .int c8), (4, .ref (ad (110, 0)))]) hx hb dL_carrier_15 hl (by decide) rfl (fun ls hl => ?_)
      refine lv_iconst (v := 1) hx hb dL_carrier_17 (by decide) ?_
      exact g_iret2 C hQ hW hS hP rfl (Nat.le_of_ble_eq_true rfl) (Nat.le_of_ble_eq_true rfl) dL_carrier_18
    · refine g_catch C [⟨0, 12, 15, 21⟩] ⟨0, 12, 19, 13⟩ [] hT2 (fun z hz => by simp only [List.mem_cons, List.not_mem_nil, or_false] at hz; rcases hz with rfl <;> first | exact ⟨by decide, "java/lang/IndexOutOfBoundsException", tw_4_32, by decide⟩) (by decide) (by decide) tw_3_233 (by decide) hce hcv hcl ?_
      refine lv_astore (lv' := [(5, .ref q9), (0, .ref (ad (1, 0))), (1, .int a), (2, .int b), (3, .int c8), (4, .ref (ad (110, 0)))]) hx hb dL_carrier_19 hl (by decide) rfl (fun ls hl => ?_)
      refine lv_iconst (v := 2) hx hb dL_carrier_21 (by decide) ?_
      exact g_iret2 C hQ hW hS hP rfl (Nat.le_of_ble_eq_true rfl) (Nat.le_of_ble_eq_true rfl) dL_carrier_22
  · obtain ⟨⟨h1, h2, h3⟩, hP⟩ := hP0 _ _ hp
    refine lv_i2l hx hb dL_carrier_10 rfl ?_
    rw [← h2]
    refine g_last (r := (110, 0)) C hW hS h1 h3 (vp_in_nI (n := 0) (N := 1) (by decide) (by decide)) dL_carrier_11 (fun H locs hW hS => ?_)
    refine lv_goto (tgt := 23) hx hb dL_carrier_12 (by decide) ?_
    refine lv_iconst (v := 0) hx hb dL_carrier_23 (by decide) ?_
    exact g_iret2 C hQ hW hS hP rfl (Nat.le_of_ble_eq_true rfl) (Nat.le_of_ble_eq_true rfl) dL_carrier_24

set_option maxHeartbeats 4000000 in
theorem w_tariff (l : Launch) (X : GX) (L : List ro) (ad : ro → Nat) (st : ro → va_E) (a b c8 d8 : Int32) {fs : List Value} {f : Nat → Int64} {post : Int32 → WS → Prop} {px : String → WS → Prop} {P : Int32 → WS → Prop} (hM : gXi l yX7_tariff cX7_tariff 7 (some .int) 7 103 10 300 X [.ref (ad (1, 0)), .int a, .int b, .int c8, .int d8] L ad st post px) (hr : (1, 0) ∈ L) (he : st (1, 0) = .inr (10, fs)) (hP0 : ∀ v u, post v u → (((110, 0) : ro) ∈ u.1 ∧ u.2.1 (110, 0) = ad (110, 0) ∧ u.2.2 (110, 0) = lng X f) ∧ P 0 (u.1, u.2.1, sup u.2.2 (110, 0) (lng X (vp_updL f 0 v.toInt64)))) (hPx : ∀ E u, px E u → (E = "java/lang/IndexOutOfBoundsException" ∧ P 1 u) ∨ (E = "java/lang/IllegalArgumentException" ∧ P 2 u)) : gWi l yL_tariff cL_tariff 7 (some .int) [(0, 14, 17, 21), (0, 14, 21, 13)] 8 129 10 300 X [.ref (ad (1, 0)), .int a, .int b, .int c8, .int d8, .ref (ad (110, 0))] L ad st P := by
  refine gWi_of (by decide) (Nat.le_of_ble_eq_true rfl) ?_
  intro p e s m args below meth c A R Q hR hQ hT C hW hS ls hl
  obtain ⟨hR1, hR2, hR3, hR4⟩ := hR
  have hx := C.1.1
  have hb := C.1.2.1
  have hl : lv_has ls 7 [(0, .ref (ad (1, 0))), (1, .int a), (2, .int b), (3, .int c8), (4, .int d8), (5, .ref (ad (110, 0)))] := hl
  refine lv_aload hx hb dL_tariff_0 (lv_at hl 5 rfl) ?_
  refine lv_iconst (v := 0) hx hb dL_tariff_2 (by decide) ?_
  refine lv_aload_n hx hb dL_tariff_3 rfl (lv_at hl 0 rfl) ?_
  refine lv_iload_n hx hb dL_tariff_4 rfl (lv_at hl 1 rfl) ?_
  refine lv_iload_n hx hb dL_tariff_5 rfl (lv_at hl 2 rfl) ?_
  refine lv_iload_n hx hb dL_tariff_6 rfl (lv_at hl 3 rfl) ?_
  refine lv_iload hx hb dL_tariff_7 (lv_at hl 4 rfl) ?_
  refine g_callXc (r := (1, 0)) (T := TX7) (N := 7) (k2 := 4) (As := [.int a, .int b, .int c8, .int d8]) (rest := [.int 0, .ref (ad (110, 0))]) C hM tw_4_93 tw_4_94 tw_4_95 tw_1_1 tw_4_96 (by decide +kernel) ⟨by rw [hR1]; exact Nat.le_of_ble_eq_true rfl, by rw [hR2]; exact Nat.le_of_ble_eq_true rfl⟩ hW hS hr he rfl rfl hl.1 rfl (Nat.le_of_ble_eq_true rfl) dL_tariff_9 ⟨by rw [hR3]; exact Nat.le_of_ble_eq_true rfl, by rw [hR4]; exact Nat.le_of_ble_eq_true rfl⟩ (fun E L9 ad9 st9 H locs ce q9 hp hW hS hce hcv hcl => ?_) (fun v L9 ad9 st9 H locs hp hW hS => ?_)
  · have hT2 : c.exceptionTable.toList = ([⟨0, 14, 17, 21⟩, ⟨0, 14, 21, 13⟩] : List ExceptionTableEntry) := hT
    rcases hPx _ _ hp with ⟨rfl, hP⟩ | ⟨rfl, hP⟩
    · refine g_catch C [] ⟨0, 14, 17, 21⟩ [⟨0, 14, 21, 13⟩] hT2 (fun z hz => by simp at hz) (by decide) (by decide) tw_4_32 (by decide) hce hcv hcl ?_
      refine lv_astore (lv' := [(6, .ref q9), (0, .ref (ad (1, 0))), (1, .int a), (2, .int b), (3, .int c8), (4, .int d8), (5, .ref (ad (110, 0)))]) hx hb dL_tariff_17 hl (by decide) rfl (fun ls hl => ?_)
      refine lv_iconst (v := 1) hx hb dL_tariff_19 (by decide) ?_
      exact g_iret2 C hQ hW hS hP rfl (Nat.le_of_ble_eq_true rfl) (Nat.le_of_ble_eq_true rfl) dL_tariff_20
    · refine g_catch C [⟨0, 14, 17, 21⟩] ⟨0, 14, 21, 13⟩ [] hT2 (fun z hz => by simp only [List.mem_cons, List.not_mem_nil, or_false] at hz; rcases hz with rfl <;> first | exact ⟨by decide, "java/lang/IndexOutOfBoundsException", tw_4_32, by decide⟩) (by decide) (by decide) tw_3_233 (by decide) hce hcv hcl ?_
      refine lv_astore (lv' := [(6, .ref q9), (0, .ref (ad (1, 0))), (1, .int a), (2, .int b), (3, .int c8), (4, .int d8), (5, .ref (ad (110, 0)))]) hx hb dL_tariff_21 hl (by decide) rfl (fun ls hl => ?_)
      refine lv_iconst (v := 2) hx hb dL_tariff_23 (by decide) ?_
      exact g_iret2 C hQ hW hS hP rfl (Nat.le_of_ble_eq_true rfl) (Nat.le_of_ble_eq_true rfl) dL_tariff_24
  · obtain ⟨⟨h1, h2, h3⟩, hP⟩ := hP0 _ _ hp
    refine lv_i2l hx hb dL_tariff_12 rfl ?_
    rw [← h2]
    refine g_last (r := (110, 0)) C hW hS h1 h3 (vp_in_nI (n := 0) (N := 1) (by decide) (by decide)) dL_tariff_13 (fun H locs hW hS => ?_)
    refine lv_goto (tgt := 25) hx hb dL_tariff_14 (by decide) ?_
    refine lv_iconst (v := 0) hx hb dL_tariff_25 (by decide) ?_
    exact g_iret2 C hQ hW hS hP rfl (Nat.le_of_ble_eq_true rfl) (Nat.le_of_ble_eq_true rfl) dL_tariff_26

set_option maxHeartbeats 4000000 in
theorem w_call (l : Launch) (X : GX) (L : List ro) (ad : ro → Nat) (st : ro → va_E) {fs : List Value} {f : Nat → Int64} {post : Int32 → WS → Prop} {px : String → WS → Prop} {P : Int32 → WS → Prop} (hM : gXi l yX7_call cX7_call 3 (some .int) 9 236 10 300 X [.ref (ad (1, 0))] L ad st post px) (hr : (1, 0) ∈ L) (he : st (1, 0) = .inr (10, fs)) (hP0 : ∀ v u, post v u → (((110, 0) : ro) ∈ u.1 ∧ u.2.1 (110, 0) = ad (110, 0) ∧ u.2.2 (110, 0) = lng X f) ∧ P 0 (u.1, u.2.1, sup u.2.2 (110, 0) (lng X (vp_updL f 0 v.toInt64)))) (hPx : ∀ E u, px E u → (E = "java/lang/IllegalArgumentException" ∧ P 1 u) ∨ (E = "java/lang/IllegalStateException" ∧ P 2 u)) : gWi l yL_call cL_call 3 (some .int) [(0, 8, 11, 13), (0, 8, 14, 15)] 10 258 10 300 X [.ref (ad (1, 0)), .ref (ad (110, 0))] L ad st P := by
  refine gWi_of (by decide) (Nat.le_of_ble_eq_true rfl) ?_
  intro p e s m args below meth c A R Q hR hQ hT C hW hS ls hl
  obtain ⟨hR1, hR2, hR3, hR4⟩ := hR
  have hx := C.1.1
  have hb := C.1.2.1
  have hl : lv_has ls 3 [(0, .ref (ad (1, 0))), (1, .ref (ad (110, 0)))] := hl
  refine lv_aload_n hx hb dL_call_0 rfl (lv_at hl 1 rfl) ?_
  refine lv_iconst (v := 0) hx hb dL_call_1 (by decide) ?_
  refine lv_aload_n hx hb dL_call_2 rfl (lv_at hl 0 rfl) ?_
  refine g_callXc (r := (1, 0)) (T := TX7) (N := 7) (k2 := 0) (As := []) (rest := [.int 0, .ref (ad (110, 0))]) C hM tw_4_103 tw_4_104 tw_4_105 tw_1_1 tw_4_106 (by decide +kernel) ⟨by rw [hR1]; exact Nat.le_of_ble_eq_true rfl, by rw [hR2]; exact Nat.le_of_ble_eq_true rfl⟩ hW hS hr he rfl rfl hl.1 rfl (Nat.le_of_ble_eq_true rfl) dL_call_3 ⟨by rw [hR3]; exact Nat.le_of_ble_eq_true rfl, by rw [hR4]; exact Nat.le_of_ble_eq_true rfl⟩ (fun E L9 ad9 st9 H locs ce q9 hp hW hS hce hcv hcl => ?_) (fun v L9 ad9 st9 H locs hp hW hS => ?_)
  · have hT2 : c.exceptionTable.toList = ([⟨0, 8, 11, 13⟩, ⟨0, 8, 14, 15⟩] : List ExceptionTableEntry) := hT
    rcases hPx _ _ hp with ⟨rfl, hP⟩ | ⟨rfl, hP⟩
    · refine g_catch C [] ⟨0, 8, 11, 13⟩ [⟨0, 8, 14, 15⟩] hT2 (fun z hz => by simp at hz) (by decide) (by decide) tw_3_233 (by decide) hce hcv hcl ?_
      refine lv_astore_n (lv' := [(2, .ref q9), (0, .ref (ad (1, 0))), (1, .ref (ad (110, 0)))]) hx hb dL_call_11 rfl hl (by decide) rfl (fun ls hl => ?_)
      refine lv_iconst (v := 1) hx hb dL_call_12 (by decide) ?_
      exact g_iret2 C hQ hW hS hP rfl (Nat.le_of_ble_eq_true rfl) (Nat.le_of_ble_eq_true rfl) dL_call_13
    · refine g_catch C [⟨0, 8, 11, 13⟩] ⟨0, 8, 14, 15⟩ [] hT2 (fun z hz => by simp only [List.mem_cons, List.not_mem_nil, or_false] at hz; rcases hz with rfl <;> first | exact ⟨by decide, "java/lang/IllegalArgumentException", tw_3_233, by decide⟩) (by decide) (by decide) tw_3_234 (by decide) hce hcv hcl ?_
      refine lv_astore_n (lv' := [(2, .ref q9), (0, .ref (ad (1, 0))), (1, .ref (ad (110, 0)))]) hx hb dL_call_14 rfl hl (by decide) rfl (fun ls hl => ?_)
      refine lv_iconst (v := 2) hx hb dL_call_15 (by decide) ?_
      exact g_iret2 C hQ hW hS hP rfl (Nat.le_of_ble_eq_true rfl) (Nat.le_of_ble_eq_true rfl) dL_call_16
  · obtain ⟨⟨h1, h2, h3⟩, hP⟩ := hP0 _ _ hp
    refine lv_i2l hx hb dL_call_6 rfl ?_
    rw [← h2]
    refine g_last (r := (110, 0)) C hW hS h1 h3 (vp_in_nI (n := 0) (N := 1) (by decide) (by decide)) dL_call_7 (fun H locs hW hS => ?_)
    refine lv_goto (tgt := 17) hx hb dL_call_8 (by decide) ?_
    refine lv_iconst (v := 0) hx hb dL_call_17 (by decide) ?_
    exact g_iret2 C hQ hW hS hP rfl (Nat.le_of_ble_eq_true rfl) (Nat.le_of_ble_eq_true rfl) dL_call_18

set_option maxHeartbeats 4000000 in
theorem w_price (l : Launch) (X : GX) (L : List ro) (ad : ro → Nat) (st : ro → va_E) (a : Int32) {fs : List Value} {f : Nat → Int64} {post : Int32 → WS → Prop} {px : String → WS → Prop} {P : Int32 → WS → Prop} (hM : gXi l yX7_price cX7_price 3 (some .int) 7 103 10 300 X [.ref (ad (1, 0)), .int a] L ad st post px) (hr : (1, 0) ∈ L) (he : st (1, 0) = .inr (10, fs)) (hP0 : ∀ v u, post v u → (((110, 0) : ro) ∈ u.1 ∧ u.2.1 (110, 0) = ad (110, 0) ∧ u.2.2 (110, 0) = lng X f) ∧ P 0 (u.1, u.2.1, sup u.2.2 (110, 0) (lng X (vp_updL f 0 v.toInt64)))) (hPx : ∀ E u, px E u → (E = "java/lang/IndexOutOfBoundsException" ∧ P 1 u)) : gWi l yL_price cL_price 4 (some .int) [(0, 9, 12, 21)] 8 125 10 300 X [.ref (ad (1, 0)), .int a, .ref (ad (110, 0))] L ad st P := by
  refine gWi_of (by decide) (Nat.le_of_ble_eq_true rfl) ?_
  intro p e s m args below meth c A R Q hR hQ hT C hW hS ls hl
  obtain ⟨hR1, hR2, hR3, hR4⟩ := hR
  have hx := C.1.1
  have hb := C.1.2.1
  have hl : lv_has ls 4 [(0, .ref (ad (1, 0))), (1, .int a), (2, .ref (ad (110, 0)))] := hl
  refine lv_aload_n hx hb dL_price_0 rfl (lv_at hl 2 rfl) ?_
  refine lv_iconst (v := 0) hx hb dL_price_1 (by decide) ?_
  refine lv_aload_n hx hb dL_price_2 rfl (lv_at hl 0 rfl) ?_
  refine lv_iload_n hx hb dL_price_3 rfl (lv_at hl 1 rfl) ?_
  refine g_callXc (r := (1, 0)) (T := TX7) (N := 7) (k2 := 1) (As := [.int a]) (rest := [.int 0, .ref (ad (110, 0))]) C hM tw_5_36 tw_5_37 tw_5_38 tw_1_1 tw_5_39 (by decide +kernel) ⟨by rw [hR1]; exact Nat.le_of_ble_eq_true rfl, by rw [hR2]; exact Nat.le_of_ble_eq_true rfl⟩ hW hS hr he rfl rfl hl.1 rfl (Nat.le_of_ble_eq_true rfl) dL_price_4 ⟨by rw [hR3]; exact Nat.le_of_ble_eq_true rfl, by rw [hR4]; exact Nat.le_of_ble_eq_true rfl⟩ (fun E L9 ad9 st9 H locs ce q9 hp hW hS hce hcv hcl => ?_) (fun v L9 ad9 st9 H locs hp hW hS => ?_)
  · have hT2 : c.exceptionTable.toList = ([⟨0, 9, 12, 21⟩] : List ExceptionTableEntry) := hT
    obtain ⟨rfl, hP⟩ := hPx _ _ hp
    refine g_catch C [] ⟨0, 9, 12, 21⟩ [] hT2 (fun z hz => by simp at hz) (by decide) (by decide) tw_4_32 (by decide) hce hcv hcl ?_
    refine lv_astore_n (lv' := [(3, .ref q9), (0, .ref (ad (1, 0))), (1, .int a), (2, .ref (ad (110, 0)))]) hx hb dL_price_12 rfl hl (by decide) rfl (fun ls hl => ?_)
    refine lv_iconst (v := 1) hx hb dL_price_13 (by decide) ?_
    exact g_iret2 C hQ hW hS hP rfl (Nat.le_of_ble_eq_true rfl) (Nat.le_of_ble_eq_true rfl) dL_price_14
  · obtain ⟨⟨h1, h2, h3⟩, hP⟩ := hP0 _ _ hp
    refine lv_i2l hx hb dL_price_7 rfl ?_
    rw [← h2]
    refine g_last (r := (110, 0)) C hW hS h1 h3 (vp_in_nI (n := 0) (N := 1) (by decide) (by decide)) dL_price_8 (fun H locs hW hS => ?_)
    refine lv_goto (tgt := 15) hx hb dL_price_9 (by decide) ?_
    refine lv_iconst (v := 0) hx hb dL_price_15 (by decide) ?_
    exact g_iret2 C hQ hW hS hP rfl (Nat.le_of_ble_eq_true rfl) (Nat.le_of_ble_eq_true rfl) dL_price_16

set_option maxHeartbeats 4000000 in
theorem w_fixed (l : Launch) (X : GX) (L : List ro) (ad : ro → Nat) (st : ro → va_E) (a : Int32) {fs : List Value} {f : Nat → Int64} {post : Int32 → WS → Prop} {px : String → WS → Prop} {P : Int32 → WS → Prop} (hM : gXi l yX7_fixed cX7_fixed 2 (some .int) 7 103 10 300 X [.ref (ad (1, 0)), .int a] L ad st post px) (hr : (1, 0) ∈ L) (he : st (1, 0) = .inr (10, fs)) (hP0 : ∀ v u, post v u → (((110, 0) : ro) ∈ u.1 ∧ u.2.1 (110, 0) = ad (110, 0) ∧ u.2.2 (110, 0) = lng X f) ∧ P 0 (u.1, u.2.1, sup u.2.2 (110, 0) (lng X (vp_updL f 0 v.toInt64)))) (hPx : ∀ E u, px E u → (E = "java/lang/IndexOutOfBoundsException" ∧ P 1 u)) : gWi l yL_fixed cL_fixed 4 (some .int) [(0, 9, 12, 21)] 8 124 10 300 X [.ref (ad (1, 0)), .int a, .ref (ad (110, 0))] L ad st P := by
  refine gWi_of (by decide) (Nat.le_of_ble_eq_true rfl) ?_
  intro p e s m args below meth c A R Q hR hQ hT C hW hS ls hl
  obtain ⟨hR1, hR2, hR3, hR4⟩ := hR
  have hx := C.1.1
  have hb := C.1.2.1
  have hl : lv_has ls 4 [(0, .ref (ad (1, 0))), (1, .int a), (2, .ref (ad (110, 0)))] := hl
  refine lv_aload_n hx hb dL_fixed_0 rfl (lv_at hl 2 rfl) ?_
  refine lv_iconst (v := 0) hx hb dL_fixed_1 (by decide) ?_
  refine lv_aload_n hx hb dL_fixed_2 rfl (lv_at hl 0 rfl) ?_
  refine lv_iload_n hx hb dL_fixed_3 rfl (lv_at hl 1 rfl) ?_
  refine g_callXc (r := (1, 0)) (T := TX7) (N := 7) (k2 := 1) (As := [.int a]) (rest := [.int 0, .ref (ad (110, 0))]) C hM tw_5_55 tw_5_56 tw_5_57 tw_1_1 tw_5_58 (by decide +kernel) ⟨by rw [hR1]; exact Nat.le_of_ble_eq_true rfl, by rw [hR2]; exact Nat.le_of_ble_eq_true rfl⟩ hW hS hr he rfl rfl hl.1 rfl (Nat.le_of_ble_eq_true rfl) dL_fixed_4 ⟨by rw [hR3]; exact Nat.le_of_ble_eq_true rfl, by rw [hR4]; exact Nat.le_of_ble_eq_true rfl⟩ (fun E L9 ad9 st9 H locs ce q9 hp hW hS hce hcv hcl => ?_) (fun v L9 ad9 st9 H locs hp hW hS => ?_)
  · have hT2 : c.exceptionTable.toList = ([⟨0, 9, 12, 21⟩] : List ExceptionTableEntry) := hT
    obtain ⟨rfl, hP⟩ := hPx _ _ hp
    refine g_catch C [] ⟨0, 9, 12, 21⟩ [] hT2 (fun z hz => by simp at hz) (by decide) (by decide) tw_4_32 (by decide) hce hcv hcl ?_
    refine lv_astore_n (lv' := [(3, .ref q9), (0, .ref (ad (1, 0))), (1, .int a), (2, .ref (ad (110, 0)))]) hx hb dL_fixed_12 rfl hl (by decide) rfl (fun ls hl => ?_)
    refine lv_iconst (v := 1) hx hb dL_fixed_13 (by decide) ?_
    exact g_iret2 C hQ hW hS hP rfl (Nat.le_of_ble_eq_true rfl) (Nat.le_of_ble_eq_true rfl) dL_fixed_14
  · obtain ⟨⟨h1, h2, h3⟩, hP⟩ := hP0 _ _ hp
    refine lv_i2l hx hb dL_fixed_7 rfl ?_
    rw [← h2]
    refine g_last (r := (110, 0)) C hW hS h1 h3 (vp_in_nI (n := 0) (N := 1) (by decide) (by decide)) dL_fixed_8 (fun H locs hW hS => ?_)
    refine lv_goto (tgt := 15) hx hb dL_fixed_9 (by decide) ?_
    refine lv_iconst (v := 0) hx hb dL_fixed_15 (by decide) ?_
    exact g_iret2 C hQ hW hS hP rfl (Nat.le_of_ble_eq_true rfl) (Nat.le_of_ble_eq_true rfl) dL_fixed_16

set_option maxHeartbeats 4000000 in
theorem w_left (l : Launch) (X : GX) (L : List ro) (ad : ro → Nat) (st : ro → va_E) (a : Int32) {fs : List Value} {f : Nat → Int64} {post : Int32 → WS → Prop} {px : String → WS → Prop} {P : Int32 → WS → Prop} (hM : gXi l yX7_left cX7_left 2 (some .int) 7 103 10 300 X [.ref (ad (1, 0)), .int a] L ad st post px) (hr : (1, 0) ∈ L) (he : st (1, 0) = .inr (10, fs)) (hP0 : ∀ v u, post v u → (((110, 0) : ro) ∈ u.1 ∧ u.2.1 (110, 0) = ad (110, 0) ∧ u.2.2 (110, 0) = lng X f) ∧ P 0 (u.1, u.2.1, sup u.2.2 (110, 0) (lng X (vp_updL f 0 v.toInt64)))) (hPx : ∀ E u, px E u → (E = "java/lang/IndexOutOfBoundsException" ∧ P 1 u)) : gWi l yL_left cL_left 4 (some .int) [(0, 9, 12, 21)] 8 124 10 300 X [.ref (ad (1, 0)), .int a, .ref (ad (110, 0))] L ad st P := by
  refine gWi_of (by decide) (Nat.le_of_ble_eq_true rfl) ?_
  intro p e s m args below meth c A R Q hR hQ hT C hW hS ls hl
  obtain ⟨hR1, hR2, hR3, hR4⟩ := hR
  have hx := C.1.1
  have hb := C.1.2.1
  have hl : lv_has ls 4 [(0, .ref (ad (1, 0))), (1, .int a), (2, .ref (ad (110, 0)))] := hl
  refine lv_aload_n hx hb dL_left_0 rfl (lv_at hl 2 rfl) ?_
  refine lv_iconst (v := 0) hx hb dL_left_1 (by decide) ?_
  refine lv_aload_n hx hb dL_left_2 rfl (lv_at hl 0 rfl) ?_
  refine lv_iload_n hx hb dL_left_3 rfl (lv_at hl 1 rfl) ?_
  refine g_callXc (r := (1, 0)) (T := TX7) (N := 7) (k2 := 1) (As := [.int a]) (rest := [.int 0, .ref (ad (110, 0))]) C hM tw_5_63 tw_5_64 tw_5_65 tw_1_1 tw_5_66 (by decide +kernel) ⟨by rw [hR1]; exact Nat.le_of_ble_eq_true rfl, by rw [hR2]; exact Nat.le_of_ble_eq_true rfl⟩ hW hS hr he rfl rfl hl.1 rfl (Nat.le_of_ble_eq_true rfl) dL_left_4 ⟨by rw [hR3]; exact Nat.le_of_ble_eq_true rfl, by rw [hR4]; exact Nat.le_of_ble_eq_true rfl⟩ (fun E L9 ad9 st9 H locs ce q9 hp hW hS hce hcv hcl => ?_) (fun v L9 ad9 st9 H locs hp hW hS => ?_)
  · have hT2 : c.exceptionTable.toList = ([⟨0, 9, 12, 21⟩] : List ExceptionTableEntry) := hT
    obtain ⟨rfl, hP⟩ := hPx _ _ hp
    refine g_catch C [] ⟨0, 9, 12, 21⟩ [] hT2 (fun z hz => by simp at hz) (by decide) (by decide) tw_4_32 (by decide) hce hcv hcl ?_
    refine lv_astore_n (lv' := [(3, .ref q9), (0, .ref (ad (1, 0))), (1, .int a), (2, .ref (ad (110, 0)))]) hx hb dL_left_12 rfl hl (by decide) rfl (fun ls hl => ?_)
    refine lv_iconst (v := 1) hx hb dL_left_13 (by decide) ?_
    exact g_iret2 C hQ hW hS hP rfl (Nat.le_of_ble_eq_true rfl) (Nat.le_of_ble_eq_true rfl) dL_left_14
  · obtain ⟨⟨h1, h2, h3⟩, hP⟩ := hP0 _ _ hp
    refine lv_i2l hx hb dL_left_7 rfl ?_
    rw [← h2]
    refine g_last (r := (110, 0)) C hW hS h1 h3 (vp_in_nI (n := 0) (N := 1) (by decide) (by decide)) dL_left_8 (fun H locs hW hS => ?_)
    refine lv_goto (tgt := 15) hx hb dL_left_9 (by decide) ?_
    refine lv_iconst (v := 0) hx hb dL_left_15 (by decide) ?_
    exact g_iret2 C hQ hW hS hP rfl (Nat.le_of_ble_eq_true rfl) (Nat.le_of_ble_eq_true rfl) dL_left_16

set_option maxHeartbeats 4000000 in
theorem w_leftByLog (l : Launch) (X : GX) (L : List ro) (ad : ro → Nat) (st : ro → va_E) (a : Int32) {fs : List Value} {f : Nat → Int64} {post : Int32 → WS → Prop} {px : String → WS → Prop} {P : Int32 → WS → Prop} (hM : gXi l yX7_leftByLog cX7_leftByLog 4 (some .int) 7 103 10 300 X [.ref (ad (1, 0)), .int a] L ad st post px) (hr : (1, 0) ∈ L) (he : st (1, 0) = .inr (10, fs)) (hP0 : ∀ v u, post v u → (((110, 0) : ro) ∈ u.1 ∧ u.2.1 (110, 0) = ad (110, 0) ∧ u.2.2 (110, 0) = lng X f) ∧ P 0 (u.1, u.2.1, sup u.2.2 (110, 0) (lng X (vp_updL f 0 v.toInt64)))) (hPx : ∀ E u, px E u → (E = "java/lang/IndexOutOfBoundsException" ∧ P 1 u)) : gWi l yL_leftByLog cL_leftByLog 4 (some .int) [(0, 9, 12, 21)] 8 126 10 300 X [.ref (ad (1, 0)), .int a, .ref (ad (110, 0))] L ad st P := by
  refine gWi_of (by decide) (Nat.le_of_ble_eq_true rfl) ?_
  intro p e s m args below meth c A R Q hR hQ hT C hW hS ls hl
  obtain ⟨hR1, hR2, hR3, hR4⟩ := hR
  have hx := C.1.1
  have hb := C.1.2.1
  have hl : lv_has ls 4 [(0, .ref (ad (1, 0))), (1, .int a), (2, .ref (ad (110, 0)))] := hl
  refine lv_aload_n hx hb dL_leftByLog_0 rfl (lv_at hl 2 rfl) ?_
  refine lv_iconst (v := 0) hx hb dL_leftByLog_1 (by decide) ?_
  refine lv_aload_n hx hb dL_leftByLog_2 rfl (lv_at hl 0 rfl) ?_
  refine lv_iload_n hx hb dL_leftByLog_3 rfl (lv_at hl 1 rfl) ?_
  refine g_callXc (r := (1, 0)) (T := TX7) (N := 7) (k2 := 1) (As := [.int a]) (rest := [.int 0, .ref (ad (110, 0))]) C hM tw_5_70 tw_5_71 tw_5_72 tw_1_1 tw_5_73 (by decide +kernel) ⟨by rw [hR1]; exact Nat.le_of_ble_eq_true rfl, by rw [hR2]; exact Nat.le_of_ble_eq_true rfl⟩ hW hS hr he rfl rfl hl.1 rfl (Nat.le_of_ble_eq_true rfl) dL_leftByLog_4 ⟨by rw [hR3]; exact Nat.le_of_ble_eq_true rfl, by rw [hR4]; exact Nat.le_of_ble_eq_true rfl⟩ (fun E L9 ad9 st9 H locs ce q9 hp hW hS hce hcv hcl => ?_) (fun v L9 ad9 st9 H locs hp hW hS => ?_)
  · have hT2 : c.exceptionTable.toList = ([⟨0, 9, 12, 21⟩] : List ExceptionTableEntry) := hT
    obtain ⟨rfl, hP⟩ := hPx _ _ hp
    refine g_catch C [] ⟨0, 9, 12, 21⟩ [] hT2 (fun z hz => by simp at hz) (by decide) (by decide) tw_4_32 (by decide) hce hcv hcl ?_
    refine lv_astore_n (lv' := [(3, .ref q9), (0, .ref (ad (1, 0))), (1, .int a), (2, .ref (ad (110, 0)))]) hx hb dL_leftByLog_12 rfl hl (by decide) rfl (fun ls hl => ?_)
    refine lv_iconst (v := 1) hx hb dL_leftByLog_13 (by decide) ?_
    exact g_iret2 C hQ hW hS hP rfl (Nat.le_of_ble_eq_true rfl) (Nat.le_of_ble_eq_true rfl) dL_leftByLog_14
  · obtain ⟨⟨h1, h2, h3⟩, hP⟩ := hP0 _ _ hp
    refine lv_i2l hx hb dL_leftByLog_7 rfl ?_
    rw [← h2]
    refine g_last (r := (110, 0)) C hW hS h1 h3 (vp_in_nI (n := 0) (N := 1) (by decide) (by decide)) dL_leftByLog_8 (fun H locs hW hS => ?_)
    refine lv_goto (tgt := 15) hx hb dL_leftByLog_9 (by decide) ?_
    refine lv_iconst (v := 0) hx hb dL_leftByLog_15 (by decide) ?_
    exact g_iret2 C hQ hW hS hP rfl (Nat.le_of_ble_eq_true rfl) (Nat.le_of_ble_eq_true rfl) dL_leftByLog_16

set_option maxHeartbeats 4000000 in
theorem w_circuit (l : Launch) (X : GX) (L : List ro) (ad : ro → Nat) (st : ro → va_E) (a : Int32) {fs : List Value} {f : Nat → Int64} {post : Int32 → WS → Prop} {px : String → WS → Prop} {P : Int32 → WS → Prop} (hM : gXi l yX7_circuit cX7_circuit 2 (some .int) 7 103 10 300 X [.ref (ad (1, 0)), .int a] L ad st post px) (hr : (1, 0) ∈ L) (he : st (1, 0) = .inr (10, fs)) (hP0 : ∀ v u, post v u → (((110, 0) : ro) ∈ u.1 ∧ u.2.1 (110, 0) = ad (110, 0) ∧ u.2.2 (110, 0) = lng X f) ∧ P 0 (u.1, u.2.1, sup u.2.2 (110, 0) (lng X (vp_updL f 0 v.toInt64)))) (hPx : ∀ E u, px E u → (E = "java/lang/IndexOutOfBoundsException" ∧ P 1 u)) : gWi l yL_circuit cL_circuit 4 (some .int) [(0, 9, 12, 21)] 8 124 10 300 X [.ref (ad (1, 0)), .int a, .ref (ad (110, 0))] L ad st P := by
  refine gWi_of (by decide) (Nat.le_of_ble_eq_true rfl) ?_
  intro p e s m args below meth c A R Q hR hQ hT C hW hS ls hl
  obtain ⟨hR1, hR2, hR3, hR4⟩ := hR
  have hx := C.1.1
  have hb := C.1.2.1
  have hl : lv_has ls 4 [(0, .ref (ad (1, 0))), (1, .int a), (2, .ref (ad (110, 0)))] := hl
  refine lv_aload_n hx hb dL_circuit_0 rfl (lv_at hl 2 rfl) ?_
  refine lv_iconst (v := 0) hx hb dL_circuit_1 (by decide) ?_
  refine lv_aload_n hx hb dL_circuit_2 rfl (lv_at hl 0 rfl) ?_
  refine lv_iload_n hx hb dL_circuit_3 rfl (lv_at hl 1 rfl) ?_
  refine g_callXc (r := (1, 0)) (T := TX7) (N := 7) (k2 := 1) (As := [.int a]) (rest := [.int 0, .ref (ad (110, 0))]) C hM tw_5_81 tw_5_82 tw_5_83 tw_1_1 tw_5_84 (by decide +kernel) ⟨by rw [hR1]; exact Nat.le_of_ble_eq_true rfl, by rw [hR2]; exact Nat.le_of_ble_eq_true rfl⟩ hW hS hr he rfl rfl hl.1 rfl (Nat.le_of_ble_eq_true rfl) dL_circuit_4 ⟨by rw [hR3]; exact Nat.le_of_ble_eq_true rfl, by rw [hR4]; exact Nat.le_of_ble_eq_true rfl⟩ (fun E L9 ad9 st9 H locs ce q9 hp hW hS hce hcv hcl => ?_) (fun v L9 ad9 st9 H locs hp hW hS => ?_)
  · have hT2 : c.exceptionTable.toList = ([⟨0, 9, 12, 21⟩] : List ExceptionTableEntry) := hT
    obtain ⟨rfl, hP⟩ := hPx _ _ hp
    refine g_catch C [] ⟨0, 9, 12, 21⟩ [] hT2 (fun z hz => by simp at hz) (by decide) (by decide) tw_4_32 (by decide) hce hcv hcl ?_
    refine lv_astore_n (lv' := [(3, .ref q9), (0, .ref (ad (1, 0))), (1, .int a), (2, .ref (ad (110, 0)))]) hx hb dL_circuit_12 rfl hl (by decide) rfl (fun ls hl => ?_)
    refine lv_iconst (v := 1) hx hb dL_circuit_13 (by decide) ?_
    exact g_iret2 C hQ hW hS hP rfl (Nat.le_of_ble_eq_true rfl) (Nat.le_of_ble_eq_true rfl) dL_circuit_14
  · obtain ⟨⟨h1, h2, h3⟩, hP⟩ := hP0 _ _ hp
    refine lv_i2l hx hb dL_circuit_7 rfl ?_
    rw [← h2]
    refine g_last (r := (110, 0)) C hW hS h1 h3 (vp_in_nI (n := 0) (N := 1) (by decide) (by decide)) dL_circuit_8 (fun H locs hW hS => ?_)
    refine lv_goto (tgt := 15) hx hb dL_circuit_9 (by decide) ?_
    refine lv_iconst (v := 0) hx hb dL_circuit_15 (by decide) ?_
    exact g_iret2 C hQ hW hS hP rfl (Nat.le_of_ble_eq_true rfl) (Nat.le_of_ble_eq_true rfl) dL_circuit_16

set_option maxHeartbeats 4000000 in
theorem w_tries (l : Launch) (X : GX) (L : List ro) (ad : ro → Nat) (st : ro → va_E) (a : Int32) {fs : List Value} {f : Nat → Int64} {post : Int32 → WS → Prop} {px : String → WS → Prop} {P : Int32 → WS → Prop} (hM : gXi l yX7_tries cX7_tries 2 (some .int) 7 103 10 300 X [.ref (ad (1, 0)), .int a] L ad st post px) (hr : (1, 0) ∈ L) (he : st (1, 0) = .inr (10, fs)) (hP0 : ∀ v u, post v u → (((110, 0) : ro) ∈ u.1 ∧ u.2.1 (110, 0) = ad (110, 0) ∧ u.2.2 (110, 0) = lng X f) ∧ P 0 (u.1, u.2.1, sup u.2.2 (110, 0) (lng X (vp_updL f 0 v.toInt64)))) (hPx : ∀ E u, px E u → (E = "java/lang/IndexOutOfBoundsException" ∧ P 1 u)) : gWi l yL_tries cL_tries 4 (some .int) [(0, 9, 12, 21)] 8 124 10 300 X [.ref (ad (1, 0)), .int a, .ref (ad (110, 0))] L ad st P := by
  refine gWi_of (by decide) (Nat.le_of_ble_eq_true rfl) ?_
  intro p e s m args below meth c A R Q hR hQ hT C hW hS ls hl
  obtain ⟨hR1, hR2, hR3, hR4⟩ := hR
  have hx := C.1.1
  have hb := C.1.2.1
  have hl : lv_has ls 4 [(0, .ref (ad (1, 0))), (1, .int a), (2, .ref (ad (110, 0)))] := hl
  refine lv_aload_n hx hb dL_tries_0 rfl (lv_at hl 2 rfl) ?_
  refine lv_iconst (v := 0) hx hb dL_tries_1 (by decide) ?_
  refine lv_aload_n hx hb dL_tries_2 rfl (lv_at hl 0 rfl) ?_
  refine lv_iload_n hx hb dL_tries_3 rfl (lv_at hl 1 rfl) ?_
  refine g_callXc (r := (1, 0)) (T := TX7) (N := 7) (k2 := 1) (As := [.int a]) (rest := [.int 0, .ref (ad (110, 0))]) C hM tw_5_88 tw_5_89 tw_5_90 tw_1_1 tw_5_91 (by decide +kernel) ⟨by rw [hR1]; exact Nat.le_of_ble_eq_true rfl, by rw [hR2]; exact Nat.le_of_ble_eq_true rfl⟩ hW hS hr he rfl rfl hl.1 rfl (Nat.le_of_ble_eq_true rfl) dL_tries_4 ⟨by rw [hR3]; exact Nat.le_of_ble_eq_true rfl, by rw [hR4]; exact Nat.le_of_ble_eq_true rfl⟩ (fun E L9 ad9 st9 H locs ce q9 hp hW hS hce hcv hcl => ?_) (fun v L9 ad9 st9 H locs hp hW hS => ?_)
  · have hT2 : c.exceptionTable.toList = ([⟨0, 9, 12, 21⟩] : List ExceptionTableEntry) := hT
    obtain ⟨rfl, hP⟩ := hPx _ _ hp
    refine g_catch C [] ⟨0, 9, 12, 21⟩ [] hT2 (fun z hz => by simp at hz) (by decide) (by decide) tw_4_32 (by decide) hce hcv hcl ?_
    refine lv_astore_n (lv' := [(3, .ref q9), (0, .ref (ad (1, 0))), (1, .int a), (2, .ref (ad (110, 0)))]) hx hb dL_tries_12 rfl hl (by decide) rfl (fun ls hl => ?_)
    refine lv_iconst (v := 1) hx hb dL_tries_13 (by decide) ?_
    exact g_iret2 C hQ hW hS hP rfl (Nat.le_of_ble_eq_true rfl) (Nat.le_of_ble_eq_true rfl) dL_tries_14
  · obtain ⟨⟨h1, h2, h3⟩, hP⟩ := hP0 _ _ hp
    refine lv_i2l hx hb dL_tries_7 rfl ?_
    rw [← h2]
    refine g_last (r := (110, 0)) C hW hS h1 h3 (vp_in_nI (n := 0) (N := 1) (by decide) (by decide)) dL_tries_8 (fun H locs hW hS => ?_)
    refine lv_goto (tgt := 15) hx hb dL_tries_9 (by decide) ?_
    refine lv_iconst (v := 0) hx hb dL_tries_15 (by decide) ?_
    exact g_iret2 C hQ hW hS hP rfl (Nat.le_of_ble_eq_true rfl) (Nat.le_of_ble_eq_true rfl) dL_tries_16

set_option maxHeartbeats 4000000 in
theorem w_book (l : Launch) (X : GX) (L : List ro) (ad : ro → Nat) (st : ro → va_E) (a : Int32) {fs : List Value} {f : Nat → Int64} {post : Int32 → WS → Prop} {px : String → WS → Prop} {P : Int32 → WS → Prop} (hM : gXi l yX7_book cX7_book 5 (some .int) 7 191 10 300 X [.ref (ad (1, 0)), .int a] L ad st post px) (hr : (1, 0) ∈ L) (he : st (1, 0) = .inr (10, fs)) (hP0 : ∀ v u, post v u → (((110, 0) : ro) ∈ u.1 ∧ u.2.1 (110, 0) = ad (110, 0) ∧ u.2.2 (110, 0) = lng X f) ∧ P 0 (u.1, u.2.1, sup u.2.2 (110, 0) (lng X (vp_updL f 0 v.toInt64)))) (hPx : ∀ E u, px E u → (E = "java/lang/IndexOutOfBoundsException" ∧ P 1 u) ∨ (E = "java/lang/IllegalStateException" ∧ P 2 u)) : gWi l yL_book cL_book 4 (some .int) [(0, 9, 12, 21), (0, 9, 15, 15)] 8 215 10 300 X [.ref (ad (1, 0)), .int a, .ref (ad (110, 0))] L ad st P := by
  refine gWi_of (by decide) (Nat.le_of_ble_eq_true rfl) ?_
  intro p e s m args below meth c A R Q hR hQ hT C hW hS ls hl
  obtain ⟨hR1, hR2, hR3, hR4⟩ := hR
  have hx := C.1.1
  have hb := C.1.2.1
  have hl : lv_has ls 4 [(0, .ref (ad (1, 0))), (1, .int a), (2, .ref (ad (110, 0)))] := hl
  refine lv_aload_n hx hb dL_book_0 rfl (lv_at hl 2 rfl) ?_
  refine lv_iconst (v := 0) hx hb dL_book_1 (by decide) ?_
  refine lv_aload_n hx hb dL_book_2 rfl (lv_at hl 0 rfl) ?_
  refine lv_iload_n hx hb dL_book_3 rfl (lv_at hl 1 rfl) ?_
  refine g_callXc (r := (1, 0)) (T := TX7) (N := 7) (k2 := 1) (As := [.int a]) (rest := [.int 0, .ref (ad (110, 0))]) C hM tw_5_95 tw_5_96 tw_5_97 tw_1_1 tw_5_98 (by decide +kernel) ⟨by rw [hR1]; exact Nat.le_of_ble_eq_true rfl, by rw [hR2]; exact Nat.le_of_ble_eq_true rfl⟩ hW hS hr he rfl rfl hl.1 rfl (Nat.le_of_ble_eq_true rfl) dL_book_4 ⟨by rw [hR3]; exact Nat.le_of_ble_eq_true rfl, by rw [hR4]; exact Nat.le_of_ble_eq_true rfl⟩ (fun E L9 ad9 st9 H locs ce q9 hp hW hS hce hcv hcl => ?_) (fun v L9 ad9 st9 H locs hp hW hS => ?_)
  · have hT2 : c.exceptionTable.toList = ([⟨0, 9, 12, 21⟩, ⟨0, 9, 15, 15⟩] : List ExceptionTableEntry) := hT
    rcases hPx _ _ hp with ⟨rfl, hP⟩ | ⟨rfl, hP⟩
    · refine g_catch C [] ⟨0, 9, 12, 21⟩ [⟨0, 9, 15, 15⟩] hT2 (fun z hz => by simp at hz) (by decide) (by decide) tw_4_32 (by decide) hce hcv hcl ?_
      refine lv_astore_n (lv' := [(3, .ref q9), (0, .ref (ad (1, 0))), (1, .int a), (2, .ref (ad (110, 0)))]) hx hb dL_book_12 rfl hl (by decide) rfl (fun ls hl => ?_)
      refine lv_iconst (v := 1) hx hb dL_book_13 (by decide) ?_
      exact g_iret2 C hQ hW hS hP rfl (Nat.le_of_ble_eq_true rfl) (Nat.le_of_ble_eq_true rfl) dL_book_14
    · refine g_catch C [⟨0, 9, 12, 21⟩] ⟨0, 9, 15, 15⟩ [] hT2 (fun z hz => by simp only [List.mem_cons, List.not_mem_nil, or_false] at hz; rcases hz with rfl <;> first | exact ⟨by decide, "java/lang/IndexOutOfBoundsException", tw_4_32, by decide⟩) (by decide) (by decide) tw_3_234 (by decide) hce hcv hcl ?_
      refine lv_astore_n (lv' := [(3, .ref q9), (0, .ref (ad (1, 0))), (1, .int a), (2, .ref (ad (110, 0)))]) hx hb dL_book_15 rfl hl (by decide) rfl (fun ls hl => ?_)
      refine lv_iconst (v := 2) hx hb dL_book_16 (by decide) ?_
      exact g_iret2 C hQ hW hS hP rfl (Nat.le_of_ble_eq_true rfl) (Nat.le_of_ble_eq_true rfl) dL_book_17
  · obtain ⟨⟨h1, h2, h3⟩, hP⟩ := hP0 _ _ hp
    refine lv_i2l hx hb dL_book_7 rfl ?_
    rw [← h2]
    refine g_last (r := (110, 0)) C hW hS h1 h3 (vp_in_nI (n := 0) (N := 1) (by decide) (by decide)) dL_book_8 (fun H locs hW hS => ?_)
    refine lv_goto (tgt := 18) hx hb dL_book_9 (by decide) ?_
    refine lv_iconst (v := 0) hx hb dL_book_18 (by decide) ?_
    exact g_iret2 C hQ hW hS hP rfl (Nat.le_of_ble_eq_true rfl) (Nat.le_of_ble_eq_true rfl) dL_book_19

set_option maxHeartbeats 4000000 in
theorem w_weigh (l : Launch) (X : GX) (L : List ro) (ad : ro → Nat) (st : ro → va_E) (a b : Int32) {fs : List Value} {f : Nat → Int64} {post : Int32 → WS → Prop} {px : String → WS → Prop} {P : Int32 → WS → Prop} (hM : gXi l yX7_weigh cX7_weigh 5 (some .int) 7 103 10 300 X [.ref (ad (1, 0)), .int a, .int b] L ad st post px) (hr : (1, 0) ∈ L) (he : st (1, 0) = .inr (10, fs)) (hP0 : ∀ v u, post v u → (((110, 0) : ro) ∈ u.1 ∧ u.2.1 (110, 0) = ad (110, 0) ∧ u.2.2 (110, 0) = lng X f) ∧ P 0 (u.1, u.2.1, sup u.2.2 (110, 0) (lng X (vp_updL f 0 v.toInt64)))) (hPx : ∀ E u, px E u → (E = "java/lang/IndexOutOfBoundsException" ∧ P 1 u) ∨ (E = "java/lang/IllegalArgumentException" ∧ P 2 u) ∨ (E = "java/lang/IllegalStateException" ∧ P 3 u)) : gWi l yL_weigh cL_weigh 5 (some .int) [(0, 10, 13, 21), (0, 10, 17, 13), (0, 10, 21, 15)] 8 127 10 300 X [.ref (ad (1, 0)), .int a, .int b, .ref (ad (110, 0))] L ad st P := by
  refine gWi_of (by decide) (Nat.le_of_ble_eq_true rfl) ?_
  intro p e s m args below meth c A R Q hR hQ hT C hW hS ls hl
  obtain ⟨hR1, hR2, hR3, hR4⟩ := hR
  have hx := C.1.1
  have hb := C.1.2.1
  have hl : lv_has ls 5 [(0, .ref (ad (1, 0))), (1, .int a), (2, .int b), (3, .ref (ad (110, 0)))] := hl
  refine lv_aload_n hx hb dL_weigh_0 rfl (lv_at hl 3 rfl) ?_
  refine lv_iconst (v := 0) hx hb dL_weigh_1 (by decide) ?_
  refine lv_aload_n hx hb dL_weigh_2 rfl (lv_at hl 0 rfl) ?_
  refine lv_iload_n hx hb dL_weigh_3 rfl (lv_at hl 1 rfl) ?_
  refine lv_iload_n hx hb dL_weigh_4 rfl (lv_at hl 2 rfl) ?_
  refine g_callXc (r := (1, 0)) (T := TX7) (N := 7) (k2 := 2) (As := [.int a, .int b]) (rest := [.int 0, .ref (ad (110, 0))]) C hM tw_5_126 tw_5_127 tw_5_128 tw_1_1 tw_5_129 (by decide +kernel) ⟨by rw [hR1]; exact Nat.le_of_ble_eq_true rfl, by rw [hR2]; exact Nat.le_of_ble_eq_true rfl⟩ hW hS hr he rfl rfl hl.1 rfl (Nat.le_of_ble_eq_true rfl) dL_weigh_5 ⟨by rw [hR3]; exact Nat.le_of_ble_eq_true rfl, by rw [hR4]; exact Nat.le_of_ble_eq_true rfl⟩ (fun E L9 ad9 st9 H locs ce q9 hp hW hS hce hcv hcl => ?_) (fun v L9 ad9 st9 H locs hp hW hS => ?_)
  · have hT2 : c.exceptionTable.toList = ([⟨0, 10, 13, 21⟩, ⟨0, 10, 17, 13⟩, ⟨0, 10, 21, 15⟩] : List ExceptionTableEntry) := hT
    rcases hPx _ _ hp with ⟨rfl, hP⟩ | ⟨rfl, hP⟩ | ⟨rfl, hP⟩
    · refine g_catch C [] ⟨0, 10, 13, 21⟩ [⟨0, 10, 17, 13⟩, ⟨0, 10, 21, 15⟩] hT2 (fun z hz => by simp at hz) (by decide) (by decide) tw_4_32 (by decide) hce hcv hcl ?_
      refine lv_astore (lv' := [(4, .ref q9), (0, .ref (ad (1, 0))), (1, .int a), (2, .int b), (3, .ref (ad (110, 0)))]) hx hb dL_weigh_13 hl (by decide) rfl (fun ls hl => ?_)
      refine lv_iconst (v := 1) hx hb dL_weigh_15 (by decide) ?_
      exact g_iret2 C hQ hW hS hP rfl (Nat.le_of_ble_eq_true rfl) (Nat.le_of_ble_eq_true rfl) dL_weigh_16
    · refine g_catch C [⟨0, 10, 13, 21⟩] ⟨0, 10, 17, 13⟩ [⟨0, 10, 21, 15⟩] hT2 (fun z hz => by simp only [List.mem_cons, List.not_mem_nil, or_false] at hz; rcases hz with rfl <;> first | exact ⟨by decide, "java/lang/IndexOutOfBoundsException", tw_4_32, by decide⟩) (by decide) (by decide) tw_3_233 (by decide) hce hcv hcl ?_
      refine lv_astore (lv' := [(4, .ref q9), (0, .ref (ad (1, 0))), (1, .int a), (2, .int b), (3, .ref (ad (110, 0)))]) hx hb dL_weigh_17 hl (by decide) rfl (fun ls hl => ?_)
      refine lv_iconst (v := 2) hx hb dL_weigh_19 (by decide) ?_
      exact g_iret2 C hQ hW hS hP rfl (Nat.le_of_ble_eq_true rfl) (Nat.le_of_ble_eq_true rfl) dL_weigh_20
    · refine g_catch C [⟨0, 10, 13, 21⟩, ⟨0, 10, 17, 13⟩] ⟨0, 10, 21, 15⟩ [] hT2 (fun z hz => by simp only [List.mem_cons, List.not_mem_nil, or_false] at hz; rcases hz with rfl | rfl <;> first | exact ⟨by decide, "java/lang/IndexOutOfBoundsException", tw_4_32, by decide⟩ | exact ⟨by decide, "java/lang/IllegalArgumentException", tw_3_233, by decide⟩) (by decide) (by decide) tw_3_234 (by decide) hce hcv hcl ?_
      refine lv_astore (lv' := [(4, .ref q9), (0, .ref (ad (1, 0))), (1, .int a), (2, .int b), (3, .ref (ad (110, 0)))]) hx hb dL_weigh_21 hl (by decide) rfl (fun ls hl => ?_)
      refine lv_iconst (v := 3) hx hb dL_weigh_23 (by decide) ?_
      exact g_iret2 C hQ hW hS hP rfl (Nat.le_of_ble_eq_true rfl) (Nat.le_of_ble_eq_true rfl) dL_weigh_24
  · obtain ⟨⟨h1, h2, h3⟩, hP⟩ := hP0 _ _ hp
    refine lv_i2l hx hb dL_weigh_8 rfl ?_
    rw [← h2]
    refine g_last (r := (110, 0)) C hW hS h1 h3 (vp_in_nI (n := 0) (N := 1) (by decide) (by decide)) dL_weigh_9 (fun H locs hW hS => ?_)
    refine lv_goto (tgt := 25) hx hb dL_weigh_10 (by decide) ?_
    refine lv_iconst (v := 0) hx hb dL_weigh_25 (by decide) ?_
    exact g_iret2 C hQ hW hS hP rfl (Nat.le_of_ble_eq_true rfl) (Nat.le_of_ble_eq_true rfl) dL_weigh_26

set_option maxHeartbeats 4000000 in
theorem w_cancel (l : Launch) (X : GX) (L : List ro) (ad : ro → Nat) (st : ro → va_E) (a : Int32) {fs : List Value} {f : Nat → Int64} {post : Int32 → WS → Prop} {px : String → WS → Prop} {P : Int32 → WS → Prop} (hM : gXi l yX7_cancel cX7_cancel 3 (some .int) 7 103 10 300 X [.ref (ad (1, 0)), .int a] L ad st post px) (hr : (1, 0) ∈ L) (he : st (1, 0) = .inr (10, fs)) (hP0 : ∀ v u, post v u → (((110, 0) : ro) ∈ u.1 ∧ u.2.1 (110, 0) = ad (110, 0) ∧ u.2.2 (110, 0) = lng X f) ∧ P 0 (u.1, u.2.1, sup u.2.2 (110, 0) (lng X (vp_updL f 0 v.toInt64)))) (hPx : ∀ E u, px E u → (E = "java/lang/IndexOutOfBoundsException" ∧ P 1 u) ∨ (E = "java/lang/IllegalStateException" ∧ P 2 u)) : gWi l yL_cancel cL_cancel 4 (some .int) [(0, 9, 12, 21), (0, 9, 15, 15)] 8 125 10 300 X [.ref (ad (1, 0)), .int a, .ref (ad (110, 0))] L ad st P := by
  refine gWi_of (by decide) (Nat.le_of_ble_eq_true rfl) ?_
  intro p e s m args below meth c A R Q hR hQ hT C hW hS ls hl
  obtain ⟨hR1, hR2, hR3, hR4⟩ := hR
  have hx := C.1.1
  have hb := C.1.2.1
  have hl : lv_has ls 4 [(0, .ref (ad (1, 0))), (1, .int a), (2, .ref (ad (110, 0)))] := hl
  refine lv_aload_n hx hb dL_cancel_0 rfl (lv_at hl 2 rfl) ?_
  refine lv_iconst (v := 0) hx hb dL_cancel_1 (by decide) ?_
  refine lv_aload_n hx hb dL_cancel_2 rfl (lv_at hl 0 rfl) ?_
  refine lv_iload_n hx hb dL_cancel_3 rfl (lv_at hl 1 rfl) ?_
  refine g_callXc (r := (1, 0)) (T := TX7) (N := 7) (k2 := 1) (As := [.int a]) (rest := [.int 0, .ref (ad (110, 0))]) C hM tw_5_140 tw_5_141 tw_5_142 tw_1_1 tw_5_143 (by decide +kernel) ⟨by rw [hR1]; exact Nat.le_of_ble_eq_true rfl, by rw [hR2]; exact Nat.le_of_ble_eq_true rfl⟩ hW hS hr he rfl rfl hl.1 rfl (Nat.le_of_ble_eq_true rfl) dL_cancel_4 ⟨by rw [hR3]; exact Nat.le_of_ble_eq_true rfl, by rw [hR4]; exact Nat.le_of_ble_eq_true rfl⟩ (fun E L9 ad9 st9 H locs ce q9 hp hW hS hce hcv hcl => ?_) (fun v L9 ad9 st9 H locs hp hW hS => ?_)
  · have hT2 : c.exceptionTable.toList = ([⟨0, 9, 12, 21⟩, ⟨0, 9, 15, 15⟩] : List ExceptionTableEntry) := hT
    rcases hPx _ _ hp with ⟨rfl, hP⟩ | ⟨rfl, hP⟩
    · refine g_catch C [] ⟨0, 9, 12, 21⟩ [⟨0, 9, 15, 15⟩] hT2 (fun z hz => by simp at hz) (by decide) (by decide) tw_4_32 (by decide) hce hcv hcl ?_
      refine lv_astore_n (lv' := [(3, .ref q9), (0, .ref (ad (1, 0))), (1, .int a), (2, .ref (ad (110, 0)))]) hx hb dL_cancel_12 rfl hl (by decide) rfl (fun ls hl => ?_)
      refine lv_iconst (v := 1) hx hb dL_cancel_13 (by decide) ?_
      exact g_iret2 C hQ hW hS hP rfl (Nat.le_of_ble_eq_true rfl) (Nat.le_of_ble_eq_true rfl) dL_cancel_14
    · refine g_catch C [⟨0, 9, 12, 21⟩] ⟨0, 9, 15, 15⟩ [] hT2 (fun z hz => by simp only [List.mem_cons, List.not_mem_nil, or_false] at hz; rcases hz with rfl <;> first | exact ⟨by decide, "java/lang/IndexOutOfBoundsException", tw_4_32, by decide⟩) (by decide) (by decide) tw_3_234 (by decide) hce hcv hcl ?_
      refine lv_astore_n (lv' := [(3, .ref q9), (0, .ref (ad (1, 0))), (1, .int a), (2, .ref (ad (110, 0)))]) hx hb dL_cancel_15 rfl hl (by decide) rfl (fun ls hl => ?_)
      refine lv_iconst (v := 2) hx hb dL_cancel_16 (by decide) ?_
      exact g_iret2 C hQ hW hS hP rfl (Nat.le_of_ble_eq_true rfl) (Nat.le_of_ble_eq_true rfl) dL_cancel_17
  · obtain ⟨⟨h1, h2, h3⟩, hP⟩ := hP0 _ _ hp
    refine lv_i2l hx hb dL_cancel_7 rfl ?_
    rw [← h2]
    refine g_last (r := (110, 0)) C hW hS h1 h3 (vp_in_nI (n := 0) (N := 1) (by decide) (by decide)) dL_cancel_8 (fun H locs hW hS => ?_)
    refine lv_goto (tgt := 18) hx hb dL_cancel_9 (by decide) ?_
    refine lv_iconst (v := 0) hx hb dL_cancel_18 (by decide) ?_
    exact g_iret2 C hQ hW hS hP rfl (Nat.le_of_ble_eq_true rfl) (Nat.le_of_ble_eq_true rfl) dL_cancel_19

set_option maxHeartbeats 4000000 in
theorem w_state (l : Launch) (X : GX) (L : List ro) (ad : ro → Nat) (st : ro → va_E) (a : Int32) {fs : List Value} {f : Nat → Int64} {post : Int32 → WS → Prop} {px : String → WS → Prop} {P : Int32 → WS → Prop} (hM : gXi l yX7_state cX7_state 2 (some .int) 7 103 10 300 X [.ref (ad (1, 0)), .int a] L ad st post px) (hr : (1, 0) ∈ L) (he : st (1, 0) = .inr (10, fs)) (hP0 : ∀ v u, post v u → (((110, 0) : ro) ∈ u.1 ∧ u.2.1 (110, 0) = ad (110, 0) ∧ u.2.2 (110, 0) = lng X f) ∧ P 0 (u.1, u.2.1, sup u.2.2 (110, 0) (lng X (vp_updL f 0 v.toInt64)))) (hPx : ∀ E u, px E u → (E = "java/lang/IndexOutOfBoundsException" ∧ P 1 u)) : gWi l yL_state cL_state 4 (some .int) [(0, 9, 12, 21)] 8 124 10 300 X [.ref (ad (1, 0)), .int a, .ref (ad (110, 0))] L ad st P := by
  refine gWi_of (by decide) (Nat.le_of_ble_eq_true rfl) ?_
  intro p e s m args below meth c A R Q hR hQ hT C hW hS ls hl
  obtain ⟨hR1, hR2, hR3, hR4⟩ := hR
  have hx := C.1.1
  have hb := C.1.2.1
  have hl : lv_has ls 4 [(0, .ref (ad (1, 0))), (1, .int a), (2, .ref (ad (110, 0)))] := hl
  refine lv_aload_n hx hb dL_state_0 rfl (lv_at hl 2 rfl) ?_
  refine lv_iconst (v := 0) hx hb dL_state_1 (by decide) ?_
  refine lv_aload_n hx hb dL_state_2 rfl (lv_at hl 0 rfl) ?_
  refine lv_iload_n hx hb dL_state_3 rfl (lv_at hl 1 rfl) ?_
  refine g_callXc (r := (1, 0)) (T := TX7) (N := 7) (k2 := 1) (As := [.int a]) (rest := [.int 0, .ref (ad (110, 0))]) C hM tw_5_152 tw_5_153 tw_5_154 tw_1_1 tw_5_155 (by decide +kernel) ⟨by rw [hR1]; exact Nat.le_of_ble_eq_true rfl, by rw [hR2]; exact Nat.le_of_ble_eq_true rfl⟩ hW hS hr he rfl rfl hl.1 rfl (Nat.le_of_ble_eq_true rfl) dL_state_4 ⟨by rw [hR3]; exact Nat.le_of_ble_eq_true rfl, by rw [hR4]; exact Nat.le_of_ble_eq_true rfl⟩ (fun E L9 ad9 st9 H locs ce q9 hp hW hS hce hcv hcl => ?_) (fun v L9 ad9 st9 H locs hp hW hS => ?_)
  · have hT2 : c.exceptionTable.toList = ([⟨0, 9, 12, 21⟩] : List ExceptionTableEntry) := hT
    obtain ⟨rfl, hP⟩ := hPx _ _ hp
    refine g_catch C [] ⟨0, 9, 12, 21⟩ [] hT2 (fun z hz => by simp at hz) (by decide) (by decide) tw_4_32 (by decide) hce hcv hcl ?_
    refine lv_astore_n (lv' := [(3, .ref q9), (0, .ref (ad (1, 0))), (1, .int a), (2, .ref (ad (110, 0)))]) hx hb dL_state_12 rfl hl (by decide) rfl (fun ls hl => ?_)
    refine lv_iconst (v := 1) hx hb dL_state_13 (by decide) ?_
    exact g_iret2 C hQ hW hS hP rfl (Nat.le_of_ble_eq_true rfl) (Nat.le_of_ble_eq_true rfl) dL_state_14
  · obtain ⟨⟨h1, h2, h3⟩, hP⟩ := hP0 _ _ hp
    refine lv_i2l hx hb dL_state_7 rfl ?_
    rw [← h2]
    refine g_last (r := (110, 0)) C hW hS h1 h3 (vp_in_nI (n := 0) (N := 1) (by decide) (by decide)) dL_state_8 (fun H locs hW hS => ?_)
    refine lv_goto (tgt := 15) hx hb dL_state_9 (by decide) ?_
    refine lv_iconst (v := 0) hx hb dL_state_15 (by decide) ?_
    exact g_iret2 C hQ hW hS hP rfl (Nat.le_of_ble_eq_true rfl) (Nat.le_of_ble_eq_true rfl) dL_state_16

set_option maxHeartbeats 4000000 in
theorem w_cost (l : Launch) (X : GX) (L : List ro) (ad : ro → Nat) (st : ro → va_E) (a : Int32) {fs : List Value} {f : Nat → Int64} {post : Int32 → WS → Prop} {px : String → WS → Prop} {P : Int32 → WS → Prop} (hM : gXi l yX7_cost cX7_cost 2 (some .int) 7 103 10 300 X [.ref (ad (1, 0)), .int a] L ad st post px) (hr : (1, 0) ∈ L) (he : st (1, 0) = .inr (10, fs)) (hP0 : ∀ v u, post v u → (((110, 0) : ro) ∈ u.1 ∧ u.2.1 (110, 0) = ad (110, 0) ∧ u.2.2 (110, 0) = lng X f) ∧ P 0 (u.1, u.2.1, sup u.2.2 (110, 0) (lng X (vp_updL f 0 v.toInt64)))) (hPx : ∀ E u, px E u → (E = "java/lang/IndexOutOfBoundsException" ∧ P 1 u)) : gWi l yL_cost cL_cost 4 (some .int) [(0, 9, 12, 21)] 8 124 10 300 X [.ref (ad (1, 0)), .int a, .ref (ad (110, 0))] L ad st P := by
  refine gWi_of (by decide) (Nat.le_of_ble_eq_true rfl) ?_
  intro p e s m args below meth c A R Q hR hQ hT C hW hS ls hl
  obtain ⟨hR1, hR2, hR3, hR4⟩ := hR
  have hx := C.1.1
  have hb := C.1.2.1
  have hl : lv_has ls 4 [(0, .ref (ad (1, 0))), (1, .int a), (2, .ref (ad (110, 0)))] := hl
  refine lv_aload_n hx hb dL_cost_0 rfl (lv_at hl 2 rfl) ?_
  refine lv_iconst (v := 0) hx hb dL_cost_1 (by decide) ?_
  refine lv_aload_n hx hb dL_cost_2 rfl (lv_at hl 0 rfl) ?_
  refine lv_iload_n hx hb dL_cost_3 rfl (lv_at hl 1 rfl) ?_
  refine g_callXc (r := (1, 0)) (T := TX7) (N := 7) (k2 := 1) (As := [.int a]) (rest := [.int 0, .ref (ad (110, 0))]) C hM tw_5_159 tw_5_160 tw_5_161 tw_1_1 tw_5_162 (by decide +kernel) ⟨by rw [hR1]; exact Nat.le_of_ble_eq_true rfl, by rw [hR2]; exact Nat.le_of_ble_eq_true rfl⟩ hW hS hr he rfl rfl hl.1 rfl (Nat.le_of_ble_eq_true rfl) dL_cost_4 ⟨by rw [hR3]; exact Nat.le_of_ble_eq_true rfl, by rw [hR4]; exact Nat.le_of_ble_eq_true rfl⟩ (fun E L9 ad9 st9 H locs ce q9 hp hW hS hce hcv hcl => ?_) (fun v L9 ad9 st9 H locs hp hW hS => ?_)
  · have hT2 : c.exceptionTable.toList = ([⟨0, 9, 12, 21⟩] : List ExceptionTableEntry) := hT
    obtain ⟨rfl, hP⟩ := hPx _ _ hp
    refine g_catch C [] ⟨0, 9, 12, 21⟩ [] hT2 (fun z hz => by simp at hz) (by decide) (by decide) tw_4_32 (by decide) hce hcv hcl ?_
    refine lv_astore_n (lv' := [(3, .ref q9), (0, .ref (ad (1, 0))), (1, .int a), (2, .ref (ad (110, 0)))]) hx hb dL_cost_12 rfl hl (by decide) rfl (fun ls hl => ?_)
    refine lv_iconst (v := 1) hx hb dL_cost_13 (by decide) ?_
    exact g_iret2 C hQ hW hS hP rfl (Nat.le_of_ble_eq_true rfl) (Nat.le_of_ble_eq_true rfl) dL_cost_14
  · obtain ⟨⟨h1, h2, h3⟩, hP⟩ := hP0 _ _ hp
    refine lv_i2l hx hb dL_cost_7 rfl ?_
    rw [← h2]
    refine g_last (r := (110, 0)) C hW hS h1 h3 (vp_in_nI (n := 0) (N := 1) (by decide) (by decide)) dL_cost_8 (fun H locs hW hS => ?_)
    refine lv_goto (tgt := 15) hx hb dL_cost_9 (by decide) ?_
    refine lv_iconst (v := 0) hx hb dL_cost_15 (by decide) ?_
    exact g_iret2 C hQ hW hS hP rfl (Nat.le_of_ble_eq_true rfl) (Nat.le_of_ble_eq_true rfl) dL_cost_16

set_option maxHeartbeats 4000000 in
theorem w_bill (l : Launch) (X : GX) (L : List ro) (ad : ro → Nat) (st : ro → va_E) (a : Int32) {fs : List Value} {f : Nat → Int64} {post : Int32 → WS → Prop} {px : String → WS → Prop} {P : Int32 → WS → Prop} (hM : gXi l yX7_bill cX7_bill 2 (some .int) 7 103 10 300 X [.ref (ad (1, 0)), .int a] L ad st post px) (hr : (1, 0) ∈ L) (he : st (1, 0) = .inr (10, fs)) (hP0 : ∀ v u, post v u → (((110, 0) : ro) ∈ u.1 ∧ u.2.1 (110, 0) = ad (110, 0) ∧ u.2.2 (110, 0) = lng X f) ∧ P 0 (u.1, u.2.1, sup u.2.2 (110, 0) (lng X (vp_updL f 0 v.toInt64)))) (hPx : ∀ E u, px E u → (E = "java/lang/IndexOutOfBoundsException" ∧ P 1 u)) : gWi l yL_bill cL_bill 4 (some .int) [(0, 9, 12, 21)] 8 124 10 300 X [.ref (ad (1, 0)), .int a, .ref (ad (110, 0))] L ad st P := by
  refine gWi_of (by decide) (Nat.le_of_ble_eq_true rfl) ?_
  intro p e s m args below meth c A R Q hR hQ hT C hW hS ls hl
  obtain ⟨hR1, hR2, hR3, hR4⟩ := hR
  have hx := C.1.1
  have hb := C.1.2.1
  have hl : lv_has ls 4 [(0, .ref (ad (1, 0))), (1, .int a), (2, .ref (ad (110, 0)))] := hl
  refine lv_aload_n hx hb dL_bill_0 rfl (lv_at hl 2 rfl) ?_
  refine lv_iconst (v := 0) hx hb dL_bill_1 (by decide) ?_
  refine lv_aload_n hx hb dL_bill_2 rfl (lv_at hl 0 rfl) ?_
  refine lv_iload_n hx hb dL_bill_3 rfl (lv_at hl 1 rfl) ?_
  refine g_callXc (r := (1, 0)) (T := TX7) (N := 7) (k2 := 1) (As := [.int a]) (rest := [.int 0, .ref (ad (110, 0))]) C hM tw_5_166 tw_5_167 tw_5_168 tw_1_1 tw_5_169 (by decide +kernel) ⟨by rw [hR1]; exact Nat.le_of_ble_eq_true rfl, by rw [hR2]; exact Nat.le_of_ble_eq_true rfl⟩ hW hS hr he rfl rfl hl.1 rfl (Nat.le_of_ble_eq_true rfl) dL_bill_4 ⟨by rw [hR3]; exact Nat.le_of_ble_eq_true rfl, by rw [hR4]; exact Nat.le_of_ble_eq_true rfl⟩ (fun E L9 ad9 st9 H locs ce q9 hp hW hS hce hcv hcl => ?_) (fun v L9 ad9 st9 H locs hp hW hS => ?_)
  · have hT2 : c.exceptionTable.toList = ([⟨0, 9, 12, 21⟩] : List ExceptionTableEntry) := hT
    obtain ⟨rfl, hP⟩ := hPx _ _ hp
    refine g_catch C [] ⟨0, 9, 12, 21⟩ [] hT2 (fun z hz => by simp at hz) (by decide) (by decide) tw_4_32 (by decide) hce hcv hcl ?_
    refine lv_astore_n (lv' := [(3, .ref q9), (0, .ref (ad (1, 0))), (1, .int a), (2, .ref (ad (110, 0)))]) hx hb dL_bill_12 rfl hl (by decide) rfl (fun ls hl => ?_)
    refine lv_iconst (v := 1) hx hb dL_bill_13 (by decide) ?_
    exact g_iret2 C hQ hW hS hP rfl (Nat.le_of_ble_eq_true rfl) (Nat.le_of_ble_eq_true rfl) dL_bill_14
  · obtain ⟨⟨h1, h2, h3⟩, hP⟩ := hP0 _ _ hp
    refine lv_i2l hx hb dL_bill_7 rfl ?_
    rw [← h2]
    refine g_last (r := (110, 0)) C hW hS h1 h3 (vp_in_nI (n := 0) (N := 1) (by decide) (by decide)) dL_bill_8 (fun H locs hW hS => ?_)
    refine lv_goto (tgt := 15) hx hb dL_bill_9 (by decide) ?_
    refine lv_iconst (v := 0) hx hb dL_bill_15 (by decide) ?_
    exact g_iret2 C hQ hW hS hP rfl (Nat.le_of_ble_eq_true rfl) (Nat.le_of_ble_eq_true rfl) dL_bill_16

set_option maxHeartbeats 4000000 in
theorem w_close (l : Launch) (X : GX) (L : List ro) (ad : ro → Nat) (st : ro → va_E) (a : Int32) {fs : List Value} {f : Nat → Int64} {post : Int32 → WS → Prop} {px : String → WS → Prop} {P : Int32 → WS → Prop} (hM : gXi l yX7_close cX7_close 4 (some .int) 7 103 10 300 X [.ref (ad (1, 0)), .int a] L ad st post px) (hr : (1, 0) ∈ L) (he : st (1, 0) = .inr (10, fs)) (hP0 : ∀ v u, post v u → (((110, 0) : ro) ∈ u.1 ∧ u.2.1 (110, 0) = ad (110, 0) ∧ u.2.2 (110, 0) = lng X f) ∧ P 0 (u.1, u.2.1, sup u.2.2 (110, 0) (lng X (vp_updL f 0 v.toInt64)))) (hPx : ∀ E u, px E u → (E = "java/lang/IndexOutOfBoundsException" ∧ P 1 u)) : gWi l yL_close cL_close 4 (some .int) [(0, 9, 12, 21)] 8 126 10 300 X [.ref (ad (1, 0)), .int a, .ref (ad (110, 0))] L ad st P := by
  refine gWi_of (by decide) (Nat.le_of_ble_eq_true rfl) ?_
  intro p e s m args below meth c A R Q hR hQ hT C hW hS ls hl
  obtain ⟨hR1, hR2, hR3, hR4⟩ := hR
  have hx := C.1.1
  have hb := C.1.2.1
  have hl : lv_has ls 4 [(0, .ref (ad (1, 0))), (1, .int a), (2, .ref (ad (110, 0)))] := hl
  refine lv_aload_n hx hb dL_close_0 rfl (lv_at hl 2 rfl) ?_
  refine lv_iconst (v := 0) hx hb dL_close_1 (by decide) ?_
  refine lv_aload_n hx hb dL_close_2 rfl (lv_at hl 0 rfl) ?_
  refine lv_iload_n hx hb dL_close_3 rfl (lv_at hl 1 rfl) ?_
  refine g_callXc (r := (1, 0)) (T := TX7) (N := 7) (k2 := 1) (As := [.int a]) (rest := [.int 0, .ref (ad (110, 0))]) C hM tw_5_182 tw_5_183 tw_5_184 tw_1_1 tw_5_185 (by decide +kernel) ⟨by rw [hR1]; exact Nat.le_of_ble_eq_true rfl, by rw [hR2]; exact Nat.le_of_ble_eq_true rfl⟩ hW hS hr he rfl rfl hl.1 rfl (Nat.le_of_ble_eq_true rfl) dL_close_4 ⟨by rw [hR3]; exact Nat.le_of_ble_eq_true rfl, by rw [hR4]; exact Nat.le_of_ble_eq_true rfl⟩ (fun E L9 ad9 st9 H locs ce q9 hp hW hS hce hcv hcl => ?_) (fun v L9 ad9 st9 H locs hp hW hS => ?_)
  · have hT2 : c.exceptionTable.toList = ([⟨0, 9, 12, 21⟩] : List ExceptionTableEntry) := hT
    obtain ⟨rfl, hP⟩ := hPx _ _ hp
    refine g_catch C [] ⟨0, 9, 12, 21⟩ [] hT2 (fun z hz => by simp at hz) (by decide) (by decide) tw_4_32 (by decide) hce hcv hcl ?_
    refine lv_astore_n (lv' := [(3, .ref q9), (0, .ref (ad (1, 0))), (1, .int a), (2, .ref (ad (110, 0)))]) hx hb dL_close_12 rfl hl (by decide) rfl (fun ls hl => ?_)
    refine lv_iconst (v := 1) hx hb dL_close_13 (by decide) ?_
    exact g_iret2 C hQ hW hS hP rfl (Nat.le_of_ble_eq_true rfl) (Nat.le_of_ble_eq_true rfl) dL_close_14
  · obtain ⟨⟨h1, h2, h3⟩, hP⟩ := hP0 _ _ hp
    refine lv_i2l hx hb dL_close_7 rfl ?_
    rw [← h2]
    refine g_last (r := (110, 0)) C hW hS h1 h3 (vp_in_nI (n := 0) (N := 1) (by decide) (by decide)) dL_close_8 (fun H locs hW hS => ?_)
    refine lv_goto (tgt := 15) hx hb dL_close_9 (by decide) ?_
    refine lv_iconst (v := 0) hx hb dL_close_15 (by decide) ?_
    exact g_iret2 C hQ hW hS hP rfl (Nat.le_of_ble_eq_true rfl) (Nat.le_of_ble_eq_true rfl) dL_close_16

set_option maxHeartbeats 4000000 in
theorem w_billed (l : Launch) (X : GX) (L : List ro) (ad : ro → Nat) (st : ro → va_E) (a : Int32) {fs : List Value} {f : Nat → Int64} {post : Int32 → WS → Prop} {px : String → WS → Prop} {P : Int32 → WS → Prop} (hM : gXi l yX7_billed cX7_billed 2 (some .int) 7 103 10 300 X [.ref (ad (1, 0)), .int a] L ad st post px) (hr : (1, 0) ∈ L) (he : st (1, 0) = .inr (10, fs)) (hP0 : ∀ v u, post v u → (((110, 0) : ro) ∈ u.1 ∧ u.2.1 (110, 0) = ad (110, 0) ∧ u.2.2 (110, 0) = lng X f) ∧ P 0 (u.1, u.2.1, sup u.2.2 (110, 0) (lng X (vp_updL f 0 v.toInt64)))) (hPx : ∀ E u, px E u → (E = "java/lang/IndexOutOfBoundsException" ∧ P 1 u)) : gWi l yL_billed cL_billed 4 (some .int) [(0, 9, 12, 21)] 8 124 10 300 X [.ref (ad (1, 0)), .int a, .ref (ad (110, 0))] L ad st P := by
  refine gWi_of (by decide) (Nat.le_of_ble_eq_true rfl) ?_
  intro p e s m args below meth c A R Q hR hQ hT C hW hS ls hl
  obtain ⟨hR1, hR2, hR3, hR4⟩ := hR
  have hx := C.1.1
  have hb := C.1.2.1
  have hl : lv_has ls 4 [(0, .ref (ad (1, 0))), (1, .int a), (2, .ref (ad (110, 0)))] := hl
  refine lv_aload_n hx hb dL_billed_0 rfl (lv_at hl 2 rfl) ?_
  refine lv_iconst (v := 0) hx hb dL_billed_1 (by decide) ?_
  refine lv_aload_n hx hb dL_billed_2 rfl (lv_at hl 0 rfl) ?_
  refine lv_iload_n hx hb dL_billed_3 rfl (lv_at hl 1 rfl) ?_
  refine g_callXc (r := (1, 0)) (T := TX7) (N := 7) (k2 := 1) (As := [.int a]) (rest := [.int 0, .ref (ad (110, 0))]) C hM tw_5_193 tw_5_194 tw_5_195 tw_1_1 tw_5_196 (by decide +kernel) ⟨by rw [hR1]; exact Nat.le_of_ble_eq_true rfl, by rw [hR2]; exact Nat.le_of_ble_eq_true rfl⟩ hW hS hr he rfl rfl hl.1 rfl (Nat.le_of_ble_eq_true rfl) dL_billed_4 ⟨by rw [hR3]; exact Nat.le_of_ble_eq_true rfl, by rw [hR4]; exact Nat.le_of_ble_eq_true rfl⟩ (fun E L9 ad9 st9 H locs ce q9 hp hW hS hce hcv hcl => ?_) (fun v L9 ad9 st9 H locs hp hW hS => ?_)
  · have hT2 : c.exceptionTable.toList = ([⟨0, 9, 12, 21⟩] : List ExceptionTableEntry) := hT
    obtain ⟨rfl, hP⟩ := hPx _ _ hp
    refine g_catch C [] ⟨0, 9, 12, 21⟩ [] hT2 (fun z hz => by simp at hz) (by decide) (by decide) tw_4_32 (by decide) hce hcv hcl ?_
    refine lv_astore_n (lv' := [(3, .ref q9), (0, .ref (ad (1, 0))), (1, .int a), (2, .ref (ad (110, 0)))]) hx hb dL_billed_12 rfl hl (by decide) rfl (fun ls hl => ?_)
    refine lv_iconst (v := 1) hx hb dL_billed_13 (by decide) ?_
    exact g_iret2 C hQ hW hS hP rfl (Nat.le_of_ble_eq_true rfl) (Nat.le_of_ble_eq_true rfl) dL_billed_14
  · obtain ⟨⟨h1, h2, h3⟩, hP⟩ := hP0 _ _ hp
    refine lv_i2l hx hb dL_billed_7 rfl ?_
    rw [← h2]
    refine g_last (r := (110, 0)) C hW hS h1 h3 (vp_in_nI (n := 0) (N := 1) (by decide) (by decide)) dL_billed_8 (fun H locs hW hS => ?_)
    refine lv_goto (tgt := 15) hx hb dL_billed_9 (by decide) ?_
    refine lv_iconst (v := 0) hx hb dL_billed_15 (by decide) ?_
    exact g_iret2 C hQ hW hS hP rfl (Nat.le_of_ble_eq_true rfl) (Nat.le_of_ble_eq_true rfl) dL_billed_16

