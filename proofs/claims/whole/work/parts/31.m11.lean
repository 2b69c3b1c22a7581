set_option maxHeartbeats 4000000 in
set_option maxRecDepth 100000 in
theorem ini_B {p : Program} {l : Launch} {e : Env} {R : Room} {s : State} {m : MethodId} {args : Array Value} {below : List Frame} {meth : Method} {c : Code} {H : Heap} {locs : List Loc} {Q : State → Prop} {ls : Array Slot} {X : GX} {A : Nat → Prop} {L : List ro} {ad : ro → Nat} {st0 : ro → va_E} {fa : Nat → Nat → Int32} {post : WS → Prop} (C : gCx p s m args meth c cX8_init 2 none yX8_init.cls yX8_init.name X A) (hR : R.frames = 1 ∧ R.locals = 12 ∧ R.cells = 37 ∧ R.slots = 11420) (hQ : Q = MQ below (va_Qv post (gB X A) A) args s 37 11420 A) (hm : mL L) (hW : gW X A L ad (mSt X ad st0 (fun _ => 0) fa) s H) (hS : va_S A s.heap H locs) (hl : lv_has ls 2 [(0, .ref (ad (100, 0)))]) (hpost : ∀ fa', ((∀ x, x ≠ 11 → x ≠ 12 → x ≠ 19 → x ≠ 20 → x ≠ 21 → x ≠ 28 → fa' x = fa x) ∧ (∀ i, i < 6 → fa' 11 i = 10 ∧ fa' 12 i = 60) ∧ (∀ i, i < 4 → fa' 19 i = 500 ∧ fa' 20 i = 100 ∧ fa' 21 i = 20) ∧ (∀ z, z < 1536 → fa' 28 z = -1)) → post (L, ad, mSt X ad st0 (fun _ => 0) fa')) : W p l e R s m args below meth c H locs 37 11420 Q (F0 m 465 ls []) := by
  have hx := C.1.1
  have hb := C.1.2.1
  have hml := C.1.2.2.1
  have loopa : ∀ (f : Nat) (k : Nat) (fb : Nat → Nat → Int32), (6 - k < f) → (k ≤ 6) → (∀ j, j < k → fb 11 j = 10 ∧ fb 12 j = 60) → (∀ x, x ≠ 11 → x ≠ 12 → fb x = fa x) → ∀ (H : Heap) (locs : List Loc), gW X A L ad (mSt X ad st0 (fun _ => 0) fb) s H → va_S A s.heap H locs → ∀ ls : Array Slot, lv_has ls 2 [(0, .ref (ad (100, 0))), (1, .int (nI k))] → W p l e R s m args below meth c H locs 37 11420 Q (F0 m 467 ls []) := by
    intro f
    induction f with
    | zero =>
      intro k fb hf9
      exact absurd hf9 (Nat.not_lt_zero _)
    | succ f ih =>
      intro k fb hf hk g1 h1 H locs hW hS ls hl
      refine lv_iload_n hx hb dX8_init_467 rfl (lv_at hl 1 rfl) ?_
      refine lv_bipush (v := 6) hx hb dX8_init_468 (by decide) ?_
      refine lv_icmp_ge (tgt := 495) hx hb dX8_init_470 (by decide) (fun c1 => ?_) (fun c1 => ?_)
      · have c1n := q_le (a := 6) (b := k) (by omega) (by omega) c1
        have hk6 : k = 6 := by omega
        subst hk6
        obtain ⟨f1, hf1⟩ : ∃ f, f = fb := ⟨_, rfl⟩
        rw [← hf1] at hW g1 h1
        have loopb : ∀ (f : Nat) (k : Nat) (fb : Nat → Nat → Int32), (4 - k < f) → (k ≤ 4) → (∀ j, j < k → fb 19 j = 500 ∧ fb 20 j = 100 ∧ fb 21 j = 20) → (∀ x, x ≠ 19 → x ≠ 20 → x ≠ 21 → fb x = f1 x) → ∀ (H : Heap) (locs : List Loc), gW X A L ad (mSt X ad st0 (fun _ => 0) fb) s H → va_S A s.heap H locs → ∀ ls : Array Slot, lv_has ls 2 [(0, .ref (ad (100, 0))), (1, .int (nI k))] → W p l e R s m args below meth c H locs 37 11420 Q (F0 m 497 ls []) := by
          intro f
          induction f with
          | zero =>
            intro k fb hf9
            exact absurd hf9 (Nat.not_lt_zero _)
          | succ f ih =>
            intro k fb hf hk g2 h2 H locs hW hS ls hl
            refine lv_iload_n hx hb dX8_init_497 rfl (lv_at hl 1 rfl) ?_
            refine lv_iconst (v := 4) hx hb dX8_init_498 (by decide) ?_
            refine lv_icmp_ge (tgt := 533) hx hb dX8_init_499 (by decide) (fun c2 => ?_) (fun c2 => ?_)
            · have c2n := q_le (a := 4) (b := k) (by omega) (by omega) c2
              have hk4 : k = 4 := by omega
              subst hk4
              obtain ⟨f2, hf2⟩ : ∃ f, f = fb := ⟨_, rfl⟩
              rw [← hf2] at hW g2 h2
              have loopc : ∀ (f : Nat) (k : Nat) (fb : Nat → Nat → Int32), (1536 - k < f) → (k ≤ 1536) → (∀ j, j < k → fb 28 j = -1) → (∀ x, x ≠ 28 → fb x = f2 x) → ∀ (H : Heap) (locs : List Loc), gW X A L ad (mSt X ad st0 (fun _ => 0) fb) s H → va_S A s.heap H locs → ∀ ls : Array Slot, lv_has ls 2 [(0, .ref (ad (100, 0))), (1, .int (nI k))] → W p l e R s m args below meth c H locs 37 11420 Q (F0 m 535 ls []) := by
                intro f
                induction f with
                | zero =>
                  intro k fb hf9
                  exact absurd hf9 (Nat.not_lt_zero _)
                | succ f ih =>
                  intro k fb hf hk g3 h3 H locs hW hS ls hl
                  refine lv_iload_n hx hb dX8_init_535 rfl (lv_at hl 1 rfl) ?_
                  refine lv_sipush (v := 1536) hx hb dX8_init_536 (by decide) ?_
                  refine lv_icmp_ge (tgt := 555) hx hb dX8_init_539 (by decide) (fun c3 => ?_) (fun c3 => ?_)
                  · have c3n := q_le (a := 1536) (b := k) (by omega) (by omega) c3
                    exact g_vret2 C hQ hW hS (hpost _ ⟨fun x a1 a2 a3 a4 a5 a6 => (h3 x a6).trans ((h2 x a3 a4 a5).trans (h1 x a1 a2)), fun i hi => ⟨(congrFun (h3 11 (by decide)) i).trans ((congrFun (h2 11 (by decide) (by decide) (by decide)) i).trans (g1 i hi).1), (congrFun (h3 12 (by decide)) i).trans ((congrFun (h2 12 (by decide) (by decide) (by decide)) i).trans (g1 i hi).2)⟩, fun i hi => ⟨(congrFun (h3 19 (by decide)) i).trans (g2 i hi).1, (congrFun (h3 20 (by decide)) i).trans (g2 i hi).2.1, (congrFun (h3 21 (by decide)) i).trans (g2 i hi).2.2⟩, fun z hz => g3 z (by omega)⟩) (Nat.le_of_ble_eq_true rfl) (Nat.le_of_ble_eq_true rfl) dX8_init_555
                  · have c3n := q_nle (a := 1536) (b := k) (by omega) (by omega) c3
                    refine lv_aload_n hx hb dX8_init_542 rfl (lv_at hl 0 rfl) ?_
                    refine m_getA C hm hW 28 (by decide) rfl tw_5_231 dX8_init_543 ?_
                    refine lv_iload_n hx hb dX8_init_546 rfl (lv_at hl 1 rfl) ?_
                    refine lv_iconst (v := (-1)) hx hb dX8_init_547 (by decide) ?_
                    refine m_iast (j := k) C hm hW hS 28 (by decide) rfl rfl (vp_in_nI (N := 1536) (by omega) (by decide)) (nI_clamp (by omega)) dX8_init_548 (fun H locs hW hS => ?_)
                    refine lv_iinc (v := nI (k + 1)) (lv' := [(1, .int (nI (k + 1))), (0, .ref (ad (100, 0)))]) hx hb dX8_init_549 hl (k := 1) rfl (nI_1 k) (by decide) rfl (fun ls hl => ?_)
                    refine lv_goto (tgt := 535) hx hb dX8_init_552 (by decide) ?_
                    exact ih (k + 1) (rowu fb 28 (upd (fb 28) k (-1))) (by omega) (by omega) (fun j hj => if e9 : j = k then (by subst e9; simp [rowu, upd]) else (by have q9 := g3 j (by omega); simp [rowu, upd, e9, q9])) (fun x b0 => by simp only [rowu]; rw [if_neg b0]; exact h3 x b0) _ _ hW hS _ (lv_sub hl [1, 0] rfl)
              refine lv_iconst (v := 0) hx hb dX8_init_533 (by decide) ?_
              refine lv_istore_n (lv' := [(1, .int 0), (0, .ref (ad (100, 0)))]) hx hb dX8_init_534 rfl hl (by decide) rfl (fun ls hl => ?_)
              exact loopc _ 0 f2 (Nat.lt_succ_self _) (by omega) (fun j hj => absurd hj (Nat.not_lt_zero j)) (fun x _ => rfl) _ _ hW hS _ (lv_sub hl [1, 0] rfl)
            · have c2n := q_nle (a := 4) (b := k) (by omega) (by omega) c2
              refine lv_aload_n hx hb dX8_init_502 rfl (lv_at hl 0 rfl) ?_
              refine m_getA C hm hW 19 (by decide) rfl tw_5_222 dX8_init_503 ?_
              refine lv_iload_n hx hb dX8_init_506 rfl (lv_at hl 1 rfl) ?_
              refine lv_sipush (v := 500) hx hb dX8_init_507 (by decide) ?_
              refine m_iast (j := k) C hm hW hS 19 (by decide) rfl rfl (vp_in_nI (N := 4) (by omega) (by decide)) (nI_clamp (by omega)) dX8_init_510 (fun H locs hW hS => ?_)
              refine lv_aload_n hx hb dX8_init_511 rfl (lv_at hl 0 rfl) ?_
              refine m_getA C hm hW 20 (by decide) rfl tw_5_223 dX8_init_512 ?_
              refine lv_iload_n hx hb dX8_init_515 rfl (lv_at hl 1 rfl) ?_
              refine lv_bipush (v := 100) hx hb dX8_init_516 (by decide) ?_
              refine m_iast (j := k) C hm hW hS 20 (by decide) rfl rfl (vp_in_nI (N := 4) (by omega) (by decide)) (nI_clamp (by omega)) dX8_init_518 (fun H locs hW hS => ?_)
              refine lv_aload_n hx hb dX8_init_519 rfl (lv_at hl 0 rfl) ?_
              refine m_getA C hm hW 21 (by decide) rfl tw_5_224 dX8_init_520 ?_
              refine lv_iload_n hx hb dX8_init_523 rfl (lv_at hl 1 rfl) ?_
              refine lv_bipush (v := 20) hx hb dX8_init_524 (by decide) ?_
              refine m_iast (j := k) C hm hW hS 21 (by decide) rfl rfl (vp_in_nI (N := 4) (by omega) (by decide)) (nI_clamp (by omega)) dX8_init_526 (fun H locs hW hS => ?_)
              refine lv_iinc (v := nI (k + 1)) (lv' := [(1, .int (nI (k + 1))), (0, .ref (ad (100, 0)))]) hx hb dX8_init_527 hl (k := 1) rfl (nI_1 k) (by decide) rfl (fun ls hl => ?_)
              refine lv_goto (tgt := 497) hx hb dX8_init_530 (by decide) ?_
              exact ih (k + 1) (rowu (rowu (rowu fb 19 (upd (fb 19) k 500)) 20 (upd (fb 20) k 100)) 21 (upd (fb 21) k 20)) (by omega) (by omega) (fun j hj => if e9 : j = k then (by subst e9; simp [rowu, upd]) else (by have q9 := g2 j (by omega); simp [rowu, upd, e9, q9])) (fun x b0 b1 b2 => by simp only [rowu]; rw [if_neg b2, if_neg b1, if_neg b0]; exact h2 x b0 b1 b2) _ _ hW hS _ (lv_sub hl [1, 0] rfl)
        refine lv_iconst (v := 0) hx hb dX8_init_495 (by decide) ?_
        refine lv_istore_n (lv' := [(1, .int 0), (0, .ref (ad (100, 0)))]) hx hb dX8_init_496 rfl hl (by decide) rfl (fun ls hl => ?_)
        exact loopb _ 0 f1 (Nat.lt_succ_self _) (by omega) (fun j hj => absurd hj (Nat.not_lt_zero j)) (fun x _ _ _ => rfl) _ _ hW hS _ (lv_sub hl [1, 0] rfl)
      · have c1n := q_nle (a := 6) (b := k) (by omega) (by omega) c1
        refine lv_aload_n hx hb dX8_init_473 rfl (lv_at hl 0 rfl) ?_
        refine m_getA C hm hW 11 (by decide) rfl tw_5_214 dX8_init_474 ?_
        refine lv_iload_n hx hb dX8_init_477 rfl (lv_at hl 1 rfl) ?_
        refine lv_bipush (v := 10) hx hb dX8_init_478 (by decide) ?_
        refine m_iast (j := k) C hm hW hS 11 (by decide) rfl rfl (vp_in_nI (N := 6) (by omega) (by decide)) (nI_clamp (by omega)) dX8_init_480 (fun H locs hW hS => ?_)
        refine lv_aload_n hx hb dX8_init_481 rfl (lv_at hl 0 rfl) ?_
        refine m_getA C hm hW 12 (by decide) rfl tw_5_215 dX8_init_482 ?_
        refine lv_iload_n hx hb dX8_init_485 rfl (lv_at hl 1 rfl) ?_
        refine lv_bipush (v := 60) hx hb dX8_init_486 (by decide) ?_
        refine m_iast (j := k) C hm hW hS 12 (by decide) rfl rfl (vp_in_nI (N := 6) (by omega) (by decide)) (nI_clamp (by omega)) dX8_init_488 (fun H locs hW hS => ?_)
        refine lv_iinc (v := nI (k + 1)) (lv' := [(1, .int (nI (k + 1))), (0, .ref (ad (100, 0)))]) hx hb dX8_init_489 hl (k := 1) rfl (nI_1 k) (by decide) rfl (fun ls hl => ?_)
        refine lv_goto (tgt := 467) hx hb dX8_init_492 (by decide) ?_
        exact ih (k + 1) (rowu (rowu fb 11 (upd (fb 11) k 10)) 12 (upd (fb 12) k 60)) (by omega) (by omega) (fun j hj => if e9 : j = k then (by subst e9; simp [rowu, upd]) else (by have q9 := g1 j (by omega); simp [rowu, upd, e9, q9])) (fun x b0 b1 => by simp only [rowu]; rw [if_neg b1, if_neg b0]; exact h1 x b0 b1) _ _ hW hS _ (lv_sub hl [1, 0] rfl)
  refine lv_iconst (v := 0) hx hb dX8_init_465 (by decide) ?_
  refine lv_istore_n (lv' := [(1, .int 0), (0, .ref (ad (100, 0)))]) hx hb dX8_init_466 rfl hl (by decide) rfl (fun ls hl => ?_)
  exact loopa _ 0 fa (Nat.lt_succ_self _) (by omega) (fun j hj => absurd hj (Nat.not_lt_zero j)) (fun x _ _ => rfl) _ _ hW hS _ (lv_sub hl [1, 0] rfl)

