/-- six places are filled -/
def fil6 (f : Nat → Int32) (z : Int32) : Nat → Int32 := upd (upd (upd (upd (upd (upd f 0 z) 1 z) 2 z) 3 z) 4 z) 5 z
set_option maxHeartbeats 4000000 in
theorem c_J7_fill_53178 (l : Launch) (X : GX) (L : List ro) (ad : ro → Nat) (st0 : ro → va_E) (ci : Nat → Nat → Int32) (ca : Nat → Nat → Nat → Int32) (cr : Nat → Nat → Nat) (mA4 : (4, 0) ∈ L) (z : Int32) : gMv l yJ7_fill_53178 cJ7_fill_53178 4 none 0 0 0 0 X [.ref (ad (4, 0)), .int z] L ad (cSt X ad st0 ci ca cr) (fun u => ∃ ci' ca' cr', u = (L, ad, cSt X ad st0 ci' ca' cr') ∧ ci' = ci ∧ ca' = ua2 ca 4 0 (fil6 (ca 4 0) z) ∧ cr' = cr) := by
  intro sz
  refine gM_of2 (Qc := fun A => va_Qv _ (gB X A) A) (by decide) (Nat.le_of_ble_eq_true rfl) ?_ sz
  intro p e s m args below meth c A R Q hR hQ C hW hS ls hl
  obtain ⟨hR1, hR2, hR3, hR4⟩ := hR
  have hx := C.1.1
  have hb := C.1.2.1
  have hml := C.1.2.2.1
  have hl : lv_has ls 4 [(0, .ref (ad (4, 0))), (1, .int z)] := hl
  refine lv_iconst (v := 0) hx hb dJ7_fill_53178_0 (by decide) ?_
  refine lv_istore_n (lv' := [(2, .int 0), (0, .ref (ad (4, 0))), (1, .int z)]) hx hb dJ7_fill_53178_1 rfl hl (by decide) rfl (fun ls hl => ?_)
  refine lv_aload_n hx hb dJ7_fill_53178_2 rfl (lv_at hl 1 rfl) ?_
  refine g_alen (r := (4, 0)) (t0 := 2) (v := 6) C hW mA4 rfl rfl rfl dJ7_fill_53178_3 ?_
  refine lv_istore_n (lv' := [(3, .int 6), (2, .int 0), (0, .ref (ad (4, 0))), (1, .int z)]) hx hb dJ7_fill_53178_4 rfl hl (by decide) rfl (fun ls hl => ?_)
  refine lv_iload_n hx hb dJ7_fill_53178_5 rfl (lv_at hl 1 rfl) ?_
  refine lv_iload_n hx hb dJ7_fill_53178_6 rfl (lv_at hl 0 rfl) ?_
  refine lv_icmp_ge (tgt := 20) hx hb dJ7_fill_53178_7 (by decide) (fun c9 => absurd c9 (by decide)) (fun _ => ?_)
  refine lv_aload_n hx hb dJ7_fill_53178_10 rfl (lv_at hl 2 rfl) ?_
  refine lv_iload_n hx hb dJ7_fill_53178_11 rfl (lv_at hl 1 rfl) ?_
  refine lv_iload_n hx hb dJ7_fill_53178_12 rfl (lv_at hl 3 rfl) ?_
  refine g_iast (r := (4, 0)) (n := 6) (f := ca 4 0) (st2 := cSt X ad st0 ci (ua2 ca 4 0 (upd (ca 4 0) 0 z)) cr) C hW hS mA4 rfl (vp_in_nI (n := 0) (N := 6) (by decide) (by decide)) (by rw [show (0 : Int32).toNatClampNeg = 0 from by decide]; exact cR_4 0 _) dJ7_fill_53178_13 (fun H locs hW hS => ?_)
  refine lv_iinc (v := 1) (lv' := [(2, .int 1), (3, .int 6), (0, .ref (ad (4, 0))), (1, .int z)]) hx hb dJ7_fill_53178_14 hl (k := 1) rfl (by decide) (by decide) rfl (fun ls hl => ?_)
  refine lv_goto (tgt := 5) hx hb dJ7_fill_53178_17 (by decide) ?_
  refine lv_iload_n hx hb dJ7_fill_53178_5 rfl (lv_at hl 0 rfl) ?_
  refine lv_iload_n hx hb dJ7_fill_53178_6 rfl (lv_at hl 1 rfl) ?_
  refine lv_icmp_ge (tgt := 20) hx hb dJ7_fill_53178_7 (by decide) (fun c9 => absurd c9 (by decide)) (fun _ => ?_)
  refine lv_aload_n hx hb dJ7_fill_53178_10 rfl (lv_at hl 2 rfl) ?_
  refine lv_iload_n hx hb dJ7_fill_53178_11 rfl (lv_at hl 0 rfl) ?_
  refine lv_iload_n hx hb dJ7_fill_53178_12 rfl (lv_at hl 3 rfl) ?_
  refine g_iast (r := (4, 0)) (n := 6) (f := (ua2 ca 4 0 (upd (ca 4 0) 0 z)) 4 0) (st2 := cSt X ad st0 ci (ua2 (ua2 ca 4 0 (upd (ca 4 0) 0 z)) 4 0 (upd (upd (ca 4 0) 0 z) 1 z)) cr) C hW hS mA4 rfl (vp_in_nI (n := 1) (N := 6) (by decide) (by decide)) (by rw [show (1 : Int32).toNatClampNeg = 1 from by decide, ua2_at]; exact cR_4 0 _) dJ7_fill_53178_13 (fun H locs hW hS => ?_)
  rw [ua2_same] at hW
  refine lv_iinc (v := 2) (lv' := [(2, .int 2), (3, .int 6), (0, .ref (ad (4, 0))), (1, .int z)]) hx hb dJ7_fill_53178_14 hl (k := 0) rfl (by decide) (by decide) rfl (fun ls hl => ?_)
  refine lv_goto (tgt := 5) hx hb dJ7_fill_53178_17 (by decide) ?_
  refine lv_iload_n hx hb dJ7_fill_53178_5 rfl (lv_at hl 0 rfl) ?_
  refine lv_iload_n hx hb dJ7_fill_53178_6 rfl (lv_at hl 1 rfl) ?_
  refine lv_icmp_ge (tgt := 20) hx hb dJ7_fill_53178_7 (by decide) (fun c9 => absurd c9 (by decide)) (fun _ => ?_)
  refine lv_aload_n hx hb dJ7_fill_53178_10 rfl (lv_at hl 2 rfl) ?_
  refine lv_iload_n hx hb dJ7_fill_53178_11 rfl (lv_at hl 0 rfl) ?_
  refine lv_iload_n hx hb dJ7_fill_53178_12 rfl (lv_at hl 3 rfl) ?_
  refine g_iast (r := (4, 0)) (n := 6) (f := (ua2 ca 4 0 (upd (upd (ca 4 0) 0 z) 1 z)) 4 0) (st2 := cSt X ad st0 ci (ua2 (ua2 ca 4 0 (upd (upd (ca 4 0) 0 z) 1 z)) 4 0 (upd (upd (upd (ca 4 0) 0 z) 1 z) 2 z)) cr) C hW hS mA4 rfl (vp_in_nI (n := 2) (N := 6) (by decide) (by decide)) (by rw [show (2 : Int32).toNatClampNeg = 2 from by decide, ua2_at]; exact cR_4 0 _) dJ7_fill_53178_13 (fun H locs hW hS => ?_)
  rw [ua2_same] at hW
  refine lv_iinc (v := 3) (lv' := [(2, .int 3), (3, .int 6), (0, .ref (ad (4, 0))), (1, .int z)]) hx hb dJ7_fill_53178_14 hl (k := 0) rfl (by decide) (by decide) rfl (fun ls hl => ?_)
  refine lv_goto (tgt := 5) hx hb dJ7_fill_53178_17 (by decide) ?_
  refine lv_iload_n hx hb dJ7_fill_53178_5 rfl (lv_at hl 0 rfl) ?_
  refine lv_iload_n hx hb dJ7_fill_53178_6 rfl (lv_at hl 1 rfl) ?_
  refine lv_icmp_ge (tgt := 20) hx hb dJ7_fill_53178_7 (by decide) (fun c9 => absurd c9 (by decide)) (fun _ => ?_)
  refine lv_aload_n hx hb dJ7_fill_53178_10 rfl (lv_at hl 2 rfl) ?_
  refine lv_iload_n hx hb dJ7_fill_53178_11 rfl (lv_at hl 0 rfl) ?_
  refine lv_iload_n hx hb dJ7_fill_53178_12 rfl (lv_at hl 3 rfl) ?_
  refine g_iast (r := (4, 0)) (n := 6) (f := (ua2 ca 4 0 (upd (upd (upd (ca 4 0) 0 z) 1 z) 2 z)) 4 0) (st2 := cSt X ad st0 ci (ua2 (ua2 ca 4 0 (upd (upd (upd (ca 4 0) 0 z) 1 z) 2 z)) 4 0 (upd (upd (upd (upd (ca 4 0) 0 z) 1 z) 2 z) 3 z)) cr) C hW hS mA4 rfl (vp_in_nI (n := 3) (N := 6) (by decide) (by decide)) (by rw [show (3 : Int32).toNatClampNeg = 3 from by decide, ua2_at]; exact cR_4 0 _) dJ7_fill_53178_13 (fun H locs hW hS => ?_)
  rw [ua2_same] at hW
  refine lv_iinc (v := 4) (lv' := [(2, .int 4), (3, .int 6), (0, .ref (ad (4, 0))), (1, .int z)]) hx hb dJ7_fill_53178_14 hl (k := 0) rfl (by decide) (by decide) rfl (fun ls hl => ?_)
  refine lv_goto (tgt := 5) hx hb dJ7_fill_53178_17 (by decide) ?_
  refine lv_iload_n hx hb dJ7_fill_53178_5 rfl (lv_at hl 0 rfl) ?_
  refine lv_iload_n hx hb dJ7_fill_53178_6 rfl (lv_at hl 1 rfl) ?_
  refine lv_icmp_ge (tgt := 20) hx hb dJ7_fill_53178_7 (by decide) (fun c9 => absurd c9 (by decide)) (fun _ => ?_)
  refine lv_aload_n hx hb dJ7_fill_53178_10 rfl (lv_at hl 2 rfl) ?_
  refine lv_iload_n hx hb dJ7_fill_53178_11 rfl (lv_at hl 0 rfl) ?_
  refine lv_iload_n hx hb dJ7_fill_53178_12 rfl (lv_at hl 3 rfl) ?_
  refine g_iast (r := (4, 0)) (n := 6) (f := (ua2 ca 4 0 (upd (upd (upd (upd (ca 4 0) 0 z) 1 z) 2 z) 3 z)) 4 0) (st2 := cSt X ad st0 ci (ua2 (ua2 ca 4 0 (upd (upd (upd (upd (ca 4 0) 0 z) 1 z) 2 z) 3 z)) 4 0 (upd (upd (upd (upd (upd (ca 4 0) 0 z) 1 z) 2 z) 3 z) 4 z)) cr) C hW hS mA4 rfl (vp_in_nI (n := 4) (N := 6) (by decide) (by decide)) (by rw [show (4 : Int32).toNatClampNeg = 4 from by decide, ua2_at]; exact cR_4 0 _) dJ7_fill_53178_13 (fun H locs hW hS => ?_)
  rw [ua2_same] at hW
  refine lv_iinc (v := 5) (lv' := [(2, .int 5), (3, .int 6), (0, .ref (ad (4, 0))), (1, .int z)]) hx hb dJ7_fill_53178_14 hl (k := 0) rfl (by decide) (by decide) rfl (fun ls hl => ?_)
  refine lv_goto (tgt := 5) hx hb dJ7_fill_53178_17 (by decide) ?_
  refine lv_iload_n hx hb dJ7_fill_53178_5 rfl (lv_at hl 0 rfl) ?_
  refine lv_iload_n hx hb dJ7_fill_53178_6 rfl (lv_at hl 1 rfl) ?_
  refine lv_icmp_ge (tgt := 20) hx hb dJ7_fill_53178_7 (by decide) (fun c9 => absurd c9 (by decide)) (fun _ => ?_)
  refine lv_aload_n hx hb dJ7_fill_53178_10 rfl (lv_at hl 2 rfl) ?_
  refine lv_iload_n hx hb dJ7_fill_53178_11 rfl (lv_at hl 0 rfl) ?_
  refine lv_iload_n hx hb dJ7_fill_53178_12 rfl (lv_at hl 3 rfl) ?_
  refine g_iast (r := (4, 0)) (n := 6) (f := (ua2 ca 4 0 (upd (upd (upd (upd (upd (ca 4 0) 0 z) 1 z) 2 z) 3 z) 4 z)) 4 0) (st2 := cSt X ad st0 ci (ua2 (ua2 ca 4 0 (upd (upd (upd (upd (upd (ca 4 0) 0 z) 1 z) 2 z) 3 z) 4 z)) 4 0 (upd (upd (upd (upd (upd (upd (ca 4 0) 0 z) 1 z) 2 z) 3 z) 4 z) 5 z)) cr) C hW hS mA4 rfl (vp_in_nI (n := 5) (N := 6) (by decide) (by decide)) (by rw [show (5 : Int32).toNatClampNeg = 5 from by decide, ua2_at]; exact cR_4 0 _) dJ7_fill_53178_13 (fun H locs hW hS => ?_)
  rw [ua2_same] at hW
  refine lv_iinc (v := 6) (lv' := [(2, .int 6), (3, .int 6), (0, .ref (ad (4, 0))), (1, .int z)]) hx hb dJ7_fill_53178_14 hl (k := 0) rfl (by decide) (by decide) rfl (fun ls hl => ?_)
  refine lv_goto (tgt := 5) hx hb dJ7_fill_53178_17 (by decide) ?_
  refine lv_iload_n hx hb dJ7_fill_53178_5 rfl (lv_at hl 0 rfl) ?_
  refine lv_iload_n hx hb dJ7_fill_53178_6 rfl (lv_at hl 1 rfl) ?_
  refine lv_icmp_ge (tgt := 20) hx hb dJ7_fill_53178_7 (by decide) (fun _ => ?_) (fun c9 => absurd (by decide) c9)
  exact g_vret2 C hQ hW hS ⟨_, _, _, rfl, rfl, rfl, rfl⟩ (Nat.zero_le _) (Nat.zero_le _) dJ7_fill_53178_20

