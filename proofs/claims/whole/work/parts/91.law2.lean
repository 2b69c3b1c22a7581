theorem and31 (x : Int32) : ∃ j : Nat, j < 32 ∧ x &&& 31 = nI j := by
  refine ⟨x.toBitVec.toNat % 32, Nat.mod_lt _ (by decide), ?_⟩
  apply Int32.toBitVec_inj.mp
  apply BitVec.eq_of_toNat_eq
  show (x.toBitVec &&& 31#32).toNat = (x.toBitVec.toNat % 32) % 2 ^ 32
  rw [BitVec.toNat_and, show (31#32).toNat = 2 ^ 5 - 1 from rfl, Nat.and_two_pow_sub_one_eq_mod]
  omega
theorem sub5 {i N : Nat} (hi : i ≤ 5000) (hN : N ≤ 5000) : nI N - 5 < nI i ↔ N < i + 5 := by
  have h : (nI N - nI 5).toInt = (N : Int) - (5 : Nat) := pk_sub_toInt (by omega) (by decide)
  have h2 : (nI N - 5).toInt = (N : Int) - 5 := h
  rw [Int32.lt_iff_toInt_lt, h2, nI_toInt (by omega)]
  omega
section LAW2
variable {p : Program} {l : Launch} {e : Env} {s : State} {m : MethodId} {args : Array Value} {below : List Frame} {meth : Method} {c : Code} {H : Heap} {locs : List Loc} {cells slots : Nat} {Q : State → Prop}
variable {mname : String} {ls : Array Slot} {X : GX} {A : Nat → Prop} {L : List ro} {ad : ro → Nat} {ci : Nat → Nat → Int32} {ca : Nat → Nat → Nat → Int32} {cr : Nat → Nat → Nat} {n w tot nt nc : Nat} {kp nx : Nat → Nat} {fi : Nat → Int32} {fa : Nat → Nat → Int32} {f : Nat → Int64} {b Ls i : Nat} {xs : Nat → Int32}
set_option maxHeartbeats 4000000 in
theorem lb_disp (C : gCx p s m args meth c code 7 ret "RateGateLaw" mname X A) (hl0 : l.stackTraces = false) (hX : va_X b Ls xs s s.heap) (hbl : b < s.heap.size) (hbA : ¬ A b) (hi : i + 5 ≤ Ls) (hLs : Ls ≤ 2560) (hto : tot < 512) (hcells : cells + 10 ≤ 601024) (hslots : slots + 300 ≤ 7293034) (S : SV L ci ca cr n w tot nt kp nx nc fi fa) (hm : mL L) (hO : ((110, 0) : ro) ∈ L) (hW : gW X A L ad (wld X ad ci ca cr fi fa f) s H) (hS : va_S A s.heap H locs) (hl : lv_has ls 7 [(0, .ref b), (1, .ref (ad (1, 0))), (2, .ref (ad (100, 0))), (3, .ref (ad (110, 0))), (4, .int (nI i))]) (K : lwK p l e s m args below meth c Q X A b i tot cells slots) : W p l e room_1 s m args below meth c H locs cells slots Q (F0 m 32 ls []) := by
  have hx := C.1.1
  have hb := C.1.2.1
  refine lv_aload_n hx hb dL_law_32 rfl (lv_at hl 0 rfl) ?_
  refine lv_iload hx hb dL_law_33 (lv_at hl 4 rfl) ?_
  refine va_sld hx hb hX hbl hbA hS (vp_in_nI (n := i) (N := Ls) (by omega) (by omega)) dL_law_35 ?_
  refine lv_bipush (v := 31) hx hb dL_law_36 (by decide) ?_
  refine lv_iand hx hb dL_law_38 ?_
  obtain ⟨j, hj, ej⟩ := and31 (xs (nI i).toNatClampNeg)
  refine lv_topE (y := nI j) ej ?_
  clear ej
  by_cases h25 : 25 ≤ j
  · refine lv_tableOut (tgt := 1482) hx hb dL_law_39 (Or.inr (by rw [nI_toInt (by omega)]; omega)) (by decide) ?_
    refine W.widen (k := cells + 10) (n := slots + 300) (Nat.le_add_right _ _) (Nat.le_add_right _ _) ?_
    exact K L ad ci ca cr n w tot nt kp nx nc fi fa f H locs ls (Nat.le_succ _) S hm hO hW hS hl
  · rcases (show j = 0 ∨ j = 1 ∨ j = 2 ∨ j = 3 ∨ j = 4 ∨ j = 5 ∨ j = 6 ∨ j = 7 ∨ j = 8 ∨ j = 9 ∨ j = 10 ∨ j = 11 ∨ j = 12 ∨ j = 13 ∨ j = 14 ∨ j = 15 ∨ j = 16 ∨ j = 17 ∨ j = 18 ∨ j = 19 ∨ j = 20 ∨ j = 21 ∨ j = 22 ∨ j = 23 ∨ j = 24 by omega) with rfl | rfl | rfl | rfl | rfl | rfl | rfl | rfl | rfl | rfl | rfl | rfl | rfl | rfl | rfl | rfl | rfl | rfl | rfl | rfl | rfl | rfl | rfl | rfl | rfl
    · refine lv_tableIn (x := nI 0) (off := 113) (tgt := 152) hx hb dL_law_39 (by decide) (by decide) (by decide) (by decide) ?_
      exact lb_type C hl0 hX hbl hbA hi hLs hto hcells hslots S hm hO hW hS hl K
    · refine lv_tableIn (x := nI 1) (off := 171) (tgt := 210) hx hb dL_law_39 (by decide) (by decide) (by decide) (by decide) ?_
      exact lb_wipe C hl0 hX hbl hbA hi hLs hto hcells hslots S hm hO hW hS hl K
    · refine lv_tableIn (x := nI 2) (off := 184) (tgt := 223) hx hb dL_law_39 (by decide) (by decide) (by decide) (by decide) ?_
      exact lb_isRight C hl0 hX hbl hbA hi hLs hto hcells hslots S hm hO hW hS hl K
    · refine lv_tableIn (x := nI 3) (off := 197) (tgt := 236) hx hb dL_law_39 (by decide) (by decide) (by decide) (by decide) ?_
      exact lb_faultLength C hl0 hX hbl hbA hi hLs hto hcells hslots S hm hO hW hS hl K
    · refine lv_tableIn (x := nI 4) (off := 210) (tgt := 249) hx hb dL_law_39 (by decide) (by decide) (by decide) (by decide) ?_
      exact lb_fault C hl0 hX hbl hbA hi hLs hto hcells hslots S hm hO hW hS hl K
    · refine lv_tableIn (x := nI 5) (off := 266) (tgt := 305) hx hb dL_law_39 (by decide) (by decide) (by decide) (by decide) ?_
      exact lb_pass C hl0 hX hbl hbA hi hLs hto hcells hslots S hm hO hW hS hl K
    · refine lv_tableIn (x := nI 6) (off := 322) (tgt := 361) hx hb dL_law_39 (by decide) (by decide) (by decide) (by decide) ?_
      exact lb_quota C hl0 hX hbl hbA hi hLs hto hcells hslots S hm hO hW hS hl K
    · refine lv_tableIn (x := nI 7) (off := 402) (tgt := 441) hx hb dL_law_39 (by decide) (by decide) (by decide) (by decide) ?_
      exact lb_carrier C hl0 hX hbl hbA hi hLs hto hcells hslots S hm hO hW hS hl K
    · refine lv_tableIn (x := nI 8) (off := 498) (tgt := 537) hx hb dL_law_39 (by decide) (by decide) (by decide) (by decide) ?_
      exact lb_tariff C hl0 hX hbl hbA hi hLs hto hcells hslots S hm hO hW hS hl K
    · refine lv_tableIn (x := nI 9) (off := 590) (tgt := 629) hx hb dL_law_39 (by decide) (by decide) (by decide) (by decide) ?_
      exact lb_call C hl0 hX hbl hbA hi hLs hto hcells hslots S hm hO hW hS hl K
    · refine lv_tableIn (x := nI 10) (off := 634) (tgt := 673) hx hb dL_law_39 (by decide) (by decide) (by decide) (by decide) ?_
      exact lb_price C hl0 hX hbl hbA hi hLs hto hcells hslots S hm hO hW hS hl K
    · refine lv_tableIn (x := nI 11) (off := 690) (tgt := 729) hx hb dL_law_39 (by decide) (by decide) (by decide) (by decide) ?_
      exact lb_fixed C hl0 hX hbl hbA hi hLs hto hcells hslots S hm hO hW hS hl K
    · refine lv_tableIn (x := nI 12) (off := 746) (tgt := 785) hx hb dL_law_39 (by decide) (by decide) (by decide) (by decide) ?_
      exact lb_left C hl0 hX hbl hbA hi hLs hto hcells hslots S hm hO hW hS hl K
    · refine lv_tableIn (x := nI 13) (off := 802) (tgt := 841) hx hb dL_law_39 (by decide) (by decide) (by decide) (by decide) ?_
      exact lb_leftByLog C hl0 hX hbl hbA hi hLs hto hcells hslots S hm hO hW hS hl K
    · refine lv_tableIn (x := nI 14) (off := 858) (tgt := 897) hx hb dL_law_39 (by decide) (by decide) (by decide) (by decide) ?_
      exact lb_circuit C hl0 hX hbl hbA hi hLs hto hcells hslots S hm hO hW hS hl K
    · refine lv_tableIn (x := nI 15) (off := 914) (tgt := 953) hx hb dL_law_39 (by decide) (by decide) (by decide) (by decide) ?_
      exact lb_tries C hl0 hX hbl hbA hi hLs hto hcells hslots S hm hO hW hS hl K
    · refine lv_tableIn (x := nI 16) (off := 970) (tgt := 1009) hx hb dL_law_39 (by decide) (by decide) (by decide) (by decide) ?_
      exact lb_calls C hl0 hX hbl hbA hi hLs hto hcells hslots S hm hO hW hS hl K
    · refine lv_tableIn (x := nI 17) (off := 983) (tgt := 1022) hx hb dL_law_39 (by decide) (by decide) (by decide) (by decide) ?_
      exact lb_book C hl0 hX hbl hbA hi hLs hto hcells hslots S hm hO hW hS hl K
    · refine lv_tableIn (x := nI 18) (off := 1039) (tgt := 1078) hx hb dL_law_39 (by decide) (by decide) (by decide) (by decide) ?_
      exact lb_weigh C hl0 hX hbl hbA hi hLs hto hcells hslots S hm hO hW hS hl K
    · refine lv_tableIn (x := nI 19) (off := 1107) (tgt := 1146) hx hb dL_law_39 (by decide) (by decide) (by decide) (by decide) ?_
      exact lb_cancel C hl0 hX hbl hbA hi hLs hto hcells hslots S hm hO hW hS hl K
    · refine lv_tableIn (x := nI 20) (off := 1163) (tgt := 1202) hx hb dL_law_39 (by decide) (by decide) (by decide) (by decide) ?_
      exact lb_state C hl0 hX hbl hbA hi hLs hto hcells hslots S hm hO hW hS hl K
    · refine lv_tableIn (x := nI 21) (off := 1219) (tgt := 1258) hx hb dL_law_39 (by decide) (by decide) (by decide) (by decide) ?_
      exact lb_cost C hl0 hX hbl hbA hi hLs hto hcells hslots S hm hO hW hS hl K
    · refine lv_tableIn (x := nI 22) (off := 1275) (tgt := 1314) hx hb dL_law_39 (by decide) (by decide) (by decide) (by decide) ?_
      exact lb_bill C hl0 hX hbl hbA hi hLs hto hcells hslots S hm hO hW hS hl K
    · refine lv_tableIn (x := nI 23) (off := 1331) (tgt := 1370) hx hb dL_law_39 (by decide) (by decide) (by decide) (by decide) ?_
      exact lb_close C hl0 hX hbl hbA hi hLs hto hcells hslots S hm hO hW hS hl K
    · refine lv_tableIn (x := nI 24) (off := 1387) (tgt := 1426) hx hb dL_law_39 (by decide) (by decide) (by decide) (by decide) ?_
      exact lb_billed C hl0 hX hbl hbA hi hLs hto hcells hslots S hm hO hW hS hl K
set_option maxHeartbeats 4000000 in
theorem law_loop (C : gCx p s m args meth c code 7 ret "RateGateLaw" mname X A) (hl0 : l.stackTraces = false) (hX : va_X b Ls xs s s.heap) (hbl : b < s.heap.size) (hbA : ¬ A b) (hLs : Ls ≤ 2560)
    (KE : ∀ (H : Heap) (locs : List Loc) (cells slots : Nat) (ls : Array Slot), va_S A s.heap H locs → cells ≤ 6000 → slots ≤ 200000 → W p l e room_1 s m args below meth c H locs cells slots Q (F0 m 1488 ls [])) :
    ∀ (F it : Nat) (L : List ro) (ad : ro → Nat) (ci : Nat → Nat → Int32) (ca : Nat → Nat → Nat → Int32) (cr : Nat → Nat → Nat) (n w tot nt : Nat) (kp nx : Nat → Nat) (nc : Nat) (fi : Nat → Int32) (fa : Nat → Nat → Int32) (f : Nat → Int64) (H : Heap) (locs : List Loc) (cells slots : Nat) (ls : Array Slot), Ls < 5 * it + F → 5 * it ≤ Ls → tot ≤ it → cells ≤ 80 + 10 * it → slots ≤ 15000 + 300 * it → SV L ci ca cr n w tot nt kp nx nc fi fa → mL L → ((110, 0) : ro) ∈ L → gW X A L ad (wld X ad ci ca cr fi fa f) s H → va_S A s.heap H locs →
      lv_has ls 7 [(0, .ref b), (1, .ref (ad (1, 0))), (2, .ref (ad (100, 0))), (3, .ref (ad (110, 0))), (4, .int (nI (5 * it)))] → W p l e room_1 s m args below meth c H locs cells slots Q (F0 m 23 ls []) := by
  have hx := C.1.1
  have hb := C.1.2.1
  intro F
  induction F with
  | zero =>
    intro it L ad ci ca cr n w tot nt kp nx nc fi fa f H locs cells slots ls h1 h2
    omega
  | succ F ih =>
    intro it L ad ci ca cr n w tot nt kp nx nc fi fa f H locs cells slots ls h1 h2 hti hce hsl S hm hO hW hS hl
    refine lv_iload hx hb dL_law_23 (lv_at hl 4 rfl) ?_
    refine lv_aload_n hx hb dL_law_25 rfl (lv_at hl 0 rfl) ?_
    refine va_slen hx hb hX hbl hbA hS dL_law_26 ?_
    refine lv_iconst (v := 5) hx hb dL_law_27 (by decide) ?_
    refine lv_isub hx hb dL_law_28 ?_
    refine lv_icmp_gt (tgt := 1488) hx hb dL_law_29 (by decide) (fun _ => ?_) (fun c9 => ?_)
    · exact KE H locs cells slots ls hS (by omega) (by omega)
    · have hi : 5 * it + 5 ≤ Ls := Nat.le_of_not_lt (fun q => c9 ((sub5 (by omega) (by omega)).mpr q))
      refine lb_disp (i := 5 * it) C hl0 hX hbl hbA hi hLs (by omega) (by omega) (by omega) S hm hO hW hS hl ?_
      intro L' ad' ci2 ca2 cr2 n2 w2 tot2 nt2 kp2 nx2 nc2 fi2 fa2 f2 H locs ls ht2 S2 hm2 hO2 hW2 hS2 hl2
      refine lv_iinc (v := nI (5 * (it + 1))) (lv' := [(4, .int (nI (5 * (it + 1)))), (0, .ref b), (1, .ref (ad' (1, 0))), (2, .ref (ad' (100, 0))), (3, .ref (ad' (110, 0)))]) hx hb dL_law_1482 hl2 (k := 4) rfl (nI_add (5 * it) 5) (by decide) rfl (fun ls hl => ?_)
      refine lv_goto (tgt := 23) hx hb dL_law_1485 (by decide) ?_
      exact ih (it + 1) L' ad' ci2 ca2 cr2 n2 w2 tot2 nt2 kp2 nx2 nc2 fi2 fa2 f2 H locs (cells + 10) (slots + 300) ls (by omega) (by omega) (by omega) (by omega) (by omega) S2 hm2 hO2 hW2 hS2 (lv_sub hl [1, 2, 3, 4, 0] rfl)
end LAW2
