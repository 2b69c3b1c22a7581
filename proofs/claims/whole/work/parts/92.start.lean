/-! the start: what the Statement gives, as the worlds want it -/
theorem sb_sel {y z : MethodName} {s : State} {args : Array Value} (hy : y.cls ≠ "java/lang/invoke/MethodHandle" ∧ y.cls ≠ "java/lang/invoke/VarHandle") (hz : (Cond.selects "java/lang/StringBuilder" z z).before args s = true) (hcls : z.cls = y.cls) (hpriv : (Cond.privateMethod y).before args s = true) (hinst : (Cond.instanceMethod y).before args s = true) : (Cond.selects "java/lang/StringBuilder" y y).before args s = true := by
  obtain ⟨c, r, m, hc, hr, hm, hse, k, hk, hki⟩ := Cond.selects_spec hz
  obtain ⟨mk, methM, hnamed, hmethM, -, -⟩ := Cond.instanceMethod_spec hinst
  have hfound : s.methodFound? y.cls y.name y.desc = some mk := State.methodFound?_of_named hnamed hy
  have h1 := findClass_of_methodNamed hnamed
  have h2 := findClass_of_methodNamed hm
  rw [hcls] at h2
  have hcl : mk.cls = m.cls := Option.some.inj (h1.symm.trans h2)
  have hsel : selectMethod {} s.vm c mk = .method mk := selectMethod_private hmethM (Cond.privateMethod_at hpriv mk methM hnamed hmethM)
  simp only [Cond.before, Cond.holds, Cond.value, hc, hfound, hnamed, hsel, hcl, hk]
  simp; exact hki
theorem st_sb : ∀ y ∈ sbN, (y.cls ≠ "java/lang/invoke/MethodHandle" ∧ y.cls ≠ "java/lang/invoke/VarHandle") ∧ "java/lang/AbstractStringBuilder" = y.cls ∧ Cond.privateMethod y ∈ lw_tbl ∧ Cond.instanceMethod y ∈ lw_tbl := by decide +kernel
theorem st_TB {s : State} {args : Array Value} (hts : ∀ w ∈ lw_tbl, w.before args s = true) : ∀ w ∈ TB, w.before args s = true := by
  intro w hw
  rcases tB_tbl hw with h | h
  · obtain ⟨y, hy, rfl⟩ := List.mem_map.mp h
    obtain ⟨h1, h2, h3, h4⟩ := st_sb y hy
    exact sb_sel (z := ⟨"java/lang/AbstractStringBuilder", "isLatin1", "()Z"⟩) h1 (hts _ (by decide +kernel)) h2 (hts _ h3) (hts _ h4)
  · exact hts w h
theorem st_K {s : State} {args : Array Value} (hts : ∀ w ∈ TB, w.before args s = true) : ∃ (dC : Nat → ClassId) (dI : Nat → Nat → Nat), ∀ (k : Nat) (q : vw_C), vwCl[k]? = some q → u_Kn s q.1 q.2.1 q.2.2 (dC k) (dI k) := by
  have h : ∀ k : Nat, ∃ r : ClassId × (Nat → Nat), ∀ q : vw_C, vwCl[k]? = some q → u_Kn s q.1 q.2.1 q.2.2 r.1 r.2 := by
    intro k
    match k with
    | 0 =>
      obtain ⟨cC, iS, h⟩ := u_known (C := RJ0) (T := TJ0) (N := 4) (n := 4) hts tinJ0 (hts (.instantiable RJ0 4) (tB_of (by decide +kernel) (by decide +kernel)))
      exact ⟨(cC, iS), fun q hq => by cases hq; exact h⟩
    | 1 =>
      obtain ⟨cC, iS, h⟩ := u_known (C := RJ4) (T := TJ4) (N := 4) (n := 4) hts tinJ4 (hts (.instantiable RJ4 4) (tB_of (by decide +kernel) (by decide +kernel)))
      exact ⟨(cC, iS), fun q hq => by cases hq; exact h⟩
    | 2 =>
      obtain ⟨cC, iS, h⟩ := u_known (C := RJx4a65c) (T := TJx4a65c) (N := 3) (n := 3) hts tinJx4a65c (hts (.instantiable RJx4a65c 3) (tB_of (by decide +kernel) (by decide +kernel)))
      exact ⟨(cC, iS), fun q hq => by cases hq; exact h⟩
    | 3 =>
      obtain ⟨cC, iS, h⟩ := u_known (C := RX0) (T := TX0) (N := 6) (n := 6) hts tinX0 (hts (.instantiable RX0 6) (tB_of (by decide +kernel) (by decide +kernel)))
      exact ⟨(cC, iS), fun q hq => by cases hq; exact h⟩
    | 4 =>
      obtain ⟨cC, iS, h⟩ := u_known (C := RX1) (T := TX1) (N := 7) (n := 7) hts tinX1 (hts (.instantiable RX1 7) (tB_of (by decide +kernel) (by decide +kernel)))
      exact ⟨(cC, iS), fun q hq => by cases hq; exact h⟩
    | 5 =>
      obtain ⟨cC, iS, h⟩ := u_known (C := RX2) (T := TX2) (N := 4) (n := 4) hts tinX2 (hts (.instantiable RX2 4) (tB_of (by decide +kernel) (by decide +kernel)))
      exact ⟨(cC, iS), fun q hq => by cases hq; exact h⟩
    | 6 =>
      obtain ⟨cC, iS, h⟩ := u_known (C := RX3) (T := TX3) (N := 8) (n := 8) hts tinX3 (hts (.instantiable RX3 8) (tB_of (by decide +kernel) (by decide +kernel)))
      exact ⟨(cC, iS), fun q hq => by cases hq; exact h⟩
    | 7 =>
      obtain ⟨cC, iS, h⟩ := u_known (C := RX4) (T := TX4) (N := 5) (n := 5) hts tinX4 (hts (.instantiable RX4 5) (tB_of (by decide +kernel) (by decide +kernel)))
      exact ⟨(cC, iS), fun q hq => by cases hq; exact h⟩
    | 8 =>
      obtain ⟨cC, iS, h⟩ := u_known (C := RX5) (T := TX5) (N := 7) (n := 7) hts tinX5 (hts (.instantiable RX5 7) (tB_of (by decide +kernel) (by decide +kernel)))
      exact ⟨(cC, iS), fun q hq => by cases hq; exact h⟩
    | 9 =>
      obtain ⟨cC, iS, h⟩ := u_known (C := RX6) (T := TX6) (N := 3) (n := 3) hts tinX6 (hts (.instantiable RX6 3) (tB_of (by decide +kernel) (by decide +kernel)))
      exact ⟨(cC, iS), fun q hq => by cases hq; exact h⟩
    | 10 =>
      obtain ⟨cC, iS, h⟩ := u_known (C := RX7) (T := TX7) (N := 7) (n := 7) hts tinX7 (hts (.instantiable RX7 7) (tB_of (by decide +kernel) (by decide +kernel)))
      exact ⟨(cC, iS), fun q hq => by cases hq; exact h⟩
    | 11 =>
      obtain ⟨cC, iS, h⟩ := u_known (C := RX8) (T := TX8) (N := 47) (n := 47) hts tinX8 (hts (.instantiable RX8 47) (tB_of (by decide +kernel) (by decide +kernel)))
      exact ⟨(cC, iS), fun q hq => by cases hq; exact h⟩
    | k + 12 => exact ⟨(0, fun _ => 0), fun q hq => by simp [vwCl] at hq⟩
  obtain ⟨r, hr⟩ := Classical.axiomOfChoice h
  exact ⟨fun k => (r k).1, fun k => (r k).2, hr⟩
theorem st_arr {s : State} {args : Array Value} {ty : FieldType} (h : (Cond.arrayClass ty).before args s = true) : ∃ cA : ClassId, ArrOfT s cA ty ∧ s.vm.findClass ("[" ++ ty.toString) = some cA := by
  obtain ⟨c, k, comp, h1, h2, h3⟩ := Cond.arrayClass_spec h
  exact ⟨c, fun n z => ⟨fun k h => (by cases h), k, h2, comp, h3⟩, h1⟩
theorem st_arq {s : State} {args : Array Value} {C : String} (h : (Cond.arrayOver (.object C)).before args s = true) : ∃ cA : ClassId, ArrOfT s cA (.object C) ∧ va_RA s cA (.object C) := by
  obtain ⟨comp, c, k, h1, -, h2, h3, h4⟩ := Cond.arrayOver_spec h
  exact ⟨c, fun n z => ⟨fun k h => (by cases h), k, h2, comp, h3⟩, k, comp, h2, h3, h1, h4⟩
theorem st_over : ∀ q ∈ GTa, Cond.arrayOver (.object q) ∈ lw_tbl := by decide +kernel
theorem st_cy {s : State} {args : Array Value} (hts : ∀ w ∈ lw_tbl, w.before args s = true) : ∃ cy : Nat → ClassId, ∀ (k : Nat) (q : ClassId × FieldType), (wTy cy)[k]? = some q → ArrOfT s q.1 q.2 ∧ va_RA s q.1 q.2 := by
  obtain ⟨a0, b0, c0⟩ := st_arr (hts (.arrayClass .byte) (by decide +kernel))
  obtain ⟨a1, b1, c1⟩ := st_arr (hts (.arrayClass .char) (by decide +kernel))
  obtain ⟨a2, b2, c2⟩ := st_arr (hts (.arrayClass .int) (by decide +kernel))
  obtain ⟨a3, b3, c3⟩ := st_arr (hts (.arrayClass .boolean) (by decide +kernel))
  obtain ⟨a4, b4, c4⟩ := st_arr (hts (.arrayClass .long) (by decide +kernel))
  obtain ⟨a5, b5, c5⟩ := st_arq (hts _ (st_over "java/lang/Object" (by decide)))
  obtain ⟨a6, b6, c6⟩ := st_arq (hts _ (st_over "RateGate$Shipper" (by decide)))
  obtain ⟨a7, b7, c7⟩ := st_arq (hts _ (st_over "RateGate$Carrier" (by decide)))
  refine ⟨fun k => match k with | 0 => a0 | 1 => a1 | 2 => a2 | 3 => a3 | 4 => a4 | 5 => a5 | 6 => a6 | _ => a7, fun k q hq => ?_⟩
  match k, hq with
  | 0, hq => cases hq; exact ⟨b0, c0⟩
  | 1, hq => cases hq; exact ⟨b1, c1⟩
  | 2, hq => cases hq; exact ⟨b2, c2⟩
  | 3, hq => cases hq; exact ⟨b3, c3⟩
  | 4, hq => cases hq; exact ⟨b4, c4⟩
  | 5, hq => cases hq; exact ⟨b5, c5⟩
  | 6, hq => cases hq; exact ⟨b6, c6⟩
  | 7, hq => cases hq; exact ⟨b7, c7⟩
  | k + 8, hq => simp [wTy] at hq
abbrev stG : List Cond := flatC (Jvm.Cond.and given_1 narrow_1)
def tK (i : Nat) : Nat := [23, 85, 91, 102, 123, 93].getD i 0
abbrev tT (i : Nat) : Term := .string "RateGate$Request" (tK i)
abbrev tV (i : Nat) : Term := .field (tT i) "java/lang/String" "value" "[B"
theorem st_ex6 : ∀ i : Fin 6, Cond.exactly (tT i.1) "java/lang/String" ∈ stG := by decide +kernel
theorem st_co6 : ∀ i : Fin 6, Cond.eq (.field (tT i.1) "java/lang/String" "coder" "B") (.int 0) ∈ stG := by decide +kernel
theorem st_ar6 : ∀ i : Fin 6, Cond.arrayOf (tV i.1) .byte ∈ stG := by decide +kernel
theorem st_le6 : ∀ i : Fin 6, Cond.eq (.length (tV i.1)) (.int (Int32.ofNat (gsLen.getD i.1 0))) ∈ stG := by decide +kernel
theorem st_el6 : ∀ i : Fin 6, ∀ j : Fin 7, j.1 < gsLen.getD i.1 0 → Cond.eq (.elem (tV i.1) (.int (Int32.ofNat j.1))) (.int ((gsByt.getD i.1 []).getD j.1 0)) ∈ stG := by decide +kernel
theorem st_exG : ∀ q ∈ GTs, Cond.exactly (.string q.1 q.2.1) "java/lang/String" ∈ stG := by decide +kernel
theorem st_srG : ∀ q ∈ GTs, Cond.stringRef q.1 q.2.1 q.2.2.1 ∈ lw_tbl := by decide +kernel
theorem st_mG : ∀ q ∈ GTm, Cond.methodLinkNest q.1 q.2.1 q.2.2.1 q.2.2.2 ∈ lw_tbl := by decide +kernel
theorem st_cG : ∀ q ∈ GTc, Cond.castable q.1 q.2 ∈ lw_tbl := by decide +kernel
theorem st_nG : ∀ q ∈ GTn, Cond.not (.castable q.1 q.2) ∈ stG := by decide +kernel
theorem st_fG : ∀ q ∈ GTf, Cond.declares q.2.1 ∈ lw_tbl ∧ Cond.interfaceMethod q.2.1.cls q.2.1.cls q.2.1.name q.2.1.desc ∈ lw_tbl ∧ Cond.publicMethod q.2.2 ∈ lw_tbl ∧ Cond.unhidden q.1 q.2.1.name q.2.1.desc ∈ lw_tbl ∧ Cond.castable q.1 q.2.1.cls ∈ lw_tbl := by decide +kernel
theorem st_dG : ∀ q ∈ GTd, Cond.declares q ∈ lw_tbl := by decide +kernel
theorem st_find : ∀ q ∈ GTs, GTs.find? (fun z => z.2.2.2 == q.2.2.2) = some q ∧ ¬ (q.2.2.2 = 30 ∨ q.2.2.2 = 31 ∨ (10 ≤ q.2.2.2 ∧ q.2.2.2 < 16)) := by decide +kernel
theorem st_6 : ∀ i : Fin 6, ∃ q ∈ GTs, q.2.2.2 = i.1 ∧ q.1 = "RateGate$Request" ∧ q.2.1 = tK i.1 := by decide +kernel
/-- a text of Request -/
theorem st_tx {args : Array Value} {s : State} {A : Nat → Prop} (hs : ∀ w ∈ stG, w.before args s = true) (hA : ∀ a : Nat, a < s.heap.size → ¬ A a) (i : Nat) (hi : i < 6) : ∃ a t : Nat, (tT i).eval args s none [] s = some (.ref a) ∧ va_O "java/lang/String" a A s s.heap ∧ va_OF "java/lang/String" "coder" "B" (.int 0) a A s s.heap ∧ va_OF "java/lang/String" "value" "[B" (.ref t) a A s s.heap ∧ va_T .byte t (gsLen.getD i 0) (fun j => .int ((gsByt.getD i []).getD j 0)) A s s.heap := by
  have hl7 : gsLen.getD i 0 ≤ 7 := gs_le9 i
  obtain ⟨a, c, cA, kA, q1, q2, q3, q4, q5, q6, -⟩ := Cond.exactly_spec (args := args) (first := s) (o := none) (s := s) (idx := []) (t := tT i) (cls := "java/lang/String") (hs _ (st_ex6 ⟨i, hi⟩))
  obtain ⟨t, ht, hT⟩ := va_Tof (N := gsLen.getD i 0) (f := fun j => .int ((gsByt.getD i []).getD j 0)) (A := A) (by omega) (hs _ (st_ar6 ⟨i, hi⟩)) (va_eqt (hs _ (st_le6 ⟨i, hi⟩))) (fun j hj => va_eqt (hs _ (st_el6 ⟨i, hi⟩ ⟨j, by omega⟩ hj))) hA
  exact ⟨a, t, q1, ⟨cA, q3, q5, by rw [q6]; exact q2, hA a (Array.getElem?_eq_some_iff.mp q3).1⟩, vk_OFof q1 (va_eqt (hs _ (st_co6 ⟨i, hi⟩))) hA, vk_OFof q1 ht hA, hT⟩
theorem st_E : Cond.arrayOf (.static "java/util/ArrayList" "DEFAULTCAPACITY_EMPTY_ELEMENTDATA" "[Ljava/lang/Object;") (.object "java/lang/Object") ∈ stG ∧ Cond.eq (.length (.static "java/util/ArrayList" "DEFAULTCAPACITY_EMPTY_ELEMENTDATA" "[Ljava/lang/Object;")) (.int 0) ∈ stG ∧ Cond.laysStatic "java/util/ArrayList" "DEFAULTCAPACITY_EMPTY_ELEMENTDATA" "[Ljava/lang/Object;" ∈ lw_tbl ∧ Cond.initialized "java/util/ArrayList" ∈ lw_tbl := by decide +kernel
theorem st_C : Cond.eq (.static "java/lang/String" "COMPACT_STRINGS" "Z") (.int 1) ∈ stG ∧ Cond.laysStatic "java/lang/String" "COMPACT_STRINGS" "Z" ∈ lw_tbl ∧ Cond.initialized "java/lang/String" ∈ lw_tbl := by decide +kernel
theorem st_P : Cond.isRef (.static "jdk/internal/util/Preconditions" "SIOOBE_FORMATTER" "Ljava/util/function/BiFunction;") ∈ stG ∧ Cond.laysStatic "jdk/internal/util/Preconditions" "SIOOBE_FORMATTER" "Ljava/util/function/BiFunction;" ∈ lw_tbl ∧ Cond.initialized "jdk/internal/util/Preconditions" ∈ lw_tbl := by decide +kernel
theorem st_T : (Cond.isRef (.static Bundle.tN "UNASSIGNED_STACK" Bundle.steD) ∈ stG ∧ Cond.isRef (.static Bundle.tN "SUPPRESSED_SENTINEL" Bundle.listD) ∈ stG) ∧ (Cond.laysStatic Bundle.tN "UNASSIGNED_STACK" Bundle.steD ∈ lw_tbl ∧ Cond.laysStatic Bundle.tN "SUPPRESSED_SENTINEL" Bundle.listD ∈ lw_tbl) ∧ Cond.initialized Bundle.tN ∈ lw_tbl := by decide +kernel
theorem st_M : Cond.isRef (.mirror "[Ljava/lang/Object;") ∈ stG := by decide +kernel
theorem st_all {args : Array Value} {s : State} {A : Nat → Prop} (hts : ∀ w ∈ lw_tbl, w.before args s = true) (hs : ∀ w ∈ stG, w.before args s = true) (hA : ∀ a : Nat, a < s.heap.size → ¬ A a) : ∃ X : GX, SF X A s s.heap ∧ GT X s ∧ va_K X.1 vwCl (wTy X.2.1) s := by
  obtain ⟨dC, dI, hK⟩ := st_K (st_TB hts)
  obtain ⟨cy, hcy⟩ := st_cy hts
  obtain ⟨e1, e2, e3, e4⟩ := st_E
  obtain ⟨a30, h30, hT30⟩ := va_Tof (tm := .static "java/util/ArrayList" "DEFAULTCAPACITY_EMPTY_ELEMENTDATA" "[Ljava/lang/Object;") (N := 0) (f := fun _ => .null) (A := A) (by decide) (hs _ e1) (va_eqt (hs _ e2)) (fun j hj => absurd hj (Nat.not_lt_zero _)) hA
  obtain ⟨a31, h31⟩ := va_Mi.of (hs _ st_M)
  have htx : ∀ i : Nat, ∃ r : Nat × Nat, i < 6 → (tT i).eval args s none [] s = some (.ref r.1) ∧ va_O "java/lang/String" r.1 A s s.heap ∧ va_OF "java/lang/String" "coder" "B" (.int 0) r.1 A s s.heap ∧ va_OF "java/lang/String" "value" "[B" (.ref r.2) r.1 A s s.heap ∧ va_T .byte r.2 (gsLen.getD i 0) (fun j => .int ((gsByt.getD i []).getD j 0)) A s s.heap := fun i => by
    by_cases hi : i < 6
    · obtain ⟨a, t, h⟩ := st_tx hs hA i hi
      exact ⟨(a, t), fun _ => h⟩
    · exact ⟨(0, 0), fun h => absurd h hi⟩
  obtain ⟨tx, htx⟩ := Classical.axiomOfChoice htx
  have hgs : ∀ q : String × Nat × String × Nat, ∃ a : Nat, q ∈ GTs → (Term.string q.1 q.2.1).eval args s none [] s = some (.ref a) := fun q => by
    by_cases hq : q ∈ GTs
    · obtain ⟨a, c, cA, kA, q1, -⟩ := Cond.exactly_spec (args := args) (first := s) (o := none) (s := s) (idx := []) (t := .string q.1 q.2.1) (cls := "java/lang/String") (hs _ (st_exG q hq))
      exact ⟨a, fun _ => q1⟩
    · exact ⟨0, fun h => absurd h hq⟩
  obtain ⟨ga, hga⟩ := Classical.axiomOfChoice hgs
  obtain ⟨sa, hsa30, hsa31, hsav, hsaq⟩ : ∃ sa : Nat → Nat, sa 30 = a30 ∧ sa 31 = a31 ∧ (∀ i, i < 6 → sa (10 + i) = (tx i).2) ∧ ∀ q ∈ GTs, sa q.2.2.2 = ga q := by
    refine ⟨fun k => if k = 30 then a30 else if k = 31 then a31 else if 10 ≤ k ∧ k < 16 then (tx (k - 10)).2 else match GTs.find? (fun z => z.2.2.2 == k) with | some q => ga q | none => 0, if_pos rfl, rfl, fun i hi => ?_, fun q hq => ?_⟩
    · show (if 10 + i = 30 then a30 else if 10 + i = 31 then a31 else if 10 ≤ 10 + i ∧ 10 + i < 16 then (tx (10 + i - 10)).2 else _) = _
      rw [if_neg (by omega), if_neg (by omega), if_pos (by omega), Nat.add_sub_cancel_left]
    · obtain ⟨f1, f2⟩ := st_find q hq
      show (if q.2.2.2 = 30 then a30 else if q.2.2.2 = 31 then a31 else if 10 ≤ q.2.2.2 ∧ q.2.2.2 < 16 then (tx (q.2.2.2 - 10)).2 else match GTs.find? (fun z => z.2.2.2 == q.2.2.2) with | some q => ga q | none => 0) = ga q
      rw [if_neg (fun z => f2 (Or.inl z)), if_neg (fun z => f2 (Or.inr (Or.inl z))), if_neg (fun z => f2 (Or.inr (Or.inr z))), f1]
  have hsat : ∀ i, i < 6 → sa i = (tx i).1 := fun i hi => by
    obtain ⟨q, hq, z1, z2, z3⟩ := st_6 ⟨i, hi⟩
    have z4 : sa i = ga q := by rw [← hsaq q hq, z1]
    have z5 := hga q hq
    rw [z2, z3] at z5
    have z6 := (htx i hi).1
    rw [z4]
    have z7 := z5.symm.trans z6
    injection z7 with z8
    injection z8
  refine ⟨((dC, dI), cy, sa), ⟨?_, ?_, ⟨?_, ?_⟩, ⟨?_, ?_⟩, fun i hi => ?_⟩, ⟨fun q hq => ?_, fun q hq => ?_, fun q hq => ?_, fun q hq => ?_, fun q hq => ?_, fun q hq => ?_, ?_, fun q hq => ?_⟩, hK, hcy⟩
  · exact va_Zof (hts _ st_C.2.1) (hts _ st_C.2.2) (va_eqi (hs _ st_C.1)) hA
  · exact va_Zqof (hts _ st_P.2.1) (hts _ st_P.2.2) (hs _ st_P.1) hA
  · show va_Z _ _ _ (.ref (sa 30)) A s s.heap
    rw [hsa30]
    exact va_Zof (hts _ e3) (hts _ e4) h30 hA
  · show va_T _ (sa 30) 0 _ A s s.heap
    rw [hsa30]
    exact hT30
  · exact vx_Zqof (hts _ st_T.2.1.1) (hts _ st_T.2.2) (hs _ st_T.1.1) hA
  · exact vx_Zqof (hts _ st_T.2.1.2) (hts _ st_T.2.2) (hs _ st_T.1.2) hA
  · show va_O _ (sa i) A s s.heap ∧ va_OF _ _ _ _ (sa i) A s s.heap ∧ va_OF _ _ _ (.ref (sa (10 + i))) (sa i) A s s.heap ∧ va_T _ (sa (10 + i)) _ _ A s s.heap
    rw [hsat i hi, hsav i hi]
    exact (htx i hi).2
  · show vk_R q.1 q.2.1 q.2.2.1 (sa q.2.2.2) s
    rw [hsaq q hq]
    exact vk_R.of (hts _ (st_srG q hq)) (hga q hq)
  · exact va_Nw.of rfl (hts _ (st_mG q hq))
  · exact va_Nw.of rfl (hts _ (st_cG q hq))
  · exact va_Nc.of (hs _ (st_nG q hq))
  · obtain ⟨f1, f2, f3, f4, f5⟩ := st_fG q hq
    exact va_Fw.of (hts _ f1) (hts _ f2) (hts _ f3) (hts _ f4) (hts _ f5)
  · exact va_AO.of (hts _ (st_over q hq))
  · show va_Mi _ (sa 31) s
    rw [hsa31]
    exact h31
  · exact va_Nw.of rfl (hts _ (st_dG q hq))
