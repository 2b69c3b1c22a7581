/-! roles: a cell of the world is told by a kind and a number; its address is a variable -/
abbrev ro : Type := Nat × Nat
abbrev GX : Type := va_G × (Nat → ClassId) × (Nat → Nat)
abbrev WS : Type := List ro × (ro → Nat) × (ro → va_E)
abbrev tW (y : MethodName) (b : ByteArray) (n : Nat) (ret : Option FieldType) : List Cond := Cond.code y b n ret :: TB
theorem tW_good {z : MethodName} {b : ByteArray} {n : Nat} {ret : Option FieldType} (h : Cond.code z b n ret ∈ TB) : GoodIn TB (tW z b n ret) := fun w hw => by
  rcases List.mem_cons.mp hw with e | e
  · subst e; exact ⟨h, good_of_word (tB_ok h)⟩
  · exact ⟨e, good_of_word (tB_ok e)⟩
def rwW (L : List ro) (ad : ro → Nat) (st : ro → va_E) : va_W := L.map (fun r => (ad r, st r))
def sup (st : ro → va_E) (r : ro) (e : va_E) : ro → va_E := fun x => if x = r then e else st x
def aup (ad : ro → Nat) (r : ro) (a : Nat) : ro → Nat := fun x => if x = r then a else ad x
theorem rw_get {L : List ro} {ad : ro → Nat} {st : ro → va_E} {r : ro} (h : r ∈ L) : ∃ k : Nat, L[k]? = some r ∧ (rwW L ad st)[k]? = some (ad r, st r) := by
  obtain ⟨k, hk⟩ := List.getElem?_of_mem h
  exact ⟨k, hk, by simp [rwW, hk]⟩
theorem rw_set {A : Nat → Prop} {L : List ro} {ad : ro → Nat} {st : ro → va_E} {r : ro} {e : va_E} {k : Nat} (hD : va_D A (rwW L ad st)) (hk : L[k]? = some r) : (rwW L ad st).set k (ad r, e) = rwW L ad (sup st r e) := by
  apply List.ext_getElem?
  intro j
  rw [List.getElem?_set]
  by_cases hj : k = j
  · subst hj
    have hlt := (List.getElem?_eq_some_iff.mp hk).1
    have hLk : L[k] = r := (List.getElem?_eq_some_iff.mp hk).2
    simp [rwW, hk, sup, hlt, hLk]
  · rw [if_neg hj]
    simp only [rwW, List.getElem?_map]
    cases hx : L[j]? with
    | none => rfl
    | some r2 =>
      have hne : r2 ≠ r := by
        intro he
        subst he
        exact hj (hD.1 k j (ad r2, st r2) (ad r2, st r2) (by simp [rwW, hk]) (by simp [rwW, hx]) rfl)
      simp [sup, hne]
theorem rw_push {L : List ro} {ad : ro → Nat} {st : ro → va_E} {r : ro} {a : Nat} {e : va_E} (h : r ∉ L) : rwW L ad st ++ [(a, e)] = rwW (L ++ [r]) (aup ad r a) (sup st r e) := by
  unfold rwW
  rw [List.map_append]
  congr 1
  · apply List.map_congr_left
    intro x hx
    have hne : x ≠ r := fun q => h (q ▸ hx)
    simp [aup, sup, hne]
  · simp [aup, sup]
def wTy (cy : Nat → ClassId) : List (ClassId × FieldType) := [(cy 0, .byte), (cy 1, .char), (cy 2, .int), (cy 3, .boolean), (cy 4, .long), (cy 5, .object "java/lang/Object"), (cy 6, .object "RateGate$Shipper"), (cy 7, .object "RateGate$Carrier")]
def gW (X : GX) (A : Nat → Prop) (L : List ro) (ad : ro → Nat) (st : ro → va_E) (s : State) (H : Heap) : Prop := va_P X.1 vwCl (rwW L ad st) H ∧ va_K X.1 vwCl (wTy X.2.1) s ∧ va_D A (rwW L ad st)
def GTs : List (String × Nat × String × Nat) := [("RateGate$Request", 23, "", 0), ("RateGate$Request", 93, "SCFTWX", 5), ("RateGate$Request", 85, "UNKNOWN", 1), ("RateGate$Request", 91, "DOUBLED", 2), ("RateGate$Request", 102, "BAD", 3), ("RateGate$Request", 123, "MISSING", 4), ("java/util/Arrays", 337, " > ", 100), ("RateGate", 57, "no character of a request", 101), ("RateGate", 68, "the request is full", 102), ("RateGate", 93, "no such place", 103), ("RateGate", 104, "minutes out of range", 104), ("RateGate", 106, "behind the last minute", 105), ("RateGate", 261, "no such shipper", 106), ("RateGate", 112, "calls or minutes out of range", 107), ("RateGate", 263, "no such carrier", 108), ("RateGate", 124, "flaw out of range", 109), ("RateGate", 133, "base, zone or weight out of range", 110), ("RateGate", 147, "the request is not right", 111), ("RateGate", 154, "no more quotes", 112), ("RateGate", 265, "no such quote", 113), ("RateGate", 213, "the rate is fixed no more, and the price is another one", 114), ("RateGate", 215, "no more parcels", 115), ("RateGate", 271, "no such parcel", 116), ("RateGate", 229, "grams out of range", 117), ("RateGate", 234, "the parcel is not booked", 118), ("RateGate", 246, "the parcel is not booked, or it is too late", 119)]
def GTm : List (String × Nat × MethodName × String) := [("RateGate", 9, ⟨"RateGate$Request", "<init>", "()V"⟩, "RateGate"), ("RateGate", 18, ⟨"RateGate$CallLog", "<init>", "()V"⟩, "RateGate"), ("RateGate", 49, ⟨"RateGate$Shipper", "<init>", "()V"⟩, "RateGate"), ("RateGate", 50, ⟨"RateGate$Carrier", "<init>", "()V"⟩, "RateGate"), ("RateGate$Request", 116, ⟨"RateGate", "isWithin", "(III)Z"⟩, "RateGate")]
def GTc : List (String × String) := [("[B", "java/lang/Cloneable"), ("java/lang/IllegalArgumentException", "java/lang/IllegalArgumentException"), ("java/lang/IllegalStateException", "java/lang/IllegalStateException"), ("java/lang/IndexOutOfBoundsException", "java/lang/IndexOutOfBoundsException"), ("java/util/ArrayList", "java/util/List"), ("RateGate$Quote", "java/lang/Object"), ("RateGate$Parcel", "java/lang/Object")]
def GTn : List (String × String) := [("java/lang/IllegalArgumentException", "java/lang/IllegalStateException"), ("java/lang/IllegalArgumentException", "java/lang/IndexOutOfBoundsException"), ("java/lang/IllegalStateException", "java/lang/IllegalArgumentException"), ("java/lang/IllegalStateException", "java/lang/IndexOutOfBoundsException"), ("java/lang/IndexOutOfBoundsException", "java/lang/IllegalArgumentException"), ("java/lang/IndexOutOfBoundsException", "java/lang/IllegalStateException")]
def GTf : List (String × MethodName × MethodName) := [(RJx4a65c, ⟨"java/util/List", "size", "()I"⟩, yJx4a65c_size_8abf5), (RJx4a65c, ⟨"java/util/List", "get", "(I)Ljava/lang/Object;"⟩, yJx4a65c_get_915e3), (RJx4a65c, ⟨"java/util/List", "add", "(Ljava/lang/Object;)Z"⟩, yJx4a65c_add_9ea2d)]
def GTa : List String := ["java/lang/Object", "RateGate$Shipper", "RateGate$Carrier"]
def GTd : List MethodName := [⟨"java/lang/RuntimeException", "<init>", "(Ljava/lang/String;)V"⟩, ⟨"java/lang/Exception", "<init>", "(Ljava/lang/String;)V"⟩, ⟨"java/lang/Throwable", "<init>", "(Ljava/lang/String;)V"⟩, ⟨"java/lang/Object", "getClass", "()Ljava/lang/Class;"⟩]
theorem va_Nw.movedD {x : MethodName} {u U : State} (hvm : u.vm.Alike U.vm) (h : va_Nw (.declares x) u) : va_Nw (.declares x) U := va_tabs rfl (rfl : (u.setVm U.vm).vm = U.vm) (by rw [Cond.declares_setVm hvm]; exact h)
/-- what the tables say beside TB -/
def GT (X : GX) (U : State) : Prop := (∀ q ∈ GTs, vk_R q.1 q.2.1 q.2.2.1 (X.2.2 q.2.2.2) U) ∧ (∀ q ∈ GTm, va_Nw (.methodLinkNest q.1 q.2.1 q.2.2.1 q.2.2.2) U) ∧ (∀ q ∈ GTc, va_Nw (.castable q.1 q.2) U) ∧ (∀ q ∈ GTn, va_Nc q.1 q.2 U) ∧ (∀ q ∈ GTf, va_Fw q.1 q.2.1 q.2.2 U) ∧ (∀ q ∈ GTa, va_AO q U) ∧ va_Mi "[Ljava/lang/Object;" (X.2.2 31) U ∧ ∀ q ∈ GTd, va_Nw (.declares q) U
def gsLen : List Nat := [0, 7, 7, 3, 7, 6]
def gsByt : List (List Int32) := [[], [85, 78, 75, 78, 79, 87, 78], [68, 79, 85, 66, 76, 69, 68], [66, 65, 68], [77, 73, 83, 83, 73, 78, 71], [83, 67, 70, 84, 87, 88]]
/-- what was there before, and nobody writes: statics, and the texts of Request -/
def SF (X : GX) (A : Nat → Prop) (U : State) (H : Heap) : Prop :=
  va_Z "java/lang/String" "COMPACT_STRINGS" "Z" (.int 1) A U H ∧
  va_Zq "jdk/internal/util/Preconditions" "SIOOBE_FORMATTER" "Ljava/util/function/BiFunction;" A U H ∧
  (va_Z "java/util/ArrayList" "DEFAULTCAPACITY_EMPTY_ELEMENTDATA" "[Ljava/lang/Object;" (.ref (X.2.2 30)) A U H ∧ va_T (.object "java/lang/Object") (X.2.2 30) 0 (fun _ => .null) A U H) ∧
  (vx_Zq Bundle.tN "UNASSIGNED_STACK" Bundle.steD A U H ∧ vx_Zq Bundle.tN "SUPPRESSED_SENTINEL" Bundle.listD A U H) ∧
  ∀ i : Nat, i < 6 → va_O "java/lang/String" (X.2.2 i) A U H ∧ va_OF "java/lang/String" "coder" "B" (.int 0) (X.2.2 i) A U H ∧ va_OF "java/lang/String" "value" "[B" (.ref (X.2.2 (10 + i))) (X.2.2 i) A U H ∧ va_T .byte (X.2.2 (10 + i)) (gsLen.getD i 0) (fun j => .int ((gsByt.getD i []).getD j 0)) A U H
theorem SF.moved {X : GX} {A : Nat → Prop} {u U : State} {H : Heap} (hvm : u.vm.Alike U.vm) (h : SF X A u H) : SF X A U H :=
  ⟨va_Z.moved hvm h.1, va_Zq.moved hvm h.2.1, ⟨va_Z.moved hvm h.2.2.1.1, va_T.moved hvm h.2.2.1.2⟩, ⟨vx_Zq.moved hvm h.2.2.2.1.1, vx_Zq.moved hvm h.2.2.2.1.2⟩, fun i hi => ⟨va_O.moved hvm (h.2.2.2.2 i hi).1, va_OF.moved hvm (h.2.2.2.2 i hi).2.1, va_OF.moved hvm (h.2.2.2.2 i hi).2.2.1, va_T.moved hvm (h.2.2.2.2 i hi).2.2.2⟩⟩
theorem SF.kept {X : GX} {A : Nat → Prop} {U : State} {H H1 : Heap} (h : SF X A U H) (hq : ∀ a : Nat, a < H.size → ¬ A a → H1[a]? = H[a]?) : SF X A U H1 :=
  ⟨h.1.kept hq, h.2.1.kept hq, ⟨h.2.2.1.1.kept hq, h.2.2.1.2.kept hq⟩, ⟨h.2.2.2.1.1.kept hq, h.2.2.2.1.2.kept hq⟩, fun i hi => ⟨(h.2.2.2.2 i hi).1.kept hq, (h.2.2.2.2 i hi).2.1.kept hq, (h.2.2.2.2 i hi).2.2.1.kept hq, (h.2.2.2.2 i hi).2.2.2.kept hq⟩⟩
theorem SF.narrow {X : GX} {A B : Nat → Prop} {U : State} {H : Heap} (h : SF X A U H) (hAB : ∀ q, B q → A q) : SF X B U H :=
  ⟨h.1.narrow hAB, h.2.1.narrow hAB, ⟨h.2.2.1.1.narrow hAB, h.2.2.1.2.narrow hAB⟩, ⟨h.2.2.2.1.1.narrow hAB, h.2.2.2.1.2.narrow hAB⟩, fun i hi => ⟨(h.2.2.2.2 i hi).1.narrow hAB, (h.2.2.2.2 i hi).2.1.narrow hAB, (h.2.2.2.2 i hi).2.2.1.narrow hAB, (h.2.2.2.2 i hi).2.2.2.narrow hAB⟩⟩
theorem GTf_x : ∀ q ∈ GTf, q.2.1.cls ≠ "java/lang/invoke/MethodHandle" ∧ q.2.1.cls ≠ "java/lang/invoke/VarHandle" := by decide +kernel
theorem GT.same {X : GX} {u U : State} (hv : U.vm = u.vm) (h : GT X u) : GT X U := by
  have hal : u.vm.Alike U.vm := by rw [hv]; exact Vm.Alike.refl _
  exact ⟨fun q hq => (h.1 q hq).same hv, fun q hq => (h.2.1 q hq).same rfl hv.symm, fun q hq => (h.2.2.1 q hq).same rfl hv.symm, fun q hq => (h.2.2.2.1 q hq).moved hal, fun q hq => (h.2.2.2.2.1 q hq).moved (GTf_x q hq) hal, fun q hq => (h.2.2.2.2.2.1 q hq).moved hal, h.2.2.2.2.2.2.1.moved hal, fun q hq => (h.2.2.2.2.2.2.2 q hq).movedD hal⟩
theorem GT.warm {X : GX} {s U : State} (hW : s.WarmedH U.vm) (h : GT X s) : GT X U :=
  ⟨fun q hq => (h.1 q hq).warm hW, fun q hq => va_Nw.warmM hW (h.2.1 q hq), fun q hq => va_Nw.warmC hW (h.2.2.1 q hq), fun q hq => (h.2.2.2.1 q hq).moved hW.alike, fun q hq => (h.2.2.2.2.1 q hq).moved (GTf_x q hq) hW.alike, fun q hq => (h.2.2.2.2.2.1 q hq).moved hW.alike, h.2.2.2.2.2.2.1.moved hW.alike, fun q hq => (h.2.2.2.2.2.2.2 q hq).movedD hW.alike⟩
theorem gW.moved {X : GX} {A : Nat → Prop} {L : List ro} {ad : ro → Nat} {st : ro → va_E} {u U : State} {H : Heap} (hvm : u.vm.Alike U.vm) (h : gW X A L ad st u H) : gW X A L ad st U H := ⟨h.1, va_K.moved hvm h.2.1, h.2.2⟩
def gPre (X : GX) (av : List Value) (L : List ro) (ad : ro → Nat) (st : ro → va_E) (sz : Nat) : Array Value → State → Prop := va_Pc av (fun U => U.heap.size = sz ∧ gW X (va_A (rwW L ad st) sz) L ad st U U.heap ∧ SF X (va_A (rwW L ad st) sz) U U.heap ∧ GT X U)
theorem gPre_blind {X : GX} {av : List Value} {L : List ro} {ad : ro → Nat} {st : ro → va_E} {sz : Nat} : FrameBlind (gPre X av L ad st sz) := fun a U g mk h => by
  obtain ⟨h0, h1, h2, h3, h4⟩ := h
  exact ⟨h0, h1, h2.moved (u := U) (U := U.calling g mk a) (Vm.Alike.refl U.vm), SF.moved (u := U) (U := U.calling g mk a) (Vm.Alike.refl U.vm) h3, GT.same (u := U) (U := U.calling g mk a) rfl h4⟩
def gB (X : GX) (A : Nat → Prop) (u : WS) (t : State) : Prop := gW X A u.1 u.2.1 u.2.2 t t.heap
/-- a method that answers a number: from a world (L, ad, st) to a world and an answer with post -/
def gMi (l : Launch) (y : MethodName) (b : ByteArray) (n : Nat) (ret : Option FieldType) (fr lc mc ms : Nat) (X : GX) (av : List Value) (L : List ro) (ad : ro → Nat) (st : ro → va_E) (post : Int32 → WS → Prop) : Prop :=
  ∀ sz : Nat, Met l y (tW y b n ret) ({ frames := fr, cells := mc, slots := ms, locals := lc } : Room) (gPre X av L ad st sz) (va_Qi post (gB X (va_A (rwW L ad st) sz)) (va_A (rwW L ad st) sz)) mc ms (va_A (rwW L ad st) sz)
def gMv (l : Launch) (y : MethodName) (b : ByteArray) (n : Nat) (ret : Option FieldType) (fr lc mc ms : Nat) (X : GX) (av : List Value) (L : List ro) (ad : ro → Nat) (st : ro → va_E) (post : WS → Prop) : Prop :=
  ∀ sz : Nat, Met l y (tW y b n ret) ({ frames := fr, cells := mc, slots := ms, locals := lc } : Room) (gPre X av L ad st sz) (va_Qv post (gB X (va_A (rwW L ad st) sz)) (va_A (rwW L ad st) sz)) mc ms (va_A (rwW L ad st) sz)
def gMq (l : Launch) (y : MethodName) (b : ByteArray) (n : Nat) (ret : Option FieldType) (fr lc mc ms : Nat) (X : GX) (av : List Value) (L : List ro) (ad : ro → Nat) (st : ro → va_E) (post : Option Nat → WS → Prop) : Prop :=
  ∀ sz : Nat, Met l y (tW y b n ret) ({ frames := fr, cells := mc, slots := ms, locals := lc } : Room) (gPre X av L ad st sz) (va_Qq post (gB X (va_A (rwW L ad st) sz)) (va_A (rwW L ad st) sz)) mc ms (va_A (rwW L ad st) sz)
/-- what holds all through a method's body -/
def gCx (p : Program) (s : State) (m : MethodId) (args : Array Value) (meth : Method) (c : Code) (b : ByteArray) (n : Nat) (ret : Option FieldType) (own name : String) (X : GX) (A : Nat → Prop) : Prop :=
  CallFix p m c b n s args TB own ∧ meth.sig.returnType = ret ∧ meth.locks = false ∧ meth.name = name ∧ (∀ q : Nat, s.heap.size ≤ q → A q) ∧ SF X A s s.heap ∧ GT X s
theorem gM_of {l : Launch} {y : MethodName} {b : ByteArray} {n : Nat} {ret : Option FieldType} {fr lc mc ms : Nat} {X : GX} {av : List Value} {L : List ro} {ad : ro → Nat} {st : ro → va_E} {Qc : (Nat → Prop) → Array Value → State → Outcome → State → Prop}
    (hy : plainName y.cls = true) (hn : (lg_sl av).length ≤ n)
    (body : ∀ (p : Program) (e : Env) (s : State) (m : MethodId) (args : Array Value) (below : List Frame) (meth : Method) (c : Code) (A : Nat → Prop), gCx p s m args meth c b n ret y.cls y.name X A → gW X A L ad st s s.heap → va_S A s.heap s.heap [] → ∀ ls : Array Slot, lv_has ls n (lv_args 0 av) →
      W p l e ({ frames := fr, cells := mc, slots := ms, locals := lc } : Room) s m args below meth c s.heap [] 0 0 (MQ below (Qc A) args s mc ms A) (F0 m 0 ls [])) :
    ∀ sz : Nat, Met l y (tW y b n ret) ({ frames := fr, cells := mc, slots := ms, locals := lc } : Room) (gPre X av L ad st sz) (Qc (va_A (rwW L ad st) sz)) mc ms (va_A (rwW L ad st) sz) := by
  intro sz
  refine Met.ofW (cc := b) (maxL := n) (ret := ret) hy rfl ?_
  intro p e s m args below meth c s₁ B hml hv
  obtain ⟨rfl, hsz, hW, hF, hG⟩ := hv
  have hts := atoms_spec (ws := tW y b n ret) B.pre
  have hown : s.vm.findClass y.cls = some m.cls := findClass_of_methodNamed B.named
  have hnm : meth.name = y.name := (name_of_methodNamed B.named B.method).1
  subst hsz
  have hl := lv_entry av (n := n) hn
  rw [lg_entry_eq]
  exact body p e s m _ below meth c _ ⟨⟨B.exec, B.bytes, hml, hown, fun w hw => hts w (List.mem_cons_of_mem _ hw)⟩, B.returns, B.notSynchronized, hnm, fun q h => Or.inr h, hF, hG⟩ hW va_S.rf _ hl
section GR
variable {p : Program} {l : Launch} {e : Env} {R : Room} {s : State} {m : MethodId} {args : Array Value} {below : List Frame} {meth : Method} {c : Code} {H : Heap} {locs : List Loc} {cells slots : Nat} {Q : State → Prop}
variable {cc : ByteArray} {nL : Nat} {ret : Option FieldType} {own mname : String} {pc : Nat} {ls : Array Slot} {rest : List Value} {X : GX} {A : Nat → Prop} {L : List ro} {ad : ro → Nat} {st : ro → va_E} {r : ro}
theorem g_free (C : gCx p s m args meth c cc nL ret own mname X A) (hW : gW X A L ad st s H) (hS : va_S A s.heap H locs) : ∀ q : Nat, va_A (rwW L ad st) H.size q → A q := fun q h => by
  rcases h with ⟨k, e, h⟩ | h
  · exact hW.2.2.2 k _ h
  · exact C.2.2.2.2.1 q (Nat.le_trans hS.1 h)
theorem g_iret {mc ms : Nat} {post : Int32 → WS → Prop} {ty : FieldType} {v : Int32} (C : gCx p s m args meth c cc nL (some ty) own mname X A) (hW : gW X A L ad st s H) (hS : va_S A s.heap H locs) (hp : post v (L, ad, st)) (hn : narrow ty (.int v) = .int v) (hc : cells ≤ mc) (hs : slots ≤ ms) (hdg : decode cc pc = .ok (.ireturn, 1)) :
    W p l e R s m args below meth c H locs cells slots (MQ below (va_Qi post (gB X A) A) args s mc ms A) (F0 m pc ls [.int v]) := by
  refine W.widen hc hs ?_
  exact W.zret C.1.1 C.1.2.1 C.2.1 hn (fun t ht hWm => ⟨⟨v, (L, ad, st), rfl, hp, by unfold gB; rw [ht]; exact hW.moved hWm.alike⟩, hS.F ht⟩) hS.2.2 hdg C.2.2.1
theorem g_vret {mc ms : Nat} {post : WS → Prop} (C : gCx p s m args meth c cc nL none own mname X A) (hW : gW X A L ad st s H) (hS : va_S A s.heap H locs) (hp : post (L, ad, st)) (hc : cells ≤ mc) (hs : slots ≤ ms) (hdg : decode cc pc = .ok (.return_, 1)) :
    W p l e R s m args below meth c H locs cells slots (MQ below (va_Qv post (gB X A) A) args s mc ms A) (F0 m pc ls []) := by
  refine W.widen hc hs ?_
  exact W.vret C.1.1 C.1.2.1 C.2.1 (fun t ht hWm => ⟨⟨(L, ad, st), rfl, hp, by unfold gB; rw [ht]; exact hW.moved hWm.alike⟩, hS.F ht⟩) hS.2.2 hdg C.2.2.1
theorem g_get {ref Cn : String} {T : u_T} {N ci index : Nat} (C : gCx p s m args meth c cc nL ret own mname X A) (hin : ∀ w ∈ u_ws Cn T N, w ∈ TB) (hW : gW X A L ad st s H) (hr : r ∈ L) {fs : List Value} (he : st r = .inr (ci, fs)) (hc : vwCl[ci]? = some (Cn, T, N)) (k : Nat) (hk : k < N) (hlink : Cond.fieldLink own index ref (T k).2.1 (T k).2.2.1 ∈ TB)
    (hsame : ∀ x, s.fieldFound? (T k).1 (T k).2.1 (T k).2.2.1 = some x → s.fieldFound? ref (T k).2.1 (T k).2.2.1 = some x) {v : Value} (hv : fs[k]? = some v) (hdg : decode cc pc = .ok (.getfield index, 3))
    (kk : W p l e R s m args below meth c H locs cells slots Q (F0 m (pc + 3) ls (v :: rest))) : W p l e R s m args below meth c H locs cells slots Q (F0 m pc ls (.ref (ad r) :: rest)) := by
  obtain ⟨q0, -, h0⟩ := rw_get (ad := ad) (st := st) hr
  rw [he] at h0
  exact va_get C.1.1 C.1.2.1 C.1.2.2.2.2 hin C.1.2.2.2.1 hW.2.1 hW.1 q0 h0 hc k hk (C.1.2.2.2.2 _ hlink) hsame hv hdg kk
theorem g_put {ref Cn : String} {T : u_T} {N ci index : Nat} {ty0 : Nat → FieldType} (C : gCx p s m args meth c cc nL ret own mname X A) (hin : ∀ w ∈ u_ws Cn T N, w ∈ TB) (hty : ∀ k, k < N → parseFieldDescriptor (T k).2.2.1 = some (ty0 k)) (hnm : ∀ a, a < N → ∀ b, b < N → a ≠ b → (T a).2.1 ≠ (T b).2.1) (hW : gW X A L ad st s H) (hS : va_S A s.heap H locs) (hr : r ∈ L) {fs : List Value} (he : st r = .inr (ci, fs)) (hc : vwCl[ci]? = some (Cn, T, N)) (k : Nat) (hk : k < N) (hlink : Cond.fieldLink own index ref (T k).2.1 (T k).2.2.1 ∈ TB)
    (hsame : ∀ x, s.fieldFound? (T k).1 (T k).2.1 (T k).2.2.1 = some x → s.fieldFound? ref (T k).2.1 (T k).2.2.1 = some x) (hfin : (T k).2.2.2 = false) {v : Value} (hn : narrow (ty0 k) v = v) (hfit : fits (ty0 k) v = true) (hl : k < fs.length) {st2 : ro → va_E} (hst : sup st r (.inr (ci, fs.set k v)) = st2) (hdg : decode cc pc = .ok (.putfield index, 3))
    (kk : ∀ (H1 : Heap) (locs1 : List Loc), gW X A L ad st2 s H1 → va_S A s.heap H1 locs1 → W p l e R s m args below meth c H1 locs1 cells slots Q (F0 m (pc + 3) ls rest)) : W p l e R s m args below meth c H locs cells slots Q (F0 m pc ls (v :: .ref (ad r) :: rest)) := by
  obtain ⟨q0, hq0, h0⟩ := rw_get (ad := ad) (st := st) hr
  rw [he] at h0
  refine va_put C.1.1 C.1.2.1 C.1.2.2.2.2 hin ty0 hty hnm C.1.2.2.2.1 hW.2.1 hW.1 hW.2.2 hS q0 h0 hc k hk (C.1.2.2.2.2 _ hlink) hsame hfin (hty k hk) hn hfit hl hdg (fun H1 locs1 hP1 hD1 hS1 => ?_)
  rw [rw_set hW.2.2 hq0, hst] at hP1 hD1
  exact kk H1 locs1 ⟨hP1, hW.2.1, hD1⟩ hS1
theorem g_putF {Cn : String} {T : u_T} {N ci index : Nat} {ty0 : Nat → FieldType} (C : gCx p s m args meth c cc nL ret own "<init>" X A) (hin : ∀ w ∈ u_ws Cn T N, w ∈ TB) (hty : ∀ k, k < N → parseFieldDescriptor (T k).2.2.1 = some (ty0 k)) (hnm : ∀ a, a < N → ∀ b, b < N → a ≠ b → (T a).2.1 ≠ (T b).2.1) (hW : gW X A L ad st s H) (hS : va_S A s.heap H locs) (hr : r ∈ L) {fs : List Value} (he : st r = .inr (ci, fs)) (hc : vwCl[ci]? = some (Cn, T, N)) (k : Nat) (hk : k < N) (hlink : Cond.fieldLink own index own (T k).2.1 (T k).2.2.1 ∈ TB)
    (hfin : (T k).2.2.2 = true) (hdecl : (T k).1 = own) {v : Value} (hn : narrow (ty0 k) v = v) (hfit : fits (ty0 k) v = true) (hl : k < fs.length) {st2 : ro → va_E} (hst : sup st r (.inr (ci, fs.set k v)) = st2) (hdg : decode cc pc = .ok (.putfield index, 3))
    (kk : ∀ (H1 : Heap) (locs1 : List Loc), gW X A L ad st2 s H1 → va_S A s.heap H1 locs1 → W p l e R s m args below meth c H1 locs1 cells slots Q (F0 m (pc + 3) ls rest)) : W p l e R s m args below meth c H locs cells slots Q (F0 m pc ls (v :: .ref (ad r) :: rest)) := by
  obtain ⟨q0, hq0, h0⟩ := rw_get (ad := ad) (st := st) hr
  rw [he] at h0
  refine va_putF C.1.1 C.1.2.1 C.1.2.2.2.2 hin ty0 hty hnm C.1.2.2.2.1 hW.2.1 hW.1 hW.2.2 hS q0 h0 hc k hk (C.1.2.2.2.2 _ hlink) (fun x hx => by rw [← hdecl]; exact hx) hfin C.2.2.2.1 hdecl (hty k hk) hn hfit hl hdg (fun H1 locs1 hP1 hD1 hS1 => ?_)
  rw [rw_set hW.2.2 hq0, hst] at hP1 hD1
  exact kk H1 locs1 ⟨hP1, hW.2.1, hD1⟩ hS1
theorem g_alen (C : gCx p s m args meth c cc nL ret own mname X A) (hW : gW X A L ad st s H) (hr : r ∈ L) {t0 : Nat} {cA : ClassId} {x : vp_A} {ty : FieldType} (he : st r = .inl (cA, x)) (ht : (wTy X.2.1)[t0]? = some (cA, ty)) {v : Int32} (hv : Int32.ofNat x.1 = v) (hdg : decode cc pc = .ok (.arraylength, 1))
    (kk : W p l e R s m args below meth c H locs cells slots Q (F0 m (pc + 1) ls (.int v :: rest))) : W p l e R s m args below meth c H locs cells slots Q (F0 m pc ls (.ref (ad r) :: rest)) := by
  obtain ⟨q0, -, h0⟩ := rw_get (ad := ad) (st := st) hr
  rw [he] at h0
  exact va_alen C.1.1 C.1.2.1 hW.2.1 hW.1 q0 t0 h0 ht hv hdg kk
theorem g_iald (C : gCx p s m args meth c cc nL ret own mname X A) (hW : gW X A L ad st s H) (hr : r ∈ L) {n : Nat} {f : Nat → Int32} (he : st r = .inl (X.2.1 2, n, .inl f)) {i : Int32} (hin : vp_in i n) (hdg : decode cc pc = .ok (.iaload, 1))
    (kk : W p l e R s m args below meth c H locs cells slots Q (F0 m (pc + 1) ls (.int (f i.toNatClampNeg) :: rest))) : W p l e R s m args below meth c H locs cells slots Q (F0 m pc ls (.int i :: .ref (ad r) :: rest)) := by
  obtain ⟨q0, -, h0⟩ := rw_get (ad := ad) (st := st) hr
  rw [he] at h0
  exact va_iald C.1.1 C.1.2.1 hW.2.1 hW.1 q0 2 h0 rfl hin hdg kk
theorem g_cald (C : gCx p s m args meth c cc nL ret own mname X A) (hW : gW X A L ad st s H) (hr : r ∈ L) {n : Nat} {f : Nat → Int32} (he : st r = .inl (X.2.1 1, n, .inl f)) {i : Int32} (hin : vp_in i n) (hdg : decode cc pc = .ok (.caload, 1))
    (kk : W p l e R s m args below meth c H locs cells slots Q (F0 m (pc + 1) ls (.int (f i.toNatClampNeg) :: rest))) : W p l e R s m args below meth c H locs cells slots Q (F0 m pc ls (.int i :: .ref (ad r) :: rest)) := by
  obtain ⟨q0, -, h0⟩ := rw_get (ad := ad) (st := st) hr
  rw [he] at h0
  exact va_cald C.1.1 C.1.2.1 hW.2.1 hW.1 q0 1 h0 rfl hin hdg kk
theorem g_zald (C : gCx p s m args meth c cc nL ret own mname X A) (hW : gW X A L ad st s H) (hr : r ∈ L) {n : Nat} {f : Nat → Int32} (he : st r = .inl (X.2.1 3, n, .inl f)) {i : Int32} (hin : vp_in i n) (hdg : decode cc pc = .ok (.baload, 1))
    (kk : W p l e R s m args below meth c H locs cells slots Q (F0 m (pc + 1) ls (.int (f i.toNatClampNeg) :: rest))) : W p l e R s m args below meth c H locs cells slots Q (F0 m pc ls (.int i :: .ref (ad r) :: rest)) := by
  obtain ⟨q0, -, h0⟩ := rw_get (ad := ad) (st := st) hr
  rw [he] at h0
  exact va_zald C.1.1 C.1.2.1 hW.2.1 hW.1 q0 3 h0 rfl hin hdg kk
theorem g_bald (C : gCx p s m args meth c cc nL ret own mname X A) (hW : gW X A L ad st s H) (hr : r ∈ L) {n : Nat} {f : Nat → Int32} (he : st r = .inl (X.2.1 0, n, .inl f)) {i : Int32} (hin : vp_in i n) (hdg : decode cc pc = .ok (.baload, 1))
    (kk : W p l e R s m args below meth c H locs cells slots Q (F0 m (pc + 1) ls (.int (f i.toNatClampNeg) :: rest))) : W p l e R s m args below meth c H locs cells slots Q (F0 m pc ls (.int i :: .ref (ad r) :: rest)) := by
  obtain ⟨q0, -, h0⟩ := rw_get (ad := ad) (st := st) hr
  rw [he] at h0
  exact va_bald C.1.1 C.1.2.1 hW.2.1 hW.1 q0 0 h0 rfl hin hdg kk
theorem g_aldq (C : gCx p s m args meth c cc nL ret own mname X A) (hW : gW X A L ad st s H) (hr : r ∈ L) {t0 n : Nat} {cA : ClassId} {Cn : String} {f : Nat → Option Nat} (he : st r = .inl (cA, n, .inr (.inr (.inr (.inr f))))) (ht : (wTy X.2.1)[t0]? = some (cA, .object Cn)) {i : Int32} (hin : vp_in i n) (hdg : decode cc pc = .ok (.aaload, 1))
    (kk : W p l e R s m args below meth c H locs cells slots Q (F0 m (pc + 1) ls (va_rf (f i.toNatClampNeg) :: rest))) : W p l e R s m args below meth c H locs cells slots Q (F0 m pc ls (.int i :: .ref (ad r) :: rest)) := by
  obtain ⟨q0, -, h0⟩ := rw_get (ad := ad) (st := st) hr
  rw [he] at h0
  exact va_aldq C.1.1 C.1.2.1 hW.2.1 hW.1 q0 t0 h0 ht hin hdg kk
theorem g_iast (C : gCx p s m args meth c cc nL ret own mname X A) (hW : gW X A L ad st s H) (hS : va_S A s.heap H locs) (hr : r ∈ L) {n : Nat} {f : Nat → Int32} (he : st r = .inl (X.2.1 2, n, .inl f)) {i x : Int32} (hin : vp_in i n) {st2 : ro → va_E} (hst : sup st r (.inl (X.2.1 2, n, .inl (upd f i.toNatClampNeg x))) = st2) (hdg : decode cc pc = .ok (.iastore, 1))
    (kk : ∀ (H1 : Heap) (locs1 : List Loc), gW X A L ad st2 s H1 → va_S A s.heap H1 locs1 → W p l e R s m args below meth c H1 locs1 cells slots Q (F0 m (pc + 1) ls rest)) : W p l e R s m args below meth c H locs cells slots Q (F0 m pc ls (.int x :: .int i :: .ref (ad r) :: rest)) := by
  obtain ⟨q0, hq0, h0⟩ := rw_get (ad := ad) (st := st) hr
  rw [he] at h0
  refine va_iast C.1.1 C.1.2.1 hW.2.1 hW.1 hW.2.2 hS q0 2 h0 rfl hin hdg (fun H1 locs1 hP1 hD1 hS1 => ?_)
  rw [rw_set hW.2.2 hq0, hst] at hP1 hD1
  exact kk H1 locs1 ⟨hP1, hW.2.1, hD1⟩ hS1
theorem g_cast (C : gCx p s m args meth c cc nL ret own mname X A) (hW : gW X A L ad st s H) (hS : va_S A s.heap H locs) (hr : r ∈ L) {n : Nat} {f : Nat → Int32} (he : st r = .inl (X.2.1 1, n, .inl f)) {i x : Int32} (hin : vp_in i n) {st2 : ro → va_E} (hst : sup st r (.inl (X.2.1 1, n, .inl (upd f i.toNatClampNeg (vp_nar .char x)))) = st2) (hdg : decode cc pc = .ok (.castore, 1))
    (kk : ∀ (H1 : Heap) (locs1 : List Loc), gW X A L ad st2 s H1 → va_S A s.heap H1 locs1 → W p l e R s m args below meth c H1 locs1 cells slots Q (F0 m (pc + 1) ls rest)) : W p l e R s m args below meth c H locs cells slots Q (F0 m pc ls (.int x :: .int i :: .ref (ad r) :: rest)) := by
  obtain ⟨q0, hq0, h0⟩ := rw_get (ad := ad) (st := st) hr
  rw [he] at h0
  refine va_cast C.1.1 C.1.2.1 hW.2.1 hW.1 hW.2.2 hS q0 1 h0 rfl hin hdg (fun H1 locs1 hP1 hD1 hS1 => ?_)
  rw [rw_set hW.2.2 hq0, hst] at hP1 hD1
  exact kk H1 locs1 ⟨hP1, hW.2.1, hD1⟩ hS1
theorem g_zast (C : gCx p s m args meth c cc nL ret own mname X A) (hW : gW X A L ad st s H) (hS : va_S A s.heap H locs) (hr : r ∈ L) {n : Nat} {f : Nat → Int32} (he : st r = .inl (X.2.1 3, n, .inl f)) {i x : Int32} (hin : vp_in i n) {st2 : ro → va_E} (hst : sup st r (.inl (X.2.1 3, n, .inl (upd f i.toNatClampNeg (vp_nar .boolean x)))) = st2) (hdg : decode cc pc = .ok (.bastore, 1))
    (kk : ∀ (H1 : Heap) (locs1 : List Loc), gW X A L ad st2 s H1 → va_S A s.heap H1 locs1 → W p l e R s m args below meth c H1 locs1 cells slots Q (F0 m (pc + 1) ls rest)) : W p l e R s m args below meth c H locs cells slots Q (F0 m pc ls (.int x :: .int i :: .ref (ad r) :: rest)) := by
  obtain ⟨q0, hq0, h0⟩ := rw_get (ad := ad) (st := st) hr
  rw [he] at h0
  refine va_zast C.1.1 C.1.2.1 hW.2.1 hW.1 hW.2.2 hS q0 3 h0 rfl hin hdg (fun H1 locs1 hP1 hD1 hS1 => ?_)
  rw [rw_set hW.2.2 hq0, hst] at hP1 hD1
  exact kk H1 locs1 ⟨hP1, hW.2.1, hD1⟩ hS1
/-- the words of a call out of TB -/
theorem tcV {Cn : String} {index n2 mc2 ms2 k2 : Nat} {z : MethodName} {b2 : ByteArray} {ret2 : Option FieldType} {rm : Room} (hts : ∀ w ∈ TB, w.before args s = true) (h1 : Cond.methodLink own index z ∈ TB) (h2 : Cond.instanceMethod z ∈ TB) (h3 : Cond.selects Cn z z ∈ TB) (h4 : Cond.initialized Cn ∈ TB) (h5 : Cond.code z b2 n2 ret2 ∈ TB) (hrc : rm.cells = mc2) (hrs : rm.slots = ms2)
    (hd : z.cls = Cn ∧ z.cls ≠ "java/lang/invoke/MethodHandle" ∧ z.cls ≠ "java/lang/invoke/VarHandle" ∧ (parseMethodDescriptor z.desc).map (fun d => d.parameters.length) = some k2) (hR : rm.frames + 1 ≤ R.frames ∧ 8 + (n2 + 11) + rm.locals ≤ R.locals) : CallW R s args own Cn index z b2 n2 ret2 (tW z b2 n2 ret2) rm mc2 ms2 k2 := by
  refine cwV k2 hts (fun w hw => ?_) rfl hrc hrs hd hR
  unfold wsV at hw
  rcases List.mem_append.mp hw with h | h
  · have hb : w ∈ TB := by
      simp only [List.mem_cons, List.not_mem_nil, or_false] at h
      rcases h with h | h | h | h <;> subst h <;> assumption
    exact ⟨hb, good_of_word (tB_ok hb)⟩
  · exact tW_good h5 w h
theorem tcS {index n2 mc2 ms2 k2 : Nat} {z : MethodName} {b2 : ByteArray} {ret2 : Option FieldType} {rm : Room} (hts : ∀ w ∈ TB, w.before args s = true) (h1 : Cond.methodLink own index z ∈ TB) (h2 : Cond.static z ∈ TB) (h4 : Cond.initialized z.cls ∈ TB) (h5 : Cond.code z b2 n2 ret2 ∈ TB) (hrc : rm.cells = mc2) (hrs : rm.slots = ms2)
    (hd : z.cls ≠ "java/lang/invoke/MethodHandle" ∧ z.cls ≠ "java/lang/invoke/VarHandle" ∧ (parseMethodDescriptor z.desc).map (fun d => d.parameters.length) = some k2) (hR : rm.frames + 1 ≤ R.frames ∧ 8 + (n2 + 11) + rm.locals ≤ R.locals) : CallB R s args own index z b2 n2 ret2 (tW z b2 n2 ret2) rm mc2 ms2 k2 ∧ (Cond.static z).before args s = true :=
  ⟨callB_of k2 hts (tW_good h5) rfl hrc hrs (hts _ h4) (hts _ h1) hd hR, hts _ h2⟩
/-- what a callee is handed -/
theorem g_pre (C : gCx p s m args meth c cc nL ret own mname X A) (hW : gW X A L ad st s H) (hS : va_S A s.heap H locs) {av : List Value} : ∀ U : State, U.heap = H → s.WarmedH U.vm → gPre X av L ad st H.size av.toArray U := fun U hU hWm => by
  have hf := g_free C hW hS
  refine ⟨rfl, by rw [hU], ?_, ?_, C.2.2.2.2.2.2.warm hWm⟩
  · rw [hU]
    exact ⟨hW.1, va_K.moved hWm.alike hW.2.1, hW.2.2.self⟩
  · rw [hU]
    exact ((C.2.2.2.2.2.1.kept (fun a h1 h2 => hS.2.1 a h1 h2)).narrow hf).moved hWm.alike
theorem g_back {A1 : Nat → Prop} {L' : List ro} {ad' : ro → Nat} {st' : ro → va_E} {t : State} {H1 : Heap} (hf : ∀ q, A1 q → A q) (ht : t.heap = H1) (hvm : s.vm.Alike t.vm) (hB : gB X A1 (L', ad', st') t) : gW X A L' ad' st' s H1 := by
  subst ht
  exact ⟨hB.1, va_K.moved hvm.symm hB.2.1, hB.2.2.weaken (fun _ _ _ h => hf _ h)⟩
theorem g_callVi {Cn : String} {T : u_T} {N ci index n2 fr2 lc2 mc2 ms2 k2 : Nat} {z : MethodName} {b2 : ByteArray} {ret2 : Option FieldType} {As st0 : List Value} {post : Int32 → WS → Prop} {fs : List Value} (C : gCx p s m args meth c cc nL ret own mname X A) (hM : gMi l z b2 n2 ret2 fr2 lc2 mc2 ms2 X (.ref (ad r) :: As) L ad st post)
    (h1 : Cond.methodLink own index z ∈ TB) (h2 : Cond.instanceMethod z ∈ TB) (h3 : Cond.selects Cn z z ∈ TB) (h4 : Cond.initialized Cn ∈ TB) (h5 : Cond.code z b2 n2 ret2 ∈ TB) (hd : z.cls = Cn ∧ z.cls ≠ "java/lang/invoke/MethodHandle" ∧ z.cls ≠ "java/lang/invoke/VarHandle" ∧ (parseMethodDescriptor z.desc).map (fun d => d.parameters.length) = some k2) (hR : fr2 + 1 ≤ R.frames ∧ 8 + (n2 + 11) + lc2 ≤ R.locals)
    (hW : gW X A L ad st s H) (hS : va_S A s.heap H locs) (hr : r ∈ L) (he : st r = .inr (ci, fs)) (hci : vwCl[ci]? = some (Cn, T, N)) (hk : As.length = k2) (hsz : ls.size = nL) (hst : st0 = As.reverse ++ .ref (ad r) :: rest) (hcat : (rest.map fun v => v.category).sum ≤ 8) (hdg : decode cc pc = .ok (.invokevirtual index, 3)) (hcs : cells + mc2 ≤ R.cells ∧ slots + ms2 ≤ R.slots)
    (kk : ∀ (v : Int32) (L' : List ro) (ad' : ro → Nat) (st' : ro → va_E) (H1 : Heap) (locs1 : List Loc), post v (L', ad', st') → gW X A L' ad' st' s H1 → va_S A s.heap H1 locs1 → W p l e R s m args below meth c H1 locs1 (cells + mc2) (slots + ms2) Q (F0 m (pc + 3) ls (.int v :: rest))) : W p l e R s m args below meth c H locs cells slots Q (F0 m pc ls st0) := by
  obtain ⟨q0, -, h0⟩ := rw_get (ad := ad) (st := st) hr
  rw [he] at h0
  have hf := g_free C hW hS
  exact va_calli (va_runV (As := As) (rest := rest) C.1 (hM H.size) (tcV C.1.2.2.2.2 h1 h2 h3 h4 h5 rfl rfl hd hR) ⟨gPre_blind, va_recv hW.2.1 hW.1 hci h0, g_pre C hW hS⟩ rfl hk hsz hst (lv_room hcat) hdg hcs) hS (fun q _ h => hf q h) hf (fun v u t H1 locs1 ht hvm hp hB _ _ hS1 => kk v u.1 u.2.1 u.2.2 H1 locs1 hp (g_back hf ht hvm hB) hS1)
theorem g_callVv {Cn : String} {T : u_T} {N ci index n2 fr2 lc2 mc2 ms2 k2 : Nat} {z : MethodName} {b2 : ByteArray} {ret2 : Option FieldType} {As st0 : List Value} {post : WS → Prop} {fs : List Value} (C : gCx p s m args meth c cc nL ret own mname X A) (hM : gMv l z b2 n2 ret2 fr2 lc2 mc2 ms2 X (.ref (ad r) :: As) L ad st post)
    (h1 : Cond.methodLink own index z ∈ TB) (h2 : Cond.instanceMethod z ∈ TB) (h3 : Cond.selects Cn z z ∈ TB) (h4 : Cond.initialized Cn ∈ TB) (h5 : Cond.code z b2 n2 ret2 ∈ TB) (hd : z.cls = Cn ∧ z.cls ≠ "java/lang/invoke/MethodHandle" ∧ z.cls ≠ "java/lang/invoke/VarHandle" ∧ (parseMethodDescriptor z.desc).map (fun d => d.parameters.length) = some k2) (hR : fr2 + 1 ≤ R.frames ∧ 8 + (n2 + 11) + lc2 ≤ R.locals)
    (hW : gW X A L ad st s H) (hS : va_S A s.heap H locs) (hr : r ∈ L) (he : st r = .inr (ci, fs)) (hci : vwCl[ci]? = some (Cn, T, N)) (hk : As.length = k2) (hsz : ls.size = nL) (hst : st0 = As.reverse ++ .ref (ad r) :: rest) (hcat : (rest.map fun v => v.category).sum ≤ 8) (hdg : decode cc pc = .ok (.invokevirtual index, 3)) (hcs : cells + mc2 ≤ R.cells ∧ slots + ms2 ≤ R.slots)
    (kk : ∀ (L' : List ro) (ad' : ro → Nat) (st' : ro → va_E) (H1 : Heap) (locs1 : List Loc), post (L', ad', st') → gW X A L' ad' st' s H1 → va_S A s.heap H1 locs1 → W p l e R s m args below meth c H1 locs1 (cells + mc2) (slots + ms2) Q (F0 m (pc + 3) ls rest)) : W p l e R s m args below meth c H locs cells slots Q (F0 m pc ls st0) := by
  obtain ⟨q0, -, h0⟩ := rw_get (ad := ad) (st := st) hr
  rw [he] at h0
  have hf := g_free C hW hS
  exact va_callv (va_runV (As := As) (rest := rest) C.1 (hM H.size) (tcV C.1.2.2.2.2 h1 h2 h3 h4 h5 rfl rfl hd hR) ⟨gPre_blind, va_recv hW.2.1 hW.1 hci h0, g_pre C hW hS⟩ rfl hk hsz hst (lv_room hcat) hdg hcs) hS (fun q _ h => hf q h) hf (fun u t H1 locs1 ht hvm hp hB _ _ hS1 => kk u.1 u.2.1 u.2.2 H1 locs1 hp (g_back hf ht hvm hB) hS1)
theorem g_callSi {index n2 fr2 lc2 mc2 ms2 k2 : Nat} {z : MethodName} {b2 : ByteArray} {ret2 : Option FieldType} {As st0 : List Value} {post : Int32 → WS → Prop} (C : gCx p s m args meth c cc nL ret own mname X A) (hM : gMi l z b2 n2 ret2 fr2 lc2 mc2 ms2 X As L ad st post)
    (h1 : Cond.methodLink own index z ∈ TB) (h2 : Cond.static z ∈ TB) (h4 : Cond.initialized z.cls ∈ TB) (h5 : Cond.code z b2 n2 ret2 ∈ TB) (hd : z.cls ≠ "java/lang/invoke/MethodHandle" ∧ z.cls ≠ "java/lang/invoke/VarHandle" ∧ (parseMethodDescriptor z.desc).map (fun d => d.parameters.length) = some k2) (hR : fr2 + 1 ≤ R.frames ∧ 8 + (n2 + 11) + lc2 ≤ R.locals)
    (hW : gW X A L ad st s H) (hS : va_S A s.heap H locs) (hk : As.length = k2) (hsz : ls.size = nL) (hst : st0 = As.reverse ++ rest) (hcat : (rest.map fun v => v.category).sum ≤ 8) (hdg : decode cc pc = .ok (.invokestatic index, 3)) (hcs : cells + mc2 ≤ R.cells ∧ slots + ms2 ≤ R.slots)
    (kk : ∀ (v : Int32) (L' : List ro) (ad' : ro → Nat) (st' : ro → va_E) (H1 : Heap) (locs1 : List Loc), post v (L', ad', st') → gW X A L' ad' st' s H1 → va_S A s.heap H1 locs1 → W p l e R s m args below meth c H1 locs1 (cells + mc2) (slots + ms2) Q (F0 m (pc + 3) ls (.int v :: rest))) : W p l e R s m args below meth c H locs cells slots Q (F0 m pc ls st0) := by
  have hf := g_free C hW hS
  exact va_calli (va_runS (As := As) (rest := rest) C.1 (hM H.size) (tcS C.1.2.2.2.2 h1 h2 h4 h5 rfl rfl hd hR) ⟨gPre_blind, g_pre C hW hS⟩ rfl hk hsz hst (lv_room hcat) hdg hcs) hS (fun q _ h => hf q h) hf (fun v u t H1 locs1 ht hvm hp hB _ _ hS1 => kk v u.1 u.2.1 u.2.2 H1 locs1 hp (g_back hf ht hvm hB) hS1)
end GR
theorem tinX0 : ∀ w ∈ wsX00, w ∈ TB := by decide +kernel
theorem tinX1 : ∀ w ∈ wsX10, w ∈ TB := by decide +kernel
theorem tinX2 : ∀ w ∈ wsX20, w ∈ TB := by decide +kernel
theorem tinX3 : ∀ w ∈ wsX30, w ∈ TB := by decide +kernel
theorem tinX4 : ∀ w ∈ wsX40, w ∈ TB := by decide +kernel
theorem tinX5 : ∀ w ∈ wsX50, w ∈ TB := by decide +kernel
theorem tinX6 : ∀ w ∈ wsX60, w ∈ TB := by decide +kernel
theorem tinX7 : ∀ w ∈ wsX70, w ∈ TB := by decide +kernel
theorem tinX8 : ∀ w ∈ wsX80, w ∈ TB := by decide +kernel
theorem tinJ0 : ∀ w ∈ wsJ00, w ∈ TB := by decide +kernel
theorem tinJ4 : ∀ w ∈ wsJ40, w ∈ TB := by decide +kernel
theorem tinJx4a65c : ∀ w ∈ wsJx4a65c0, w ∈ TB := by decide +kernel
