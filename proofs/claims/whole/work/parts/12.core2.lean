theorem gM_of2 {l : Launch} {y : MethodName} {b : ByteArray} {n : Nat} {ret : Option FieldType} {fr lc mc ms : Nat} {X : GX} {av : List Value} {L : List ro} {ad : ro → Nat} {st : ro → va_E} {Qc : (Nat → Prop) → Array Value → State → Outcome → State → Prop}
    (hy : plainName y.cls = true) (hn : (lg_sl av).length ≤ n)
    (body : ∀ (p : Program) (e : Env) (s : State) (m : MethodId) (args : Array Value) (below : List Frame) (meth : Method) (c : Code) (A : Nat → Prop) (R : Room) (Q : State → Prop), (R.frames = fr ∧ R.locals = lc ∧ R.cells = mc ∧ R.slots = ms) → Q = MQ below (Qc A) args s mc ms A → gCx p s m args meth c b n ret y.cls y.name X A → gW X A L ad st s s.heap → va_S A s.heap s.heap [] → ∀ ls : Array Slot, lv_has ls n (lv_args 0 av) →
      W p l e R s m args below meth c s.heap [] 0 0 Q (F0 m 0 ls [])) :
    ∀ sz : Nat, Met l y (tW y b n ret) ({ frames := fr, cells := mc, slots := ms, locals := lc } : Room) (gPre X av L ad st sz) (Qc (va_A (rwW L ad st) sz)) mc ms (va_A (rwW L ad st) sz) :=
  gM_of (Qc := Qc) hy hn (fun p e s m args below meth c A C hW hS ls hl => body p e s m args below meth c A _ _ ⟨rfl, rfl, rfl, rfl⟩ rfl C hW hS ls hl)
section GR2
variable {p : Program} {l : Launch} {e : Env} {R : Room} {s : State} {m : MethodId} {args : Array Value} {below : List Frame} {meth : Method} {c : Code} {H : Heap} {locs : List Loc} {cells slots : Nat} {Q : State → Prop}
variable {cc : ByteArray} {nL : Nat} {ret : Option FieldType} {own mname : String} {pc : Nat} {ls : Array Slot} {rest : List Value} {X : GX} {A : Nat → Prop} {L : List ro} {ad : ro → Nat} {st : ro → va_E} {r : ro}
theorem g_iret2 {mc ms : Nat} {post : Int32 → WS → Prop} {ty : FieldType} {v : Int32} (C : gCx p s m args meth c cc nL (some ty) own mname X A) (hQ : Q = MQ below (va_Qi post (gB X A) A) args s mc ms A) (hW : gW X A L ad st s H) (hS : va_S A s.heap H locs) (hp : post v (L, ad, st)) (hn : narrow ty (.int v) = .int v) (hc : cells ≤ mc) (hs : slots ≤ ms) (hdg : decode cc pc = .ok (.ireturn, 1)) :
    W p l e R s m args below meth c H locs cells slots Q (F0 m pc ls [.int v]) := by
  subst hQ
  exact g_iret C hW hS hp hn hc hs hdg
theorem g_vret2 {mc ms : Nat} {post : WS → Prop} (C : gCx p s m args meth c cc nL none own mname X A) (hQ : Q = MQ below (va_Qv post (gB X A) A) args s mc ms A) (hW : gW X A L ad st s H) (hS : va_S A s.heap H locs) (hp : post (L, ad, st)) (hc : cells ≤ mc) (hs : slots ≤ ms) (hdg : decode cc pc = .ok (.return_, 1)) :
    W p l e R s m args below meth c H locs cells slots Q (F0 m pc ls []) := by
  subst hQ
  exact g_vret C hW hS hp hc hs hdg
end GR2
section GR3
variable {p : Program} {l : Launch} {e : Env} {R : Room} {s : State} {m : MethodId} {args : Array Value} {below : List Frame} {meth : Method} {c : Code} {H : Heap} {locs : List Loc} {cells slots : Nat} {Q : State → Prop} {pc : Nat} {ls : Array Slot} {rest : List Value}
theorem lv_topE {x y : Int32} (h : x = y) (k : W p l e R s m args below meth c H locs cells slots Q (F0 m pc ls (.int y :: rest))) : W p l e R s m args below meth c H locs cells slots Q (F0 m pc ls (.int x :: rest)) := by
  subst h
  exact k
end GR3
theorem q_lt {a b : Nat} (ha : a < 2 ^ 31) (hb : b < 2 ^ 31) (c : nI a < nI b) : a < b := (nI_ltI ha hb).mp c
theorem q_nlt {a b : Nat} (ha : a < 2 ^ 31) (hb : b < 2 ^ 31) (c : ¬ nI a < nI b) : b ≤ a := Nat.le_of_not_lt (fun h => c ((nI_ltI ha hb).mpr h))
theorem q_le {a b : Nat} (ha : a < 2 ^ 31) (hb : b < 2 ^ 31) (c : nI a ≤ nI b) : a ≤ b := (nI_leI ha hb).mp c
theorem q_nle {a b : Nat} (ha : a < 2 ^ 31) (hb : b < 2 ^ 31) (c : ¬ nI a ≤ nI b) : b < a := Nat.lt_of_not_le (fun h => c ((nI_leI ha hb).mpr h))
theorem q_eq {a b : Nat} (ha : a < 2 ^ 31) (hb : b < 2 ^ 31) (c : nI a = nI b) : a = b := (nI_eq ha hb).mp c
theorem q_ne {a b : Nat} (ha : a < 2 ^ 31) (hb : b < 2 ^ 31) (c : ¬ nI a = nI b) : a ≠ b := fun h => c (by rw [h])
theorem rowu_same {fa : Nat → Nat → Int32} {k : Nat} {g h : Nat → Int32} : rowu (rowu fa k g) k h = rowu fa k h := by
  funext a
  by_cases e : a = k <;> simp [rowu, e]
theorem upd_same {f : Nat → Int32} {k : Nat} {x y : Int32} : upd (upd f k x) k y = upd f k y := by
  funext a
  by_cases e : a = k <;> simp [upd, e]
