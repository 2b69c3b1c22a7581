/-! methods that throw -/
def gBX (X : GX) (A : Nat → Prop) (px : String → WS → Prop) (E : String) (u : WS) (t : State) : Prop := px E u ∧ gB X A u t
abbrev gXC (X : GX) (A : Nat → Prop) (px : String → WS → Prop) : String → State → State → Prop := vx_X (fun _ : WS => True) (gBX X A px) A
def gXi (l : Launch) (y : MethodName) (b : ByteArray) (n : Nat) (ret : Option FieldType) (fr lc mc ms : Nat) (X : GX) (av : List Value) (L : List ro) (ad : ro → Nat) (st : ro → va_E) (post : Int32 → WS → Prop) (px : String → WS → Prop) : Prop :=
  ∀ sz : Nat, vx_Met l y (tW y b n ret) ({ frames := fr, cells := mc, slots := ms, locals := lc } : Room) (gPre X av L ad st sz) (va_Qi post (gB X (va_A (rwW L ad st) sz)) (va_A (rwW L ad st) sz)) (gXC X (va_A (rwW L ad st) sz) px) mc ms (va_A (rwW L ad st) sz)
def gXq (l : Launch) (y : MethodName) (b : ByteArray) (n : Nat) (ret : Option FieldType) (fr lc mc ms : Nat) (X : GX) (av : List Value) (L : List ro) (ad : ro → Nat) (st : ro → va_E) (post : Option Nat → WS → Prop) (px : String → WS → Prop) : Prop :=
  ∀ sz : Nat, vx_Met l y (tW y b n ret) ({ frames := fr, cells := mc, slots := ms, locals := lc } : Room) (gPre X av L ad st sz) (va_Qq post (gB X (va_A (rwW L ad st) sz)) (va_A (rwW L ad st) sz)) (gXC X (va_A (rwW L ad st) sz) px) mc ms (va_A (rwW L ad st) sz)
theorem gX_of2 {l : Launch} {y : MethodName} {b : ByteArray} {n : Nat} {ret : Option FieldType} {fr lc mc ms : Nat} {X : GX} {av : List Value} {L : List ro} {ad : ro → Nat} {st : ro → va_E} {Qc : (Nat → Prop) → Array Value → State → Outcome → State → Prop} {XC : (Nat → Prop) → String → State → State → Prop}
    (hy : plainName y.cls = true) (hn : (lg_sl av).length ≤ n)
    (body : ∀ (p : Program) (e : Env) (s : State) (m : MethodId) (args : Array Value) (below : List Frame) (meth : Method) (c : Code) (A : Nat → Prop) (R : Room) (Q : State → Prop), (R.frames = fr ∧ R.locals = lc ∧ R.cells = mc ∧ R.slots = ms) → Q = vx_MQ below (Qc A) (XC A) args s mc ms A → (∀ x ∈ c.exceptionTable.toList, False) → gCx p s m args meth c b n ret y.cls y.name X A → gW X A L ad st s s.heap → va_S A s.heap s.heap [] → ∀ ls : Array Slot, lv_has ls n (lv_args 0 av) →
      W p l e R s m args below meth c s.heap [] 0 0 Q (F0 m 0 ls [])) :
    ∀ sz : Nat, vx_Met l y (tW y b n ret) ({ frames := fr, cells := mc, slots := ms, locals := lc } : Room) (gPre X av L ad st sz) (Qc (va_A (rwW L ad st) sz)) (XC (va_A (rwW L ad st) sz)) mc ms (va_A (rwW L ad st) sz) := by
  intro sz
  refine vx_ofW (cc := b) (maxL := n) (ret := ret) hy rfl ?_
  intro p e s m args below meth c s₁ B hml hnx hv
  obtain ⟨rfl, hsz, hW, hF, hG⟩ := hv
  have hts := atoms_spec (ws := tW y b n ret) B.pre
  have hown : s.vm.findClass y.cls = some m.cls := findClass_of_methodNamed B.named
  have hnm : meth.name = y.name := (name_of_methodNamed B.named B.method).1
  subst hsz
  have hl := lv_entry av (n := n) hn
  rw [lg_entry_eq]
  exact body p e s m _ below meth c _ _ _ ⟨rfl, rfl, rfl, rfl⟩ rfl hnx ⟨⟨B.exec, B.bytes, hml, hown, fun w hw => hts w (List.mem_cons_of_mem _ hw)⟩, B.returns, B.notSynchronized, hnm, fun q h => Or.inr h, hF, hG⟩ hW va_S.rf _ hl
def gExN : List String := ["java/lang/RuntimeException", "java/lang/Exception"]
/-- the words of 'new cls(text)' -/
def gEx (own : String) (ik ic : Nat) (cls : String) : Prop := (Bundle.fit cls = true ∧ (∀ n ∈ gExN, Bundle.fit n = true)) ∧ (Cond.classLink own ik cls ∈ TB ∧ Cond.initialized cls ∈ TB) ∧ (∀ w ∈ (vx_atS own ic cls gExN).filter goodWord, w ∈ TB) ∧ (∀ w ∈ (vx_atS own ic cls gExN).filter (fun w => !goodWord w), w ∈ Cond.castable cls cls :: GTd.map Cond.declares) ∧ (∀ w ∈ Cond.classLink own ik cls :: Cond.initialized cls :: vx_atS own ic cls gExN, vx_ot w = true) ∧ (cls, cls) ∈ GTc
section VXQ
variable {p : Program} {l : Launch} {e : Env} {R : Room} {s : State} {m : MethodId} {args : Array Value} {below : List Frame} {meth : Method} {c : Code} {H : Heap} {locs : List Loc} {cells slots : Nat} {Q : State → Prop}
variable {mc ms : Nat} {free : Addr → Prop} {A0 A1 : Nat → Prop} {H0 : Heap} {a : Array Value} {pc : Nat} {ls : Array Slot} {st0 rest : List Value}
theorem vx_callq {S SX : Type} {post : Option Nat → S → Prop} {px : SX → Prop} {B : S → State → Prop} {BX : String → SX → State → Prop} {AX : Nat → Prop} (hr : vx_Run p l e R s m args below meth c H locs cells slots mc ms (F0 m pc ls st0) rest (va_Qq post B A1 a) (vx_X px BX AX) free) (hS : va_S A0 H0 H locs) (hA : ∀ q, q < H.size → A1 q → A0 q) (hf : ∀ q, free q → A0 q) (hAX : ∀ q, q < H.size → AX q → A0 q)
    (kx : ∀ (E : String) (ce : Cell) (q9 : Addr) (u : SX) (t : State) (H1 : Heap) (locs1 : List Loc), t.heap = H1 → s.vm.Alike t.vm → px u → BX E u t → H.size ≤ H1.size → (∀ q : Nat, q < H.size → ¬ AX q → H1[q]? = H[q]?) → va_S A0 H0 H1 locs1 → H1[q9]? = some ce → ce.vm = .none → s.vm.findClass E = some ce.cls → vx_W p l e R s m args below meth c H1 locs1 (cells + mc) (slots + ms) Q (F0 m pc ls rest) q9)
    (kk : ∀ (r : Option Nat) (u : S) (t : State) (H1 : Heap) (locs1 : List Loc), t.heap = H1 → s.vm.Alike t.vm → post r u → B u t → H.size ≤ H1.size → (∀ q : Nat, q < H.size → ¬ A1 q → H1[q]? = H[q]?) → va_S A0 H0 H1 locs1 → W p l e R s m args below meth c H1 locs1 (cells + mc) (slots + ms) Q (F0 m (pc + 3) ls (va_rf r :: rest))) : W p l e R s m args below meth c H locs cells slots Q (F0 m pc ls st0) := by
  intro T hT X
  rcases hr T hT X with ⟨v, st₀, t, T', L, h0, X', hL, e1, e2, ⟨⟨r, u, hv, hp, hb⟩, hF⟩, st⟩ | ⟨q, st₀, t, T', L, E, ce, h0, X', hL, e1, e2, ⟨u, hp, hb, hF⟩, hce, hcv, hcl, st⟩
  · cases hv
    obtain ⟨k1, k2, k3⟩ := vx_keep h0 e1 hS hA hf hL hF
    obtain ⟨t2, a1, b1⟩ := kk r u t T'.heap (locs ++ L) e1.symm (by rw [← e2]; exact X'.warmed.alike) hp hb k1 k2 k3 T' rfl X'
    exact ⟨t2, st t2 a1, b1⟩
  · obtain ⟨k1, k2, k3⟩ := vx_keep h0 e1 hS hAX hf hL hF
    obtain ⟨t2, a1, b1⟩ := kx E ce q u t T'.heap (locs ++ L) e1.symm (by rw [← e2]; exact X'.warmed.alike) hp hb k1 k2 k3 (by rw [e1]; exact hce) hcv hcl T' rfl X'
    exact ⟨t2, st.trans a1, b1⟩
end VXQ
section GX7
variable {p : Program} {l : Launch} {e : Env} {R : Room} {s : State} {m : MethodId} {args : Array Value} {below : List Frame} {meth : Method} {c : Code} {H : Heap} {locs : List Loc} {cells slots : Nat} {Q : State → Prop}
variable {cc : ByteArray} {nL : Nat} {ret : Option FieldType} {own mname : String} {pc : Nat} {ls : Array Slot} {rest : List Value} {X : GX} {A : Nat → Prop} {L : List ro} {ad : ro → Nat} {st : ro → va_E} {r : ro}
theorem g_iretX {mc ms : Nat} {post : Int32 → WS → Prop} {XC : String → State → State → Prop} {ty : FieldType} {v : Int32} (C : gCx p s m args meth c cc nL (some ty) own mname X A) (hQ : Q = vx_MQ below (va_Qi post (gB X A) A) XC args s mc ms A) (hW : gW X A L ad st s H) (hS : va_S A s.heap H locs) (hp : post v (L, ad, st)) (hn : narrow ty (.int v) = .int v) (hc : cells ≤ mc) (hs : slots ≤ ms) (hdg : decode cc pc = .ok (.ireturn, 1)) :
    W p l e R s m args below meth c H locs cells slots Q (F0 m pc ls [.int v]) := by
  subst hQ
  exact vx_ret (g_iret C hW hS hp hn hc hs hdg)
theorem g_qretX {mc ms : Nat} {post : Option Nat → WS → Prop} {XC : String → State → State → Prop} {rt : FieldType} {v : Option Nat} (C : gCx p s m args meth c cc nL (some rt) own mname X A) (hrt : (∃ n, rt = .object n) ∨ ∃ t, rt = .array t) (hQ : Q = vx_MQ below (va_Qq post (gB X A) A) XC args s mc ms A) (hW : gW X A L ad st s H) (hS : va_S A s.heap H locs) (hp : post v (L, ad, st)) (hc : cells ≤ mc) (hs : slots ≤ ms) (hdg : decode cc pc = .ok (.areturn, 1)) :
    W p l e R s m args below meth c H locs cells slots Q (F0 m pc ls [va_rf v]) := by
  subst hQ
  exact vx_ret (g_qret2 C hrt rfl hW hS hp hc hs hdg)
theorem g_exat {ik ic : Nat} {cls : String} (C : gCx p s m args meth c cc nL ret own mname X A) (hE : gEx own ik ic cls) : ∀ w ∈ vx_atS own ic cls gExN, w.before args s = true := by
  refine vx_hat (fun w hw => C.1.2.2.2.2 w (hE.2.2.1 w hw)) hE.2.2.2.1 (vx_c (va_Nw.use rfl ((g_gt C).2.2.1 _ hE.2.2.2.2.2)) (fun w hw => ?_))
  obtain ⟨y, hy, rfl⟩ := List.mem_map.mp hw
  exact va_Nw.use rfl ((g_gt C).2.2.2.2.2.2.2 y hy)
theorem g_out {px : String → WS → Prop} {E : String} (hS : va_S A s.heap H locs) (hW : gW X A L ad st s H) (hp : px E (L, ad, st)) : ∀ t : State, s.vm.Alike t.vm → t.heap = H → gXC X A px E s t := fun t hvm ht => ⟨(L, ad, st), trivial, ⟨hp, by unfold gB; rw [ht]; exact hW.moved hvm⟩, hS.F ht⟩
theorem g_throw {px : String → WS → Prop} {Qc : Array Value → State → Outcome → State → Prop} {cls text : String} {ik is ic sa mc ms : Nat} (C : gCx p s m args meth c cc nL ret own mname X A) (hl0 : l.stackTraces = false) (hnx : ∀ x ∈ c.exceptionTable.toList, False) (hQ : Q = vx_MQ below Qc (gXC X A px) args s mc ms A) (hW : gW X A L ad st s H) (hS : va_S A s.heap H locs) (hsz : ls.size = nL) (hE : gEx own ik ic cls) (hstr : (own, is, text, sa) ∈ GTs)
    (d0 : decode cc pc = .ok (.new ik, 3)) (d3 : decode cc (pc + 3) = .ok (.dup, 1)) (d4 : decode cc (pc + 4) = .ok (.ldc is, 2)) (d6 : decode cc (pc + 6) = .ok (.invokespecial ic, 3)) (d9 : decode cc (pc + 9) = .ok (.athrow, 1))
    (hRf : 5 < R.frames) (hRl : (rest.map fun v => v.category).sum + 82 ≤ R.locals) (hRc : cells + 1 ≤ R.cells) (hRs : slots + 6 ≤ R.slots) (hp : px cls (L, ad, st)) (hc : cells + 1 ≤ mc) (hs : slots + 6 ≤ ms) : W p l e R s m args below meth c H locs cells slots Q (F0 m pc ls rest) := by
  subst hQ
  refine vx_throwS (own := own) (names := gExN) (A := A) C.1.1 C.1.2.1 hl0 C.1.2.2.2.1 hE.1.1 hE.1.2 (C.1.2.2.2.2 _ hE.2.1.1) (C.1.2.2.2.2 _ hE.2.1.2) ((g_gt C).1 _ hstr) (g_exat C hE) hE.2.2.2.2.1 (g_sf C).2.2.2.1.1 (g_sf C).2.2.2.1.2 hS (hsz.trans C.1.2.2.1.symm) d0 d3 d4 d6 d9 (fun x hx => (hnx x hx).elim) hRf hRl hRc hRs C.2.2.1 (fun t hvm hz hk => ?_) hS.2.2 hc hs
  refine ⟨(L, ad, st), trivial, ⟨hp, ?_⟩, ⟨Nat.le_trans hS.1 hz, fun q h1 h2 => (hk q (Nat.lt_of_lt_of_le h1 hS.1)).trans (hS.2.1 q h1 h2)⟩⟩
  exact ⟨hW.1.kept (fun k q hq => hk _ (vx_lt hW.1 hq)), va_K.moved hvm hW.2.1, hW.2.2⟩
theorem g_throwW {px : String → WS → Prop} {Qc : Array Value → State → Outcome → State → Prop} {cls text : String} {ik is ic sa mc ms : Nat} (C : gCx p s m args meth c cc nL ret own mname X A) (hl0 : l.stackTraces = false) (hnx : ∀ x ∈ c.exceptionTable.toList, False) (hQ : Q = vx_MQ below Qc (gXC X A px) args s mc ms A) (hW : gW X A L ad st s H) (hS : va_S A s.heap H locs) (hsz : ls.size = nL) (hE : gEx own ik ic cls) (hstr : (own, is, text, sa) ∈ GTs)
    (d0 : decode cc pc = .ok (.new ik, 3)) (d3 : decode cc (pc + 3) = .ok (.dup, 1)) (d4 : decode cc (pc + 4) = .ok (.ldc_w is, 3)) (d6 : decode cc (pc + 7) = .ok (.invokespecial ic, 3)) (d9 : decode cc (pc + 10) = .ok (.athrow, 1))
    (hRf : 5 < R.frames) (hRl : (rest.map fun v => v.category).sum + 82 ≤ R.locals) (hRc : cells + 1 ≤ R.cells) (hRs : slots + 6 ≤ R.slots) (hp : px cls (L, ad, st)) (hc : cells + 1 ≤ mc) (hs : slots + 6 ≤ ms) : W p l e R s m args below meth c H locs cells slots Q (F0 m pc ls rest) := by
  subst hQ
  refine vx_throwSW (own := own) (names := gExN) (A := A) C.1.1 C.1.2.1 hl0 C.1.2.2.2.1 hE.1.1 hE.1.2 (C.1.2.2.2.2 _ hE.2.1.1) (C.1.2.2.2.2 _ hE.2.1.2) ((g_gt C).1 _ hstr) (g_exat C hE) hE.2.2.2.2.1 (g_sf C).2.2.2.1.1 (g_sf C).2.2.2.1.2 hS (hsz.trans C.1.2.2.1.symm) d0 d3 d4 d6 d9 (fun x hx => (hnx x hx).elim) hRf hRl hRc hRs C.2.2.1 (fun t hvm hz hk => ?_) hS.2.2 hc hs
  refine ⟨(L, ad, st), trivial, ⟨hp, ?_⟩, ⟨Nat.le_trans hS.1 hz, fun q h1 h2 => (hk q (Nat.lt_of_lt_of_le h1 hS.1)).trans (hS.2.1 q h1 h2)⟩⟩
  exact ⟨hW.1.kept (fun k q hq => hk _ (vx_lt hW.1 hq)), va_K.moved hvm hW.2.1, hW.2.2⟩
theorem g_callXi {Qc : Array Value → State → Outcome → State → Prop} {mc ms : Nat} {px px1 : String → WS → Prop} {Cn : String} {T : u_T} {N ci index n2 fr2 lc2 mc2 ms2 k2 : Nat} {z : MethodName} {b2 : ByteArray} {ret2 : Option FieldType} {As st0 : List Value} {post : Int32 → WS → Prop} {fs : List Value} (C : gCx p s m args meth c cc nL ret own mname X A) (hnx : ∀ x ∈ c.exceptionTable.toList, False) (hQ : Q = vx_MQ below Qc (gXC X A px) args s mc ms A) (hM : gXi l z b2 n2 ret2 fr2 lc2 mc2 ms2 X (.ref (ad r) :: As) L ad st post px1) (hpx : ∀ E u, px1 E u → px E u)
    (h1 : Cond.methodLink own index z ∈ TB) (h2 : Cond.instanceMethod z ∈ TB) (h3 : Cond.selects Cn z z ∈ TB) (h4 : Cond.initialized Cn ∈ TB) (h5 : Cond.code z b2 n2 ret2 ∈ TB) (hd : z.cls = Cn ∧ z.cls ≠ "java/lang/invoke/MethodHandle" ∧ z.cls ≠ "java/lang/invoke/VarHandle" ∧ (parseMethodDescriptor z.desc).map (fun d => d.parameters.length) = some k2) (hR : fr2 + 1 ≤ R.frames ∧ 8 + (n2 + 11) + lc2 ≤ R.locals)
    (hW : gW X A L ad st s H) (hS : va_S A s.heap H locs) (hr : r ∈ L) (he : st r = .inr (ci, fs)) (hci : vwCl[ci]? = some (Cn, T, N)) (hk : As.length = k2) (hsz : ls.size = nL) (hst : st0 = As.reverse ++ .ref (ad r) :: rest) (hcat : (rest.map fun v => v.category).sum ≤ 8) (hdg : decode cc pc = .ok (.invokevirtual index, 3)) (hcs : cells + mc2 ≤ R.cells ∧ slots + ms2 ≤ R.slots) (hcm : cells + mc2 ≤ mc ∧ slots + ms2 ≤ ms)
    (kk : ∀ (v : Int32) (L' : List ro) (ad' : ro → Nat) (st' : ro → va_E) (H1 : Heap) (locs1 : List Loc), post v (L', ad', st') → gW X A L' ad' st' s H1 → va_S A s.heap H1 locs1 → W p l e R s m args below meth c H1 locs1 (cells + mc2) (slots + ms2) Q (F0 m (pc + 3) ls (.int v :: rest))) : W p l e R s m args below meth c H locs cells slots Q (F0 m pc ls st0) := by
  obtain ⟨q0, -, h0⟩ := rw_get (ad := ad) (st := st) hr
  rw [he] at h0
  have hf := g_free C hW hS
  refine vx_calli (vx_runV (As := As) (rest := rest) C.1 (hM H.size) (tcV C.1.2.2.2.2 h1 h2 h3 h4 h5 rfl rfl hd hR) ⟨gPre_blind, va_recv hW.2.1 hW.1 hci h0, g_pre C hW hS⟩ rfl hk hsz hst (lv_room hcat) hdg hcs) hS (fun q _ h => hf q h) hf (fun q _ h => hf q h) (fun E ce q9 u t H1 locs1 ht hvm _ hB _ _ hS1 hce hcv hcl => ?_) (fun v u t H1 locs1 ht hvm hp hB _ _ hS1 => kk v u.1 u.2.1 u.2.2 H1 locs1 hp (g_back hf ht hvm hB) hS1)
  subst hQ
  exact vx_out (fun x hx => (hnx x hx).elim) C.2.2.1 hce hcv hcl (fun t2 ht2 hvm2 => g_out (L := u.1) (ad := u.2.1) (st := u.2.2) hS1 (g_back hf ht hvm hB.2) (hpx _ _ hB.1) t2 hvm2 ht2) hS1.2.2 hcm.1 hcm.2
theorem g_callXq {Qc : Array Value → State → Outcome → State → Prop} {mc ms : Nat} {px px1 : String → WS → Prop} {Cn : String} {T : u_T} {N ci index n2 fr2 lc2 mc2 ms2 k2 : Nat} {z : MethodName} {b2 : ByteArray} {ret2 : Option FieldType} {As st0 : List Value} {post : Option Nat → WS → Prop} {fs : List Value} (C : gCx p s m args meth c cc nL ret own mname X A) (hnx : ∀ x ∈ c.exceptionTable.toList, False) (hQ : Q = vx_MQ below Qc (gXC X A px) args s mc ms A) (hM : gXq l z b2 n2 ret2 fr2 lc2 mc2 ms2 X (.ref (ad r) :: As) L ad st post px1) (hpx : ∀ E u, px1 E u → px E u)
    (h1 : Cond.methodLink own index z ∈ TB) (h2 : Cond.instanceMethod z ∈ TB) (h3 : Cond.selects Cn z z ∈ TB) (h4 : Cond.initialized Cn ∈ TB) (h5 : Cond.code z b2 n2 ret2 ∈ TB) (hd : z.cls = Cn ∧ z.cls ≠ "java/lang/invoke/MethodHandle" ∧ z.cls ≠ "java/lang/invoke/VarHandle" ∧ (parseMethodDescriptor z.desc).map (fun d => d.parameters.length) = some k2) (hR : fr2 + 1 ≤ R.frames ∧ 8 + (n2 + 11) + lc2 ≤ R.locals)
    (hW : gW X A L ad st s H) (hS : va_S A s.heap H locs) (hr : r ∈ L) (he : st r = .inr (ci, fs)) (hci : vwCl[ci]? = some (Cn, T, N)) (hk : As.length = k2) (hsz : ls.size = nL) (hst : st0 = As.reverse ++ .ref (ad r) :: rest) (hcat : (rest.map fun v => v.category).sum ≤ 8) (hdg : decode cc pc = .ok (.invokevirtual index, 3)) (hcs : cells + mc2 ≤ R.cells ∧ slots + ms2 ≤ R.slots) (hcm : cells + mc2 ≤ mc ∧ slots + ms2 ≤ ms)
    (kk : ∀ (v : Option Nat) (L' : List ro) (ad' : ro → Nat) (st' : ro → va_E) (H1 : Heap) (locs1 : List Loc), post v (L', ad', st') → gW X A L' ad' st' s H1 → va_S A s.heap H1 locs1 → W p l e R s m args below meth c H1 locs1 (cells + mc2) (slots + ms2) Q (F0 m (pc + 3) ls (va_rf v :: rest))) : W p l e R s m args below meth c H locs cells slots Q (F0 m pc ls st0) := by
  obtain ⟨q0, -, h0⟩ := rw_get (ad := ad) (st := st) hr
  rw [he] at h0
  have hf := g_free C hW hS
  refine vx_callq (vx_runV (As := As) (rest := rest) C.1 (hM H.size) (tcV C.1.2.2.2.2 h1 h2 h3 h4 h5 rfl rfl hd hR) ⟨gPre_blind, va_recv hW.2.1 hW.1 hci h0, g_pre C hW hS⟩ rfl hk hsz hst (lv_room hcat) hdg hcs) hS (fun q _ h => hf q h) hf (fun q _ h => hf q h) (fun E ce q9 u t H1 locs1 ht hvm _ hB _ _ hS1 hce hcv hcl => ?_) (fun v u t H1 locs1 ht hvm hp hB _ _ hS1 => kk v u.1 u.2.1 u.2.2 H1 locs1 hp (g_back hf ht hvm hB) hS1)
  subst hQ
  exact vx_out (fun x hx => (hnx x hx).elim) C.2.2.1 hce hcv hcl (fun t2 ht2 hvm2 => g_out (L := u.1) (ad := u.2.1) (st := u.2.2) hS1 (g_back hf ht hvm hB.2) (hpx _ _ hB.1) t2 hvm2 ht2) hS1.2.2 hcm.1 hcm.2
end GX7
