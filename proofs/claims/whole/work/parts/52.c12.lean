theorem dgt {x : Int32} (h1 : 48 ≤ x) (h2 : x ≤ 57) : ¬ x - 48 = -1 ∧ 0 ≤ x - 48 := by
  rw [Int32.le_iff_toInt_le] at h1 h2
  have e0 : (48 : Int32).toInt = 48 := rfl
  have e1 : (57 : Int32).toInt = 57 := rfl
  have hq : x.toInt.toNat < 61 := by omega
  have he : x = Int32.ofNat x.toInt.toNat := by
    apply Int32.toInt_inj.mp
    rw [Int32.toInt_ofNat_of_lt (by omega)]
    omega
  have key : ∀ q : Fin 61, 48 ≤ q.1 → ¬ Int32.ofNat q.1 - 48 = -1 ∧ 0 ≤ Int32.ofNat q.1 - 48 := by decide +kernel
  have k9 := key ⟨x.toInt.toNat, hq⟩ (show 48 ≤ x.toInt.toNat by omega)
  rw [he]
  exact k9
theorem rdgV {t : Nat → Int32} {a b : Nat} {key : Int32} (hk : ¬ key = 5) (hk4 : ¬ key = 4) : rdgC t a b (rd_hi key) = rdVal t key a b := by
  unfold rdVal rdgC
  rw [if_neg hk]
  simp only [if_neg hk4, rd_lo]
  by_cases hb : b = a + 1
  · subst hb
    have hN : rd_nm t a (a + 1) 1 = if 48 ≤ t a ∧ t a ≤ 57 then t a - 48 else -1 := by
      unfold rd_nm
      rw [if_pos ⟨by omega, by omega⟩, show a + 1 - a = 1 by omega]
      simp only [rd_num]
      split
      · grind
      · rfl
    rw [hN]
    by_cases hd : 48 ≤ t a ∧ t a ≤ 57
    · have h9 := dgt hd.1 hd.2
      rw [if_pos hd]
      grind
    · rw [if_neg hd]
      grind
  · have hN : rd_nm t a b 1 = -1 := by
      unfold rd_nm
      rw [if_neg (by omega)]
    rw [hN]
    grind
theorem rdwV {t : Nat → Int32} {a b : Nat} : rdwC t a b = rdVal t 4 a b := by
  unfold rdVal rdwC
  rw [if_neg (show ¬ (4 : Int32) = 5 by decide), show rd_lo 4 = 1 by decide, show rd_hi 4 = 30000 by decide, show (if (4 : Int32) = 4 then 5 else 1) = 5 from rfl]
  by_cases h : a < b ∧ b - a ≤ 5
  · have hN : rd_nm t a b 5 = rd_num t (b - a) a 0 := by
      unfold rd_nm
      rw [if_pos h]
    rw [hN]
    grind
  · have hN : rd_nm t a b 5 = -1 := by
      unfold rd_nm
      rw [if_neg h]
    rw [hN]
    grind
theorem rdvV {t : Nat → Int32} {kk a b : Nat} (hk : kk < 6) : rdvC t kk a b = rdVal t (nI kk) a b := by
  rcases (show kk = 0 ∨ kk = 1 ∨ kk = 2 ∨ kk = 3 ∨ kk = 4 ∨ kk = 5 by omega) with e | e | e | e | e | e <;> subst e
  · exact rdgV (key := 0) (by decide) (by decide)
  · exact rdgV (key := 1) (by decide) (by decide)
  · exact rdgV (key := 2) (by decide) (by decide)
  · exact rdgV (key := 3) (by decide) (by decide)
  · exact rdwV
  · show rdxC t a b = rdVal t 5 a b
    unfold rdVal rdxC
    rw [if_pos (show (5 : Int32) = 5 from rfl)]
section SVW
variable {p : Program} {l : Launch} {e : Env} {R : Room} {s : State} {m : MethodId} {args : Array Value} {below : List Frame} {meth : Method} {c : Code} {H : Heap} {locs : List Loc} {cells slots : Nat} {Q : State → Prop}
variable {cc : ByteArray} {nL : Nat} {ret : Option FieldType} {own mname : String} {pc : Nat} {ls : Array Slot} {rest : List Value} {X : GX} {A : Nat → Prop} {L : List ro} {ad : ro → Nat} {st : ro → va_E}
/-- a static method without answer -/
theorem g_callSv {index n2 fr2 lc2 mc2 ms2 k2 : Nat} {z : MethodName} {b2 : ByteArray} {ret2 : Option FieldType} {As st0 : List Value} {post : WS → Prop} (C : gCx p s m args meth c cc nL ret own mname X A) (hM : gMv l z b2 n2 ret2 fr2 lc2 mc2 ms2 X As L ad st post)
    (h1 : Cond.methodLink own index z ∈ TB) (h2 : Cond.static z ∈ TB) (h4 : Cond.initialized z.cls ∈ TB) (h5 : Cond.code z b2 n2 ret2 ∈ TB) (hd : z.cls ≠ "java/lang/invoke/MethodHandle" ∧ z.cls ≠ "java/lang/invoke/VarHandle" ∧ (parseMethodDescriptor z.desc).map (fun d => d.parameters.length) = some k2) (hR : fr2 + 1 ≤ R.frames ∧ 8 + (n2 + 11) + lc2 ≤ R.locals)
    (hW : gW X A L ad st s H) (hS : va_S A s.heap H locs) (hk : As.length = k2) (hsz : ls.size = nL) (hst : st0 = As.reverse ++ rest) (hcat : (rest.map fun v => v.category).sum ≤ 8) (hdg : decode cc pc = .ok (.invokestatic index, 3)) (hcs : cells + mc2 ≤ R.cells ∧ slots + ms2 ≤ R.slots)
    (kk : ∀ (L' : List ro) (ad' : ro → Nat) (st' : ro → va_E) (H1 : Heap) (locs1 : List Loc), post (L', ad', st') → gW X A L' ad' st' s H1 → va_S A s.heap H1 locs1 → W p l e R s m args below meth c H1 locs1 (cells + mc2) (slots + ms2) Q (F0 m (pc + 3) ls rest)) : W p l e R s m args below meth c H locs cells slots Q (F0 m pc ls st0) := by
  have hf := g_free C hW hS
  exact va_callv (va_runS (As := As) (rest := rest) C.1 (hM H.size) (tcS C.1.2.2.2.2 h1 h2 h4 h5 rfl rfl hd hR) ⟨gPre_blind, g_pre C hW hS⟩ rfl hk hsz hst (lv_room hcat) hdg hcs) hS (fun q _ h => hf q h) hf (fun u t H1 locs1 ht hvm hp hB _ _ hS1 => kk u.1 u.2.1 u.2.2 H1 locs1 hp (g_back hf ht hvm hB) hS1)
end SVW

