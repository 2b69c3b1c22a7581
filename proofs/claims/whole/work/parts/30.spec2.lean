theorem gW_congr {X : GX} {A : Nat → Prop} {L : List ro} {ad : ro → Nat} {st st2 : ro → va_E} {s : State} {H : Heap} (h : ∀ r, r ∈ L → st r = st2 r) (hW : gW X A L ad st s H) : gW X A L ad st2 s H := by
  have e : rwW L ad st2 = rwW L ad st := by
    unfold rwW
    exact List.map_congr_left (fun r hr => by rw [h r hr])
  unfold gW at hW ⊢
  rw [e]
  exact hW
theorem oi_link : Cond.methodLink RX8 1 objectInit ∈ TB := tB_of (by decide +kernel) (by decide +kernel)
theorem oi_inst : Cond.instanceMethod objectInit ∈ TB := tB_of (by decide +kernel) (by decide +kernel)
theorem oi_code : Cond.code objectInit ⟨#[0xb1]⟩ 1 none ∈ TB := tB_of (by decide +kernel) (by decide +kernel)
theorem rowu_zero {fa : Nat → Nat → Int32} {k : Nat} (h : fa k = fun _ => 0) : rowu fa k (fun _ => 0) = fa := by
  funext a
  by_cases e : a = k
  · subst e; simp [rowu, h]
  · simp [rowu, e]
