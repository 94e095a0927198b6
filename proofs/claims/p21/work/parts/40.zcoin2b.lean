/-! nothing is paid by no coin -/
theorem zpc_0 {C : Nat → Prop} {mm : Nat} : ∀ t, zpc C mm t 0
  | 0 => rfl
  | t + 1 => Or.inl (zpc_0 t)
theorem zcp_00 {C : Nat → Prop} {mm t : Nat} {L : Nat → Int} (h : zcp C mm t L) : L 0 ≤ 0 := by
  have := h 0 (zpc_0 t)
  rwa [Nat.zero_mod] at this
