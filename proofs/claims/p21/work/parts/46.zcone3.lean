theorem zsecY_b {fx fy tn X : Int} (ht : tn = -1 ∨ tn = 1) (hx : -20 ≤ fx ∧ fx ≤ 20) (hy : -20 ≤ fy ∧ fy ≤ 20) (hX : -20 ≤ X ∧ X ≤ 20) : -401 ≤ zsecY fx fy tn X ∧ zsecY fx fy tn X ≤ 401 := by
  unfold zsecY
  split
  · omega
  · have m := zmulb hy.1 hy.2 hX.1 hX.2
    exact ztdivb (by omega) (by omega)
theorem zFL_b {tn lx ly x y : Int} (ht : tn = -1 ∨ tn = 1) (ha : -20 ≤ lx ∧ lx ≤ 20) (hb : -20 ≤ ly ∧ ly ≤ 20) (hx : -20 ≤ x ∧ x ≤ 20) (hy : -401 ≤ y ∧ y ≤ 401) : -9000 ≤ zFL tn lx ly x y ∧ zFL tn lx ly x y ≤ 9000 := by
  have h3 := zmulb hx.1 hx.2 hb.1 hb.2
  have h4 := zmulb hy.1 hy.2 ha.1 ha.2
  unfold zFL
  rcases ht with rfl | rfl <;> omega
theorem zmodT (z : Int) {a : Int} (h : 0 < a) : 0 ≤ z - z / a * a ∧ z - z / a * a < a := by
  have h1 := Int.mul_ediv_add_emod z a
  have h2 := Int.emod_nonneg z (show a ≠ 0 by omega)
  have h3 := Int.emod_lt_of_pos z h
  rw [Int.mul_comm (z / a) a]
  omega
theorem zI_01 (P : Prop) : zI (zb P) = zI 0 ∨ zI (zb P) = zI 1 := by
  rcases zb_01 P with h | h
  · exact Or.inl (congrArg zI h)
  · exact Or.inr (congrArg zI h)
