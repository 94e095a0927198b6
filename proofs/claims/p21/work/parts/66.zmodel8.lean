theorem zgp_p {C : Nat → Prop} {s : Nat} {n : Int} (h : n = ((zcn (fun t => ¬ zpay C t) s : Nat) : Int)) (hp : zpay C s) : n = ((zcn (fun t => ¬ zpay C t) (s + 1) : Nat) : Int) := zcn_same h hp
def zcnm (x y v w : Int) : Prop := (-20 ≤ x ∧ x ≤ 20) ∧ (-20 ≤ y ∧ y ≤ 20) ∧ (-20 ≤ v ∧ v ≤ 20) ∧ (-20 ≤ w ∧ w ≤ 20) ∧ x * w ≠ y * v
def zg2 (x y : Int) : Int := ((Nat.gcd x.natAbs y.natAbs : Nat) : Int)
def zindR (x y v w r t1 : Int) : Prop := t1 = 1 ∧ ¬ zcnm x y v w ∨ t1 = 0 ∧ zcnm x y v w ∧ r = zabs ((x * w - y * v).tdiv (zg2 x y * zg2 v w))
theorem zg2_pos {x y : Int} (h : x ≠ 0 ∨ y ≠ 0) : 0 < zg2 x y := by
  unfold zg2
  have : 0 < Nat.gcd x.natAbs y.natAbs := by
    rcases h with h | h
    · exact Nat.gcd_pos_of_pos_left _ (by omega)
    · exact Nat.gcd_pos_of_pos_right _ (by omega)
  omega
theorem zg2_le {x y : Int} (h : x ≠ 0 ∨ y ≠ 0) (hx : -20 ≤ x ∧ x ≤ 20) (hy : -20 ≤ y ∧ y ≤ 20) : zg2 x y ≤ 20 := by
  unfold zg2
  rcases h with h | h
  · have := Nat.le_of_dvd (show 0 < x.natAbs by omega) (Nat.gcd_dvd_left x.natAbs y.natAbs); omega
  · have := Nat.le_of_dvd (show 0 < y.natAbs by omega) (Nat.gcd_dvd_right x.natAbs y.natAbs); omega
theorem zcnm_nz {x y v w : Int} (h : zcnm x y v w) : (x ≠ 0 ∨ y ≠ 0) ∧ (v ≠ 0 ∨ w ≠ 0) := by
  have e := h.2.2.2.2
  constructor
  · by_cases a : x = 0
    · by_cases b : y = 0
      · rw [a, b, Int.zero_mul, Int.zero_mul] at e; exact absurd rfl e
      · exact Or.inr b
    · exact Or.inl a
  · by_cases a : v = 0
    · by_cases b : w = 0
      · rw [a, b, Int.mul_zero, Int.mul_zero] at e; exact absurd rfl e
      · exact Or.inr b
    · exact Or.inl a
theorem zts_up {a nx r n0 n i : Int} {m : Nat} (hi : i = (m : Int)) {j : Int} (h0 : r < 0 ∨ n0 = zts a nx r m) (h : r < 0 ∨ n = n0 + zmax 0 (j - zmax 0 (a - i - r))) (hj : j = zmin nx (a - i) + 1) : r < 0 ∨ n = zts a nx r (m + 1) := by
  rcases h with h | h
  · exact Or.inl h
  · rcases h0 with h0 | h0
    · exact Or.inl h0
    · refine Or.inr ?_
      show n = zts a nx r m + zmax 0 (zmin nx (a - (m : Int)) - zmax 0 (a - (m : Int) - r) + 1)
      rw [h, h0, hj, hi]
      congr 2
      omega
