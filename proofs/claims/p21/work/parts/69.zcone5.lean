theorem zcone_sg {x y v w fx fy lx ly : Int} (h1 : x = ((Nat.gcd x.natAbs y.natAbs : Nat) : Int) * fx ∧ y = ((Nat.gcd x.natAbs y.natAbs : Nat) : Int) * fy ∧ 0 < Nat.gcd x.natAbs y.natAbs) (h2 : v = ((Nat.gcd v.natAbs w.natAbs : Nat) : Int) * lx ∧ w = ((Nat.gcd v.natAbs w.natAbs : Nat) : Int) * ly ∧ 0 < Nat.gcd v.natAbs w.natAbs) (hne : x * w ≠ y * v) {sg : Int} (hs : sg = 1 ∧ y * v < x * w ∨ sg = -1 ∧ ¬ y * v < x * w) :
    zcone x y v w fx fy lx ly sg (zabs (fx * ly - fy * lx)) ∧ 0 < zabs (fx * ly - fy * lx) := by
  have c := zcone_cross h1.1 h1.2.1 h2.1 h2.2.1
  have g : (0 : Int) < ((Nat.gcd x.natAbs y.natAbs : Nat) : Int) * ((Nat.gcd v.natAbs w.natAbs : Nat) : Int) := Int.mul_pos (by have := h1.2.2; omega) (by have := h2.2.2; omega)
  have ne : fx * ly - fy * lx ≠ 0 := (zcone_ne h1.1 h1.2.1 h2.1 h2.2.1 (by have := h1.2.2; omega) (by have := h2.2.2; omega)).mp (by omega)
  refine ⟨⟨h1, h2, ?_, rfl⟩, by unfold zabs; split <;> omega⟩
  by_cases q : fx * ly - fy * lx < 0
  · rw [if_pos q]
    have := Int.mul_neg_of_pos_of_neg g q
    omega
  · rw [if_neg q]
    have := Int.mul_pos g (show 0 < fx * ly - fy * lx by omega)
    omega
theorem zcone_ar {x y v w fx fy lx ly tn ar : Int} (h : zcone x y v w fx fy lx ly tn ar) (h1 : -20 ≤ fx ∧ fx ≤ 20) (h2 : -20 ≤ fy ∧ fy ≤ 20) (h3 : -20 ≤ lx ∧ lx ≤ 20) (h4 : -20 ≤ ly ∧ ly ≤ 20) : ar ≤ 800 := by
  have m1 := zmulb h1.1 h1.2 h4.1 h4.2
  have m2 := zmulb h2.1 h2.2 h3.1 h3.2
  rw [h.2.2.2]
  unfold zabs
  split <;> omega
/-- what generates leaves: the arrays, how many; t the one behind the first -/
def zgenA (tn fx fy lx ly : Int) (X Y : Nat → Int) (k : Nat) : Prop :=
  ∃ a b, zsnd tn fx fy lx ly a b ∧ (∀ j, j ≤ k → zhj tn lx ly fx fy a b j = (X j, Y j, X (j + 1), Y (j + 1))) ∧ zpos tn lx ly fx fy a b k ∧ zFL tn lx ly (X (k + 1)) (Y (k + 1)) = 0
theorem zgn_s {tn lx ly fx fy a b : Int} {X Y : Nat → Int} {k : Nat} {u v : Int} (h : ∀ j, j ≤ k → zhj tn lx ly fx fy a b j = (X j, Y j, X (j + 1), Y (j + 1))) (hq : 0 < zFL tn lx ly (X (k + 1)) (Y (k + 1))) (hp : 0 ≤ zFL tn lx ly (X k) (Y k))
    (hu : u = (zFL tn lx ly (X k) (Y k) + zFL tn lx ly (X (k + 1)) (Y (k + 1)) - 1).tdiv (zFL tn lx ly (X (k + 1)) (Y (k + 1))) * X (k + 1) - X k) (hv : v = (zFL tn lx ly (X k) (Y k) + zFL tn lx ly (X (k + 1)) (Y (k + 1)) - 1).tdiv (zFL tn lx ly (X (k + 1)) (Y (k + 1))) * Y (k + 1) - Y k) :
    ∀ j, j ≤ k + 1 → zhj tn lx ly fx fy a b j = (zU X (k + 2) u j, zU Y (k + 2) v j, zU X (k + 2) u (j + 1), zU Y (k + 2) v (j + 1)) := by
  intro j hj
  by_cases e : j = k + 1
  · rw [e, zU_ne (by omega), zU_ne (by omega), zU_same, zU_same]
    show zhs tn lx ly (zhj tn lx ly fx fy a b k) = _
    rw [h k (Nat.le_refl _), hu, hv, zceil2 hq hp]
    rfl
  · rw [zU_ne (by omega), zU_ne (by omega), zU_ne (by omega), zU_ne (by omega)]
    exact h j (by omega)
theorem zgn_p {tn lx ly fx fy a b : Int} {X Y : Nat → Int} {k : Nat} (h : ∀ j, j ≤ k → zhj tn lx ly fx fy a b j = (X j, Y j, X (j + 1), Y (j + 1))) (hp : zpos tn lx ly fx fy a b k) (hq : 0 < zFL tn lx ly (X (k + 1)) (Y (k + 1))) : zpos tn lx ly fx fy a b (k + 1) :=
  zpos_s hp (by rw [h k (Nat.le_refl _)]; exact hq)
theorem zgn_c {tn fx fy lx ly ar u v : Int} {X Y : Nat → Int} {k : Nat} (h : zchn tn fx fy lx ly ar (X k) (Y k) (X (k + 1)) (Y (k + 1)) k) (hq : 0 < zFL tn lx ly (X (k + 1)) (Y (k + 1)))
    (hu : u = (zFL tn lx ly (X k) (Y k) + zFL tn lx ly (X (k + 1)) (Y (k + 1)) - 1).tdiv (zFL tn lx ly (X (k + 1)) (Y (k + 1))) * X (k + 1) - X k) (hv : v = (zFL tn lx ly (X k) (Y k) + zFL tn lx ly (X (k + 1)) (Y (k + 1)) - 1).tdiv (zFL tn lx ly (X (k + 1)) (Y (k + 1))) * Y (k + 1) - Y k) :
    zchn tn fx fy lx ly ar (zU X (k + 2) u (k + 1)) (zU Y (k + 2) v (k + 1)) (zU X (k + 2) u (k + 1 + 1)) (zU Y (k + 2) v (k + 1 + 1)) (k + 1) := by
  rw [zU_ne (by omega), zU_ne (by omega), zU_same, zU_same, hu, hv, zceil2 hq (by have := h.2.2.2.2.1; omega)]
  exact zchn_s h hq rfl
/-- the second: one that was found, or none so far -/
theorem zsf_s {tn fx fy lx ly a b nx u v : Int} {P P2 : Int → Int → Prop} {X Y : Nat → Int} (h : zsnd tn fx fy lx ly (X 1) (Y 1) ∨ ∀ i j, P i j → ¬ zsnd tn fx fy lx ly i j) (hP : ∀ i j, P2 i j ↔ P i j ∨ (i = a ∧ j = b)) (hn : nx = zb (zsnd tn fx fy lx ly a b)) (hu : ¬ nx = 0 ∧ u = a ∨ nx = 0 ∧ u = X 1) (hv : ¬ nx = 0 ∧ v = b ∨ nx = 0 ∧ v = Y 1) : zsnd tn fx fy lx ly (zU X 1 u 1) (zU Y 1 v 1) ∨ ∀ i j, P2 i j → ¬ zsnd tn fx fy lx ly i j := by
  rw [zU_same, zU_same]
  by_cases c : zsnd tn fx fy lx ly a b
  · rw [zb_t c] at hn
    have e1 : u = a := by omega
    have e2 : v = b := by omega
    rw [e1, e2]; exact Or.inl c
  · rw [zb_f c] at hn
    have e1 : u = X 1 := by omega
    have e2 : v = Y 1 := by omega
    rw [e1, e2]
    rcases h with h | h
    · exact Or.inl h
    · refine Or.inr (fun i j q => ?_)
      rcases (hP i j).mp q with r | ⟨rfl, rfl⟩
      · exact h i j r
      · exact c
