/-! a place is bounded: each of its points lies between meetings of edges that are of it -/
theorem zargmin (s w : Nat → Int) : ∀ k : Nat, (∀ j, j < k → 0 ≤ s j) → (∃ j, j < k ∧ 0 < w j) → ∃ i, i < k ∧ 0 < w i ∧ ∀ j, j < k → 0 < w j → s i * w j ≤ s j * w i := by
  intro k
  induction k with
  | zero => rintro _ ⟨j, h, _⟩; exact absurd h (Nat.not_lt_zero _)
  | succ k ih =>
    intro hs he
    by_cases q : ∃ j, j < k ∧ 0 < w j
    · obtain ⟨i, h1, h2, h3⟩ := ih (fun j hj => hs j (by omega)) q
      by_cases c : 0 < w k ∧ s k * w i < s i * w k
      · refine ⟨k, by omega, c.1, fun j hj hw => ?_⟩
        by_cases e : j = k
        · rw [e]; exact Int.le_refl _
        · have a := h3 j (by omega) hw
          refine Int.le_of_mul_le_mul_left (a := w i) ?_ h2
          have b1 := Int.mul_le_mul_of_nonneg_right (Int.le_of_lt c.2) (Int.le_of_lt hw)
          have b2 := Int.mul_le_mul_of_nonneg_right a (Int.le_of_lt c.1)
          have e1 : w i * (s k * w j) = s k * w i * w j := by grind
          have e2 : w i * (s j * w k) = s j * w i * w k := by grind
          have e3 : s i * w k * w j = s i * w j * w k := by grind
          rw [e1, e2]; omega
      · refine ⟨i, by omega, h2, fun j hj hw => ?_⟩
        by_cases e : j = k
        · subst e
          exact Int.not_lt.mp (fun z => c ⟨hw, z⟩)
        · exact h3 j (by omega) hw
    · obtain ⟨j, h1, h2⟩ := he
      have e : j = k := Classical.byContradiction fun z => q ⟨j, by omega, h2⟩
      subst e
      refine ⟨j, by omega, h2, fun i hi hw => ?_⟩
      by_cases e : i = j
      · rw [e]; exact Int.le_refl _
      · exact absurd ⟨i, by omega, hw⟩ q
/-- from a point on in a direction, to the first edge -/
theorem zray {A B M : Nat → Int} {k : Nat} {X Y D u v : Int} (hD : 0 < D) (hf : ∀ j, j < k → A j * X + B j * Y ≤ M j * D) (hu : ¬ zst A B k u v) :
    ∃ i s w, i < k ∧ 0 ≤ s ∧ 0 < w ∧ s = M i * D - (A i * X + B i * Y) ∧ w = A i * u + B i * v ∧ (∀ j, j < k → A j * (X * w + s * u) + B j * (Y * w + s * v) ≤ M j * (D * w)) ∧ A i * (X * w + s * u) + B i * (Y * w + s * v) = M i * (D * w) := by
  have he : ∃ j, j < k ∧ 0 < A j * u + B j * v := Classical.byContradiction fun z => hu (fun j hj => Int.not_lt.mp fun q => z ⟨j, hj, q⟩)
  obtain ⟨i, h1, h2, h3⟩ := zargmin (fun j => M j * D - (A j * X + B j * Y)) (fun j => A j * u + B j * v) k (fun j hj => by have := hf j hj; show 0 ≤ M j * D - (A j * X + B j * Y); omega) he
  refine ⟨i, M i * D - (A i * X + B i * Y), A i * u + B i * v, h1, by have := hf i h1; omega, h2, rfl, rfl, fun j hj => ?_, by grind⟩
  have k1 : (M i * D - (A i * X + B i * Y)) * (A j * u + B j * v) ≤ (M j * D - (A j * X + B j * Y)) * (A i * u + B i * v) := by
    by_cases c : 0 < A j * u + B j * v
    · exact h3 j hj c
    · have a1 := hf j hj
      have a2 := hf i h1
      have m1 := Int.mul_nonneg (show 0 ≤ M i * D - (A i * X + B i * Y) by omega) (show 0 ≤ -(A j * u + B j * v) by omega)
      have m2 := Int.mul_nonneg (show 0 ≤ M j * D - (A j * X + B j * Y) by omega) (Int.le_of_lt h2)
      rw [Int.mul_neg] at m1
      have h2' : (0 : Int) < A i * u + B i * v := h2
      omega
  have e : A j * (X * (A i * u + B i * v) + (M i * D - (A i * X + B i * Y)) * u) + B j * (Y * (A i * u + B i * v) + (M i * D - (A i * X + B i * Y)) * v) = M j * (D * (A i * u + B i * v)) - (M j * D - (A j * X + B j * Y)) * (A i * u + B i * v) + (M i * D - (A i * X + B i * Y)) * (A j * u + B j * v) := by grind
  rw [e]
  omega
theorem zsn1 {p q t d : Int} (h : p * d = q * t) (ht : t ≤ 0) (hs : 0 < p ∧ 0 < q ∨ p < 0 ∧ q < 0) : d ≤ 0 := by
  rcases Int.lt_or_le 0 d with g | g
  · rcases hs with ⟨a, b⟩ | ⟨a, b⟩
    · have m1 := Int.mul_pos a g
      have m2 := Int.mul_nonneg (Int.le_of_lt b) (show 0 ≤ -t by omega)
      rw [Int.mul_neg] at m2; omega
    · have m1 := Int.mul_pos (show 0 < -p by omega) g
      have m2 := Int.mul_nonneg (show 0 ≤ -q by omega) (show 0 ≤ -t by omega)
      rw [Int.neg_mul] at m1; rw [Int.neg_mul_neg] at m2; omega
  · exact g
theorem zsn2 {p q t d : Int} (h : p * d = q * t) (ht : t ≤ 0) (hs : 0 < p ∧ q < 0 ∨ p < 0 ∧ 0 < q) : 0 ≤ d := by
  have := zsn1 (p := p) (q := -q) (t := t) (d := -d) (by rw [Int.mul_neg, h, Int.neg_mul]) ht (by omega)
  omega
/-- no step but that of 0 and 0 keeps to all inequalities of a place -/
theorem zdir {A B : Nat → Int} {k : Nat} (hp : zpl A B k) (hz : ∀ i, i < k → ¬ (A i = 0 ∧ B i = 0)) {u v : Int} (h : zst A B k u v) : u = 0 ∧ v = 0 := by
  have h0 := hp.2 0 hp.1
  obtain ⟨i, s, w, a1, a2, a3, a4, a5, a6, a7⟩ := zray (M := fun _ => 0) (X := u) (Y := v) (D := 1) (by decide) (fun j hj => by have := h j hj; omega) h0.1
  have a6' : ∀ j, j < k → A j * (u * w + s * B 0) + B j * (v * w + s * -A 0) ≤ 0 := fun j hj => by have := a6 j hj; rw [Int.zero_mul] at this; exact this
  have a7' : A i * (u * w + s * B 0) + B i * (v * w + s * -A 0) = 0 := by rw [a7, Int.zero_mul]
  generalize hX : u * w + s * B 0 = X at a6' a7'
  generalize hY : v * w + s * -A 0 = Y at a6' a7'
  have dX : ∀ j, X * (A j * B i + B j * -A i) = B i * (A j * X + B j * Y) := fun j => by
    have : B j * (A i * X + B i * Y) = 0 := by rw [a7', Int.mul_zero]
    grind
  have dY : ∀ j, Y * (A j * B i + B j * -A i) = (-A i) * (A j * X + B j * Y) := fun j => by
    have : A j * (A i * X + B i * Y) = 0 := by rw [a7', Int.mul_zero]
    grind
  have hn := hp.2 i a1
  have hzi := hz i a1
  have no1 : (∀ j, j < k → A j * B i + B j * -A i ≤ 0) → False := fun q => hn.1 q
  have no2 : (∀ j, j < k → 0 ≤ A j * B i + B j * -A i) → False := fun q => hn.2 (fun j hj => by
    have := q j hj
    have e : A j * -B i + B j * A i = -(A j * B i + B j * -A i) := by grind
    rw [e]; omega)
  by_cases cX : X = 0
  · by_cases cY : Y = 0
    · by_cases cs : s = 0
      · rw [cs, Int.zero_mul, Int.add_zero, cX] at hX
        rw [cs, Int.zero_mul, Int.add_zero, cY] at hY
        have p1 := Int.mul_eq_zero.mp hX
        have p2 := Int.mul_eq_zero.mp hY
        omega
      · refine absurd (fun j hj => ?_ : zst A B k (-B 0) (A 0)) h0.2
        have e : s * (A j * -B 0 + B j * A 0) = w * (A j * u + B j * v) := by
          have e1 : u * w = -(s * B 0) := by omega
          have e2 : v * w = -(s * -A 0) := by omega
          have : w * (A j * u + B j * v) = A j * (u * w) + B j * (v * w) := by grind
          rw [this, e1, e2]; grind
        exact zsn1 e (h j hj) (Or.inl ⟨by omega, a3⟩)
    · rw [cX, Int.mul_zero, Int.zero_add] at a7'
      have bi : B i = 0 := by rcases Int.mul_eq_zero.mp a7' with q | q; exact q; exact absurd q cY
      have ai : A i ≠ 0 := fun z => hzi ⟨z, bi⟩
      rcases Int.lt_or_gt_of_ne cY with g | g <;> rcases Int.lt_or_gt_of_ne ai with g2 | g2
      · exact (no2 fun j hj => zsn2 (dY j) (a6' j hj) (by omega)).elim
      · exact (no1 fun j hj => zsn1 (dY j) (a6' j hj) (by omega)).elim
      · exact (no1 fun j hj => zsn1 (dY j) (a6' j hj) (by omega)).elim
      · exact (no2 fun j hj => zsn2 (dY j) (a6' j hj) (by omega)).elim
  · have bi : B i ≠ 0 := fun z => by
      rw [z, Int.zero_mul, Int.add_zero] at a7'
      rcases Int.mul_eq_zero.mp a7' with q | q
      · exact hzi ⟨q, z⟩
      · exact cX q
    rcases Int.lt_or_gt_of_ne cX with g | g <;> rcases Int.lt_or_gt_of_ne bi with g2 | g2
    · exact (no1 fun j hj => zsn1 (dX j) (a6' j hj) (by omega)).elim
    · exact (no2 fun j hj => zsn2 (dX j) (a6' j hj) (by omega)).elim
    · exact (no2 fun j hj => zsn2 (dX j) (a6' j hj) (by omega)).elim
    · exact (no1 fun j hj => zsn1 (dX j) (a6' j hj) (by omega)).elim
theorem zsg_mul (b : Int) : zsg b * zsg b = 1 := by rcases zsg_1 b with h | h <;> rw [h] <;> rfl
theorem zvb_pos {A B : Nat → Int} {i j : Nat} (h : zbel A B i j ≠ 0) : 0 < zvb A B i j := by
  unfold zvb zsg
  split <;> omega
/-- two edges that meet at X / D, Y / D, a point of all -/
theorem zvert_of {A B M : Nat → Int} {k a b : Nat} {X Y D : Int} (hD : 0 < D) (hb : zbel A B a b ≠ 0) (h1 : A a * X + B a * Y = M a * D) (h2 : A b * X + B b * Y = M b * D) (hf : ∀ j, j < k → A j * X + B j * Y ≤ M j * D) :
    zvt A B M k a b ∧ zvb A B a b * X = zvx A B M a b * D := by
  have cX : zbel A B a b * X = (M a * B b - M b * B a) * D := by
    have : zbel A B a b * X = B b * (A a * X + B a * Y) - B a * (A b * X + B b * Y) := by unfold zbel; grind
    rw [this, h1, h2]; grind
  have cY : zbel A B a b * Y = (A a * M b - A b * M a) * D := by
    have : zbel A B a b * Y = A a * (A b * X + B b * Y) - A b * (A a * X + B a * Y) := by unfold zbel; grind
    rw [this, h1, h2]; grind
  have dX : zvb A B a b * X = zvx A B M a b * D := by
    have : zvb A B a b * X = zsg (zbel A B a b) * (zbel A B a b * X) := by unfold zvb; grind
    rw [this, cX]; unfold zvx; grind
  have dY : zvb A B a b * Y = zvy A B M a b * D := by
    have : zvb A B a b * Y = zsg (zbel A B a b) * (zbel A B a b * Y) := by unfold zvb; grind
    rw [this, cY]; unfold zvy; grind
  refine ⟨⟨hb, fun j hj => ?_⟩, dX⟩
  refine Int.le_of_mul_le_mul_right (a := D) ?_ hD
  have e1 : (A j * zvx A B M a b + B j * zvy A B M a b) * D = zvb A B a b * (A j * X + B j * Y) := by
    have : (A j * zvx A B M a b + B j * zvy A B M a b) * D = A j * (zvx A B M a b * D) + B j * (zvy A B M a b * D) := by grind
    rw [this, ← dX, ← dY]; grind
  have e2 : M j * zvb A B a b * D = zvb A B a b * (M j * D) := by grind
  rw [e1, e2]
  exact Int.mul_le_mul_of_nonneg_left (hf j hj) (Int.le_of_lt (zvb_pos hb))
/-- of a point of a place: a meeting of edges, of it, no nearer in a direction along x -/
theorem zvert {A B M : Nat → Int} {k : Nat} (hp : zpl A B k) (hz : ∀ i, i < k → ¬ (A i = 0 ∧ B i = 0)) {x y d : Int} (hd : d = 1 ∨ d = -1) (hf : zfe A B M k x y) :
    ∃ a b, a < k ∧ b < k ∧ zvt A B M k a b ∧ d * x * zvb A B a b ≤ d * zvx A B M a b := by
  have n1 : ¬ zst A B k d 0 := fun z => by have := (zdir hp hz z).1; omega
  obtain ⟨i, s, w, a1, a2, a3, a4, a5, a6, a7⟩ := zray (M := M) (X := x) (Y := y) (D := 1) (by decide) (fun j hj => by have := hf j hj; omega) n1
  rw [Int.one_mul] at a7
  have a6 : ∀ j, j < k → A j * (x * w + s * d) + B j * (y * w + s * 0) ≤ M j * w := fun j hj => by have := a6 j hj; rw [Int.one_mul] at this; exact this
  generalize hX : x * w + s * d = X at a6 a7
  generalize hY : y * w + s * 0 = Y at a6 a7
  have g1 : d * x * w ≤ d * X := by
    have e : d * X = d * x * w + s := by
      rw [← hX]
      have : d * d = 1 := by rcases hd with h | h <;> rw [h] <;> rfl
      have e2 : d * (x * w + s * d) = d * x * w + s * (d * d) := by grind
      rw [e2, this, Int.mul_one]
    omega
  -- along the edge of i
  have hi := hp.2 i a1
  obtain ⟨sg, hs1, hs2, hs3⟩ : ∃ sg : Int, (sg = 1 ∨ sg = -1) ∧ 0 ≤ d * (sg * B i) ∧ ¬ zst A B k (sg * B i) (-(sg * A i)) := by
    by_cases c : 0 ≤ d * B i
    · exact ⟨1, Or.inl rfl, by rw [Int.one_mul]; exact c, by rw [Int.one_mul, Int.one_mul]; exact hi.1⟩
    · refine ⟨-1, Or.inr rfl, ?_, ?_⟩
      · rw [Int.neg_mul, Int.one_mul, Int.mul_neg]; omega
      · rw [Int.neg_mul, Int.one_mul, Int.neg_mul, Int.one_mul, Int.neg_neg]; exact hi.2
  obtain ⟨j, s2, w2, b1, b2, b3, b4, b5, b6, b7⟩ := zray (M := M) (X := X) (Y := Y) (D := w) a3 a6 hs3
  have e1 : A i * (X * w2 + s2 * (sg * B i)) + B i * (Y * w2 + s2 * -(sg * A i)) = M i * (w * w2) := by
    have : A i * (X * w2 + s2 * (sg * B i)) + B i * (Y * w2 + s2 * -(sg * A i)) = (A i * X + B i * Y) * w2 := by grind
    rw [this, a7]; grind
  have hb : zbel A B i j ≠ 0 := fun z => by
    have : w2 = -(sg * zbel A B i j) := by rw [b5]; unfold zbel; grind
    rw [z, Int.mul_zero] at this
    omega
  have hD2 : 0 < w * w2 := Int.mul_pos a3 b3
  obtain ⟨v1, v2⟩ := zvert_of hD2 hb e1 b7 b6
  refine ⟨i, j, a1, b1, v1, ?_⟩
  refine Int.le_of_mul_le_mul_right (a := w * w2) ?_ hD2
  have r1 : d * zvx A B M i j * (w * w2) = zvb A B i j * (d * (X * w2 + s2 * (sg * B i))) := by
    have : d * zvx A B M i j * (w * w2) = d * (zvx A B M i j * (w * w2)) := by grind
    rw [this, ← v2]; grind
  have r2 : d * x * zvb A B i j * (w * w2) = zvb A B i j * (d * x * w * w2) := by grind
  rw [r1, r2]
  refine Int.mul_le_mul_of_nonneg_left ?_ (Int.le_of_lt (zvb_pos hb))
  have m1 := Int.mul_le_mul_of_nonneg_right g1 (Int.le_of_lt b3)
  have m2 := Int.mul_nonneg b2 hs2
  have e3 : d * (X * w2 + s2 * (sg * B i)) = d * X * w2 + s2 * (d * (sg * B i)) := by grind
  rw [e3]
  omega
theorem zvt_sym {A B M : Nat → Int} {k a b : Nat} (h : zvt A B M k a b) : zvt A B M k b a ∧ zvx A B M b a = zvx A B M a b ∧ zvb A B b a = zvb A B a b := by
  have e0 : zbel A B b a = -zbel A B a b := by unfold zbel; omega
  have e1 : zsg (zbel A B b a) = -zsg (zbel A B a b) := by
    rw [e0]
    have := h.1
    unfold zsg
    split <;> split <;> omega
  have ex : zvx A B M b a = zvx A B M a b := by unfold zvx; rw [e1]; grind
  have ey : zvy A B M b a = zvy A B M a b := by unfold zvy; rw [e1]; grind
  have eb : zvb A B b a = zvb A B a b := by unfold zvb; rw [e1, e0]; grind
  refine ⟨⟨by rw [e0]; have := h.1; omega, ?_⟩, ex, eb⟩
  rw [ex, ey, eb]
  exact h.2
theorem zvx_b {A B M : Nat → Int} {k a b : Nat} (hA : ∀ i, i < k → -60 ≤ A i ∧ A i ≤ 60) (hB : ∀ i, i < k → -60 ≤ B i ∧ B i ≤ 60) (hM : ∀ i, i < k → -9000 ≤ M i ∧ M i ≤ 9000) (ha : a < k) (hb : b < k) : -1080000 ≤ zvx A B M a b ∧ zvx A B M a b ≤ 1080000 := by
  have m1 := zmulb (hM a ha).1 (hM a ha).2 (hB b hb).1 (hB b hb).2
  have m2 := zmulb (hM b hb).1 (hM b hb).2 (hB a ha).1 (hB a ha).2
  unfold zvx
  rcases zsg_1 (zbel A B a b) with h | h <;> rw [h] <;> omega
theorem zbox_x {A B M : Nat → Int} {k : Nat} (hp : zpl A B k) (hz : ∀ i, i < k → ¬ (A i = 0 ∧ B i = 0)) (hA : ∀ i, i < k → -60 ≤ A i ∧ A i ≤ 60) (hB : ∀ i, i < k → -60 ≤ B i ∧ B i ≤ 60) (hM : ∀ i, i < k → -9000 ≤ M i ∧ M i ≤ 9000) {x y : Int} (hf : zfe A B M k x y) : -2000000 ≤ x ∧ x ≤ 2000000 := by
  obtain ⟨a, b, a1, b1, v1, g1⟩ := zvert hp hz (Or.inl rfl) hf
  obtain ⟨a', b', a2, b2, v2, g2⟩ := zvert hp hz (Or.inr rfl) hf
  have p1 := zvb_pos v1.1
  have p2 := zvb_pos v2.1
  have q1 := zvx_b hA hB hM a1 b1
  have q2 := zvx_b hA hB hM a2 b2
  rw [Int.one_mul, Int.one_mul] at g1
  rw [Int.neg_mul, Int.one_mul, Int.neg_mul, Int.neg_mul, Int.one_mul] at g2
  constructor
  · rcases Int.lt_or_le x (-1080000) with g | g
    · have := Int.mul_le_mul_of_nonneg_right (show x ≤ -1080001 by omega) (Int.le_of_lt p2)
      have := Int.mul_le_mul_of_nonneg_left (show 1 ≤ zvb A B a' b' by omega) (show (0 : Int) ≤ 1080001 by decide)
      omega
    · omega
  · rcases Int.lt_or_le 1080000 x with g | g
    · have := Int.mul_le_mul_of_nonneg_right (show 1080001 ≤ x by omega) (Int.le_of_lt p1)
      have := Int.mul_le_mul_of_nonneg_left (show 1 ≤ zvb A B a b by omega) (show (0 : Int) ≤ 1080001 by decide)
      omega
    · omega
theorem zpl_swap {A B : Nat → Int} {k : Nat} (h : zpl A B k) : zpl B A k := by
  refine ⟨h.1, fun j hj => ⟨fun z => (h.2 j hj).2 (fun i hi => ?_), fun z => (h.2 j hj).1 (fun i hi => ?_)⟩⟩
  · have := z i hi
    have e : A i * -B j + B i * A j = B i * A j + A i * -B j := by omega
    rw [e]; exact this
  · have := z i hi
    have e : A i * B j + B i * -A j = B i * -A j + A i * B j := by omega
    rw [e]; exact this
theorem zfe_swap {A B M : Nat → Int} {k : Nat} {x y : Int} (h : zfe A B M k x y) : zfe B A M k y x := fun i hi => by
  have := h i hi
  omega
theorem zgood_place {A B M : Nat → Int} {k : Nat} (hp : zpl A B k) (hz : ∀ i, i < k → ¬ (A i = 0 ∧ B i = 0)) (hA : ∀ i, i < k → -60 ≤ A i ∧ A i ≤ 60) (hB : ∀ i, i < k → -60 ≤ B i ∧ B i ≤ 60) (hM : ∀ i, i < k → -9000 ≤ M i ∧ M i ≤ 9000) : zgood A B M k := by
  refine ⟨?_, ?_, fun x y h => ⟨zbox_x hp hz hA hB hM h, zbox_x (zpl_swap hp) (fun i hi z => hz i hi ⟨z.2, z.1⟩) hB hA hM (zfe_swap h)⟩, ?_⟩
  · refine Classical.byContradiction fun q => ?_
    have : zst A B k 0 1 := fun j hj => by
      have : ¬ 0 < B j := fun z => q ⟨j, hj, z⟩
      omega
    have := (zdir hp hz this).2
    omega
  · refine Classical.byContradiction fun q => ?_
    have : zst A B k 0 (-1) := fun j hj => by
      have : ¬ B j < 0 := fun z => q ⟨j, hj, z⟩
      omega
    have := (zdir hp hz this).2
    omega
  · intro f l r hl x y hf
    have key : ∀ d : Int, d = 1 ∨ d = -1 → ∃ a b, a < k ∧ b < a ∧ zvt A B M k a b ∧ d * x * zvb A B a b ≤ d * zvx A B M a b := by
      intro d hd
      obtain ⟨a, b, a1, b1, v1, g1⟩ := zvert hp hz hd hf
      rcases Nat.lt_trichotomy a b with q | q | q
      · obtain ⟨s1, s2, s3⟩ := zvt_sym v1
        exact ⟨b, a, b1, q, s1, by rw [s2, s3]; exact g1⟩
      · exact absurd (by rw [q]; unfold zbel; omega) v1.1
      · exact ⟨a, b, a1, q, v1, g1⟩
    obtain ⟨a, b, a1, b1, v1, g1⟩ := key 1 (Or.inl rfl)
    obtain ⟨a', b', a2, b2, v2, g2⟩ := key (-1) (Or.inr rfl)
    rw [Int.one_mul, Int.one_mul] at g1
    rw [Int.neg_mul, Int.one_mul, Int.neg_mul, Int.neg_mul, Int.one_mul] at g2
    rcases hl with hl | hl
    · exact absurd v1 (hl.2.2.2 a b ⟨a1, b1⟩)
    · have t1 := (hl.2.2.2 a b ⟨a1, b1⟩ v1).2
      have t2 := (hl.2.2.2 a' b' ⟨a2, b2⟩ v2).1
      have p1 := zvb_pos v1.1
      have p2 := zvb_pos v2.1
      unfold zvd at t1
      unfold zvc at t2
      have k1 : x ≤ zvx A B M a b / zvb A B a b := (Int.le_ediv_iff_mul_le p1).mpr g1
      have k2 : -x ≤ (-zvx A B M a' b') / zvb A B a' b' := (Int.le_ediv_iff_mul_le p2).mpr (by rw [Int.neg_mul]; exact g2)
      omega
