/-! plain facts on whole numbers and rows of them, of no machine -/
theorem ztd {x y : Int} (hy : 0 < y) : x.tdiv y * y + x.tmod y = x ∧ -y < x.tmod y ∧ x.tmod y < y ∧ (0 ≤ x → 0 ≤ x.tmod y) ∧ (x ≤ 0 → x.tmod y ≤ 0) := by
  have h1 := Int.tmod_add_mul_tdiv x y
  have h2 : 0 ≤ x → 0 ≤ x.tmod y := fun h => Int.tmod_nonneg y h
  have h3 : x.tmod y < y := Int.tmod_lt_of_pos x hy
  have h4 : 0 ≤ -x → 0 ≤ (-x).tmod y := fun h => Int.tmod_nonneg y h
  have h5 : (-x).tmod y < y := Int.tmod_lt_of_pos (-x) hy
  rw [Int.neg_tmod] at h4 h5
  rw [Int.mul_comm (x.tdiv y) y]
  refine ⟨by omega, by omega, by omega, h2, fun h => by have := h4 (by omega); omega⟩
theorem zfdiv1 {x y : Int} (h : 0 ≤ x) : x.tdiv y = x / y := Int.tdiv_eq_ediv_of_nonneg h
theorem zfdiv2 {x y : Int} (hy : 0 < y) (h : x.tdiv y * y = x) : x.tdiv y = x / y := ((Int.ediv_eq_iff_of_pos hy).mpr ⟨by omega, by omega⟩).symm
theorem zfdiv3 {x y : Int} (hy : 0 < y) (hx : x < 0) (h : ¬ x.tdiv y * y = x) : x.tdiv y - 1 = x / y := by
  obtain ⟨h1, h2, h3, -, h5⟩ := ztd (x := x) hy
  have h6 := h5 (by omega)
  refine ((Int.ediv_eq_iff_of_pos hy).mpr ?_).symm
  rw [Int.sub_mul, Int.one_mul]
  omega
theorem zfmod1 {x y : Int} (h : 0 ≤ x) : x.tmod y = x % y := Int.tmod_eq_emod_of_nonneg h
theorem zfmod2 {x y : Int} (hy : 0 < y) (h : x.tmod y = 0) : x.tmod y = x % y := by
  obtain ⟨h1, -⟩ := ztd (x := x) hy
  have := (Int.ediv_emod_unique (a := x) (b := y) (r := 0) (q := x.tdiv y) hy).mpr ⟨by rw [Int.mul_comm]; omega, by omega, hy⟩
  rw [this.2, h]
theorem zfmod3 {x y : Int} (hy : 0 < y) (hx : x < 0) (h : ¬ x.tmod y = 0) : x.tmod y + y = x % y := by
  obtain ⟨h1, h2, h3, -, h5⟩ := ztd (x := x) hy
  have h6 := h5 (by omega)
  have := (Int.ediv_emod_unique (a := x) (b := y) (r := x.tmod y + y) (q := x.tdiv y - 1) hy).mpr ⟨by rw [Int.mul_comm, Int.sub_mul]; omega, by omega, by omega⟩
  rw [this.2]
theorem zlfloor {x y : Int} (hy : 0 < y) : (x < x.tdiv y * y → x.tdiv y - 1 = x / y) ∧ (¬ x < x.tdiv y * y → x.tdiv y = x / y) := by
  obtain ⟨h1, h2, h3, h4, h5⟩ := ztd (x := x) hy
  constructor
  · intro h
    exact zfdiv3 hy (by omega) (by omega)
  · intro h
    by_cases q : 0 ≤ x
    · exact zfdiv1 q
    · exact zfdiv2 hy (by have := h5 (by omega); omega)
/-- bounds of products -/
theorem zmulb {a b A B : Int} (h1 : -A ≤ a) (h2 : a ≤ A) (h3 : -B ≤ b) (h4 : b ≤ B) : -(A * B) ≤ a * b ∧ a * b ≤ A * B := by
  have hA : 0 ≤ A := by omega
  have hB : 0 ≤ B := by omega
  have k1 : (a * b).natAbs ≤ (A * B).natAbs := by
    rw [Int.natAbs_mul, Int.natAbs_mul]
    exact Nat.mul_le_mul (by omega) (by omega)
  have k2 : 0 ≤ A * B := Int.mul_nonneg hA hB
  omega
theorem zdivb {x y A : Int} (hy : 0 < y) (h1 : -A ≤ x) (h2 : x ≤ A) : -A ≤ x / y ∧ x / y ≤ A := by
  constructor
  · rw [Int.le_ediv_iff_mul_le hy]
    have : (-A) * y ≤ (-A) * 1 := by
      rw [Int.neg_mul, Int.neg_mul]
      have := Int.mul_le_mul_of_nonneg_left (show 1 ≤ y by omega) (show 0 ≤ A by omega)
      omega
    omega
  · have h5 : x / y < A + 1 := by
      rw [Int.ediv_lt_iff_lt_mul hy]
      have := Int.mul_le_mul_of_nonneg_left (show 1 ≤ y by omega) (show 0 ≤ A + 1 by omega)
      omega
    omega
theorem ztdivb {x y A : Int} (h1 : -A ≤ x) (h2 : x ≤ A) : -A ≤ x.tdiv y ∧ x.tdiv y ≤ A := by
  have := Int.natAbs_tdiv_le_natAbs x y
  omega
/-- a row filled up to a place -/
def zfill (f g : Nat → Int) (k : Nat) : Nat → Int := fun j => if j < k then f j else g j
theorem zfill_0 {f g : Nat → Int} : zfill f g 0 = g := by funext j; unfold zfill; rw [if_neg (Nat.not_lt_zero j)]
theorem zfill_in {f g : Nat → Int} {k j : Nat} (h : j < k) : zfill f g k j = f j := if_pos h
theorem zfill_out {f g : Nat → Int} {k j : Nat} (h : k ≤ j) : zfill f g k j = g j := if_neg (Nat.not_lt.mpr h)
theorem zfill_next {f g : Nat → Int} {k : Nat} {v : Int} (h : v = f k) : zU (zfill f g k) k v = zfill f g (k + 1) := by
  funext j
  unfold zU zfill
  by_cases h1 : j = k
  · subst h1; rw [if_pos rfl, if_pos (Nat.lt_succ_self j), h]
  · rw [if_neg h1]
    by_cases h2 : j < k
    · rw [if_pos h2, if_pos (by omega)]
    · rw [if_neg h2, if_neg (by omega)]
/-- whether the step x, y keeps to the first k inequalities -/
def zst (fa fb : Nat → Int) (k : Nat) (x y : Int) : Prop := ∀ i, i < k → fa i * x + fb i * y ≤ 0
/-- whether a shape is a place -/
def zpl (fa fb : Nat → Int) (k : Nat) : Prop := 0 < k ∧ ∀ j, j < k → ¬ zst fa fb k (fb j) (-fa j) ∧ ¬ zst fa fb k (-fb j) (fa j)
theorem zgcd_step {a b : Nat} : Nat.gcd b (a % b) = Nat.gcd a b := by rw [Nat.gcd_comm b, ← Nat.gcd_rec, Nat.gcd_comm]
theorem ztmod_nat (a b : Nat) : (a : Int).tmod (b : Int) = ((a % b : Nat) : Int) := (Int.ofNat_tmod a b).symm
theorem zabs_nat (x : Int) : zabs x = (x.natAbs : Int) := by unfold zabs; split <;> omega
theorem zst_0 {fa fb : Nat → Int} {x y : Int} : zst fa fb 0 x y := fun _ h => absurd h (Nat.not_lt_zero _)
theorem zst_s {fa fb : Nat → Int} {k : Nat} {x y : Int} (h : zst fa fb k x y) (h2 : fa k * x + fb k * y ≤ 0) : zst fa fb (k + 1) x y := by
  intro i hi
  by_cases e : i = k
  · rw [e]; exact h2
  · exact h i (by omega)
theorem zpl_no {fa fb : Nat → Int} {k i : Nat} (hi : i < k) (h : zst fa fb k (fb i) (-fa i) ∨ zst fa fb k (-fb i) (fa i)) : ¬ zpl fa fb k := fun z => (h.elim (z.2 i hi).1 (z.2 i hi).2)
def zplk (fa fb : Nat → Int) (k i : Nat) : Prop := ∀ j, j < i → ¬ zst fa fb k (fb j) (-fa j) ∧ ¬ zst fa fb k (-fb j) (fa j)
theorem zplk_0 {fa fb : Nat → Int} {k : Nat} : zplk fa fb k 0 := fun _ h => absurd h (Nat.not_lt_zero _)
theorem zplk_s {fa fb : Nat → Int} {k i : Nat} (h : zplk fa fb k i) (h1 : ¬ zst fa fb k (fb i) (-fa i)) (h2 : ¬ zst fa fb k (-fb i) (fa i)) : zplk fa fb k (i + 1) := by
  intro j hj
  by_cases e : j = i
  · rw [e]; exact ⟨h1, h2⟩
  · exact h j (by omega)
/-- whether each b stays in its range when the shape slides -/
def zsl (fa fb : Nat → Int) (k : Nat) : Prop := ∀ j, j < k → -60 ≤ fb j - fa j ∧ fb j - fa j ≤ 60
theorem zsl_0 {fa fb : Nat → Int} : zsl fa fb 0 := fun _ h => absurd h (Nat.not_lt_zero _)
theorem zsl_s {fa fb : Nat → Int} {k : Nat} (h : zsl fa fb k) (h2 : -60 ≤ fb k - fa k ∧ fb k - fa k ≤ 60) : zsl fa fb (k + 1) := by
  intro i hi
  by_cases e : i = k
  · rw [e]; exact h2
  · exact h i (by omega)
theorem zneg_b {a : Int} (h : -60 ≤ a ∧ a ≤ 60) : -60 ≤ -a ∧ -a ≤ 60 := by omega
/-- a cut of two inequalities: the sums, and whether it is one -/
def zcs (fa : Nat → Int) (o t : Nat) (sm mr : Int) : Int := sm * fa o + mr * fa t
def zcut (fa fb fc fe : Nat → Int) (k o t : Nat) (sm mr dv : Int) : Prop :=
  fe o = 0 ∧ fe t = 0 ∧ (zcs fa o t sm mr).tmod dv = 0 ∧ (zcs fb o t sm mr).tmod dv = 0 ∧ ¬ (zcs fa o t sm mr = 0 ∧ zcs fb o t sm mr = 0) ∧
  (-60 ≤ (zcs fa o t sm mr).tdiv dv ∧ (zcs fa o t sm mr).tdiv dv ≤ 60) ∧ (-60 ≤ (zcs fb o t sm mr).tdiv dv ∧ (zcs fb o t sm mr).tdiv dv ≤ 60) ∧
  (-999 ≤ zcs fc o t sm mr / dv ∧ zcs fc o t sm mr / dv ≤ 999) ∧ k < 10
theorem zabs_le {x A : Int} : zabs x ≤ A ↔ -A ≤ x ∧ x ≤ A := by unfold zabs; split <;> omega
theorem zcs_b {fa : Nat → Int} {o t : Nat} {sm mr B : Int} (h1 : -B ≤ fa o ∧ fa o ≤ B) (h2 : -B ≤ fa t ∧ fa t ≤ B) (h3 : 0 ≤ sm ∧ sm ≤ 9) (h4 : 0 ≤ mr ∧ mr ≤ 9) : -(18 * B) ≤ zcs fa o t sm mr ∧ zcs fa o t sm mr ≤ 18 * B := by
  have k1 := zmulb (a := sm) (b := fa o) (A := 9) (B := B) (by omega) h3.2 h1.1 h1.2
  have k2 := zmulb (a := mr) (b := fa t) (A := 9) (B := B) (by omega) h4.2 h2.1 h2.2
  unfold zcs
  omega
