/-! counting whole points in a box, by columns -/
def zfe (P Q M : Nat → Int) (k : Nat) (x y : Int) : Prop := ∀ i, i < k → P i * x + Q i * y ≤ M i
noncomputable def zn (p : Int → Prop) (lo : Int) : Nat → Nat
  | 0 => 0
  | n + 1 => zn p lo n + (@ite Nat (p (lo + (n : Int))) (Classical.propDecidable _) 1 0)
def zsm (c : Int → Nat) (lo : Int) : Nat → Nat
  | 0 => 0
  | n + 1 => zsm c lo n + c (lo + (n : Int))
noncomputable def zcol (P Q M : Nat → Int) (k : Nat) (x : Int) : Nat := zn (fun y => zfe P Q M k x y) (-2000000) 4000001
noncomputable def zpts (P Q M : Nat → Int) (k : Nat) : Nat := zsm (fun x => zcol P Q M k x) (-2000000) 4000001
theorem zn_0 (p : Int → Prop) (lo : Int) : zn p lo 0 = 0 := rfl
theorem zn_t {p : Int → Prop} {lo : Int} {n : Nat} (h : p (lo + (n : Int))) : zn p lo (n + 1) = zn p lo n + 1 := by
  show zn p lo n + _ = _
  rw [if_pos h]
theorem zn_f {p : Int → Prop} {lo : Int} {n : Nat} (h : ¬ p (lo + (n : Int))) : zn p lo (n + 1) = zn p lo n := by
  show zn p lo n + _ = _
  rw [if_neg h]; rfl
theorem zsm_0 (c : Int → Nat) (lo : Int) : zsm c lo 0 = 0 := rfl
theorem zsm_s (c : Int → Nat) (lo : Int) (n : Nat) : zsm c lo (n + 1) = zsm c lo n + c (lo + (n : Int)) := rfl
theorem zn_congr {p q : Int → Prop} {lo : Int} : ∀ {n : Nat}, (∀ j : Nat, j < n → (p (lo + (j : Int)) ↔ q (lo + (j : Int)))) → zn p lo n = zn q lo n := by
  intro n
  induction n with
  | zero => intro _; rfl
  | succ n ih =>
    intro h
    have h1 := ih (fun j hj => h j (by omega))
    by_cases c : p (lo + (n : Int))
    · rw [zn_t c, zn_t ((h n (by omega)).mp c), h1]
    · rw [zn_f c, zn_f (fun z => c ((h n (by omega)).mpr z)), h1]
theorem zsm_congr {c d : Int → Nat} {lo : Int} : ∀ {n : Nat}, (∀ j : Nat, j < n → c (lo + (j : Int)) = d (lo + (j : Int))) → zsm c lo n = zsm d lo n := by
  intro n
  induction n with
  | zero => intro _; rfl
  | succ n ih =>
    intro h
    rw [zsm_s, zsm_s, ih (fun j hj => h j (by omega)), h n (by omega)]
theorem zsm_zero {c : Int → Nat} {lo : Int} : ∀ {n : Nat}, (∀ j : Nat, j < n → c (lo + (j : Int)) = 0) → zsm c lo n = 0 := by
  intro n
  induction n with
  | zero => intro _; rfl
  | succ n ih =>
    intro h
    rw [zsm_s, ih (fun j hj => h j (by omega)), h n (by omega)]
theorem zsm_more {c : Int → Nat} {lo : Int} {n : Nat} : ∀ {m : Nat}, n ≤ m → (∀ j : Nat, n ≤ j → j < m → c (lo + (j : Int)) = 0) → zsm c lo m = zsm c lo n := by
  intro m
  induction m with
  | zero => intro h _; rw [Nat.le_zero.mp h]
  | succ m ih =>
    intro h hz
    by_cases e : n = m + 1
    · rw [e]
    · rw [zsm_s, hz m (by omega) (by omega), ih (by omega) (fun j h1 h2 => hz j h1 (by omega))]
      rfl
theorem zn_zero {p : Int → Prop} {lo : Int} {n : Nat} (h : ∀ j : Nat, j < n → ¬ p (lo + (j : Int))) : zn p lo n = 0 := by
  induction n with
  | zero => rfl
  | succ n ih => rw [zn_f (h n (by omega)), ih (fun j hj => h j (by omega))]
/-- how many of an interval -/
theorem zn_iv {p : Int → Prop} {lo b t : Int} {n : Nat} (hb : lo ≤ b) (h : ∀ j : Nat, j < n → (p (lo + (j : Int)) ↔ b ≤ lo + (j : Int) ∧ lo + (j : Int) ≤ t)) :
    (zn p lo n : Int) = zmax 0 (zmin t (lo + (n : Int) - 1) - b + 1) := by
  induction n with
  | zero => rw [zn_0]; unfold zmax zmin; split <;> (try split) <;> omega
  | succ n ih =>
    have h1 := ih (fun j hj => h j (by omega))
    by_cases c : b ≤ lo + (n : Int) ∧ lo + (n : Int) ≤ t
    · rw [zn_t ((h n (by omega)).mpr c)]
      unfold zmax zmin at h1 ⊢
      split at h1 <;> split at h1 <;> split <;> (try split) <;> omega
    · rw [zn_f (fun z => c ((h n (by omega)).mp z))]
      unfold zmax zmin at h1 ⊢
      split at h1 <;> split at h1 <;> split <;> (try split) <;> omega
/-! ### narrowing -/
def znl (f m l : Int) : Int := if 0 < f then zmin l (m / f) else l
def znf (f m a : Int) : Int := if f < 0 then zmax a (-(m / (-f))) else a
theorem zle_div {x m f : Int} (hf : 0 < f) : x ≤ m / f ↔ f * x ≤ m := by rw [Int.le_ediv_iff_mul_le hf, Int.mul_comm]
theorem zge_div {x m f : Int} (hf : f < 0) : -(m / (-f)) ≤ x ↔ f * x ≤ m := by
  have h := zle_div (x := -x) (m := m) (f := -f) (by omega)
  rw [Int.neg_mul_neg] at h
  rw [← h]
  omega
theorem zle_min {x a b : Int} : x ≤ zmin a b ↔ x ≤ a ∧ x ≤ b := by unfold zmin; split <;> omega
theorem zmax_le {x a b : Int} : zmax a b ≤ x ↔ a ≤ x ∧ b ≤ x := by unfold zmax; split <;> omega
theorem znarrow {f m a l x : Int} : (znf f m a ≤ x ∧ x ≤ znl f m l) ↔ (a ≤ x ∧ x ≤ l) ∧ (f ≠ 0 → f * x ≤ m) := by
  unfold znf znl
  by_cases h1 : 0 < f
  · rw [if_neg (by omega), if_pos h1, zle_min, zle_div h1]
    constructor
    · intro h; exact ⟨⟨h.1, h.2.1⟩, fun _ => h.2.2⟩
    · intro h; exact ⟨h.1.1, h.1.2, h.2 (by omega)⟩
  · by_cases h2 : f < 0
    · rw [if_pos h2, if_neg h1, zmax_le, zge_div h2]
      constructor
      · intro h; exact ⟨⟨h.1.1, h.2⟩, fun _ => h.1.2⟩
      · intro h; exact ⟨⟨h.1.1, h.2 (by omega)⟩, h.1.2⟩
    · rw [if_neg h2, if_neg h1]
      constructor
      · intro h; exact ⟨h, fun z => absurd (show f = 0 by omega) z⟩
      · intro h; exact h.1
/-- what the inequalities tell of a column alone: the row i, a pair i, j, all rows below i -/
def zc1 (P Q M : Nat → Int) (i : Nat) (x : Int) : Prop := Q i = 0 → P i ≠ 0 → P i * x ≤ M i
def zc2 (P Q M : Nat → Int) (i j : Nat) (x : Int) : Prop := 0 < Q i → Q j < 0 → P j * Q i - P i * Q j ≠ 0 → (P j * Q i - P i * Q j) * x ≤ M j * Q i - M i * Q j
def zcc (P Q M : Nat → Int) (k i : Nat) (x : Int) : Prop := ∀ a, a < i → zc1 P Q M a x ∧ ∀ b, b < k → zc2 P Q M a b x
theorem zcc_0 {P Q M : Nat → Int} {k : Nat} {x : Int} : zcc P Q M k 0 x := fun _ h => absurd h (Nat.not_lt_zero _)
theorem zcc_s {P Q M : Nat → Int} {k i : Nat} {x : Int} : zcc P Q M k (i + 1) x ↔ zcc P Q M k i x ∧ zc1 P Q M i x ∧ ∀ b, b < k → zc2 P Q M i b x := by
  constructor
  · intro h; exact ⟨fun a ha => h a (by omega), h i (by omega)⟩
  · intro h a ha
    by_cases e : a = i
    · rw [e]; exact h.2
    · exact h.1 a (by omega)
/-- what they tell of a place in a column -/
def zce (P Q M : Nat → Int) (i : Nat) (x y : Int) : Prop := ∀ a, a < i → Q a ≠ 0 → P a * x + Q a * y ≤ M a
theorem zce_0 {P Q M : Nat → Int} {x y : Int} : zce P Q M 0 x y := fun _ h => absurd h (Nat.not_lt_zero _)
theorem zce_s {P Q M : Nat → Int} {i : Nat} {x y : Int} : zce P Q M (i + 1) x y ↔ zce P Q M i x y ∧ (Q i ≠ 0 → P i * x + Q i * y ≤ M i) := by
  constructor
  · intro h; exact ⟨fun a ha => h a (by omega), h i (by omega)⟩
  · intro h a ha
    by_cases e : a = i
    · rw [e]; exact h.2
    · exact h.1 a (by omega)
theorem zall_s {p : Nat → Prop} {n : Nat} : (∀ b, b < n + 1 → p b) ↔ (∀ b, b < n → p b) ∧ p n := by
  constructor
  · intro h; exact ⟨fun b hb => h b (by omega), h n (by omega)⟩
  · intro h b hb
    by_cases e : b = n
    · rw [e]; exact h.2
    · exact h.1 b (by omega)
/-- a point keeps to what is told of its column -/
theorem zfe_cc {P Q M : Nat → Int} {k : Nat} {x y : Int} (h : zfe P Q M k x y) : zcc P Q M k k x := by
  intro a ha
  refine ⟨fun q _ => by have := h a ha; rw [q, Int.zero_mul, Int.add_zero] at this; exact this, fun b hb q1 q2 _ => ?_⟩
  have h1 := h a ha
  have h2 := h b hb
  have k1 := Int.mul_le_mul_of_nonneg_right h1 (show 0 ≤ -Q b by omega)
  have k2 := Int.mul_le_mul_of_nonneg_right h2 (show 0 ≤ Q a by omega)
  have e : (P b * Q a - P a * Q b) * x = (P a * x + Q a * y) * -Q b + (P b * x + Q b * y) * Q a := by grind
  have e2 : M b * Q a - M a * Q b = M a * -Q b + M b * Q a := by grind
  rw [e, e2]
  omega
theorem zfe_iff {P Q M : Nat → Int} {k : Nat} {x y : Int} (hz : ∀ i, i < k → ¬ (P i = 0 ∧ Q i = 0)) (hc : zcc P Q M k k x) : zfe P Q M k x y ↔ zce P Q M k x y := by
  constructor
  · intro h a ha _; exact h a ha
  · intro h a ha
    by_cases e : Q a = 0
    · have h1 := (hc a ha).1 e (fun z => hz a ha ⟨z, e⟩)
      rw [e, Int.zero_mul, Int.add_zero]; exact h1
    · exact h a ha e
/-- a column's number by its ends -/
theorem zcol_ends {P Q M : Nat → Int} {k : Nat} {x b t : Int} (hz : ∀ i, i < k → ¬ (P i = 0 ∧ Q i = 0)) (hc : zcc P Q M k k x) (hb : -2000000 ≤ b) (ht : t ≤ 2000000)
    (he : ∀ y, (b ≤ y ∧ y ≤ t) ↔ (-2000000 ≤ y ∧ y ≤ 2000000 ∧ zce P Q M k x y)) : (zcol P Q M k x : Int) = zmax 0 (t - b + 1) := by
  unfold zcol
  have h := zn_iv (p := fun y => zfe P Q M k x y) (lo := -2000000) (b := b) (t := t) (n := 4000001) hb (fun j hj => by
    have e := he (-2000000 + (j : Int))
    rw [zfe_iff hz hc, e]
    constructor
    · intro h; exact ⟨by omega, by omega, h⟩
    · intro h; exact h.2.2)
  rw [h]
  congr 2
  unfold zmin
  split <;> omega
/-- a column that the ends shut out has no points -/
theorem zcol_out {P Q M : Nat → Int} {k : Nat} {x f l : Int} (hf : ∀ x, (f ≤ x ∧ x ≤ l) ↔ (-2000000 ≤ x ∧ x ≤ 2000000 ∧ zcc P Q M k k x)) (hx : -2000000 ≤ x ∧ x ≤ 2000000) (ho : ¬ (f ≤ x ∧ x ≤ l)) : zcol P Q M k x = 0 := by
  unfold zcol
  exact zn_zero (fun j _ h => ho ((hf x).mpr ⟨hx.1, hx.2, zfe_cc h⟩))
/-- the columns below a place, when a loop over columns stands there -/
theorem zpts_start {P Q M : Nat → Int} {k : Nat} {f l : Int} (hf : ∀ x, (f ≤ x ∧ x ≤ l) ↔ (-2000000 ≤ x ∧ x ≤ 2000000 ∧ zcc P Q M k k x)) (hf2 : f ≤ 2000000) : (0 : Int) = (zsm (fun x => zcol P Q M k x) (-2000000) (f + 2000000).toNat : Int) := by
  rw [zsm_zero]
  · rfl
  · intro j hj
    exact zcol_out hf (by omega) (by omega)
theorem zpts_step {P Q M : Nat → Int} {k : Nat} {x b t a : Int} (hx : -2000000 ≤ x) (ha : a = (zsm (fun x => zcol P Q M k x) (-2000000) (x + 2000000).toNat : Int)) (he : (zcol P Q M k x : Int) = zmax 0 (t - b + 1)) : a + zmax 0 (t - b + 1) = (zsm (fun x => zcol P Q M k x) (-2000000) (x + 1 + 2000000).toNat : Int) := by
  rw [show (x + 1 + 2000000).toNat = (x + 2000000).toNat + 1 by omega, zsm_s, show -2000000 + (((x + 2000000).toNat : Nat) : Int) = x by omega, Int.natCast_add, he, ha]
theorem zpts_end {P Q M : Nat → Int} {k : Nat} {f l x a : Int} (hf : ∀ x, (f ≤ x ∧ x ≤ l) ↔ (-2000000 ≤ x ∧ x ≤ 2000000 ∧ zcc P Q M k k x)) (hx : f ≤ x) (hx1 : -2000000 ≤ f) (hx2 : x ≤ 2000001) (hl : l < x) (ha : a = (zsm (fun x => zcol P Q M k x) (-2000000) (x + 2000000).toNat : Int)) : a = (zpts P Q M k : Int) := by
  rw [ha]
  unfold zpts
  rw [zsm_more (n := (x + 2000000).toNat) (m := 4000001) (by omega)]
  intro j h1 h2
  exact zcol_out hf (by omega) (by omega)
/-- the best of the points -/
def zbest (P Q M : Nat → Int) (k : Nat) (p q bx bY : Int) : Prop := zfe P Q M k bx bY ∧ ∀ x y, zfe P Q M k x y → -2000000 ≤ x → x ≤ 2000000 → -2000000 ≤ y → y ≤ 2000000 → p * x + q * y < p * bx + q * bY ∨ (p * x + q * y = p * bx + q * bY ∧ (bx < x ∨ (bx = x ∧ bY ≤ y)))
