/-! cones: distances from both sides, what the class keeps of them -/
def zFF (tn fx fy x y : Int) : Int := tn * (fx * y - fy * x)
def zFL (tn lx ly x y : Int) : Int := tn * (x * ly - y * lx)
/-- what span leaves of a cone -/
def zcone (x y v w fx fy lx ly tn ar : Int) : Prop :=
  (x = ((Nat.gcd x.natAbs y.natAbs : Nat) : Int) * fx ∧ y = ((Nat.gcd x.natAbs y.natAbs : Nat) : Int) * fy ∧ 0 < Nat.gcd x.natAbs y.natAbs) ∧
  (v = ((Nat.gcd v.natAbs w.natAbs : Nat) : Int) * lx ∧ w = ((Nat.gcd v.natAbs w.natAbs : Nat) : Int) * ly ∧ 0 < Nat.gcd v.natAbs w.natAbs) ∧
  tn = (if fx * ly - fy * lx < 0 then -1 else 1) ∧ ar = zabs (fx * ly - fy * lx)
theorem zgcd_div {x y : Int} (hg : 0 < Nat.gcd x.natAbs y.natAbs) : x = ((Nat.gcd x.natAbs y.natAbs : Nat) : Int) * x.tdiv ((Nat.gcd x.natAbs y.natAbs : Nat) : Int) ∧ y = ((Nat.gcd x.natAbs y.natAbs : Nat) : Int) * y.tdiv ((Nat.gcd x.natAbs y.natAbs : Nat) : Int) := by
  have d1 : ((Nat.gcd x.natAbs y.natAbs : Nat) : Int) ∣ x := Int.ofNat_dvd_left.mpr (Nat.gcd_dvd_left _ _)
  have d2 : ((Nat.gcd x.natAbs y.natAbs : Nat) : Int) ∣ y := Int.ofNat_dvd_left.mpr (Nat.gcd_dvd_right _ _)
  exact ⟨(Int.mul_tdiv_cancel' d1).symm, (Int.mul_tdiv_cancel' d2).symm⟩
theorem zcone_cross {x y v w fx fy lx ly g h : Int} (h1 : x = g * fx) (h2 : y = g * fy) (h3 : v = h * lx) (h4 : w = h * ly) : x * w - y * v = (g * h) * (fx * ly - fy * lx) := by
  rw [h1, h2, h3, h4]; grind
theorem zcone_ne {x y v w fx fy lx ly g h : Int} (h1 : x = g * fx) (h2 : y = g * fy) (h3 : v = h * lx) (h4 : w = h * ly) (hg : 0 < g) (hh : 0 < h) : x * w - y * v ≠ 0 ↔ fx * ly - fy * lx ≠ 0 := by
  rw [zcone_cross h1 h2 h3 h4]
  constructor
  · intro a b; exact a (by rw [b, Int.mul_zero])
  · intro a b
    rcases Int.mul_eq_zero.mp b with q | q
    · rcases Int.mul_eq_zero.mp q with r | r <;> omega
    · exact a q
theorem zabs_zero {x : Int} (h : zabs x = 0) : x = 0 := by unfold zabs at h; split at h <;> omega
theorem zgcd_zero {x y : Int} (h : ((Nat.gcd x.natAbs y.natAbs : Nat) : Int) = 0) : x = 0 ∧ y = 0 := by
  have h1 : Nat.gcd x.natAbs y.natAbs = 0 := by omega
  rw [Nat.gcd_eq_zero_iff] at h1
  omega
theorem zgcd_60 {x y : Int} (hx : -20 ≤ x ∧ x ≤ 20) (hy : -20 ≤ y ∧ y ≤ 20) : 0 ≤ ((Nat.gcd x.natAbs y.natAbs : Nat) : Int) ∧ ((Nat.gcd x.natAbs y.natAbs : Nat) : Int) ≤ 20 := by
  constructor
  · omega
  · by_cases h : x = 0
    · by_cases h2 : y = 0
      · rw [h, h2]; decide
      · have := Nat.le_of_dvd (show 0 < y.natAbs by omega) (Nat.gcd_dvd_right x.natAbs y.natAbs); omega
    · have := Nat.le_of_dvd (show 0 < x.natAbs by omega) (Nat.gcd_dvd_left x.natAbs y.natAbs); omega
/-! the distances that were seen -/
def zok (tn fx fy lx ly ar : Int) (d : Nat) (e x y : Int) : Prop := zFF tn fx fy x y = (d : Int) ∧ zFL tn lx ly x y = e ∧ ¬ ((d : Int) = 0 ∧ e = 0) ∧ (d : Int) ≤ ar ∧ 0 ≤ e ∧ e ≤ ar
def zlv (tn fx fy lx ly ar : Int) (P : Int → Int → Prop) (L : Nat → Int) : Prop := ∀ d : Nat, d ≤ 800 → (0 ≤ L d ∧ L d ≤ 1000000) ∧ (L d = 1000000 ∨ ∃ x y, P x y ∧ zok tn fx fy lx ly ar d (L d) x y) ∧ ∀ e x y, P x y → zok tn fx fy lx ly ar d e x y → L d ≤ e
theorem zlv_0 {tn fx fy lx ly ar : Int} {P : Int → Int → Prop} {L : Nat → Int} (h : ∀ d, d < 801 → L d = 1000000) (hP : ∀ x y, ¬ P x y) : zlv tn fx fy lx ly ar P L := by
  intro d hd
  rw [h d (by omega)]
  exact ⟨⟨by omega, by omega⟩, Or.inl rfl, fun e x y p _ => absurd p (hP x y)⟩
theorem zlv_congr {tn fx fy lx ly ar : Int} {P P2 : Int → Int → Prop} {L : Nat → Int} (h : zlv tn fx fy lx ly ar P L) (hP : ∀ x y, P x y ↔ P2 x y) : zlv tn fx fy lx ly ar P2 L := by
  intro d hd
  obtain ⟨h1, h2, h3⟩ := h d hd
  refine ⟨h1, ?_, fun e x y p o => h3 e x y ((hP x y).mpr p) o⟩
  rcases h2 with q | ⟨x, y, p, o⟩
  · exact Or.inl q
  · exact Or.inr ⟨x, y, (hP x y).mp p, o⟩
def zlc1 (ar ff fl : Int) : Prop := ¬ (ff = 0 ∧ fl = 0) ∧ (0 ≤ ff ∧ ff ≤ ar) ∧ (0 ≤ fl ∧ fl ≤ ar) ∧ ff ≤ 800
/-- one vector more -/
theorem zlv_s {tn fx fy lx ly ar a b : Int} {P P2 : Int → Int → Prop} {L M : Nat → Int} (har : ar ≤ 800) (h : zlv tn fx fy lx ly ar P L) (hP : ∀ x y, P2 x y ↔ P x y ∨ (x = a ∧ y = b))
    (h1 : zlc1 ar (zFF tn fx fy a b) (zFL tn lx ly a b) → M = zU L (zFF tn fx fy a b).toNat (zmin (L (zFF tn fx fy a b).toNat) (zFL tn lx ly a b))) (h2 : ¬ zlc1 ar (zFF tn fx fy a b) (zFL tn lx ly a b) → M = L) : zlv tn fx fy lx ly ar P2 M := by
  by_cases c : zlc1 ar (zFF tn fx fy a b) (zFL tn lx ly a b)
  · rw [h1 c]
    obtain ⟨c1, c2, c3, c4⟩ := c
    intro d hd
    obtain ⟨k1, k2, k3⟩ := h d hd
    by_cases e : d = (zFF tn fx fy a b).toNat
    · rw [← e, zU_same]
      have ed : zFF tn fx fy a b = (d : Int) := by omega
      refine ⟨by unfold zmin; split <;> omega, ?_, fun f x y p o => ?_⟩
      · unfold zmin
        split
        · exact Or.inr ⟨a, b, (hP a b).mpr (Or.inr ⟨rfl, rfl⟩), ed, rfl, by rw [← ed]; exact c1, by omega, c3.1, c3.2⟩
        · rcases k2 with q | ⟨x, y, p, o⟩
          · exact Or.inl q
          · exact Or.inr ⟨x, y, (hP x y).mpr (Or.inl p), o⟩
      · rcases (hP x y).mp p with q | ⟨q1, q2⟩
        · have := k3 f x y q o
          unfold zmin; split <;> omega
        · have : f = zFL tn lx ly a b := by rw [← q1, ← q2]; exact o.2.1.symm
          rw [this]; unfold zmin; split <;> omega
    · rw [zU_ne e]
      refine ⟨k1, ?_, fun f x y p o => ?_⟩
      · rcases k2 with q | ⟨x, y, p, o⟩
        · exact Or.inl q
        · exact Or.inr ⟨x, y, (hP x y).mpr (Or.inl p), o⟩
      · rcases (hP x y).mp p with q | ⟨q1, q2⟩
        · exact k3 f x y q o
        · have o1 := o.1
          rw [q1, q2] at o1
          exact absurd (by omega) e
  · rw [h2 c]
    intro d hd
    obtain ⟨k1, k2, k3⟩ := h d hd
    refine ⟨k1, ?_, fun f x y p o => ?_⟩
    · rcases k2 with q | ⟨x, y, p, o⟩
      · exact Or.inl q
      · exact Or.inr ⟨x, y, (hP x y).mpr (Or.inl p), o⟩
    · rcases (hP x y).mp p with q | ⟨q1, q2⟩
      · exact k3 f x y q o
      · obtain ⟨o1, o2, o3, o4, o5, o6⟩ := o
        rw [q1, q2] at o1 o2
        exact absurd ⟨by rw [o1, o2]; exact o3, by omega, by omega, by omega⟩ c
/-- the vectors seen so far: all of the columns ahead of x0, and of x0 those below y0 -/
def zseen (x1 y1 y2 x0 y0 : Int) (x y : Int) : Prop := (x1 ≤ x ∧ x < x0 ∧ y1 ≤ y ∧ y ≤ y2) ∨ (x = x0 ∧ y1 ≤ y ∧ y < y0)
/-! records: nearer to the last side than all before -/
def zrec (L : Nat → Int) (d : Nat) : Prop := L d < 1000000 ∧ ∀ c, c < d → L d < L c
def znear (L : Nat → Int) (d : Nat) (m : Int) : Prop := ∀ e, (e < m ↔ e < 1000000 ∧ ∀ c, c < d → e < L c)
theorem znear_0 {L : Nat → Int} : znear L 0 1000000 := fun e => ⟨fun h => ⟨h, fun c hc => absurd hc (Nat.not_lt_zero c)⟩, fun h => h.1⟩
theorem znear_yes {L : Nat → Int} {d : Nat} {m : Int} (h : znear L d m) (hl : L d < m) : znear L (d + 1) (L d) := by
  intro e
  have h1 := (h (L d)).mp hl
  constructor
  · intro a
    refine ⟨by omega, fun c hc => ?_⟩
    by_cases q : c = d
    · rw [q]; exact a
    · have := h1.2 c (by omega); omega
  · intro a; exact a.2 d (by omega)
theorem znear_no {L : Nat → Int} {d : Nat} {m : Int} (h : znear L d m) (hl : ¬ L d < m) : znear L (d + 1) m := by
  intro e
  constructor
  · intro a
    refine ⟨((h e).mp a).1, fun c hc => ?_⟩
    by_cases q : c = d
    · rw [q]; omega
    · exact ((h e).mp a).2 c (by omega)
  · intro a; exact (h e).mpr ⟨a.1, fun c hc => a.2 c (by omega)⟩
theorem zrec_iff {L : Nat → Int} {d : Nat} {m : Int} (h : znear L d m) : L d < m ↔ zrec L d := h (L d)
/-- the record that is wanted -/
def zwant (L : Nat → Int) (fx fy lx ly ar : Int) (s : Nat) (pl wx wy : Int) : Prop := ∀ d, d < s → zrec L d → ((zcn (zrec L) d : Nat) : Int) = pl → wx = (L d * fx + (d : Int) * lx).tdiv ar ∧ wy = (L d * fy + (d : Int) * ly).tdiv ar
theorem zwant_0 {L : Nat → Int} {fx fy lx ly ar pl wx wy : Int} : zwant L fx fy lx ly ar 0 pl wx wy := fun d h => absurd h (Nat.not_lt_zero d)
theorem zwant_no {L : Nat → Int} {fx fy lx ly ar pl wx wy : Int} {s : Nat} (h : zwant L fx fy lx ly ar s pl wx wy) (hr : ¬ (zrec L s ∧ ((zcn (zrec L) s : Nat) : Int) = pl)) : zwant L fx fy lx ly ar (s + 1) pl wx wy := fun d a b c => by
  by_cases e : d = s
  · rw [e] at b c; exact absurd ⟨b, c⟩ hr
  · exact h d (by omega) b c
theorem zwant_yes {L : Nat → Int} {fx fy lx ly ar pl wx wy : Int} {s : Nat} (hr : zrec L s) (hc : ((zcn (zrec L) s : Nat) : Int) = pl) (h1 : wx = (L s * fx + (s : Int) * lx).tdiv ar) (h2 : wy = (L s * fy + (s : Int) * ly).tdiv ar) : zwant L fx fy lx ly ar (s + 1) pl wx wy := fun d a b c => by
  by_cases e : d = s
  · rw [e]; exact ⟨h1, h2⟩
  · have k := zcn_mono (p := zrec L) (show d + 1 ≤ s by omega)
    rw [zcn_t b] at k
    omega
theorem zcr_y {L : Nat → Int} {s : Nat} {f : Int} (h : f = ((zcn (zrec L) s : Nat) : Int)) (hr : zrec L s) : f + 1 = ((zcn (zrec L) (s + 1) : Nat) : Int) := by rw [zcn_t hr, h]; rfl
theorem zcr_n {L : Nat → Int} {s : Nat} {f : Int} (h : f = ((zcn (zrec L) s : Nat) : Int)) (hr : ¬ zrec L s) : f = ((zcn (zrec L) (s + 1) : Nat) : Int) := by rw [zcn_f hr, h]
