/-! cones: the chain of the generators once more -/
theorem zbez : ∀ (a b : Nat), ∃ p q : Int, (a : Int) * p + (b : Int) * q = ((Nat.gcd a b : Nat) : Int) := by
  intro a
  induction a using Nat.strongRecOn with
  | ind a ih =>
    intro b
    by_cases h : a = 0
    · rw [h]; exact ⟨0, 1, by rw [Nat.gcd_zero_left]; omega⟩
    · obtain ⟨p, q, e⟩ := ih (b % a) (Nat.mod_lt _ (by omega)) a
      refine ⟨q - (b / a : Nat) * p, p, ?_⟩
      rw [Nat.gcd_rec, ← e]
      have k : (b : Int) = (a : Int) * ((b / a : Nat) : Int) + ((b % a : Nat) : Int) := by
        have := Nat.div_add_mod b a
        omega
      rw [k]
      grind
theorem zbezI (x y : Int) : ∃ p q : Int, x * p + y * q = ((Nat.gcd x.natAbs y.natAbs : Nat) : Int) := by
  obtain ⟨p, q, e⟩ := zbez x.natAbs y.natAbs
  refine ⟨x.sign * p, y.sign * q, ?_⟩
  rw [← e]
  have a : x * (x.sign * p) = (x.natAbs : Int) * p := by rw [← Int.mul_assoc, Int.mul_sign_self]
  have b : y * (y.sign * q) = (y.natAbs : Int) * q := by rw [← Int.mul_assoc, Int.mul_sign_self]
  rw [a, b]
/-- divided by their greatest divisor -/
theorem zprim {v w g lx ly : Int} (hg : g = ((Nat.gcd v.natAbs w.natAbs : Nat) : Int)) (h0 : 0 < g) (h1 : v = g * lx) (h2 : w = g * ly) : ∃ p q : Int, lx * p + ly * q = 1 := by
  obtain ⟨p, q, e⟩ := zbezI v w
  refine ⟨p, q, ?_⟩
  rw [← hg] at e
  have k : g * (lx * p + ly * q) = g * 1 := by
    have : g * (lx * p + ly * q) = (g * lx) * p + (g * ly) * q := by grind
    rw [this, ← h1, ← h2, e, Int.mul_one]
  exact Int.eq_of_mul_eq_mul_left (by omega) k
theorem zcone_p1 {x y v w fx fy lx ly tn ar : Int} (h : zcone x y v w fx fy lx ly tn ar) : ∃ p q : Int, fx * p + fy * q = 1 :=
  zprim (v := x) (w := y) rfl (by have := h.1.2.2; omega) h.1.1 h.1.2.1
theorem zcone_p2 {x y v w fx fy lx ly tn ar : Int} (h : zcone x y v w fx fy lx ly tn ar) : ∃ p q : Int, lx * p + ly * q = 1 :=
  zprim (v := v) (w := w) rfl (by have := h.2.1.2.2; omega) h.2.1.1 h.2.1.2.1
theorem zcone_t {x y v w fx fy lx ly tn ar : Int} (h : zcone x y v w fx fy lx ly tn ar) : (tn = -1 ∨ tn = 1) ∧ ar = tn * (fx * ly - fy * lx) ∧ 0 ≤ ar := by
  obtain ⟨_, _, h1, h2⟩ := h
  unfold zabs at h2
  split at h1 <;> split at h2 <;> refine ⟨by omega, ?_, by omega⟩ <;> rw [h1] <;> omega
/-- of the last side's vectors, the place by the distances -/
theorem zpl_x {tn fx fy lx ly ar i j : Int} (ht : tn = -1 ∨ tn = 1) (har : ar = tn * (fx * ly - fy * lx)) : ar * i = zFL tn lx ly i j * fx + zFF tn fx fy i j * lx ∧ ar * j = zFL tn lx ly i j * fy + zFF tn fx fy i j * ly := by
  rw [har]
  unfold zFL zFF
  constructor <;> grind
def zsnd (tn fx fy lx ly i j : Int) : Prop := zFF tn fx fy i j = 1 ∧ 0 ≤ zFL tn lx ly i j ∧ zFL tn lx ly (i - fx) (j - fy) < 0
theorem zsnd_iff {tn fx fy lx ly ar i j : Int} (har : ar = tn * (fx * ly - fy * lx)) : zsnd tn fx fy lx ly i j ↔ zFF tn fx fy i j = 1 ∧ 0 ≤ zFL tn lx ly i j ∧ zFL tn lx ly i j < ar := by
  have e : zFL tn lx ly (i - fx) (j - fy) = zFL tn lx ly i j - ar := by rw [har]; unfold zFL; grind
  unfold zsnd
  rw [e]
  omega
theorem zin_b {ar i a b f l : Int} (h0 : 0 < ar) (h : ar * i = a * f + b * l) (ha : 0 ≤ a ∧ a ≤ ar) (hb : 0 ≤ b ∧ b ≤ ar) (hf : -20 ≤ f ∧ f ≤ 20) (hl : -20 ≤ l ∧ l ≤ 20) : -40 ≤ i ∧ i ≤ 40 := by
  have m1 := zmulb (a := a) (b := f) (A := ar) (B := 20) (by omega) ha.2 hf.1 hf.2
  have m2 := zmulb (a := b) (b := l) (A := ar) (B := 20) (by omega) hb.2 hl.1 hl.2
  constructor
  · refine Int.le_of_mul_le_mul_left ?_ h0
    rw [h]; omega
  · refine Int.le_of_mul_le_mul_left ?_ h0
    rw [h]; omega
theorem zsnd_ex {tn fx fy lx ly ar : Int} (ht : tn = -1 ∨ tn = 1) (har : ar = tn * (fx * ly - fy * lx)) (h0 : 0 < ar) (hp : ∃ p q : Int, fx * p + fy * q = 1) (h1 : -20 ≤ fx ∧ fx ≤ 20) (h2 : -20 ≤ fy ∧ fy ≤ 20) (h3 : -20 ≤ lx ∧ lx ≤ 20) (h4 : -20 ≤ ly ∧ ly ≤ 20) :
    ∃ i j, (-40 ≤ i ∧ i ≤ 40) ∧ (-40 ≤ j ∧ j ≤ 40) ∧ zsnd tn fx fy lx ly i j := by
  obtain ⟨p, q, e⟩ := hp
  have tt : tn * tn = 1 := by rcases ht with h | h <;> rw [h] <;> rfl
  have f1 : zFF tn fx fy (-(tn * q)) (tn * p) = 1 := by
    have : zFF tn fx fy (-(tn * q)) (tn * p) = (tn * tn) * (fx * p + fy * q) := by unfold zFF; grind
    rw [this, tt, e]; rfl
  have b := zmodT (zFL tn lx ly (-(tn * q)) (tn * p)) h0
  have e1 : zFL tn lx ly (-(tn * q) - zFL tn lx ly (-(tn * q)) (tn * p) / ar * fx) (tn * p - zFL tn lx ly (-(tn * q)) (tn * p) / ar * fy) = zFL tn lx ly (-(tn * q)) (tn * p) - zFL tn lx ly (-(tn * q)) (tn * p) / ar * ar := by
    rw [zFL_sub, zarea_b har]
  have e2 : zFF tn fx fy (-(tn * q) - zFL tn lx ly (-(tn * q)) (tn * p) / ar * fx) (tn * p - zFL tn lx ly (-(tn * q)) (tn * p) / ar * fy) = 1 := by rw [zFF_sub, f1]
  have pl := zpl_x (i := -(tn * q) - zFL tn lx ly (-(tn * q)) (tn * p) / ar * fx) (j := tn * p - zFL tn lx ly (-(tn * q)) (tn * p) / ar * fy) ht har
  rw [e1, e2] at pl
  refine ⟨_, _, zin_b h0 pl.1 (by omega) (by omega) h1 h3, zin_b h0 pl.2 (by omega) (by omega) h2 h4, (zsnd_iff har).mpr ⟨e2, ?_, ?_⟩⟩
  · rw [e1]; exact b.1
  · rw [e1]; exact b.2
theorem zsnd_un {tn fx fy lx ly ar a b i j : Int} (ht : tn = -1 ∨ tn = 1) (har : ar = tn * (fx * ly - fy * lx)) (h0 : 0 < ar) (hp : ∃ p q : Int, fx * p + fy * q = 1) (h1 : zsnd tn fx fy lx ly a b) (h2 : zsnd tn fx fy lx ly i j) : a = i ∧ b = j := by
  rw [zsnd_iff har] at h1 h2
  obtain ⟨p, q, e⟩ := hp
  have d : zFF tn fx fy (a - i) (b - j) = 0 := by
    have : zFF tn fx fy (a - i) (b - j) = zFF tn fx fy a b - zFF tn fx fy i j := by unfold zFF; grind
    rw [this]; omega
  have l : zFL tn lx ly (a - i) (b - j) = zFL tn lx ly a b - zFL tn lx ly i j := by unfold zFL; grind
  have pl := zpl_x (i := a - i) (j := b - j) ht har
  rw [d, l, Int.zero_mul, Int.zero_mul, Int.add_zero, Int.add_zero] at pl
  have k : zFL tn lx ly a b - zFL tn lx ly i j = ar * ((a - i) * p + (b - j) * q) := by
    have : ar * ((a - i) * p + (b - j) * q) = (ar * (a - i)) * p + (ar * (b - j)) * q := by grind
    rw [this, pl.1, pl.2]
    have : (zFL tn lx ly a b - zFL tn lx ly i j) * fx * p + (zFL tn lx ly a b - zFL tn lx ly i j) * fy * q = (zFL tn lx ly a b - zFL tn lx ly i j) * (fx * p + fy * q) := by grind
    rw [this, e, Int.mul_one]
  have z : (a - i) * p + (b - j) * q = 0 := by
    rcases Int.lt_trichotomy ((a - i) * p + (b - j) * q) 0 with g | g | g
    · have := Int.mul_le_mul_of_nonneg_left (show (a - i) * p + (b - j) * q ≤ -1 by omega) (show 0 ≤ ar by omega)
      omega
    · exact g
    · have := Int.mul_le_mul_of_nonneg_left (show 1 ≤ (a - i) * p + (b - j) * q by omega) (show 0 ≤ ar by omega)
      omega
  rw [z, Int.mul_zero] at k
  rw [k, Int.zero_mul, Int.zero_mul] at pl
  have p1 := Int.mul_eq_zero.mp pl.1
  have p2 := Int.mul_eq_zero.mp pl.2
  omega
/-- two that follow each other -/
def zchn (tn fx fy lx ly ar px py cx cy : Int) (k : Nat) : Prop :=
  tn * (px * cy - py * cx) = 1 ∧ 0 ≤ zFF tn fx fy px py ∧ zFF tn fx fy px py < zFF tn fx fy cx cy ∧ 0 ≤ zFL tn lx ly cx cy ∧ zFL tn lx ly cx cy < zFL tn lx ly px py ∧ zFL tn lx ly px py ≤ ar ∧ zFL tn lx ly cx cy ≤ ar - ((k : Int) + 1)
theorem zchn_0 {tn fx fy lx ly ar i j : Int} (har : ar = tn * (fx * ly - fy * lx)) (h : zsnd tn fx fy lx ly i j) : zchn tn fx fy lx ly ar fx fy i j 0 := by
  rw [zsnd_iff har] at h
  have e := zarea_b (fx := fx) (fy := fy) har
  have e2 : zFF tn fx fy fx fy = 0 := by unfold zFF; grind
  refine ⟨h.1, by omega, by omega, h.2.1, by omega, by omega, by omega⟩
theorem zch_det {tn fx fy lx ly ar px py cx cy : Int} (har : ar = tn * (fx * ly - fy * lx)) (hd : tn * (px * cy - py * cx) = 1) (ht : tn = -1 ∨ tn = 1) : zFF tn fx fy cx cy * zFL tn lx ly px py = ar + zFF tn fx fy px py * zFL tn lx ly cx cy := by
  have tt : tn * tn = 1 := by rcases ht with h | h <;> rw [h] <;> rfl
  have : zFF tn fx fy cx cy * zFL tn lx ly px py - zFF tn fx fy px py * zFL tn lx ly cx cy = (tn * tn) * ((fx * ly - fy * lx) * (px * cy - py * cx)) := by unfold zFF zFL; grind
  have k : ar = (tn * tn) * ((fx * ly - fy * lx) * (px * cy - py * cx)) := by
    have : (tn * tn) * ((fx * ly - fy * lx) * (px * cy - py * cx)) = (tn * (fx * ly - fy * lx)) * (tn * (px * cy - py * cx)) := by grind
    rw [this, hd, ← har, Int.mul_one]
  omega
theorem zchn_ff {tn fx fy lx ly ar px py cx cy : Int} {k : Nat} (ht : tn = -1 ∨ tn = 1) (har : ar = tn * (fx * ly - fy * lx)) (h : zchn tn fx fy lx ly ar px py cx cy k) : zFF tn fx fy cx cy ≤ ar := by
  obtain ⟨h1, h2, h3, h4, h5, h6, h7⟩ := h
  have d := zch_det har h1 ht
  have m1 := Int.mul_le_mul_of_nonneg_right (show zFF tn fx fy px py ≤ zFF tn fx fy cx cy - 1 by omega) h4
  have m2 := Int.mul_le_mul_of_nonneg_left (show zFL tn lx ly cx cy + 1 ≤ zFL tn lx ly px py by omega) (show 0 ≤ zFF tn fx fy cx cy by omega)
  have e1 : (zFF tn fx fy cx cy - 1) * zFL tn lx ly cx cy = zFF tn fx fy cx cy * zFL tn lx ly cx cy - zFL tn lx ly cx cy := by grind
  have e2 : zFF tn fx fy cx cy * (zFL tn lx ly cx cy + 1) = zFF tn fx fy cx cy * zFL tn lx ly cx cy + zFF tn fx fy cx cy := by grind
  rw [e1] at m1
  rw [e2] at m2
  omega
theorem zchn_b {tn fx fy lx ly ar px py cx cy : Int} {k : Nat} (ht : tn = -1 ∨ tn = 1) (har : ar = tn * (fx * ly - fy * lx)) (h0 : 0 < ar) (h : zchn tn fx fy lx ly ar px py cx cy k) (h1 : -20 ≤ fx ∧ fx ≤ 20) (h2 : -20 ≤ fy ∧ fy ≤ 20) (h3 : -20 ≤ lx ∧ lx ≤ 20) (h4 : -20 ≤ ly ∧ ly ≤ 20) : (-40 ≤ cx ∧ cx ≤ 40) ∧ (-40 ≤ cy ∧ cy ≤ 40) := by
  have f := zchn_ff ht har h
  have p := zpl_x (i := cx) (j := cy) ht har
  obtain ⟨g1, g2, g3, g4, g5, g6, g7⟩ := h
  exact ⟨zin_b h0 p.1 (by omega) (by omega) h1 h3, zin_b h0 p.2 (by omega) (by omega) h2 h4⟩
theorem zchn_end {tn fx fy lx ly ar px py cx cy : Int} {k : Nat} (ht : tn = -1 ∨ tn = 1) (har : ar = tn * (fx * ly - fy * lx)) (h0 : 0 < ar) (hp : ∃ p q : Int, lx * p + ly * q = 1) (h : zchn tn fx fy lx ly ar px py cx cy k) (hz : zFL tn lx ly cx cy = 0) : cx = lx ∧ cy = ly := by
  obtain ⟨p, q, e⟩ := hp
  have pl := zpl_x (i := cx) (j := cy) ht har
  rw [hz, Int.zero_mul, Int.zero_mul, Int.zero_add, Int.zero_add] at pl
  have fb := zchn_ff ht har h
  obtain ⟨g1, g2, g3, g4, g5, g6, g7⟩ := h
  have d := zch_det har g1 ht
  rw [hz, Int.mul_zero, Int.add_zero] at d
  -- FF = ar * s
  have k1 : zFF tn fx fy cx cy = ar * (cx * p + cy * q) := by
    have : ar * (cx * p + cy * q) = (ar * cx) * p + (ar * cy) * q := by grind
    rw [this, pl.1, pl.2]
    have : zFF tn fx fy cx cy * lx * p + zFF tn fx fy cx cy * ly * q = zFF tn fx fy cx cy * (lx * p + ly * q) := by grind
    rw [this, e, Int.mul_one]
  have k2 : cx * p + cy * q = 1 := by
    rcases Int.lt_trichotomy (cx * p + cy * q) 1 with g | g | g
    · have := Int.mul_le_mul_of_nonneg_left (show cx * p + cy * q ≤ 0 by omega) (show 0 ≤ ar by omega)
      omega
    · exact g
    · have := Int.mul_le_mul_of_nonneg_left (show 2 ≤ cx * p + cy * q by omega) (show 0 ≤ ar by omega)
      omega
  rw [k2, Int.mul_one] at k1
  rw [k1] at pl
  exact ⟨Int.eq_of_mul_eq_mul_left (by omega) pl.1, Int.eq_of_mul_eq_mul_left (by omega) pl.2⟩
theorem zceil2 {p q : Int} (hq : 0 < q) (hp : 0 ≤ p) : (p + q - 1).tdiv q = -((-p) / q) := by
  rw [Int.tdiv_eq_ediv_of_nonneg (by omega)]
  have c := zceil (p := p) hq
  exact (Int.ediv_eq_iff_of_pos hq).mpr ⟨by omega, by omega⟩
theorem zchn_s {tn fx fy lx ly ar px py cx cy t : Int} {k : Nat} (h : zchn tn fx fy lx ly ar px py cx cy k) (hq : 0 < zFL tn lx ly cx cy) (ht : t = -((-zFL tn lx ly px py) / zFL tn lx ly cx cy)) : zchn tn fx fy lx ly ar cx cy (t * cx - px) (t * cy - py) (k + 1) := by
  obtain ⟨g1, g2, g3, g4, g5, g6, g7⟩ := h
  have c := zceil (p := zFL tn lx ly px py) hq
  rw [← ht] at c
  have e1 := zFL_lin tn lx ly t cx cy px py
  have e2 : zFF tn fx fy (t * cx - px) (t * cy - py) = t * zFF tn fx fy cx cy - zFF tn fx fy px py := by unfold zFF; grind
  have t2 : 2 ≤ t := by
    rcases Int.lt_or_le t 2 with g | g
    · have := Int.mul_le_mul_of_nonneg_right (show t ≤ 1 by omega) (show 0 ≤ zFL tn lx ly cx cy by omega)
      omega
    · exact g
  have m := Int.mul_le_mul_of_nonneg_right t2 (show 0 ≤ zFF tn fx fy cx cy by omega)
  refine ⟨?_, by omega, by omega, by omega, by omega, by omega, by omega⟩
  rw [← g1]
  grind
