/-! cones: both ways are one chain -/
theorem zcone_un {x y v w a1 a2 a3 a4 a5 a6 b1 b2 b3 b4 b5 b6 : Int} (h : zcone x y v w a1 a2 a3 a4 a5 a6) (k : zcone x y v w b1 b2 b3 b4 b5 b6) : a1 = b1 ∧ a2 = b2 ∧ a3 = b3 ∧ a4 = b4 ∧ a5 = b5 ∧ a6 = b6 := by
  obtain ⟨⟨h1, h2, hg⟩, ⟨h3, h4, hh⟩, h5, h6⟩ := h
  obtain ⟨⟨k1, k2, -⟩, ⟨k3, k4, -⟩, k5, k6⟩ := k
  have hg0 : ((Nat.gcd x.natAbs y.natAbs : Nat) : Int) ≠ 0 := by omega
  have hh0 : ((Nat.gcd v.natAbs w.natAbs : Nat) : Int) ≠ 0 := by omega
  have e1 : a1 = b1 := Int.eq_of_mul_eq_mul_left hg0 (h1.symm.trans k1)
  have e2 : a2 = b2 := Int.eq_of_mul_eq_mul_left hg0 (h2.symm.trans k2)
  have e3 : a3 = b3 := Int.eq_of_mul_eq_mul_left hh0 (h3.symm.trans k3)
  have e4 : a4 = b4 := Int.eq_of_mul_eq_mul_left hh0 (h4.symm.trans k4)
  refine ⟨e1, e2, e3, e4, ?_, ?_⟩
  · rw [h5, k5, e1, e2, e3, e4]
  · rw [h6, k6, e1, e2, e3, e4]
theorem zcone_ix {x y v w fx fy lx ly tn ar : Int} (h : zcone x y v w fx fy lx ly tn ar) : zabs ((x * w - y * v).tdiv (zg2 x y * zg2 v w)) = ar := by
  obtain ⟨⟨h1, h2, hg⟩, ⟨h3, h4, hh⟩, h5, h6⟩ := h
  have e := zcone_cross h1 h2 h3 h4
  unfold zg2
  rw [e, Int.mul_tdiv_cancel_left _ (by
    intro z
    rcases Int.mul_eq_zero.mp z with q | q <;> omega), h6]
/-- the second vector, as it is found from the first -/
theorem zsec_snd {fx fy lx ly tn ar X T : Int} (ht : tn = -1 ∨ tn = 1) (har : ar = tn * (fx * ly - fy * lx)) (hp : ∃ p q : Int, fx * p + fy * q = 1) (hs : zsec fx fy tn X) (hf : 0 ≤ zFL tn lx ly (X - T * fx) (zsecY fx fy tn X - T * fy) ∧ zFL tn lx ly (X - T * fx) (zsecY fx fy tn X - T * fy) < ar) : zsnd tn fx fy lx ly (X - T * fx) (zsecY fx fy tn X - T * fy) := by
  rw [zsnd_iff har]
  refine ⟨?_, hf⟩
  rw [zFF_sub]
  have htt : tn * tn = 1 := by rcases ht with rfl | rfl <;> rfl
  obtain ⟨p, q, hpq⟩ := hp
  by_cases h0 : fx = 0
  · have hX := hs.2.1 h0
    unfold zsecY zFF
    rw [if_pos h0, hX, h0]
    rw [h0, Int.zero_mul, Int.zero_add] at hpq
    have hy : fy = 1 ∨ fy = -1 := by
      have hd : fy ∣ 1 := ⟨q, hpq.symm⟩
      have hn : fy.natAbs = 1 := by
        have := Int.natAbs_dvd_natAbs.mpr hd
        exact Nat.eq_one_of_dvd_one this
      omega
    rcases hy with rfl | rfl <;> rcases ht with rfl | rfl <;> decide
  · have habs : 0 < zabs fx := by unfold zabs; split <;> omega
    have hdiv : (tn + fy * X).tmod (zabs fx) = 0 := by
      rcases hs.2.2 h0 with h | ⟨-, h⟩
      · exact h.2.2
      · exfalso
        have hz0 := Int.emod_nonneg (-(tn * q)) (show zabs fx ≠ 0 by omega)
        have hz1 := Int.emod_lt_of_pos (-(tn * q)) habs
        obtain ⟨z, hz⟩ : ∃ z : Nat, (z : Int) = (-(tn * q)) % zabs fx := ⟨((-(tn * q)) % zabs fx).toNat, by omega⟩
        refine h z (by omega) ?_
        have e := Int.mul_ediv_add_emod (-(tn * q)) (zabs fx)
        have hdvd : zabs fx ∣ fx := by
          unfold zabs
          split
          · exact Int.dvd_refl _
          · exact (Int.neg_dvd).mpr (Int.dvd_refl _)
        have : zabs fx ∣ tn + fy * (z : Int) := by
          have e2 : tn + fy * (z : Int) = tn * p * fx + zabs fx * (-(fy * ((-(tn * q)) / zabs fx))) := by
            rw [hz]
            grind
          rw [e2]
          exact Int.dvd_add (Int.dvd_trans hdvd (Int.dvd_mul_left _ _)) (Int.dvd_mul_right _ _)
        exact Int.tmod_eq_zero_of_dvd this
    have hd : fx ∣ tn + fy * X := by
      have h1 : zabs fx ∣ tn + fy * X := Int.dvd_of_tmod_eq_zero hdiv
      have h2 : fx ∣ zabs fx := by
        unfold zabs
        split
        · exact Int.dvd_refl _
        · exact (Int.dvd_neg).mpr (Int.dvd_refl _)
      exact Int.dvd_trans h2 h1
    unfold zsecY zFF
    rw [if_neg h0, Int.mul_tdiv_cancel' hd, show tn + fy * X - fy * X = tn by omega]
    exact htt
theorem zgen_eq {tn fx fy lx ly : Int} {X Y : Nat → Int} {k N : Nat} {a b : Int} (hN : 1 ≤ N) (hc : ∀ j, j ≤ k → zhj tn lx ly fx fy a b j = (X j, Y j, X (j + 1), Y (j + 1))) (hp : zpos tn lx ly fx fy a b k) (h0 : zFL tn lx ly (X (k + 1)) (Y (k + 1)) = 0)
    (hp2 : zpos tn lx ly fx fy a b (N - 1)) (h02 : zFL tn lx ly (zhj tn lx ly fx fy a b (N - 1)).2.2.1 (zhj tn lx ly fx fy a b (N - 1)).2.2.2 = 0) : N = k + 1 := by
  rcases Nat.lt_trichotomy (N - 1) k with q | q | q
  · have := hp (N - 1) q; omega
  · omega
  · have := hp2 k q
    rw [hc k (Nat.le_refl _)] at this
    have : 0 < zFL tn lx ly (X (k + 1)) (Y (k + 1)) := this
    omega
/-- each two that follow each other, along the chain -/
theorem zgen_chn {tn fx fy lx ly ar : Int} {X Y : Nat → Int} {k : Nat} (har : ar = tn * (fx * ly - fy * lx)) {a b : Int} (hs : zsnd tn fx fy lx ly a b) (hc : ∀ j, j ≤ k → zhj tn lx ly fx fy a b j = (X j, Y j, X (j + 1), Y (j + 1))) (hp : zpos tn lx ly fx fy a b k) :
    (X 0 = fx ∧ Y 0 = fy) ∧ ∀ j, j ≤ k → zchn tn fx fy lx ly ar (X j) (Y j) (X (j + 1)) (Y (j + 1)) j := by
  have h0 : (fx, fy, a, b) = (X 0, Y 0, X (0 + 1), Y (0 + 1)) := hc 0 (Nat.zero_le _)
  simp only [Prod.mk.injEq] at h0
  obtain ⟨e1, e2, e3, e4⟩ := h0
  refine ⟨⟨e1.symm, e2.symm⟩, fun j => ?_⟩
  induction j with
  | zero =>
    intro _
    rw [← e1, ← e2, ← e3, ← e4]
    exact zchn_0 har hs
  | succ j ih =>
    intro hj
    have h1 := ih (by omega)
    have hq := hp j (by omega)
    rw [hc j (by omega)] at hq
    have hq : 0 < zFL tn lx ly (X (j + 1)) (Y (j + 1)) := hq
    have e5 : zhj tn lx ly fx fy a b (j + 1) = zhs tn lx ly (zhj tn lx ly fx fy a b j) := rfl
    rw [hc (j + 1) hj, hc j (by omega)] at e5
    unfold zhs at e5
    simp only [Prod.mk.injEq] at e5
    rw [e5.2.2.1, e5.2.2.2]
    exact zchn_s h1 hq rfl
/-- between two that follow each other nothing is nearer -/
theorem zlow {f0 l0 f1 l1 d e al be : Int} (h1 : 0 ≤ f0) (h2 : f0 < f1) (h3 : 0 ≤ l1) (h4 : l1 < l0) (hd : d = al * f0 + be * f1) (he : e = al * l0 + be * l1) (d0 : 0 ≤ d) (d1 : d < f1) (e0 : 0 ≤ e) (hz : ¬ (d = 0 ∧ e = 0)) : l0 ≤ e := by
  by_cases ca : 1 ≤ al
  · by_cases cb : 0 ≤ be
    · have m1 := Int.mul_nonneg (show 0 ≤ al - 1 by omega) (show 0 ≤ l0 by omega)
      have m2 := Int.mul_nonneg cb h3
      rw [Int.sub_mul, Int.one_mul] at m1
      omega
    · have m1 := Int.mul_nonneg (show 0 ≤ -be by omega) (show 0 ≤ f1 - f0 - 1 by omega)
      rw [Int.mul_sub, Int.mul_sub, Int.mul_one, Int.neg_mul, Int.neg_mul] at m1
      have m2 : 0 < al + be := by
        refine Int.lt_of_not_ge fun q => ?_
        have m3 := Int.mul_nonneg (show 0 ≤ -(al + be) by omega) h1
        rw [Int.neg_mul, Int.add_mul] at m3
        omega
      have m4 := Int.mul_nonneg (show 0 ≤ -be by omega) (show 0 ≤ l0 - l1 - 1 by omega)
      rw [Int.mul_sub, Int.mul_sub, Int.mul_one, Int.neg_mul, Int.neg_mul] at m4
      have m5 := Int.mul_nonneg (show 0 ≤ al + be - 1 by omega) (show 0 ≤ l0 by omega)
      rw [Int.sub_mul, Int.add_mul, Int.one_mul] at m5
      omega
  · by_cases cb : 1 ≤ be
    · by_cases cz : al = 0
      · subst cz
        have m1 := Int.mul_nonneg (show 0 ≤ be - 1 by omega) (show 0 ≤ f1 by omega)
        rw [Int.sub_mul, Int.one_mul] at m1
        rw [Int.zero_mul] at hd
        omega
      · have m1 := Int.mul_nonneg (show 0 ≤ -al by omega) (show 0 ≤ l0 - l1 - 1 by omega)
        rw [Int.mul_sub, Int.mul_sub, Int.mul_one, Int.neg_mul, Int.neg_mul] at m1
        have m2 : 0 < al + be := by
          refine Int.lt_of_not_ge fun q => ?_
          have m3 := Int.mul_nonneg (show 0 ≤ -(al + be) by omega) h3
          rw [Int.neg_mul, Int.add_mul] at m3
          omega
        have m4 := Int.mul_nonneg (show 0 ≤ -al by omega) (show 0 ≤ f1 - f0 - 1 by omega)
        rw [Int.mul_sub, Int.mul_sub, Int.mul_one, Int.neg_mul, Int.neg_mul] at m4
        have m5 := Int.mul_nonneg (show 0 ≤ al + be - 1 by omega) (show 0 ≤ f1 by omega)
        rw [Int.sub_mul, Int.add_mul, Int.one_mul] at m5
        omega
    · have m1 := Int.mul_nonneg (show 0 ≤ -al by omega) h1
      have m2 := Int.mul_nonneg (show 0 ≤ -be by omega) (show 0 ≤ f1 by omega)
      have m3 := Int.mul_nonneg (show 0 ≤ -al by omega) (show 0 ≤ l0 by omega)
      have m4 := Int.mul_nonneg (show 0 ≤ -be by omega) h3
      rw [Int.neg_mul] at m1 m2 m3 m4
      exact absurd ⟨by omega, by omega⟩ hz
theorem zbasis {tn fx fy lx ly px py cx cy x y : Int} (ht : tn = -1 ∨ tn = 1) (hd : tn * (px * cy - py * cx) = 1) :
    zFF tn fx fy x y = (tn * (x * cy - y * cx)) * zFF tn fx fy px py + (tn * (px * y - py * x)) * zFF tn fx fy cx cy ∧ zFL tn lx ly x y = (tn * (x * cy - y * cx)) * zFL tn lx ly px py + (tn * (px * y - py * x)) * zFL tn lx ly cx cy := by
  have hD : px * cy - py * cx = tn := by rcases ht with rfl | rfl <;> omega
  have ex : tn * x = (x * cy - y * cx) * px + (px * y - py * x) * cx := by rw [← hD]; grind
  have ey : tn * y = (x * cy - y * cx) * py + (px * y - py * x) * cy := by rw [← hD]; grind
  unfold zFF zFL
  constructor <;> rcases ht with rfl | rfl <;> grind
theorem zbx1 {ar a b f l z : Int} (h0 : 0 < ar) (h : ar * z = a * f + b * l) (ha : 0 ≤ a ∧ a ≤ ar) (hb : 0 ≤ b ∧ b ≤ ar) : zmin 0 f + zmin 0 l ≤ z ∧ z ≤ zmax 0 f + zmax 0 l := by
  have hf : ar * zmin 0 f ≤ a * f ∧ a * f ≤ ar * zmax 0 f := by
    unfold zmin zmax
    by_cases c : f < 0
    · rw [if_pos c, if_neg (by omega), Int.mul_zero]
      have m1 := Int.mul_nonneg (show 0 ≤ ar - a by omega) (show 0 ≤ -f by omega)
      have m2 := Int.mul_nonneg ha.1 (show 0 ≤ -f by omega)
      rw [Int.sub_mul, Int.mul_neg, Int.mul_neg] at m1
      rw [Int.mul_neg] at m2
      omega
    · rw [if_neg c, Int.mul_zero]
      have m1 := Int.mul_nonneg (show 0 ≤ ar - a by omega) (show 0 ≤ f by omega)
      have m2 := Int.mul_nonneg ha.1 (show 0 ≤ f by omega)
      rw [Int.sub_mul] at m1
      split
      · omega
      · have : f = 0 := by omega
        subst this
        rw [Int.mul_zero, Int.mul_zero]; omega
  have hl : ar * zmin 0 l ≤ b * l ∧ b * l ≤ ar * zmax 0 l := by
    unfold zmin zmax
    by_cases c : l < 0
    · rw [if_pos c, if_neg (by omega), Int.mul_zero]
      have m1 := Int.mul_nonneg (show 0 ≤ ar - b by omega) (show 0 ≤ -l by omega)
      have m2 := Int.mul_nonneg hb.1 (show 0 ≤ -l by omega)
      rw [Int.sub_mul, Int.mul_neg, Int.mul_neg] at m1
      rw [Int.mul_neg] at m2
      omega
    · rw [if_neg c, Int.mul_zero]
      have m1 := Int.mul_nonneg (show 0 ≤ ar - b by omega) (show 0 ≤ l by omega)
      have m2 := Int.mul_nonneg hb.1 (show 0 ≤ l by omega)
      rw [Int.sub_mul] at m1
      split
      · omega
      · have : l = 0 := by omega
        subst this
        rw [Int.mul_zero, Int.mul_zero]; omega
  constructor
  · refine Int.le_of_mul_le_mul_left ?_ h0
    rw [Int.mul_add, h]; omega
  · refine Int.le_of_mul_le_mul_left ?_ h0
    rw [Int.mul_add, h]; omega
/-- the records are the chain -/
theorem zrecs {tn fx fy lx ly ar : Int} {X Y L : Nat → Int} {k : Nat} (ht : tn = -1 ∨ tn = 1) (har : ar = tn * (fx * ly - fy * lx)) (h0 : 0 < ar) (h8 : ar ≤ 800) (hp2 : ∃ p q : Int, lx * p + ly * q = 1) (hL : zlv tn fx fy lx ly ar (zbox fx fy lx ly) L)
    (hX0 : X 0 = fx ∧ Y 0 = fy) (hch : ∀ j, j ≤ k → zchn tn fx fy lx ly ar (X j) (Y j) (X (j + 1)) (Y (j + 1)) j) (hend : zFL tn lx ly (X (k + 1)) (Y (k + 1)) = 0) :
    ∃ D : Nat → Nat, (∀ i, i ≤ k + 1 → ((D i : Nat) : Int) = zFF tn fx fy (X i) (Y i) ∧ L (D i) = zFL tn lx ly (X i) (Y i) ∧ zrec L (D i) ∧ zcn (zrec L) (D i) = i) ∧ zcn (zrec L) (ar.toNat + 1) = k + 2 ∧ (∀ i, i ≤ k + 1 → (D i : Int) ≤ ar) := by
  have f0 : zFF tn fx fy (X 0) (Y 0) = 0 := by rw [hX0.1, hX0.2]; unfold zFF; grind
  have l0 : zFL tn lx ly (X 0) (Y 0) = ar := by rw [hX0.1, hX0.2]; exact zarea_b har
  have hlast := zchn_end ht har h0 hp2 (hch k (Nat.le_refl _)) hend
  have fk : zFF tn fx fy (X (k + 1)) (Y (k + 1)) = ar := by rw [hlast.1, hlast.2, har]; unfold zFF; grind
  have hff : ∀ i, i ≤ k + 1 → 0 ≤ zFF tn fx fy (X i) (Y i) ∧ zFF tn fx fy (X i) (Y i) ≤ ar ∧ 0 ≤ zFL tn lx ly (X i) (Y i) ∧ zFL tn lx ly (X i) (Y i) ≤ ar := fun i hi => by
    cases i with
    | zero => omega
    | succ i =>
      have h := hch i (by omega)
      have h2 := zchn_ff ht har h
      obtain ⟨c1, c2, c3, c4, c5, c6, c7⟩ := h
      omega
  obtain ⟨D, hD⟩ : ∃ D : Nat → Nat, D = fun i => (zFF tn fx fy (X i) (Y i)).toNat := ⟨_, rfl⟩
  have hDi : ∀ i, i ≤ k + 1 → ((D i : Nat) : Int) = zFF tn fx fy (X i) (Y i) := fun i hi => by
    have := hff i hi
    rw [hD]
    show (((zFF tn fx fy (X i) (Y i)).toNat : Nat) : Int) = _
    omega
  have hinc : ∀ i, i ≤ k → D i < D (i + 1) := fun i hi => by
    have h := hch i hi
    have a := hDi i (by omega)
    have b := hDi (i + 1) (by omega)
    have := h.2.2.1
    omega
  have hlw : ∀ i, i ≤ k → ∀ (d : Nat) (e x y : Int), D i ≤ d → d < D (i + 1) → zok tn fx fy lx ly ar d e x y → zFL tn lx ly (X i) (Y i) ≤ e := fun i hi d e x y d1 d2 ho => by
    obtain ⟨c1, c2, c3, c4, c5, c6, c7⟩ := hch i hi
    obtain ⟨o1, o2, o3, o4, o5, o6⟩ := ho
    obtain ⟨b1, b2⟩ := zbasis (fx := fx) (fy := fy) (lx := lx) (ly := ly) (x := x) (y := y) ht c1
    have a := hDi (i + 1) (by omega)
    exact zlow c2 c3 c4 c5 (o1.symm.trans b1) (o2.symm.trans b2) (by omega) (by omega) o5 o3
  have hLi : ∀ i, i ≤ k + 1 → L (D i) = zFL tn lx ly (X i) (Y i) := fun i hi => by
    have hf := hff i hi
    have hd := hDi i hi
    obtain ⟨k1, k2, k3⟩ := hL (D i) (by omega)
    have hpx := zpl_x (fx := fx) (fy := fy) (i := X i) (j := Y i) ht har
    have hbx : zbox fx fy lx ly (X i) (Y i) := ⟨zbx1 h0 hpx.1 ⟨hf.2.2.1, hf.2.2.2⟩ ⟨hf.1, hf.2.1⟩, zbx1 h0 hpx.2 ⟨hf.2.2.1, hf.2.2.2⟩ ⟨hf.1, hf.2.1⟩⟩
    have hnz : ¬ (((D i : Nat) : Int) = 0 ∧ zFL tn lx ly (X i) (Y i) = 0) := by
      cases i with
      | zero => omega
      | succ i => have := (hch i (by omega)).2.2.1; have := (hch i (by omega)).2.1; omega
    have hle := k3 _ _ _ hbx ⟨hd.symm, rfl, hnz, by omega, hf.2.2.1, hf.2.2.2⟩
    rcases k2 with k2 | ⟨x, y, -, ho⟩
    · omega
    · by_cases c : i ≤ k
      · have := hlw i c (D i) (L (D i)) x y (Nat.le_refl _) (hinc i c) ho
        omega
      · have e : i = k + 1 := by omega
        have := ho.2.2.2.2.1
        subst e
        omega
  have hLd : ∀ i, i ≤ k → ∀ d, D i ≤ d → d < D (i + 1) → zFL tn lx ly (X i) (Y i) ≤ L d := fun i hi d d1 d2 => by
    have a := hDi (i + 1) (by omega)
    have b := hff (i + 1) (by omega)
    obtain ⟨k1, k2, k3⟩ := hL d (by omega)
    rcases k2 with k2 | ⟨x, y, -, ho⟩
    · have := hff i (by omega); omega
    · exact hlw i hi d (L d) x y d1 d2 ho
  have hD0 : D 0 = 0 := by have := hDi 0 (by omega); omega
  -- below a record, all is farther
  have hbl : ∀ i, i ≤ k + 1 → ∀ c, c < D i → zFL tn lx ly (X i) (Y i) < L c := by
    intro i
    induction i with
    | zero => intro _ c hc; omega
    | succ i ih =>
      intro hi c hc
      have h := (hch i (by omega)).2.2.2.2.1
      by_cases q : c < D i
      · have := ih (by omega) c q; omega
      · have := hLd i (by omega) c (by omega) hc; omega
  have hrc : ∀ i, i ≤ k + 1 → zrec L (D i) := fun i hi => by
    refine ⟨?_, fun c hc => ?_⟩
    · rw [hLi i hi]; have := hff i hi; omega
    · rw [hLi i hi]; exact hbl i hi c hc
  have hnr : ∀ i, i ≤ k → ∀ d, D i < d → d < D (i + 1) → ¬ zrec L d := fun i hi d d1 d2 z => by
    have h1 := z.2 (D i) d1
    rw [hLi i (by omega)] at h1
    have h2 := hLd i hi d (by omega) d2
    omega
  have hgap : ∀ i, i ≤ k → ∀ n, D i + 1 + n ≤ D (i + 1) → zcn (zrec L) (D i + 1 + n) = zcn (zrec L) (D i + 1) := by
    intro i hi n
    induction n with
    | zero => intro _; rfl
    | succ n ih =>
      intro h
      rw [show D i + 1 + (n + 1) = D i + 1 + n + 1 from rfl, zcn_f (hnr i hi _ (by omega) (by omega))]
      exact ih (by omega)
  have hcn : ∀ i, i ≤ k + 1 → zcn (zrec L) (D i) = i := by
    intro i
    induction i with
    | zero => intro _; rw [hD0]; rfl
    | succ i ih =>
      intro hi
      have h1 := hgap i (by omega) (D (i + 1) - (D i + 1)) (by have := hinc i (by omega); omega)
      rw [show D i + 1 + (D (i + 1) - (D i + 1)) = D (i + 1) by have := hinc i (by omega); omega, zcn_t (hrc i (by omega)), ih (by omega)] at h1
      exact h1
  refine ⟨D, fun i hi => ⟨hDi i hi, hLi i hi, hrc i hi, hcn i hi⟩, ?_, fun i hi => by have := hDi i hi; have := hff i hi; omega⟩
  have e : D (k + 1) = ar.toNat := by have := hDi (k + 1) (by omega); omega
  rw [← e, zcn_t (hrc _ (Nat.le_refl _)), hcn _ (Nat.le_refl _)]
theorem zanew_k {x y v w XX T : Int} {N : Nat} {fx fy lx ly tn ar : Int} {X Y : Nat → Int} {k : Nat} (hn : zcnm x y v w) (h : zfolP x y v w XX T N fx fy lx ly tn ar) (g : zgenK x y v w X Y k) : ((N : Int) + 1) = (((k + 2 : Nat) : Nat) : Int) ∧ ∀ pl wx wy, 0 ≤ pl → pl < (k : Int) + 2 → zwj tn lx ly fx fy (XX - T * fx) (zsecY fx fy tn XX - T * fy) N pl wx wy → wx = X pl.toNat ∧ wy = Y pl.toNat := by
  obtain ⟨b1, b2, b3, b4, b5, b6, c0, -, ⟨a, b, s1, s2, s3, s4⟩, -⟩ := g
  obtain ⟨z0, zb1, zp, zs, zf, zq, zN, zE⟩ := h
  obtain ⟨rfl, rfl, rfl, rfl, rfl, rfl⟩ := zcone_un z0 c0
  obtain ⟨t1, t2, t3⟩ := zcone_t z0
  have hp1 := zcone_p1 z0
  obtain ⟨rfl, rfl⟩ := zsnd_un t1 t2 zp hp1 (zsec_snd t1 t2 hp1 zs zf) s1
  have hN := zgen_eq zN s2 s3 s4 zq zE
  subst hN
  refine ⟨by omega, fun pl wx wy p0 p1 hw => ?_⟩
  by_cases c : pl = 0
  · subst c
    obtain ⟨w1, w2⟩ := hw.2 (fun j _ => by omega)
    have h0 := s2 0 (Nat.zero_le _)
    simp only [zhj, Prod.mk.injEq] at h0
    exact ⟨w1.trans h0.1, w2.trans h0.2.1⟩
  · obtain ⟨w1, w2⟩ := hw.1 (pl.toNat - 1) (by omega) (by omega)
    rw [s2 (pl.toNat - 1) (by omega), show pl.toNat - 1 + 1 = pl.toNat by omega] at w1 w2
    exact ⟨w1, w2⟩
theorem zlook_k {x y v w : Int} {L : Nat → Int} {fx fy lx ly tn ar : Int} {X Y : Nat → Int} {k : Nat} (hn : zcnm x y v w) (h : zlookP x y v w L fx fy lx ly tn ar) (g : zgenK x y v w X Y k) : ((zcn (zrec L) (ar.toNat + 1) : Nat) : Int) = (((k + 2 : Nat) : Nat) : Int) ∧ ∀ pl wx wy, 0 ≤ pl → pl < (k : Int) + 2 → zwant L fx fy lx ly ar (ar.toNat + 1) pl wx wy → wx = X pl.toNat ∧ wy = Y pl.toNat := by
  obtain ⟨b1, b2, b3, b4, b5, b6, c0, cb, ⟨a, b, s1, s2, s3, s4⟩, -⟩ := g
  obtain ⟨z0, zb1, zp, zl⟩ := h
  obtain ⟨rfl, rfl, rfl, rfl, rfl, rfl⟩ := zcone_un z0 c0
  obtain ⟨t1, t2, t3⟩ := zcone_t z0
  have h8 := zcone_ar z0 zb1.1 zb1.2.1 zb1.2.2.1 zb1.2.2.2
  obtain ⟨x0, hch⟩ := zgen_chn t2 s1 s2 s3
  obtain ⟨D, d1, d2, d3⟩ := zrecs t1 t2 zp h8 (zcone_p2 z0) zl x0 hch s4
  refine ⟨by rw [d2], fun pl wx wy p0 p1 hw => ?_⟩
  obtain ⟨i, rfl⟩ : ∃ i : Nat, pl = (i : Int) := ⟨pl.toNat, by omega⟩
  have hi : i ≤ k + 1 := by omega
  obtain ⟨q1, q2, q3, q4⟩ := d1 i hi
  have hle := d3 i hi
  obtain ⟨w1, w2⟩ := hw (D i) (by omega) q3 (by rw [q4])
  have hpx := zpl_x (fx := fx) (fy := fy) (i := X i) (j := Y i) t1 t2
  rw [q2, q1, ← hpx.1, Int.mul_tdiv_cancel_left _ (by omega)] at w1
  rw [q2, q1, ← hpx.2, Int.mul_tdiv_cancel_left _ (by omega)] at w2
  exact ⟨w1, w2⟩
set_option maxHeartbeats 2000000 in
theorem zl_index {x : zSt} (I : zInv x) {a1 a2 a3 a4 : Int} {u_kr : Int} {u_O1 : Nat → Int} {u_n1 : Int} {u_n2 : Int} {u_n3 : Int} {u_n4 : Int} {u_n5 : Int} {u_n6 : Int} (hh : (u_kr = 0 ∧ u_O1 = zU x.OF 0 (zT32 u_n6) ∧ (zcnm a1 a2 a3 a4) ∧ (zcone a1 a2 a3 a4 u_n1 u_n2 u_n3 u_n4 u_n5 u_n6)) ∨ (u_kr = 1 ∧ u_O1 = x.OF ∧ (¬ zcnm a1 a2 a3 a4))) {m_rr : Int} {m_t1 : Int} (hix : zindR a1 a2 a3 a4 m_rr m_t1) : m_t1 = u_kr ∧ (0 ≤ u_kr ∧ u_kr ≤ 3) ∧ (u_kr = 0 → u_O1 0 = zT32 m_rr) ∧ zInv (zMk x.sc x.K x.FA x.FB x.FC x.FE u_O1 x.P x.Qu x.M x.kk x.f0 x.l0 x.b0 x.t0 x.x0 x.y0 u_n1 u_n2 u_n3 u_n4 u_n5 u_n6 x.wx x.wy x.L0 x.n x.wg x.W0 x.Ls m_t1 x.sh x.MN x.MA x.MB x.MC x.ME x.Yp x.Yq x.Yo x.ro x.fi x.la x.lo x.hi x.co x.Kc x.Wt x.Ip x.ge x.GX x.GY x.ir) := by
  unfold zindR at hix
  rcases hh with ⟨rfl, rfl, k1, k2⟩ | ⟨rfl, rfl, k1⟩
  · rcases hix with ⟨g1, g2⟩ | ⟨g1, g2, g3⟩
    · exact absurd k1 g2
    · exact ⟨g1, by omega, fun _ => by rw [zU_same, g3, zcone_ix k2], I⟩
  · rcases hix with ⟨g1, g2⟩ | ⟨g1, g2, g3⟩
    · exact ⟨g1, by omega, fun z => absurd z (by decide), I⟩
    · exact absurd g2 k1
set_option maxHeartbeats 2000000 in
theorem zl_generator {x : zSt} (I : zInv x) {a1 a2 a3 a4 a5 a6 : Int} {u_kr : Int} {u_O1 : Nat → Int} {u_rr : Int} {u_n1 : Int} {u_n2 : Int} {u_n3 : Int} {u_n4 : Int} {u_n5 : Int} {u_n6 : Int} {u_n7 : Int} {u_n8 : Int} {u_L1 : Nat → Int} (hh : (u_kr = 0 ∧ u_O1 = zU x.OF 0 (zT32 u_rr) ∧ (-1 ≤ a5 ∧ zcnm a1 a2 a3 a4) ∧ (zlookP a1 a2 a3 a4 u_L1 u_n1 u_n2 u_n3 u_n4 u_n5 u_n6 ∧ zwant u_L1 u_n1 u_n2 u_n3 u_n4 u_n6 (u_n6.toNat + 1) a5 u_n7 u_n8) ∧ ((a5 = -1 ∧ u_rr = ((zcn (zrec u_L1) (u_n6.toNat + 1) : Nat) : Int)) ∨ (¬ a5 = -1 ∧ a5 < ((zcn (zrec u_L1) (u_n6.toNat + 1) : Nat) : Int) ∧ u_rr = (if a6 = 0 then u_n8 else u_n7)))) ∨ (u_kr = 1 ∧ u_O1 = x.OF ∧ (a5 < -1)) ∨ (u_kr = 2 ∧ u_O1 = x.OF ∧ (-1 ≤ a5 ∧ ¬ zcnm a1 a2 a3 a4)) ∨ (u_kr = 1 ∧ u_O1 = x.OF ∧ (-1 ≤ a5 ∧ zcnm a1 a2 a3 a4 ∧ zlookP a1 a2 a3 a4 u_L1 u_n1 u_n2 u_n3 u_n4 u_n5 u_n6 ∧ ¬ a5 = -1 ∧ ((zcn (zrec u_L1) (u_n6.toNat + 1) : Nat) : Int) ≤ a5))) {m_rr : Int} {m_t1 : Int} {m_g1 : Int} {m_X1 : Nat → Int} {m_Y1 : Nat → Int} (hgn : zgenR a1 a2 a3 a4 a5 a6 m_rr m_t1) : m_t1 = u_kr ∧ (0 ≤ u_kr ∧ u_kr ≤ 3) ∧ (u_kr = 0 → u_O1 0 = zT32 m_rr) ∧ zInv (zMk x.sc x.K x.FA x.FB x.FC x.FE u_O1 x.P x.Qu x.M x.kk x.f0 x.l0 x.b0 x.t0 x.x0 x.y0 u_n1 u_n2 u_n3 u_n4 u_n5 u_n6 u_n7 u_n8 u_L1 x.n x.wg x.W0 x.Ls m_t1 x.sh x.MN x.MA x.MB x.MC x.ME x.Yp x.Yq x.Yo x.ro x.fi x.la x.lo x.hi x.co x.Kc x.Wt x.Ip m_g1 m_X1 m_Y1 x.ir) := by
  unfold zgenR at hgn
  rcases hh with ⟨rfl, rfl, ⟨k1, k2⟩, ⟨k3, k4⟩, k5⟩ | ⟨rfl, rfl, k1⟩ | ⟨rfl, rfl, k1, k2⟩ | ⟨rfl, rfl, k1, k2, k3, k4, k5⟩
  · rcases hgn with ⟨g1, g2⟩ | ⟨g1, g2, g3⟩ | ⟨g1, g2, X, Y, k, g3, g4⟩
    · omega
    · exact absurd k2 g3
    · obtain ⟨e1, e2⟩ := zlook_k k2 k3 g3
      rw [e1] at k5
      rcases k5 with ⟨p1, p2⟩ | ⟨p1, p2, p3⟩
      · rcases g4 with ⟨q1, q2⟩ | ⟨q1, q2, q3⟩ | ⟨q1, q2, q3, q4⟩
        · omega
        · refine ⟨q1, by omega, fun _ => ?_, I⟩
          rw [zU_same, p2, q3]; congr 1
        · omega
      · rcases g4 with ⟨q1, q2⟩ | ⟨q1, q2, q3⟩ | ⟨q1, q2, q3, q4⟩
        · omega
        · omega
        · refine ⟨q1, by omega, fun _ => ?_, I⟩
          obtain ⟨w1, w2⟩ := e2 a5 u_n7 u_n8 q2 (by omega) k4
          rw [zU_same, p3, q4, w1, w2]
  · rcases hgn with ⟨g1, g2⟩ | ⟨g1, g2, g3⟩ | ⟨g1, g2, X, Y, k, g3, g4⟩
    · exact ⟨g1, by omega, fun z => absurd z (by decide), I⟩
    · omega
    · omega
  · rcases hgn with ⟨g1, g2⟩ | ⟨g1, g2, g3⟩ | ⟨g1, g2, X, Y, k, g3, g4⟩
    · omega
    · exact ⟨g1, by omega, fun z => absurd z (by decide), I⟩
    · exact absurd g2 k2
  · rcases hgn with ⟨g1, g2⟩ | ⟨g1, g2, g3⟩ | ⟨g1, g2, X, Y, k, g3, g4⟩
    · omega
    · exact absurd k2 g3
    · obtain ⟨e1, e2⟩ := zlook_k k2 k3 g3
      rw [e1] at k5
      rcases g4 with ⟨q1, q2⟩ | ⟨q1, q2, q3⟩ | ⟨q1, q2, q3, q4⟩
      · exact ⟨q1, by omega, fun z => absurd z (by decide), I⟩
      · omega
      · omega
set_option maxHeartbeats 2000000 in
theorem zl_generatorAnew {x : zSt} (I : zInv x) {a1 a2 a3 a4 a5 a6 : Int} {u_kr : Int} {u_O1 : Nat → Int} {u_rr : Int} {u_n1 : Int} {u_n2 : Int} {u_n3 : Int} {u_n4 : Int} {u_n5 : Int} {u_n6 : Int} {u_n7 : Int} {u_n8 : Int} {u_X : Int} {u_T : Int} {u_N : Nat} (hh : (u_kr = 0 ∧ u_O1 = zU x.OF 0 (zT32 u_rr) ∧ (-1 ≤ a5 ∧ zcnm a1 a2 a3 a4) ∧ (zfolP a1 a2 a3 a4 u_X u_T u_N u_n1 u_n2 u_n3 u_n4 u_n5 u_n6 ∧ zwj u_n5 u_n3 u_n4 u_n1 u_n2 (u_X - u_T * u_n1) (zsecY u_n1 u_n2 u_n5 u_X - u_T * u_n2) u_N a5 u_n7 u_n8) ∧ ((a5 = -1 ∧ u_rr = ((u_N : Int) + 1)) ∨ (¬ a5 = -1 ∧ a5 < ((u_N : Int) + 1) ∧ u_rr = (if a6 = 0 then u_n8 else u_n7)))) ∨ (u_kr = 1 ∧ u_O1 = x.OF ∧ (a5 < -1)) ∨ (u_kr = 2 ∧ u_O1 = x.OF ∧ (-1 ≤ a5 ∧ ¬ zcnm a1 a2 a3 a4)) ∨ (u_kr = 1 ∧ u_O1 = x.OF ∧ (-1 ≤ a5 ∧ zcnm a1 a2 a3 a4 ∧ zfolP a1 a2 a3 a4 u_X u_T u_N u_n1 u_n2 u_n3 u_n4 u_n5 u_n6 ∧ ¬ a5 = -1 ∧ ((u_N : Int) + 1) ≤ a5))) {m_rr : Int} {m_t1 : Int} {m_g1 : Int} {m_X1 : Nat → Int} {m_Y1 : Nat → Int} (hgn : zgenR a1 a2 a3 a4 a5 a6 m_rr m_t1) : m_t1 = u_kr ∧ (0 ≤ u_kr ∧ u_kr ≤ 3) ∧ (u_kr = 0 → u_O1 0 = zT32 m_rr) ∧ zInv (zMk x.sc x.K x.FA x.FB x.FC x.FE u_O1 x.P x.Qu x.M x.kk x.f0 x.l0 x.b0 x.t0 x.x0 x.y0 u_n1 u_n2 u_n3 u_n4 u_n5 u_n6 u_n7 u_n8 x.L0 x.n x.wg x.W0 x.Ls m_t1 x.sh x.MN x.MA x.MB x.MC x.ME x.Yp x.Yq x.Yo x.ro x.fi x.la x.lo x.hi x.co x.Kc x.Wt x.Ip m_g1 m_X1 m_Y1 x.ir) := by
  unfold zgenR at hgn
  rcases hh with ⟨rfl, rfl, ⟨k1, k2⟩, ⟨k3, k4⟩, k5⟩ | ⟨rfl, rfl, k1⟩ | ⟨rfl, rfl, k1, k2⟩ | ⟨rfl, rfl, k1, k2, k3, k4, k5⟩
  · rcases hgn with ⟨g1, g2⟩ | ⟨g1, g2, g3⟩ | ⟨g1, g2, X, Y, k, g3, g4⟩
    · omega
    · exact absurd k2 g3
    · obtain ⟨e1, e2⟩ := zanew_k k2 k3 g3
      rw [e1] at k5
      rcases k5 with ⟨p1, p2⟩ | ⟨p1, p2, p3⟩
      · rcases g4 with ⟨q1, q2⟩ | ⟨q1, q2, q3⟩ | ⟨q1, q2, q3, q4⟩
        · omega
        · refine ⟨q1, by omega, fun _ => ?_, I⟩
          rw [zU_same, p2, q3]; congr 1
        · omega
      · rcases g4 with ⟨q1, q2⟩ | ⟨q1, q2, q3⟩ | ⟨q1, q2, q3, q4⟩
        · omega
        · omega
        · refine ⟨q1, by omega, fun _ => ?_, I⟩
          obtain ⟨w1, w2⟩ := e2 a5 u_n7 u_n8 q2 (by omega) k4
          rw [zU_same, p3, q4, w1, w2]
  · rcases hgn with ⟨g1, g2⟩ | ⟨g1, g2, g3⟩ | ⟨g1, g2, X, Y, k, g3, g4⟩
    · exact ⟨g1, by omega, fun z => absurd z (by decide), I⟩
    · omega
    · omega
  · rcases hgn with ⟨g1, g2⟩ | ⟨g1, g2, g3⟩ | ⟨g1, g2, X, Y, k, g3, g4⟩
    · omega
    · exact ⟨g1, by omega, fun z => absurd z (by decide), I⟩
    · exact absurd g2 k2
  · rcases hgn with ⟨g1, g2⟩ | ⟨g1, g2, g3⟩ | ⟨g1, g2, X, Y, k, g3, g4⟩
    · omega
    · exact absurd k2 g3
    · obtain ⟨e1, e2⟩ := zanew_k k2 k3 g3
      rw [e1] at k5
      rcases g4 with ⟨q1, q2⟩ | ⟨q1, q2, q3⟩ | ⟨q1, q2, q3, q4⟩
      · exact ⟨q1, by omega, fun z => absurd z (by decide), I⟩
      · omega
      · omega
