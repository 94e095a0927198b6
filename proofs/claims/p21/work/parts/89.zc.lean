/-! cones: the chain is there; what its walks tell of it -/
theorem zchain_end {tn fx fy lx ly ar a b : Int} (h0 : ar = tn * (fx * ly - fy * lx)) (hf : 0 ≤ zFL tn lx ly a b ∧ zFL tn lx ly a b < ar) : ∃ k, zpos tn lx ly fx fy a b k ∧ zFL tn lx ly (zhj tn lx ly fx fy a b k).2.2.1 (zhj tn lx ly fx fy a b k).2.2.2 = 0 := by
  refine Classical.byContradiction fun q => ?_
  have hall : ∀ n, zpos tn lx ly fx fy a b n := by
    intro n
    induction n with
    | zero => exact zpos_0
    | succ n ih =>
      have h1 := (zhj_fall h0 hf n ih).1
      refine zpos_s ih ?_
      by_cases c : zFL tn lx ly (zhj tn lx ly fx fy a b n).2.2.1 (zhj tn lx ly fx fy a b n).2.2.2 = 0
      · exact absurd ⟨n, ih, c⟩ q
      · omega
  have h2 := zhj_fall h0 hf ar.toNat (hall _)
  omega
theorem zgen_ex {x y v w : Int} (hn : zcnm x y v w) {fx fy lx ly tn ar : Int} (hz : zcone x y v w fx fy lx ly tn ar) (hb : (-20 ≤ fx ∧ fx ≤ 20) ∧ (-20 ≤ fy ∧ fy ≤ 20) ∧ (-20 ≤ lx ∧ lx ≤ 20) ∧ (-20 ≤ ly ∧ ly ≤ 20)) : ∃ X Y k, zgenK x y v w X Y k := by
  obtain ⟨t1, t2, t3⟩ := zcone_t hz
  have hp := zcone_pos hz hn
  obtain ⟨a, b, -, -, hs⟩ := zsnd_ex t1 t2 hp (zcone_p1 hz) hb.1 hb.2.1 hb.2.2.1 hb.2.2.2
  have hf := ((zsnd_iff t2).mp hs).2
  obtain ⟨k, k1, k2⟩ := zchain_end t2 hf
  refine ⟨fun j => (zhj tn lx ly fx fy a b j).1, fun j => (zhj tn lx ly fx fy a b j).2.1, k, fx, fy, lx, ly, tn, ar, hz, hb, ⟨a, b, hs, fun j _ => ?_, k1, ?_⟩, ?_⟩
  · rfl
  · exact k2
  · obtain ⟨i1, -, i3⟩ := zhj_fall t2 hf k k1
    omega
theorem zgen_sum {x y v w : Int} {X Y : Nat → Int} {k : Nat} (hn : zcnm x y v w) (g : zgenK x y v w X Y k) {fx fy lx ly tn ar : Int} (hz : zcone x y v w fx fy lx ly tn ar) : (X 0 = fx ∧ Y 0 = fy) ∧ (X (k + 1) = lx ∧ Y (k + 1) = ly) ∧ (∀ j, j ≤ k → tn * (X j * Y (j + 1) - Y j * X (j + 1)) = 1) ∧ (k : Int) + 1 ≤ ar := by
  obtain ⟨b1, b2, b3, b4, b5, b6, c0, cb, ⟨a, b, s1, s2, s3, s4⟩, hk⟩ := g
  obtain ⟨rfl, rfl, rfl, rfl, rfl, rfl⟩ := zcone_un hz c0
  obtain ⟨t1, t2, t3⟩ := zcone_t hz
  have hp := zcone_pos hz hn
  obtain ⟨x0, hch⟩ := zgen_chn t2 s1 s2 s3
  exact ⟨x0, zchn_end t1 t2 hp (zcone_p2 hz) (hch k (Nat.le_refl _)) s4, fun j hj => (hch j hj).1, hk⟩
theorem zcone_law {x y v w fx fy lx ly tn ar : Int} (hz : zcone x y v w fx fy lx ly tn ar) : x.tdiv (zg2 x y) = fx ∧ y.tdiv (zg2 x y) = fy ∧ v.tdiv (zg2 v w) = lx ∧ w.tdiv (zg2 v w) = ly ∧ ((x * w - y * v).tdiv (zg2 x y)).tdiv (zg2 v w) = fx * ly - fy * lx := by
  obtain ⟨⟨h1, h2, hg⟩, ⟨h3, h4, hh⟩, -, -⟩ := hz
  have e := zcone_cross h1 h2 h3 h4
  have h1 : x = zg2 x y * fx := h1
  have h2 : y = zg2 x y * fy := h2
  have h3 : v = zg2 v w * lx := h3
  have h4 : w = zg2 v w * ly := h4
  have e : x * w - y * v = zg2 x y * zg2 v w * (fx * ly - fy * lx) := e
  have g1 : 0 < zg2 x y := by unfold zg2; omega
  have g2 : 0 < zg2 v w := by unfold zg2; omega
  have k1 : (zg2 x y * fx).tdiv (zg2 x y) = fx := Int.mul_tdiv_cancel_left _ (by omega)
  have k2 : (zg2 x y * fy).tdiv (zg2 x y) = fy := Int.mul_tdiv_cancel_left _ (by omega)
  have k3 : (zg2 v w * lx).tdiv (zg2 v w) = lx := Int.mul_tdiv_cancel_left _ (by omega)
  have k4 : (zg2 v w * ly).tdiv (zg2 v w) = ly := Int.mul_tdiv_cancel_left _ (by omega)
  have k5 : (zg2 x y * (zg2 v w * (fx * ly - fy * lx))).tdiv (zg2 x y) = zg2 v w * (fx * ly - fy * lx) := Int.mul_tdiv_cancel_left _ (by omega)
  have k6 : (zg2 v w * (fx * ly - fy * lx)).tdiv (zg2 v w) = fx * ly - fy * lx := Int.mul_tdiv_cancel_left _ (by omega)
  refine ⟨by rw [← h1] at k1; exact k1, by rw [← h2] at k2; exact k2, by rw [← h3] at k3; exact k3, by rw [← h4] at k4; exact k4, ?_⟩
  rw [e, Int.mul_assoc, k5, k6]
theorem zcone_sign {x y v w fx fy lx ly tn ar : Int} (hz : zcone x y v w fx fy lx ly tn ar) : tn = (if fx * ly - fy * lx < 0 then -1 else 1) ∧ ar = tn * (fx * ly - fy * lx) := ⟨hz.2.2.1, (zcone_t hz).2.1⟩
/-- what can be said of both walks -/
theorem zcone_both {x y v w : Int} {X Y : Nat → Int} {k : Nat} (hn : zcnm x y v w) (g : zgenK x y v w X Y k) {L : Nat → Int} {fx fy lx ly tn ar : Int} (h : zlookP x y v w L fx fy lx ly tn ar) : ((zcn (zrec L) (ar.toNat + 1) : Nat) : Int) = (k : Int) + 2 ∧ ∀ pl wx wy, 0 ≤ pl → pl < (k : Int) + 2 → zwant L fx fy lx ly ar (ar.toNat + 1) pl wx wy → wx = X pl.toNat ∧ wy = Y pl.toNat := by
  obtain ⟨a, b⟩ := zlook_k hn h g
  exact ⟨by rw [a]; omega, b⟩
theorem zcone_anew {x y v w XX T : Int} {N : Nat} {X Y : Nat → Int} {k : Nat} (hn : zcnm x y v w) (g : zgenK x y v w X Y k) {fx fy lx ly tn ar : Int} (h : zfolP x y v w XX T N fx fy lx ly tn ar) : ((N : Int) + 1) = (k : Int) + 2 ∧ ∀ pl wx wy, 0 ≤ pl → pl < (k : Int) + 2 → zwj tn lx ly fx fy (XX - T * fx) (zsecY fx fy tn XX - T * fy) N pl wx wy → wx = X pl.toNat ∧ wy = Y pl.toNat := by
  obtain ⟨a, b⟩ := zanew_k hn h g
  exact ⟨by rw [a]; omega, b⟩
