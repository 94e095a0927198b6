def zlookP (x y v w : Int) (L : Nat → Int) (fx fy lx ly tn ar : Int) : Prop := zcone x y v w fx fy lx ly tn ar ∧ ((-20 ≤ fx ∧ fx ≤ 20) ∧ (-20 ≤ fy ∧ fy ≤ 20) ∧ (-20 ≤ lx ∧ lx ≤ 20) ∧ (-20 ≤ ly ∧ ly ≤ 20)) ∧ 0 < ar ∧ zlv tn fx fy lx ly ar (zbox fx fy lx ly) L
def zfolP (x y v w : Int) (X T : Int) (N : Nat) (fx fy lx ly tn ar : Int) : Prop := zcone x y v w fx fy lx ly tn ar ∧ ((-20 ≤ fx ∧ fx ≤ 20) ∧ (-20 ≤ fy ∧ fy ≤ 20) ∧ (-20 ≤ lx ∧ lx ≤ 20) ∧ (-20 ≤ ly ∧ ly ≤ 20)) ∧ 0 < ar ∧ zsec fx fy tn X ∧
  (0 ≤ zFL tn lx ly (X - T * fx) (zsecY fx fy tn X - T * fy) ∧ zFL tn lx ly (X - T * fx) (zsecY fx fy tn X - T * fy) < ar) ∧ zpos tn lx ly fx fy (X - T * fx) (zsecY fx fy tn X - T * fy) (N - 1) ∧
  (1 ≤ N ∧ zFL tn lx ly (zhj tn lx ly fx fy (X - T * fx) (zsecY fx fy tn X - T * fy) (N - 1)).2.2.1 (zhj tn lx ly fx fy (X - T * fx) (zsecY fx fy tn X - T * fy) (N - 1)).2.2.2 = 0)
theorem zcnm_ne {x y v w : Int} (h : zcnm x y v w) : x * w - y * v ≠ 0 := by have := h.2.2.2.2; omega
theorem zcone_pos {x y v w fx fy lx ly tn ar : Int} (h : zcone x y v w fx fy lx ly tn ar) (hn : zcnm x y v w) : 0 < ar := by
  have a := (zcone_ne h.1.1 h.1.2.1 h.2.1.1 h.2.1.2.1 (by have := h.1.2.2; omega) (by have := h.2.1.2.2; omega)).mp (zcnm_ne hn)
  rw [h.2.2.2]
  unfold zabs
  split <;> omega
/-- as long as the distance from the last side is above 0, it falls: so there are no more than the area of them -/
theorem zhj_fall {tn fx fy lx ly ar a b : Int} (h0 : ar = tn * (fx * ly - fy * lx)) (hf : 0 ≤ zFL tn lx ly a b ∧ zFL tn lx ly a b < ar) : ∀ n : Nat, zpos tn lx ly fx fy a b n → 
    (0 ≤ zFL tn lx ly (zhj tn lx ly fx fy a b n).2.2.1 (zhj tn lx ly fx fy a b n).2.2.2) ∧ zFL tn lx ly (zhj tn lx ly fx fy a b n).2.2.1 (zhj tn lx ly fx fy a b n).2.2.2 < zFL tn lx ly (zhj tn lx ly fx fy a b n).1 (zhj tn lx ly fx fy a b n).2.1 ∧ zFL tn lx ly (zhj tn lx ly fx fy a b n).2.2.1 (zhj tn lx ly fx fy a b n).2.2.2 ≤ ar - ((n : Int) + 1) := by
  intro n
  induction n with
  | zero =>
    intro _
    have e := zarea_b (fx := fx) (fy := fy) h0
    refine ⟨hf.1, ?_, ?_⟩
    · show zFL tn lx ly a b < zFL tn lx ly fx fy
      omega
    · show zFL tn lx ly a b ≤ ar - (((0 : Nat) : Int) + 1)
      omega
  | succ n ih =>
    intro hp
    obtain ⟨i1, i2, i3⟩ := ih (fun j hj => hp j (by omega))
    have q := hp n (by omega)
    have c := zceil (p := zFL tn lx ly (zhj tn lx ly fx fy a b n).1 (zhj tn lx ly fx fy a b n).2.1) q
    have e : zhj tn lx ly fx fy a b (n + 1) = zhs tn lx ly (zhj tn lx ly fx fy a b n) := rfl
    rw [e]
    unfold zhs
    dsimp only
    rw [zFL_lin]
    refine ⟨c.1, by omega, by omega⟩
theorem zfol_N {tn fx fy lx ly ar a b : Int} {N : Nat} (ht : tn = -1 ∨ tn = 1) (h0 : ar = tn * (fx * ly - fy * lx)) (hp : 0 < ar) (h8 : ar ≤ 800) (hf : 0 ≤ zFL tn lx ly a b ∧ zFL tn lx ly a b < ar) (h3 : zpos tn lx ly fx fy a b (N - 1))
    (h4 : 1 ≤ N ∧ zFL tn lx ly (zhj tn lx ly fx fy a b (N - 1)).2.2.1 (zhj tn lx ly fx fy a b (N - 1)).2.2.2 = 0) : (N : Int) ≤ 800 := by
  have := zhj_fall h0 hf (N - 1) h3
  omega
