/-! the model's points -/
def zmst (tm lt inr : Int) (C E : Nat → Int) (t : Nat) : Nat → Int := fun i => (if tm < 0 then C (10 * t + i) + E (10 * t + i) * lt else C (10 * t + i) * tm) - (if inr = 0 then 0 else 1)
def zgood (A B M : Nat → Int) (k : Nat) : Prop := (∃ i, i < k ∧ 0 < B i) ∧ (∃ i, i < k ∧ B i < 0) ∧ (∀ x y, zfe A B M k x y → (-2000000 ≤ x ∧ x ≤ 2000000) ∧ (-2000000 ≤ y ∧ y ≤ 2000000)) ∧ (∀ f l r, zlk A B M k (fun a b => a < k ∧ b < a) f l r → ∀ x y, zfe A B M k x y → f ≤ x ∧ x ≤ l)
theorem zfe_cg {A B M A1 B1 M1 : Nat → Int} {k : Nat} (ha : ∀ i, i < k → A1 i = A i) (hb : ∀ i, i < k → B1 i = B i) (hm : ∀ i, i < k → M1 i = M i) (x y : Int) : zfe A1 B1 M1 k x y ↔ zfe A B M k x y := by
  constructor
  · intro h i hi; rw [← ha i hi, ← hb i hi, ← hm i hi]; exact h i hi
  · intro h i hi; rw [ha i hi, hb i hi, hm i hi]; exact h i hi
theorem zvt_cg {A B M A1 B1 M1 : Nat → Int} {k a b : Nat} (ha : ∀ i, i < k → A1 i = A i) (hb : ∀ i, i < k → B1 i = B i) (hm : ∀ i, i < k → M1 i = M i) (h1 : a < k) (h2 : b < k) :
    zvx A1 B1 M1 a b = zvx A B M a b ∧ zvb A1 B1 a b = zvb A B a b ∧ (zvt A1 B1 M1 k a b ↔ zvt A B M k a b) := by
  have e0 : zbel A1 B1 a b = zbel A B a b := by unfold zbel; rw [ha a h1, ha b h2, hb a h1, hb b h2]
  have e1 : zvx A1 B1 M1 a b = zvx A B M a b := by unfold zvx; rw [e0, hb a h1, hb b h2, hm a h1, hm b h2]
  have e2 : zvy A1 B1 M1 a b = zvy A B M a b := by unfold zvy; rw [e0, ha a h1, ha b h2, hm a h1, hm b h2]
  have e3 : zvb A1 B1 a b = zvb A B a b := by unfold zvb; rw [e0]
  refine ⟨e1, e3, ?_⟩
  unfold zvt
  rw [e0, e1, e2, e3]
  constructor
  · rintro ⟨p, q⟩; exact ⟨p, fun d hd => by rw [← ha d hd, ← hb d hd, ← hm d hd]; exact q d hd⟩
  · rintro ⟨p, q⟩; exact ⟨p, fun d hd => by rw [ha d hd, hb d hd, hm d hd]; exact q d hd⟩
theorem zgood_cg {A B M A1 B1 M1 : Nat → Int} {k : Nat} (ha : ∀ i, i < k → A1 i = A i) (hb : ∀ i, i < k → B1 i = B i) (hm : ∀ i, i < k → M1 i = M i) (h : zgood A B M k) : zgood A1 B1 M1 k := by
  obtain ⟨⟨i, g1, g2⟩, ⟨j, g3, g4⟩, g5, g6⟩ := h
  refine ⟨⟨i, g1, by rw [hb i g1]; exact g2⟩, ⟨j, g3, by rw [hb j g3]; exact g4⟩, ?_, ?_⟩
  · intro x y z; exact g5 x y ((zfe_cg ha hb hm x y).mp z)
  · intro f l r z x y w
    refine g6 f l r ?_ x y ((zfe_cg ha hb hm x y).mp w)
    rcases z with z | z
    · exact Or.inl ⟨z.1, z.2.1, z.2.2.1, fun a b q v => z.2.2.2 a b q ((zvt_cg ha hb hm q.1 (by omega)).2.2.mpr v)⟩
    · refine Or.inr ⟨z.1, z.2.1, z.2.2.1, fun a b q v => ?_⟩
      have c := zvt_cg ha hb hm q.1 (show b < k by omega)
      have d := z.2.2.2 a b q (c.2.2.mpr v)
      unfold zvc zvd at d ⊢
      rw [c.1, c.2.1] at d
      exact d
theorem zcol_cg {A B M A1 B1 M1 : Nat → Int} {k : Nat} (ha : ∀ i, i < k → A1 i = A i) (hb : ∀ i, i < k → B1 i = B i) (hm : ∀ i, i < k → M1 i = M i) (x : Int) : zcol A1 B1 M1 k x = zcol A B M k x := zn_congr (fun j _ => zfe_cg ha hb hm x _)
theorem zpts_cg {A B M A1 B1 M1 : Nat → Int} {k : Nat} (ha : ∀ i, i < k → A1 i = A i) (hb : ∀ i, i < k → B1 i = B i) (hm : ∀ i, i < k → M1 i = M i) : zpts A1 B1 M1 k = zpts A B M k := zsm_congr (fun j _ => zcol_cg ha hb hm _)
theorem zmp_out {A B M : Nat → Int} {k : Nat} {f l r x : Int} (hg : zgood A B M k) (hl : zlk A B M k (fun a b => a < k ∧ b < a) f l r) (hx : x < f ∨ l < x) : zcol A B M k x = 0 := by
  unfold zcol
  refine zn_zero (fun j _ h => ?_)
  have := hg.2.2.2 f l r hl x _ h
  omega
theorem zmp_0 {A B M : Nat → Int} {k : Nat} {f l r : Int} (hg : zgood A B M k) (hl : zlk A B M k (fun a b => a < k ∧ b < a) f l r) : (0 : Int) = (zsm (fun x => zcol A B M k x) (-2000000) (f + 2000000).toNat : Int) := by
  rw [zsm_zero]
  · rfl
  · intro j hj
    exact zmp_out hg hl (Or.inl (by omega))
theorem zcol_R {A B M : Nat → Int} {k : Nat} {x r l h : Int} (hg : zgood A B M k) (hc : zcolR A B M k x r l h) : r = (zcol A B M k x : Int) := by
  unfold zcol
  rcases hc with hc | hc
  · rw [zn_zero (fun j _ z => hc.2 _ z), hc.1]; rfl
  · have b1 := (hg.2.2.1 x l ((hc.2.2 l).mpr (by omega))).2
    have b2 := (hg.2.2.1 x h ((hc.2.2 h).mpr (by omega))).2
    have e := zn_iv (p := fun y => zfe A B M k x y) (lo := -2000000) (b := l) (t := h) (n := 4000001) (by omega) (fun j _ => hc.2.2 _)
    rw [e]
    unfold zmax zmin
    split <;> (try split) <;> omega
theorem zmp_s {A B M : Nat → Int} {k : Nat} {x r l h a : Int} (hg : zgood A B M k) (hx : -2000000 ≤ x) (ha : a = (zsm (fun x => zcol A B M k x) (-2000000) (x + 2000000).toNat : Int)) (hc : zcolR A B M k x r l h) : a + r = (zsm (fun x => zcol A B M k x) (-2000000) (x + 1 + 2000000).toNat : Int) := by
  rw [show (x + 1 + 2000000).toNat = (x + 2000000).toNat + 1 by omega, zsm_s, show -2000000 + (((x + 2000000).toNat : Nat) : Int) = x by omega, Int.natCast_add, ← zcol_R hg hc, ha]
theorem zmp_e {A B M : Nat → Int} {k : Nat} {f l r x a : Int} (hg : zgood A B M k) (hl : zlk A B M k (fun a b => a < k ∧ b < a) f l r) (hx0 : -2000000 ≤ x) (hx2 : x ≤ 2000001) (hlx : l < x) (ha : a = (zsm (fun x => zcol A B M k x) (-2000000) (x + 2000000).toNat : Int)) : a = (zpts A B M k : Int) := by
  rw [ha]
  unfold zpts
  rw [zsm_more (n := (x + 2000000).toNat) (m := 4000001) (by omega)]
  intro j h1 h2
  exact zmp_out hg hl (Or.inr (by omega))
/-! the model's best point -/
theorem zmb_0 {A B M : Nat → Int} {k : Nat} {f l r p q bx bY : Int} (hg : zgood A B M k) (hl : zlk A B M k (fun a b => a < k ∧ b < a) f l r) : zbst A B M k p q f 0 bx bY :=
  Or.inl ⟨rfl, fun x y h _ h2 _ _ => by have := hg.2.2.2 f l r hl x y h; omega⟩
theorem zmb_end {A B M : Nat → Int} {k : Nat} {z q x r l h : Int} (hg : zgood A B M k) (hc : zcolR A B M k x r l h) (hr : 0 < r) (hz : 0 < q ∧ z = h ∨ ¬ 0 < q ∧ z = l) : zendb A B M k q x z := by
  rcases hc with hc | hc
  · omega
  · have hf : zfe A B M k x z := (hc.2.2 z).mpr (by omega)
    refine ⟨hf, (hg.2.2.1 x z hf).2, fun y hy _ _ => ?_⟩
    have b := (hc.2.2 y).mp hy
    rcases hz with g | g
    · by_cases e : y = z
      · right; exact ⟨by rw [e], by omega⟩
      · left; exact Int.mul_lt_mul_of_pos_left (by omega) g.1
    · by_cases q0 : q = 0
      · right; rw [q0]; exact ⟨by omega, by omega⟩
      · by_cases e : y = z
        · right; exact ⟨by rw [e], by omega⟩
        · left
          have := Int.mul_lt_mul_of_pos_left (show z < y by omega) (show 0 < -q by omega)
          rw [Int.neg_mul, Int.neg_mul] at this
          omega
theorem zmb_none {A B M : Nat → Int} {k : Nat} {x r l h : Int} (hc : zcolR A B M k x r l h) (hr : ¬ 0 < r) : ∀ y, -2000000 ≤ y → y ≤ 2000000 → ¬ zfe A B M k x y := by
  intro y _ _
  rcases hc with hc | hc
  · exact hc.2 y
  · omega
theorem zmb_e {A B M : Nat → Int} {k : Nat} {f l r x p q fl bx bY : Int} (hg : zgood A B M k) (hl : zlk A B M k (fun a b => a < k ∧ b < a) f l r) (hx2 : x ≤ 2000001) (hlx : l < x) (h : zbst A B M k p q x fl bx bY) : zbst A B M k p q 2000001 fl bx bY := by
  rcases h with h | h
  · exact Or.inl ⟨h.1, fun a b z h1 h2 h3 h4 => h.2 a b z h1 (by have := hg.2.2.2 f l r hl a b z; omega) h3 h4⟩
  · refine Or.inr ⟨h.1, h.2.1, ⟨h.2.2.1.1, Int.lt_of_lt_of_le h.2.2.1.2.1 hx2, h.2.2.1.2.2⟩, fun a b z h1 h2 h3 h4 => h.2.2.2 a b z h1 (by have := hg.2.2.2 f l r hl a b z; omega) h3 h4⟩
theorem zbst_cg {A B M A1 B1 M1 : Nat → Int} {k : Nat} {p q c fl bx bY : Int} (ha : ∀ i, i < k → A1 i = A i) (hb : ∀ i, i < k → B1 i = B i) (hm : ∀ i, i < k → M1 i = M i) (h : zbst A1 B1 M1 k p q c fl bx bY) : zbst A B M k p q c fl bx bY := by
  rcases h with h | h
  · exact Or.inl ⟨h.1, fun a b z => h.2 a b ((zfe_cg ha hb hm a b).mpr z)⟩
  · exact Or.inr ⟨h.1, (zfe_cg ha hb hm _ _).mp h.2.1, h.2.2.1, fun a b z => h.2.2.2 a b ((zfe_cg ha hb hm a b).mpr z)⟩
