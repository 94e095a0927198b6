/-! sums over windows, points of a shape moved, cut and added to -/
theorem zsm_split (f : Int → Nat) (lo : Int) (a : Nat) : ∀ b, zsm f lo (a + b) = zsm f lo a + zsm f (lo + (a : Int)) b
  | 0 => by rw [Nat.add_zero, zsm_0, Nat.add_zero]
  | b + 1 => by
    have h := zsm_split f lo a b
    rw [show a + (b + 1) = (a + b) + 1 from rfl, zsm_s, zsm_s, h, show lo + ((a + b : Nat) : Int) = lo + (a : Int) + (b : Int) by omega]
    omega
theorem zsm_front (f : Int → Nat) (lo : Int) (n : Nat) : zsm f lo (n + 1) = f lo + zsm f (lo + 1) n := by
  have h := zsm_split f lo 1 n
  have h1 : zsm f lo 1 = f lo := by
    show 0 + f (lo + ((0 : Nat) : Int)) = f lo
    rw [Nat.zero_add, show lo + ((0 : Nat) : Int) = lo by omega]
  rw [show n + 1 = 1 + n by omega, h, h1]
  rfl
theorem zsm_shift (f : Int → Nat) (d lo : Int) : ∀ n, zsm (fun x => f (x + d)) lo n = zsm f (lo + d) n
  | 0 => rfl
  | n + 1 => by rw [zsm_s, zsm_s, zsm_shift f d lo n, show lo + (n : Int) + d = lo + d + (n : Int) by omega]
theorem zsm_rev (f : Int → Nat) (c : Int) : ∀ (n : Nat) (lo : Int), zsm (fun x => f (c - x)) lo n = zsm f (c - lo - (n : Int) + 1) n
  | 0, _ => rfl
  | n + 1, lo => by
    rw [zsm_s, zsm_rev f c n lo, zsm_front f, show c - lo - ((n + 1 : Nat) : Int) + 1 = c - (lo + (n : Int)) by omega, show c - (lo + (n : Int)) + 1 = c - lo - (n : Int) + 1 by omega]
    omega
theorem zsm_win {f : Int → Nat} {B U lo lo2 : Int} {n n2 : Nat} (hf : ∀ x, x < B ∨ U < x → f x = 0) (h1 : lo ≤ B) (h2 : U < lo + (n : Int)) (h3 : lo2 ≤ B) (h4 : U < lo2 + (n2 : Int)) (hBU : B ≤ U + 1) : zsm f lo n = zsm f lo2 n2 := by
  have key : ∀ (l : Int) (m : Nat), l ≤ B → U < l + (m : Int) → zsm f l m = zsm f B (U - B + 1).toNat := by
    intro l m a b
    obtain ⟨p, hp⟩ : ∃ p : Nat, (p : Int) = B - l := ⟨(B - l).toNat, by omega⟩
    obtain ⟨q, hq⟩ : ∃ q : Nat, (q : Int) = U - B + 1 := ⟨(U - B + 1).toNat, by omega⟩
    obtain ⟨r, hr⟩ : ∃ r : Nat, m = p + (q + r) := ⟨m - p - q, by omega⟩
    rw [hr, zsm_split, zsm_split, zsm_zero (c := f) (lo := l) (n := p) (fun j hj => hf _ (by omega)), zsm_zero (c := f) (lo := l + (p : Int) + (q : Int)) (n := r) (fun j hj => hf _ (by omega)), show l + (p : Int) = B by omega, show (U - B + 1).toNat = q by omega]
    omega
  rw [key lo n h1 h2, key lo2 n2 h3 h4]
theorem zsm_cst {f : Int → Nat} {lo : Int} {c : Nat} : ∀ {n : Nat}, (∀ j : Nat, j < n → f (lo + (j : Int)) = c) → zsm f lo n = n * c := by
  intro n
  induction n with
  | zero => intro _; rw [zsm_0, Nat.zero_mul]
  | succ n ih =>
    intro h
    rw [zsm_s, ih (fun j hj => h j (by omega)), h n (by omega), Nat.succ_mul]
theorem zsm_on {f : Int → Nat} {x0 x1 lo : Int} {n c : Nat} (h1 : ∀ x, x0 ≤ x → x ≤ x1 → f x = c) (h0 : ∀ x, x < x0 ∨ x1 < x → f x = 0) (a : lo ≤ x0) (b : x1 < lo + (n : Int)) (d : x0 ≤ x1 + 1) : zsm f lo n = (x1 - x0 + 1).toNat * c := by
  rw [zsm_win (lo2 := x0) (n2 := (x1 - x0 + 1).toNat) h0 a b (by omega) (by omega) d]
  exact zsm_cst (fun j hj => h1 _ (by omega) (by omega))
theorem zsm_le {c d : Int → Nat} {lo : Int} : ∀ {n : Nat}, (∀ j : Nat, j < n → c (lo + (j : Int)) ≤ d (lo + (j : Int))) → zsm c lo n ≤ zsm d lo n := by
  intro n
  induction n with
  | zero => intro _; exact Nat.le_refl _
  | succ n ih =>
    intro h
    have h1 := ih (fun j hj => h j (by omega))
    have h2 := h n (by omega)
    rw [zsm_s, zsm_s]
    omega
/-- some number that isn't 0, in the window -/
theorem zsm_pos {f : Int → Nat} {lo x : Int} {n : Nat} (h : 0 < f x) (a : lo ≤ x) (b : x < lo + (n : Int)) : 0 < zsm f lo n := by
  obtain ⟨p, hp⟩ : ∃ p : Nat, (p : Int) = x - lo := ⟨(x - lo).toNat, by omega⟩
  obtain ⟨r, hr⟩ : ∃ r : Nat, n = p + (r + 1) := ⟨n - p - 1, by omega⟩
  rw [hr, zsm_split, zsm_front, show lo + (p : Int) = x by omega]
  omega
noncomputable def zone (p : Prop) : Nat := @ite Nat p (Classical.propDecidable _) 1 0
theorem zone_t {p : Prop} (h : p) : zone p = 1 := by unfold zone; exact if_pos h
theorem zone_f {p : Prop} (h : ¬ p) : zone p = 0 := by unfold zone; exact if_neg h
theorem zone_cg {p q : Prop} (h : p ↔ q) : zone p = zone q := by
  by_cases c : p
  · rw [zone_t c, zone_t (h.mp c)]
  · rw [zone_f c, zone_f (fun z => c (h.mpr z))]
theorem zone_le {p q : Prop} (h : p → q) : zone p ≤ zone q := by
  by_cases c : p
  · rw [zone_t c, zone_t (h c)]; exact Nat.le_refl _
  · rw [zone_f c]; exact Nat.zero_le _
theorem zpts_dd (A B M : Nat → Int) (k : Nat) : zpts A B M k = zsm (fun x => zsm (fun y => zone (zfe A B M k x y)) (-2000000) 4000001) (-2000000) 4000001 := by
  unfold zpts
  exact zsm_congr (fun j _ => zn_sm _ _ _)
theorem zpts_le {A B M A1 B1 M1 : Nat → Int} {k k1 : Nat} (h : ∀ x y, zfe A B M k x y → zfe A1 B1 M1 k1 x y) : zpts A B M k ≤ zpts A1 B1 M1 k1 := by
  rw [zpts_dd, zpts_dd]
  exact zsm_le (fun j _ => zsm_le (fun i _ => zone_le (h _ _)))
theorem zpts_iff {A B M A1 B1 M1 : Nat → Int} {k k1 : Nat} (h : ∀ x y, zfe A B M k x y ↔ zfe A1 B1 M1 k1 x y) : zpts A B M k = zpts A1 B1 M1 k1 :=
  Nat.le_antisymm (zpts_le (fun x y => (h x y).mp)) (zpts_le (fun x y => (h x y).mpr))
theorem zpts_none {A B M : Nat → Int} {k : Nat} (h : ∀ x y, zfe A B M k x y → -2000000 ≤ x → x < 2000001 → -2000000 ≤ y → y ≤ 2000000 → False) : zpts A B M k = 0 := by
  rw [zpts_dd]
  exact zsm_zero (fun j hj => zsm_zero (fun i hi => zone_f (fun z => h _ _ z (by omega) (by omega) (by omega) (by omega))))
theorem zpts_some {A B M : Nat → Int} {k : Nat} {x y : Int} (h : zfe A B M k x y) (hx : -2000000 ≤ x ∧ x ≤ 2000000) (hy : -2000000 ≤ y ∧ y ≤ 2000000) : 0 < zpts A B M k := by
  rw [zpts_dd]
  refine zsm_pos (x := x) ?_ hx.1 (by omega)
  refine zsm_pos (x := y) ?_ hy.1 (by omega)
  rw [zone_t h]
  exact Nat.one_pos
theorem zpts_bd (A B M : Nat → Int) (k : Nat) : zpts A B M k ≤ 4000001 * 4000001 := by
  rw [zpts_dd]
  have h : ∀ (f : Int → Nat) (c : Nat) (lo : Int) (n : Nat), (∀ x, f x ≤ c) → zsm f lo n ≤ n * c := by
    intro f c lo n hf
    induction n with
    | zero => exact Nat.zero_le _
    | succ n ih =>
      have := hf (lo + (n : Int))
      rw [zsm_s, Nat.succ_mul]
      omega
  refine h _ 4000001 _ _ (fun x => ?_)
  have := h (fun y => zone (zfe A B M k x y)) 1 (-2000000) 4000001 (fun y => by
    by_cases c : zfe A B M k x y
    · rw [zone_t c]; exact Nat.le_refl _
    · rw [zone_f c]; exact Nat.zero_le _)
  rwa [Nat.mul_one] at this
theorem zpts_flip {A B M A1 : Nat → Int} {k : Nat} (h : ∀ i, i < k → A1 i = -A i) : zpts A1 B M k = zpts A B M k := by
  rw [zpts_dd, zpts_dd]
  have e : ∀ x, zsm (fun y => zone (zfe A1 B M k x y)) (-2000000) 4000001 = (fun x => zsm (fun y => zone (zfe A B M k x y)) (-2000000) 4000001) (0 - x) := fun x => by
    refine zsm_congr (fun j _ => zone_cg ⟨fun z i hi => ?_, fun z i hi => ?_⟩)
    · have q := z i hi
      rw [h i hi, Int.neg_mul] at q
      rw [Int.zero_sub, Int.mul_neg]
      exact q
    · have q := z i hi
      rw [Int.zero_sub, Int.mul_neg] at q
      rw [h i hi, Int.neg_mul]
      exact q
  have e2 := zsm_rev (fun x => zsm (fun y => zone (zfe A B M k x y)) (-2000000) 4000001) 0 4000001 (-2000000)
  rw [show (0 : Int) - -2000000 - ((4000001 : Nat) : Int) + 1 = -2000000 by omega] at e2
  refine Eq.trans ?_ e2
  exact zsm_congr (fun j _ => e _)
theorem zpts_shear {A B M B1 : Nat → Int} {k : Nat} (h : ∀ i, i < k → B1 i = B i - A i) (hs : ∀ x y, zfe A B M k x y → (-9000 ≤ x ∧ x ≤ 9000) ∧ (-9000 ≤ y ∧ y ≤ 9000)) : zpts A B1 M k = zpts A B M k := by
  have e : ∀ x y, zfe A B1 M k x y ↔ zfe A B M k (x + -y) y := fun x y => by
    have e1 : ∀ i, i < k → A i * x + B1 i * y = A i * (x + -y) + B i * y := fun i hi => by
      rw [h i hi, Int.mul_add, Int.sub_mul, Int.mul_neg]
      omega
    constructor
    · intro z i hi
      have q := z i hi
      rw [e1 i hi] at q
      exact q
    · intro z i hi
      rw [e1 i hi]
      exact z i hi
  have e1 := (zpts_dd A B1 M k).trans (zsm_swap (fun x y => zone (zfe A B1 M k x y)) (-2000000) (-2000000) 4000001 4000001)
  have e2 := (zpts_dd A B M k).trans (zsm_swap (fun x y => zone (zfe A B M k x y)) (-2000000) (-2000000) 4000001 4000001)
  rw [e1, e2]
  refine zsm_congr (fun j _ => ?_)
  show zsm (fun x => zone (zfe A B1 M k x (-2000000 + (j : Int)))) (-2000000) 4000001 = zsm (fun x => zone (zfe A B M k x (-2000000 + (j : Int)))) (-2000000) 4000001
  generalize -2000000 + (j : Int) = y
  have e3 : ∀ x, zone (zfe A B1 M k x y) = (fun z => zone (zfe A B M k z y)) (x + -y) := fun x => zone_cg (e x y)
  by_cases c : -9000 ≤ y ∧ y ≤ 9000
  · have e4 := zsm_shift (fun z => zone (zfe A B M k z y)) (-y) (-2000000) 4000001
    have e5 : zsm (fun x => zone (zfe A B1 M k x y)) (-2000000) 4000001 = zsm (fun z => zone (zfe A B M k z y)) (-2000000 + -y) 4000001 := (zsm_congr (d := fun x => (fun z => zone (zfe A B M k z y)) (x + -y)) (fun i _ => e3 _)).trans e4
    rw [e5]
    exact zsm_win (B := -9000) (U := 9000) (fun x hx => zone_f (fun z => by have := (hs x y z).1; omega)) (by omega) (by omega) (by omega) (by omega) (by omega)
  · exact (zsm_zero (fun i _ => (e3 _).trans (zone_f (fun z => c (hs _ _ z).2)))).trans (zsm_zero (fun i _ => zone_f (fun z => c (hs _ _ z).2))).symm
theorem zpts_box {A B M : Nat → Int} {k : Nat} {x0 x1 y0 y1 : Int} (h : ∀ x y, zfe A B M k x y ↔ (x0 ≤ x ∧ x ≤ x1) ∧ (y0 ≤ y ∧ y ≤ y1)) (hx : -2000000 ≤ x0 ∧ x0 ≤ x1 + 1 ∧ x1 ≤ 2000000) (hy : -2000000 ≤ y0 ∧ y0 ≤ y1 + 1 ∧ y1 ≤ 2000000) : zpts A B M k = (x1 - x0 + 1).toNat * (y1 - y0 + 1).toNat := by
  rw [zpts_dd]
  refine zsm_on (fun x a b => ?_) (fun x a => ?_) hx.1 (by omega) hx.2.1
  · show zsm (fun y => zone (zfe A B M k x y)) (-2000000) 4000001 = _
    rw [zsm_on (x0 := y0) (x1 := y1) (c := 1) (fun y c d => zone_t ((h x y).mpr ⟨⟨a, b⟩, ⟨c, d⟩⟩)) (fun y c => zone_f (fun z => by have := ((h x y).mp z).2; omega)) hy.1 (by omega) hy.2.1, Nat.mul_one]
  · exact zsm_zero (fun j _ => zone_f (fun z => by have := ((h x _).mp z).1; omega))
/-! the law's shape: its first four rows stay those of a box -/
def zqB (fa fb fc fe : Nat → Int) : Prop := (fa 1 = -fa 0 ∧ fb 1 = -fb 0 ∧ fa 3 = -fa 2 ∧ fb 3 = -fb 2) ∧ (fa 0 * fb 2 - fb 0 * fa 2 = 1 ∨ fa 0 * fb 2 - fb 0 * fa 2 = -1) ∧ ∀ j, j < 4 → (0 ≤ fc j ∧ fc j ≤ 12) ∧ fe j = 0
def zqR (fa fb fc fe : Nat → Int) (k : Nat) : Prop := ∀ j, j < k → (-60 ≤ fa j ∧ fa j ≤ 60) ∧ (-60 ≤ fb j ∧ fb j ≤ 60) ∧ (-999 ≤ fc j ∧ fc j ≤ 999) ∧ (-9 ≤ fe j ∧ fe j ≤ 9) ∧ ¬ (fa j = 0 ∧ fb j = 0)
def zqI (fa fb fc fe : Nat → Int) (k : Nat) : Prop := (4 ≤ k ∧ k ≤ 10) ∧ zqR fa fb fc fe k ∧ zqB fa fb fc fe
theorem zqB_in {fa fb fc fe M : Nat → Int} {k : Nat} (I : zqI fa fb fc fe k) (hM : ∀ j, j < 4 → M j ≤ 12) {x y : Int} (h : zfe fa fb M k x y) : (-1440 ≤ x ∧ x ≤ 1440) ∧ (-1440 ≤ y ∧ y ≤ 1440) := by
  obtain ⟨⟨k4, k10⟩, hr, ⟨⟨e1, e2, e3, e4⟩, hd, hc⟩⟩ := I
  have u0 := h 0 (by omega)
  have u1 := h 1 (by omega)
  have u2 := h 2 (by omega)
  have u3 := h 3 (by omega)
  have m0 := hM 0 (by omega)
  have m1 := hM 1 (by omega)
  have m2 := hM 2 (by omega)
  have m3 := hM 3 (by omega)
  rw [e1, e2, Int.neg_mul, Int.neg_mul] at u1
  rw [e3, e4, Int.neg_mul, Int.neg_mul] at u3
  obtain ⟨a0, b0, -⟩ := hr 0 (by omega)
  obtain ⟨a2, b2, -⟩ := hr 2 (by omega)
  obtain ⟨u, hu⟩ : ∃ u, u = fa 0 * x + fb 0 * y := ⟨_, rfl⟩
  obtain ⟨v, hv⟩ : ∃ v, v = fa 2 * x + fb 2 * y := ⟨_, rfl⟩
  have hu1 : -12 ≤ u ∧ u ≤ 12 := by omega
  have hv1 : -12 ≤ v ∧ v ≤ 12 := by omega
  have p1 := zmulb (a := u) (b := fb 2) (A := 12) (B := 60) hu1.1 hu1.2 b2.1 b2.2
  have p2 := zmulb (a := v) (b := fb 0) (A := 12) (B := 60) hv1.1 hv1.2 b0.1 b0.2
  have p3 := zmulb (a := v) (b := fa 0) (A := 12) (B := 60) hv1.1 hv1.2 a0.1 a0.2
  have p4 := zmulb (a := u) (b := fa 2) (A := 12) (B := 60) hu1.1 hu1.2 a2.1 a2.2
  have ex : (fa 0 * fb 2 - fb 0 * fa 2) * x = u * fb 2 - v * fb 0 := by rw [hu, hv]; grind
  have ey : (fa 0 * fb 2 - fb 0 * fa 2) * y = v * fa 0 - u * fa 2 := by rw [hu, hv]; grind
  rcases hd with hd | hd
  · rw [hd] at ex ey; omega
  · rw [hd] at ex ey; omega
theorem zqI_zero {fa fb fc fe : Nat → Int} {k : Nat} (I : zqI fa fb fc fe k) {x y : Int} (h : zst fa fb k x y) : x = 0 ∧ y = 0 := by
  obtain ⟨⟨k4, k10⟩, hr, ⟨⟨e1, e2, e3, e4⟩, hd, hc⟩⟩ := I
  have u0 := h 0 (by omega)
  have u1 := h 1 (by omega)
  have u2 := h 2 (by omega)
  have u3 := h 3 (by omega)
  rw [e1, e2, Int.neg_mul, Int.neg_mul] at u1
  rw [e3, e4, Int.neg_mul, Int.neg_mul] at u3
  have hu : fa 0 * x + fb 0 * y = 0 := by omega
  have hv : fa 2 * x + fb 2 * y = 0 := by omega
  have ex : (fa 0 * fb 2 - fb 0 * fa 2) * x = (fa 0 * x + fb 0 * y) * fb 2 - (fa 2 * x + fb 2 * y) * fb 0 := by grind
  have ey : (fa 0 * fb 2 - fb 0 * fa 2) * y = (fa 2 * x + fb 2 * y) * fa 0 - (fa 0 * x + fb 0 * y) * fa 2 := by grind
  rw [hu, hv] at ex ey
  rcases hd with hd | hd
  · rw [hd] at ex ey; omega
  · rw [hd] at ex ey; omega
theorem zqI_place {fa fb fc fe : Nat → Int} {k : Nat} (I : zqI fa fb fc fe k) : zpl fa fb k := by
  refine ⟨by have := I.1.1; omega, fun j hj => ⟨fun z => ?_, fun z => ?_⟩⟩
  · have q := zqI_zero I z
    exact (I.2.1 j hj).2.2.2.2 ⟨by omega, by omega⟩
  · have q := zqI_zero I z
    exact (I.2.1 j hj).2.2.2.2 ⟨by omega, by omega⟩
theorem zqI_put {fa fb fc fe : Nat → Int} {k : Nat} {a b c e : Int} (I : zqI fa fb fc fe k) (hk : k < 10) (ha : -60 ≤ a ∧ a ≤ 60) (hb : -60 ≤ b ∧ b ≤ 60) (hc : -999 ≤ c ∧ c ≤ 999) (he : -9 ≤ e ∧ e ≤ 9) (hz : ¬ (a = 0 ∧ b = 0)) : zqI (zU fa k a) (zU fb k b) (zU fc k c) (zU fe k e) (k + 1) := by
  obtain ⟨⟨k4, k10⟩, hr, ⟨⟨e1, e2, e3, e4⟩, hd, hcc⟩⟩ := I
  have n : ∀ (f : Nat → Int) (v : Int) (j : Nat), j < 4 → zU f k v j = f j := fun f v j hj => zU_ne (show j ≠ k by omega)
  refine ⟨⟨by omega, by omega⟩, fun j hj => ?_, ⟨⟨?_, ?_, ?_, ?_⟩, ?_, fun j hj => ?_⟩⟩
  · by_cases q : j = k
    · rw [q, zU_same, zU_same, zU_same, zU_same]; exact ⟨ha, hb, hc, he, hz⟩
    · rw [zU_ne q, zU_ne q, zU_ne q, zU_ne q]; exact hr j (by omega)
  · rw [n fa a 1 (by omega), n fa a 0 (by omega)]; exact e1
  · rw [n fb b 1 (by omega), n fb b 0 (by omega)]; exact e2
  · rw [n fa a 3 (by omega), n fa a 2 (by omega)]; exact e3
  · rw [n fb b 3 (by omega), n fb b 2 (by omega)]; exact e4
  · rw [n fa a 0 (by omega), n fb b 2 (by omega), n fb b 0 (by omega), n fa a 2 (by omega)]; exact hd
  · rw [n fc c j hj, n fe e j hj]; exact hcc j hj
theorem zqI_cut {fa fb fc fe : Nat → Int} {k o t : Nat} {sm mr dv : Int} (I : zqI fa fb fc fe k) (h : zcut fa fb fc fe k o t sm mr dv) : zqI (zU fa k ((zcs fa o t sm mr).tdiv dv)) (zU fb k ((zcs fb o t sm mr).tdiv dv)) (zU fc k (zcs fc o t sm mr / dv)) (zU fe k 0) (k + 1) := by
  obtain ⟨h1, h2, h3, h4, h5, h6, h7, h8, h9⟩ := h
  refine zqI_put I h9 h6 h7 h8 (by omega) (fun z => h5 ?_)
  have m1 := Int.tmod_add_mul_tdiv (zcs fa o t sm mr) dv
  have m2 := Int.tmod_add_mul_tdiv (zcs fb o t sm mr) dv
  rw [h3, z.1, Int.mul_zero] at m1
  rw [h4, z.2, Int.mul_zero] at m2
  exact ⟨by omega, by omega⟩
theorem zfe_put {fa fb M M1 : Nat → Int} {k : Nat} {a b m x y : Int} (hM : ∀ i, i < k → M1 i = M i) (hm : M1 k = m) : zfe (zU fa k a) (zU fb k b) M1 (k + 1) x y ↔ zfe fa fb M k x y ∧ a * x + b * y ≤ m := by
  constructor
  · intro z
    refine ⟨fun i hi => ?_, ?_⟩
    · have q := z i (by omega)
      have n : i ≠ k := by omega
      rw [zU_ne n, zU_ne n, hM i hi] at q
      exact q
    · have q := z k (by omega)
      rw [zU_same, zU_same, hm] at q
      exact q
  · intro z i hi
    by_cases e : i = k
    · rw [e, zU_same, zU_same, hm]; exact z.2
    · rw [zU_ne e, zU_ne e, hM i (by omega)]; exact z.1 i (by omega)
theorem zM_put {fc fe : Nat → Int} {k : Nat} {c e lt : Int} : (∀ i, i < k → (fun j => 1 * zU fc k c j + lt * zU fe k e j) i = (fun j => 1 * fc j + lt * fe j) i) ∧ (fun j => 1 * zU fc k c j + lt * zU fe k e j) k = 1 * c + lt * e := by
  refine ⟨fun i hi => ?_, ?_⟩
  · have n : i ≠ k := by omega
    show 1 * zU fc k c i + lt * zU fe k e i = 1 * fc i + lt * fe i
    rw [zU_ne n, zU_ne n]
  · show 1 * zU fc k c k + lt * zU fe k e k = 1 * c + lt * e
    rw [zU_same, zU_same]
theorem zc_add {fa fb fc fe : Nat → Int} {k : Nat} {a b c e lt : Int} : zpts (zU fa k a) (zU fb k b) (fun j => 1 * zU fc k c j + lt * zU fe k e j) (k + 1) ≤ zpts fa fb (fun j => 1 * fc j + lt * fe j) k :=
  zpts_le (fun x y z => ((zfe_put zM_put.1 zM_put.2).mp z).1)
theorem zcut_ok {fa fb fc fe : Nat → Int} {k o t : Nat} {sm mr dv lt x y : Int} (ho : o < k) (ht : t < k) (hv : zcok sm mr dv) (h : zcut fa fb fc fe k o t sm mr dv) (z : zfe fa fb (fun j => 1 * fc j + lt * fe j) k x y) :
    (zcs fa o t sm mr).tdiv dv * x + (zcs fb o t sm mr).tdiv dv * y ≤ 1 * (zcs fc o t sm mr / dv) + lt * 0 := by
  obtain ⟨h1, h2, h3, h4, -⟩ := h
  have z1 : fa o * x + fb o * y ≤ 1 * fc o + lt * fe o := z o ho
  have z2 : fa t * x + fb t * y ≤ 1 * fc t + lt * fe t := z t ht
  rw [h1, Int.mul_zero, Int.one_mul, Int.add_zero] at z1
  rw [h2, Int.mul_zero, Int.one_mul, Int.add_zero] at z2
  have m1 := Int.tmod_add_mul_tdiv (zcs fa o t sm mr) dv
  have m2 := Int.tmod_add_mul_tdiv (zcs fb o t sm mr) dv
  rw [h3] at m1
  rw [h4] at m2
  have d1 := Int.mul_le_mul_of_nonneg_left z1 hv.1.1
  have d2 := Int.mul_le_mul_of_nonneg_left z2 hv.2.1.1
  have key : (zcs fa o t sm mr).tdiv dv * x + (zcs fb o t sm mr).tdiv dv * y ≤ zcs fc o t sm mr / dv := by
    rw [zle_div (show 0 < dv by have := hv.2.2.1; omega)]
    generalize (zcs fa o t sm mr).tdiv dv = A at m1 ⊢
    generalize (zcs fb o t sm mr).tdiv dv = B at m2 ⊢
    unfold zcs at m1 m2 ⊢
    have e : dv * (A * x + B * y) = sm * (fa o * x + fb o * y) + mr * (fa t * x + fb t * y) := by
      have e1 : dv * A = sm * fa o + mr * fa t := by omega
      have e2 : dv * B = sm * fb o + mr * fb t := by omega
      rw [Int.mul_add, ← Int.mul_assoc, ← Int.mul_assoc, e1, e2]
      grind
    rw [e]
    omega
  omega
theorem zc_cut {fa fb fc fe : Nat → Int} {k o t : Nat} {sm mr dv lt : Int} (ho : o < k) (ht : t < k) (hv : zcok sm mr dv) (h : zcut fa fb fc fe k o t sm mr dv) : zpts (zU fa k ((zcs fa o t sm mr).tdiv dv)) (zU fb k ((zcs fb o t sm mr).tdiv dv)) (fun j => 1 * zU fc k (zcs fc o t sm mr / dv) j + lt * zU fe k 0 j) (k + 1) = zpts fa fb (fun j => 1 * fc j + lt * fe j) k :=
  zpts_iff (fun x y => (zfe_put zM_put.1 zM_put.2).trans ⟨fun z => z.1, fun z => ⟨z, zcut_ok ho ht hv h z⟩⟩)
theorem zmv_at {its : Int} {fa fb fa1 fb1 : Nat → Int} {k : Nat} (h : zmvC its fa fb k fa1 fb1) : ∀ i, i < k → fa1 i = zmva its fa fb i ∧ fb1 i = zmvb its fa fb i := fun i hi => by
  rw [h.1, h.2, zfill_in hi, zfill_in hi]; exact ⟨rfl, rfl⟩
theorem zmv_0 {fa fb : Nat → Int} (i : Nat) : zmva 0 fa fb i = fb i ∧ zmvb 0 fa fb i = fa i := ⟨rfl, rfl⟩
theorem zmv_1 {fa fb : Nat → Int} (i : Nat) : zmva 1 fa fb i = fa i ∧ zmvb 1 fa fb i = fb i - fa i := ⟨rfl, rfl⟩
theorem zmv_2 {fa fb : Nat → Int} (i : Nat) : zmva 2 fa fb i = -fa i ∧ zmvb 2 fa fb i = fb i := ⟨rfl, rfl⟩
theorem zc_move {its : Int} {fa fb fc fe fa1 fb1 M : Nat → Int} {k : Nat} (I : zqI fa fb fc fe k) (h0 : 0 ≤ its ∧ its ≤ 2) (h : zmvC its fa fb k fa1 fb1) (hM : ∀ j, j < 4 → M j ≤ 12) : zpts fa1 fb1 M k = zpts fa fb M k := by
  have a := zmv_at h
  rcases (show its = 0 ∨ its = 1 ∨ its = 2 by omega) with rfl | rfl | rfl
  · exact (zpts_cg (fun i hi => (a i hi).1.trans (zmv_0 i).1) (fun i hi => (a i hi).2.trans (zmv_0 i).2) (fun i _ => rfl)).trans zpts_swap
  · refine (zpts_cg (A := fa) (B := fb1) (M := M) (fun i hi => (a i hi).1.trans (zmv_1 i).1) (fun i _ => rfl) (fun i _ => rfl)).trans ?_
    refine zpts_shear (fun i hi => (a i hi).2.trans (zmv_1 i).2) (fun x y z => ?_)
    have q := zqB_in I hM z
    omega
  · refine (zpts_cg (A := fa1) (B := fb) (M := M) (fun i _ => rfl) (fun i hi => (a i hi).2.trans (zmv_2 i).2) (fun i _ => rfl)).trans ?_
    exact zpts_flip (fun i hi => (a i hi).1.trans (zmv_2 i).1)
theorem zqI_move {its : Int} {fa fb fc fe fa1 fb1 : Nat → Int} {k : Nat} (I : zqI fa fb fc fe k) (h0 : 0 ≤ its ∧ its ≤ 2) (h : zmvC its fa fb k fa1 fb1) (hs : its = 1 → zsl fa fb k) : zqI fa1 fb1 fc fe k := by
  have a := zmv_at h
  obtain ⟨⟨k4, k10⟩, hr, ⟨⟨e1, e2, e3, e4⟩, hd, hcc⟩⟩ := I
  have a0 := a 0 (by omega)
  have a1 := a 1 (by omega)
  have a2 := a 2 (by omega)
  have a3 := a 3 (by omega)
  rcases (show its = 0 ∨ its = 1 ∨ its = 2 by omega) with rfl | rfl | rfl
  · rw [(zmv_0 0).1, (zmv_0 0).2] at a0
    rw [(zmv_0 1).1, (zmv_0 1).2] at a1
    rw [(zmv_0 2).1, (zmv_0 2).2] at a2
    rw [(zmv_0 3).1, (zmv_0 3).2] at a3
    refine ⟨⟨k4, k10⟩, fun j hj => ?_, ⟨⟨?_, ?_, ?_, ?_⟩, ?_, hcc⟩⟩
    · obtain ⟨r1, r2, r3, r4, r5⟩ := hr j hj
      have q := a j hj
      rw [(zmv_0 j).1, (zmv_0 j).2] at q
      rw [q.1, q.2]
      exact ⟨r2, r1, r3, r4, fun z => r5 ⟨z.2, z.1⟩⟩
    · rw [a1.1, a0.1]; exact e2
    · rw [a1.2, a0.2]; exact e1
    · rw [a3.1, a2.1]; exact e4
    · rw [a3.2, a2.2]; exact e3
    · rw [a0.1, a0.2, a2.1, a2.2]
      omega
  · rw [(zmv_1 0).1, (zmv_1 0).2] at a0
    rw [(zmv_1 1).1, (zmv_1 1).2] at a1
    rw [(zmv_1 2).1, (zmv_1 2).2] at a2
    rw [(zmv_1 3).1, (zmv_1 3).2] at a3
    have hz := hs rfl
    refine ⟨⟨k4, k10⟩, fun j hj => ?_, ⟨⟨?_, ?_, ?_, ?_⟩, ?_, hcc⟩⟩
    · obtain ⟨r1, r2, r3, r4, r5⟩ := hr j hj
      have q := a j hj
      have z0 := hz j hj
      rw [(zmv_1 j).1, (zmv_1 j).2] at q
      rw [q.1, q.2]
      exact ⟨r1, z0, r3, r4, fun z => r5 ⟨z.1, by omega⟩⟩
    · rw [a1.1, a0.1]; exact e1
    · rw [a1.2, a0.2]; omega
    · rw [a3.1, a2.1]; exact e3
    · rw [a3.2, a2.2]; omega
    · rw [a0.1, a0.2, a2.1, a2.2, Int.mul_sub, Int.sub_mul]
      omega
  · rw [(zmv_2 0).1, (zmv_2 0).2] at a0
    rw [(zmv_2 1).1, (zmv_2 1).2] at a1
    rw [(zmv_2 2).1, (zmv_2 2).2] at a2
    rw [(zmv_2 3).1, (zmv_2 3).2] at a3
    refine ⟨⟨k4, k10⟩, fun j hj => ?_, ⟨⟨?_, ?_, ?_, ?_⟩, ?_, hcc⟩⟩
    · obtain ⟨r1, r2, r3, r4, r5⟩ := hr j hj
      have q := a j hj
      rw [(zmv_2 j).1, (zmv_2 j).2] at q
      rw [q.1, q.2]
      exact ⟨zneg_b r1, r2, r3, r4, fun z => r5 ⟨by omega, z.2⟩⟩
    · rw [a1.1, a0.1, e1]
    · rw [a1.2, a0.2]; exact e2
    · rw [a3.1, a2.1, e3]
    · rw [a3.2, a2.2]; exact e4
    · rw [a0.1, a0.2, a2.1, a2.2, Int.neg_mul, Int.mul_neg]
      omega
