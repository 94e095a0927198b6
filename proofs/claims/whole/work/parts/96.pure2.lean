/-! what the law's rounds keep: counting -/
theorem zthr_eq {S S2 L Z Z2 : Prop} {t1 kr : Int} (hS : S ↔ S2) (hZ : S2 → (Z ↔ Z2)) (h : zthr S L Z t1) (hh : (kr = 0 ∧ S2 ∧ L ∧ Z2) ∨ (kr = 1 ∧ ¬ S2) ∨ (kr = 2 ∧ S2 ∧ ¬ L) ∨ (kr = 3 ∧ S2 ∧ L ∧ ¬ Z2)) : t1 = kr ∧ 0 ≤ kr ∧ kr ≤ 3 := by
  unfold zthr at h
  rw [hS] at h
  rcases h with ⟨h1, h2⟩ | ⟨h1, h2, h3⟩ | ⟨h1, h2, h3, h4⟩ | ⟨h1, h2, h3, h4⟩ <;> rcases hh with ⟨k1, k2, k3, k4⟩ | ⟨k1, k2⟩ | ⟨k1, k2, k3⟩ | ⟨k1, k2, k3, k4⟩ <;> first | exact ⟨by omega, by omega, by omega⟩ | exact absurd k2 h2 | exact absurd h2 k2 | exact absurd k3 h3 | exact absurd h3 k3 | exact absurd ((hZ k2).mpr k4) h4 | exact absurd ((hZ k2).mp h4) k4
theorem zplI {x : zSt} (I : zInv x) {t : Nat} (ht : t < 8) {v : Int} (hvt : 0 ≤ v → v < x.sc → v.toNat = t) : (0 ≤ v ∧ v < x.sc) → (zpl (zrow x.MA v.toNat) (zrow x.MB v.toNat) (x.MN v.toNat).toNat ↔ zpl (x.FA t) (x.FB t) (x.K t)) := fun hv => by
  rw [hvt hv.1 hv.2, (zkN I ht).2]; exact (zpl_cg (zrow_cg2 I ht)).symm
theorem zM_let {x : zSt} (I : zInv x) {t : Nat} (ht : t < 8) {lt : Int} : ∀ i, i < x.K t → (fun j => 1 * x.FC t j + lt * x.FE t j) i = zmst (-1) lt 0 x.MC x.ME t i := fun i hi => by
  have r := zrow_cg I ht i hi
  show 1 * x.FC t i + lt * x.FE t i = _
  unfold zmst
  rw [if_pos (by decide), if_pos rfl, r.2.2.1, r.2.2.2, Int.mul_comm lt]
  show 1 * x.MC (10 * t + i) + x.ME (10 * t + i) * lt = x.MC (10 * t + i) + x.ME (10 * t + i) * lt - 0
  omega
theorem zM_tim {x : zSt} (I : zInv x) {t : Nat} (ht : t < 8) {tm inr : Int} (h0 : 0 ≤ tm) (hi2 : inr = 0 ∨ inr = 1) : ∀ i, i < x.K t → (fun j => (tm * x.FC t j + 0 * x.FE t j) - inr) i = zmst tm 0 inr x.MC x.ME t i := fun i hi => by
  have r := zrow_cg I ht i hi
  show (tm * x.FC t i + 0 * x.FE t i) - inr = _
  unfold zmst
  rw [if_neg (by omega), r.2.2.1, Int.mul_comm tm]
  show (x.MC (10 * t + i) * tm + 0 * x.FE t i) - inr = _
  rcases hi2 with rfl | rfl
  · rw [if_pos rfl]; omega
  · rw [if_neg (by decide)]; omega
theorem zpts_x {x : zSt} (I : zInv x) {t : Nat} (ht : t < 8) {M1 M2 : Nat → Int} (hM : ∀ i, i < x.K t → M1 i = M2 i) : zpts (x.FA t) (x.FB t) M1 (x.K t) = zpts (zrow x.MA t) (zrow x.MB t) M2 (x.K t) :=
  zpts_cg (fun i hi => (zrow_cg I ht i hi).1) (fun i hi => (zrow_cg I ht i hi).2.1) hM
theorem zgg_of {x : zSt} (I : zInv x) {v : Int} {M : Nat → Int} (h0 : 0 ≤ v) (h1 : v < x.sh) (hp : zpl (zrow x.MA v.toNat) (zrow x.MB v.toNat) (x.MN v.toNat).toNat) (hM : v.toNat < 8 → (x.MN v.toNat).toNat ≤ 10 → ∀ i, i < (x.MN v.toNat).toNat → -9000 ≤ M i ∧ M i ≤ 9000) : zgood (zrow x.MA v.toNat) (zrow x.MB v.toNat) M (x.MN v.toNat).toNat := by
  have hs := I.2.1
  have h8 := I.1
  have ht : v.toNat < 8 := by omega
  have hk := zkN I ht
  have hK := (I.2.2.1 _ ht).1
  rw [hk.2] at hp hM ⊢
  refine zgood_place hp (fun i hi => ?_) (fun i hi => (I.2.2.2.2.1 (10 * v.toNat + i) (by omega)).1) (fun i hi => (I.2.2.2.2.1 (10 * v.toNat + i) (by omega)).2.1) (hM ht hK)
  have r := I.2.2.2.1 _ i ht hi
  intro z
  exact r.2.2.2.2 ⟨r.1.trans z.1, r.2.1.trans z.2⟩
theorem zgg_m {x : zSt} (I : zInv x) {v lt : Int} : 0 ≤ v → v < x.sh → zpl (zrow x.MA v.toNat) (zrow x.MB v.toNat) (x.MN v.toNat).toNat → 0 ≤ lt → lt ≤ 9 → zgood (zrow x.MA v.toNat) (zrow x.MB v.toNat) (zmst (-1) lt 0 x.MC x.ME v.toNat) (x.MN v.toNat).toNat := fun h0 h1 hp l0 l1 =>
  zgg_of I h0 h1 hp (fun a b => zmst_b1 (zi_C I) (zi_E I) a b ⟨l0, l1⟩)
theorem zgg_b {x : zSt} (I : zInv x) {v tm inr : Int} (hi : inr = 0 ∨ inr = 1) : 0 ≤ v → v < x.sh → zpl (zrow x.MA v.toNat) (zrow x.MB v.toNat) (x.MN v.toNat).toNat → 0 ≤ tm → tm ≤ 9 → zgood (zrow x.MA v.toNat) (zrow x.MB v.toNat) (zmst tm 0 inr x.MC x.ME v.toNat) (x.MN v.toNat).toNat := fun h0 h1 hp l0 l1 =>
  zgg_of I h0 h1 hp (fun a b => zmst_b2 (zi_C I) a b ⟨l0, l1⟩)
/-- points by rows are points by columns -/
theorem zsm_add (a b : Int → Nat) (lo : Int) : ∀ n, zsm (fun y => a y + b y) lo n = zsm a lo n + zsm b lo n
  | 0 => rfl
  | n + 1 => by rw [zsm_s, zsm_s, zsm_s, zsm_add a b lo n]; omega
theorem zsm_swap (f : Int → Int → Nat) (l1 l2 : Int) (k : Nat) : ∀ n, zsm (fun x => zsm (fun y => f x y) l2 k) l1 n = zsm (fun y => zsm (fun x => f x y) l1 n) l2 k
  | 0 => (zsm_zero (fun _ _ => rfl)).symm
  | n + 1 => by
    rw [zsm_s, zsm_swap f l1 l2 k n, ← zsm_add]
    rfl
theorem zn_sm (p : Int → Prop) (lo : Int) : ∀ n, zn p lo n = zsm (fun y => @ite Nat (p y) (Classical.propDecidable _) 1 0) lo n
  | 0 => rfl
  | n + 1 => by rw [zsm_s, ← zn_sm p lo n]; rfl
theorem zpts_swap {P Q M : Nat → Int} {k : Nat} : zpts Q P M k = zpts P Q M k := by
  have h : ∀ A B : Nat → Int, zpts A B M k = zsm (fun x => zsm (fun y => @ite Nat (zfe A B M k x y) (Classical.propDecidable _) 1 0) (-2000000) 4000001) (-2000000) 4000001 := fun A B => by
    unfold zpts
    exact zsm_congr (fun j _ => zn_sm _ _ _)
  rw [h Q P, h P Q, zsm_swap]
  refine zsm_congr (fun j _ => zsm_congr (fun i _ => ?_))
  have e : zfe Q P M k (-2000000 + (i : Int)) (-2000000 + (j : Int)) ↔ zfe P Q M k (-2000000 + (j : Int)) (-2000000 + (i : Int)) := ⟨zfe_swap, zfe_swap⟩
  by_cases c : zfe P Q M k (-2000000 + (j : Int)) (-2000000 + (i : Int))
  · rw [if_pos c, if_pos (e.mpr c)]
  · rw [if_neg c, if_neg (fun z => c (e.mp z))]
/-- the best point is one alone -/
theorem zbest_un {P Q M : Nat → Int} {k : Nat} {p q c bx bY cx cY : Int} (h1 : zbestc P Q M k p q c bx bY) (h2 : zbestc P Q M k p q c cx cY) : bx = cx ∧ bY = cY := by
  obtain ⟨f1, b1, m1⟩ := h1
  obtain ⟨f2, b2, m2⟩ := h2
  have e1 := m1 cx cY f2 b2.1 b2.2.1 b2.2.2.1 b2.2.2.2
  have e2 := m2 bx bY f1 b1.1 b1.2.1 b1.2.2.1 b1.2.2.2
  generalize p * cx + q * cY = u at *
  generalize p * bx + q * bY = w at *
  omega
theorem zbestc_cg {A B M A1 B1 M1 : Nat → Int} {k : Nat} (ha : ∀ i, i < k → A1 i = A i) (hb : ∀ i, i < k → B1 i = B i) (hm : ∀ i, i < k → M1 i = M i) {p q c bx bY : Int} (h : zbestc A1 B1 M1 k p q c bx bY) : zbestc A B M k p q c bx bY :=
  ⟨(zfe_cg ha hb hm _ _).mp h.1, h.2.1, fun x y z => h.2.2 x y ((zfe_cg ha hb hm _ _).mpr z)⟩
theorem znone_cg {A B M A1 B1 M1 : Nat → Int} {k : Nat} (ha : ∀ i, i < k → A1 i = A i) (hb : ∀ i, i < k → B1 i = B i) (hm : ∀ i, i < k → M1 i = M i) {c : Int} (h : znone A1 B1 M1 k c) : znone A B M k c :=
  fun x y z => h x y ((zfe_cg ha hb hm _ _).mpr z)
set_option maxHeartbeats 2000000 in
theorem zl_count {x : zSt} (I : zInv x) {t : Nat} (ht : t < 8) {a1 a2 : Int} (hvt : 0 ≤ a1 → a1 < x.sc → a1.toNat = t) {u_kr : Int} {u_O1 : Nat → Int} {u_P1 : Nat → Int} {u_Q1 : Nat → Int} {u_M1 : Nat → Int} {u_kk1 : Int} {u_f1 : Int} {u_l1 : Int} {u_b1 : Int} {u_t1 : Int} {u_x1 : Int} {u_y1 : Int} (hh : (u_kr = 0 ∧ u_O1 = zU x.OF 0 ((zpts (x.FA t) (x.FB t) (fun j => 1 * (x.FC t) j + a2 * (x.FE t) j) (x.K t) : Nat) : Int) ∧ ((0 ≤ a1 ∧ a1 < x.sc) ∧ (0 ≤ a2 ∧ a2 ≤ 9) ∧ zpl (x.FA t) (x.FB t) (x.K t))) ∨ (u_kr = 1 ∧ u_O1 = x.OF ∧ u_kk1 = x.kk ∧ u_f1 = x.f0 ∧ u_l1 = x.l0 ∧ u_b1 = x.b0 ∧ u_t1 = x.t0 ∧ u_x1 = x.x0 ∧ u_y1 = x.y0 ∧ u_P1 = x.P ∧ u_Q1 = x.Qu ∧ u_M1 = x.M ∧ (¬ (0 ≤ a1 ∧ a1 < x.sc))) ∨ (u_kr = 2 ∧ u_O1 = x.OF ∧ u_kk1 = x.kk ∧ u_f1 = x.f0 ∧ u_l1 = x.l0 ∧ u_b1 = x.b0 ∧ u_t1 = x.t0 ∧ u_x1 = x.x0 ∧ u_y1 = x.y0 ∧ u_P1 = x.P ∧ u_Q1 = x.Qu ∧ u_M1 = x.M ∧ ((0 ≤ a1 ∧ a1 < x.sc) ∧ ¬ (0 ≤ a2 ∧ a2 ≤ 9))) ∨ (u_kr = 3 ∧ u_O1 = x.OF ∧ u_kk1 = x.kk ∧ u_f1 = x.f0 ∧ u_l1 = x.l0 ∧ u_b1 = x.b0 ∧ u_t1 = x.t0 ∧ u_x1 = x.x0 ∧ u_y1 = x.y0 ∧ u_P1 = x.P ∧ u_Q1 = x.Qu ∧ u_M1 = x.M ∧ ((0 ≤ a1 ∧ a1 < x.sc) ∧ (0 ≤ a2 ∧ a2 ≤ 9) ∧ ¬ zpl (x.FA t) (x.FB t) (x.K t)))) {m_rr : Int} {m_t1 : Int} {m_o1 : Int} {m_f1 : Int} {m_l1 : Int} {m_r1 : Int} {m_P1 : Nat → Int} {m_Q1 : Nat → Int} {m_M1 : Nat → Int} {m_lo1 : Int} {m_hi1 : Int} (hth : zthr (0 ≤ a1 ∧ a1 < x.sh) (0 ≤ a2 ∧ a2 ≤ 9) (zpl (zrow x.MA a1.toNat) (zrow x.MB a1.toNat) (x.MN a1.toNat).toNat) m_t1) (hrr : m_t1 = 0 → m_rr = (zpts (zrow x.MA a1.toNat) (zrow x.MB a1.toNat) (zmst (-1) a2 0 x.MC x.ME a1.toNat) (x.MN a1.toNat).toNat : Int)) : m_t1 = u_kr ∧ (0 ≤ u_kr ∧ u_kr ≤ 3) ∧ (u_kr = 0 → u_O1 0 = m_rr) ∧ zInv (zMk x.sc x.K x.FA x.FB x.FC x.FE u_O1 u_P1 u_Q1 u_M1 u_kk1 u_f1 u_l1 u_b1 u_t1 u_x1 u_y1 x.fx x.fy x.lx x.ly x.tn x.ar x.wx x.wy x.L0 x.n x.wg x.W0 x.Ls m_t1 x.sh x.MN x.MA x.MB x.MC x.ME m_P1 m_Q1 m_M1 m_o1 m_f1 m_l1 m_lo1 m_hi1 x.co x.Kc x.Wt x.Ip x.ge x.GX x.GY m_r1) := by
  have hs := I.2.1
  have hkn := zkN I ht
  rw [hs] at hth
  have h4 : (u_kr = 0 ∧ (0 ≤ a1 ∧ a1 < x.sc) ∧ (0 ≤ a2 ∧ a2 ≤ 9) ∧ zpl (x.FA t) (x.FB t) (x.K t)) ∨ (u_kr = 1 ∧ ¬ (0 ≤ a1 ∧ a1 < x.sc)) ∨ (u_kr = 2 ∧ (0 ≤ a1 ∧ a1 < x.sc) ∧ ¬ (0 ≤ a2 ∧ a2 ≤ 9)) ∨ (u_kr = 3 ∧ (0 ≤ a1 ∧ a1 < x.sc) ∧ (0 ≤ a2 ∧ a2 ≤ 9) ∧ ¬ zpl (x.FA t) (x.FB t) (x.K t)) := by
    rcases hh with h | h | h | h
    · exact Or.inl ⟨h.1, h.2.2⟩
    · exact Or.inr (Or.inl ⟨h.1, h.2.2.2.2.2.2.2.2.2.2.2.2⟩)
    · exact Or.inr (Or.inr (Or.inl ⟨h.1, h.2.2.2.2.2.2.2.2.2.2.2.2⟩))
    · exact Or.inr (Or.inr (Or.inr ⟨h.1, h.2.2.2.2.2.2.2.2.2.2.2.2⟩))
  obtain ⟨e1, e2⟩ := zthr_eq Iff.rfl (zplI I ht hvt) hth h4
  refine ⟨e1, e2, fun z => ?_, I⟩
  rcases hh with ⟨_, rfl, k1, k2, k3⟩ | h | h | h
  · rw [zU_same, hrr (by omega), hvt k1.1 k1.2, hkn.2]
    rw [zpts_x I ht (zM_let I ht)]
  · omega
  · omega
  · omega
set_option maxHeartbeats 2000000 in
theorem zl_countAnew {x : zSt} (I : zInv x) {t : Nat} (ht : t < 8) {a1 a2 : Int} (hvt : 0 ≤ a1 → a1 < x.sc → a1.toNat = t) {u_kr : Int} {u_O1 : Nat → Int} {u_P1 : Nat → Int} {u_Q1 : Nat → Int} {u_M1 : Nat → Int} {u_kk1 : Int} {u_f1 : Int} {u_l1 : Int} {u_b1 : Int} {u_t1 : Int} {u_x1 : Int} {u_y1 : Int} (hh : (u_kr = 0 ∧ u_O1 = zU x.OF 0 ((zpts (x.FB t) (x.FA t) (fun j => 1 * (x.FC t) j + a2 * (x.FE t) j) (x.K t) : Nat) : Int) ∧ ((0 ≤ a1 ∧ a1 < x.sc) ∧ (0 ≤ a2 ∧ a2 ≤ 9) ∧ zpl (x.FA t) (x.FB t) (x.K t))) ∨ (u_kr = 1 ∧ u_O1 = x.OF ∧ u_kk1 = x.kk ∧ u_f1 = x.f0 ∧ u_l1 = x.l0 ∧ u_b1 = x.b0 ∧ u_t1 = x.t0 ∧ u_x1 = x.x0 ∧ u_y1 = x.y0 ∧ u_P1 = x.P ∧ u_Q1 = x.Qu ∧ u_M1 = x.M ∧ (¬ (0 ≤ a1 ∧ a1 < x.sc))) ∨ (u_kr = 2 ∧ u_O1 = x.OF ∧ u_kk1 = x.kk ∧ u_f1 = x.f0 ∧ u_l1 = x.l0 ∧ u_b1 = x.b0 ∧ u_t1 = x.t0 ∧ u_x1 = x.x0 ∧ u_y1 = x.y0 ∧ u_P1 = x.P ∧ u_Q1 = x.Qu ∧ u_M1 = x.M ∧ ((0 ≤ a1 ∧ a1 < x.sc) ∧ ¬ (0 ≤ a2 ∧ a2 ≤ 9))) ∨ (u_kr = 3 ∧ u_O1 = x.OF ∧ u_kk1 = x.kk ∧ u_f1 = x.f0 ∧ u_l1 = x.l0 ∧ u_b1 = x.b0 ∧ u_t1 = x.t0 ∧ u_x1 = x.x0 ∧ u_y1 = x.y0 ∧ u_P1 = x.P ∧ u_Q1 = x.Qu ∧ u_M1 = x.M ∧ ((0 ≤ a1 ∧ a1 < x.sc) ∧ (0 ≤ a2 ∧ a2 ≤ 9) ∧ ¬ zpl (x.FA t) (x.FB t) (x.K t)))) {m_rr : Int} {m_t1 : Int} {m_o1 : Int} {m_f1 : Int} {m_l1 : Int} {m_r1 : Int} {m_P1 : Nat → Int} {m_Q1 : Nat → Int} {m_M1 : Nat → Int} {m_lo1 : Int} {m_hi1 : Int} (hth : zthr (0 ≤ a1 ∧ a1 < x.sh) (0 ≤ a2 ∧ a2 ≤ 9) (zpl (zrow x.MA a1.toNat) (zrow x.MB a1.toNat) (x.MN a1.toNat).toNat) m_t1) (hrr : m_t1 = 0 → m_rr = (zpts (zrow x.MA a1.toNat) (zrow x.MB a1.toNat) (zmst (-1) a2 0 x.MC x.ME a1.toNat) (x.MN a1.toNat).toNat : Int)) : m_t1 = u_kr ∧ (0 ≤ u_kr ∧ u_kr ≤ 3) ∧ (u_kr = 0 → u_O1 0 = m_rr) ∧ zInv (zMk x.sc x.K x.FA x.FB x.FC x.FE u_O1 u_P1 u_Q1 u_M1 u_kk1 u_f1 u_l1 u_b1 u_t1 u_x1 u_y1 x.fx x.fy x.lx x.ly x.tn x.ar x.wx x.wy x.L0 x.n x.wg x.W0 x.Ls m_t1 x.sh x.MN x.MA x.MB x.MC x.ME m_P1 m_Q1 m_M1 m_o1 m_f1 m_l1 m_lo1 m_hi1 x.co x.Kc x.Wt x.Ip x.ge x.GX x.GY m_r1) := by
  have hs := I.2.1
  have hkn := zkN I ht
  rw [hs] at hth
  have h4 : (u_kr = 0 ∧ (0 ≤ a1 ∧ a1 < x.sc) ∧ (0 ≤ a2 ∧ a2 ≤ 9) ∧ zpl (x.FA t) (x.FB t) (x.K t)) ∨ (u_kr = 1 ∧ ¬ (0 ≤ a1 ∧ a1 < x.sc)) ∨ (u_kr = 2 ∧ (0 ≤ a1 ∧ a1 < x.sc) ∧ ¬ (0 ≤ a2 ∧ a2 ≤ 9)) ∨ (u_kr = 3 ∧ (0 ≤ a1 ∧ a1 < x.sc) ∧ (0 ≤ a2 ∧ a2 ≤ 9) ∧ ¬ zpl (x.FA t) (x.FB t) (x.K t)) := by
    rcases hh with h | h | h | h
    · exact Or.inl ⟨h.1, h.2.2⟩
    · exact Or.inr (Or.inl ⟨h.1, h.2.2.2.2.2.2.2.2.2.2.2.2⟩)
    · exact Or.inr (Or.inr (Or.inl ⟨h.1, h.2.2.2.2.2.2.2.2.2.2.2.2⟩))
    · exact Or.inr (Or.inr (Or.inr ⟨h.1, h.2.2.2.2.2.2.2.2.2.2.2.2⟩))
  obtain ⟨e1, e2⟩ := zthr_eq Iff.rfl (zplI I ht hvt) hth h4
  refine ⟨e1, e2, fun z => ?_, I⟩
  rcases hh with ⟨_, rfl, k1, k2, k3⟩ | h | h | h
  · rw [zU_same, hrr (by omega), hvt k1.1 k1.2, hkn.2]
    rw [zpts_swap, zpts_x I ht (zM_let I ht)]
  · omega
  · omega
  · omega
set_option maxHeartbeats 2000000 in
theorem zl_blown {x : zSt} (I : zInv x) {t : Nat} (ht : t < 8) {a1 a2 a3 : Int} (hvt : 0 ≤ a1 → a1 < x.sc → a1.toNat = t) (ha3 : a3 = 0 ∨ a3 = 1) {u_kr : Int} {u_O1 : Nat → Int} {u_P1 : Nat → Int} {u_Q1 : Nat → Int} {u_M1 : Nat → Int} {u_kk1 : Int} {u_f1 : Int} {u_l1 : Int} {u_b1 : Int} {u_t1 : Int} {u_x1 : Int} {u_y1 : Int} (hh : (u_kr = 0 ∧ u_O1 = zU x.OF 0 ((zpts (x.FA t) (x.FB t) (fun j => (a2 * (x.FC t) j + 0 * (x.FE t) j) - a3) (x.K t) : Nat) : Int) ∧ ((0 ≤ a1 ∧ a1 < x.sc) ∧ (0 ≤ a2 ∧ a2 ≤ 9) ∧ zpl (x.FA t) (x.FB t) (x.K t))) ∨ (u_kr = 1 ∧ u_O1 = x.OF ∧ u_kk1 = x.kk ∧ u_f1 = x.f0 ∧ u_l1 = x.l0 ∧ u_b1 = x.b0 ∧ u_t1 = x.t0 ∧ u_x1 = x.x0 ∧ u_y1 = x.y0 ∧ u_P1 = x.P ∧ u_Q1 = x.Qu ∧ u_M1 = x.M ∧ (¬ (0 ≤ a1 ∧ a1 < x.sc))) ∨ (u_kr = 2 ∧ u_O1 = x.OF ∧ u_kk1 = x.kk ∧ u_f1 = x.f0 ∧ u_l1 = x.l0 ∧ u_b1 = x.b0 ∧ u_t1 = x.t0 ∧ u_x1 = x.x0 ∧ u_y1 = x.y0 ∧ u_P1 = x.P ∧ u_Q1 = x.Qu ∧ u_M1 = x.M ∧ ((0 ≤ a1 ∧ a1 < x.sc) ∧ ¬ (0 ≤ a2 ∧ a2 ≤ 9))) ∨ (u_kr = 3 ∧ u_O1 = x.OF ∧ u_kk1 = x.kk ∧ u_f1 = x.f0 ∧ u_l1 = x.l0 ∧ u_b1 = x.b0 ∧ u_t1 = x.t0 ∧ u_x1 = x.x0 ∧ u_y1 = x.y0 ∧ u_P1 = x.P ∧ u_Q1 = x.Qu ∧ u_M1 = x.M ∧ ((0 ≤ a1 ∧ a1 < x.sc) ∧ (0 ≤ a2 ∧ a2 ≤ 9) ∧ ¬ zpl (x.FA t) (x.FB t) (x.K t)))) {m_rr : Int} {m_t1 : Int} {m_o1 : Int} {m_f1 : Int} {m_l1 : Int} {m_r1 : Int} {m_P1 : Nat → Int} {m_Q1 : Nat → Int} {m_M1 : Nat → Int} {m_lo1 : Int} {m_hi1 : Int} (hth : zthr (0 ≤ a1 ∧ a1 < x.sh) (0 ≤ a2 ∧ a2 ≤ 9) (zpl (zrow x.MA a1.toNat) (zrow x.MB a1.toNat) (x.MN a1.toNat).toNat) m_t1) (hrr : m_t1 = 0 → m_rr = (zpts (zrow x.MA a1.toNat) (zrow x.MB a1.toNat) (zmst a2 0 a3 x.MC x.ME a1.toNat) (x.MN a1.toNat).toNat : Int)) : m_t1 = u_kr ∧ (0 ≤ u_kr ∧ u_kr ≤ 3) ∧ (u_kr = 0 → u_O1 0 = m_rr) ∧ zInv (zMk x.sc x.K x.FA x.FB x.FC x.FE u_O1 u_P1 u_Q1 u_M1 u_kk1 u_f1 u_l1 u_b1 u_t1 u_x1 u_y1 x.fx x.fy x.lx x.ly x.tn x.ar x.wx x.wy x.L0 x.n x.wg x.W0 x.Ls m_t1 x.sh x.MN x.MA x.MB x.MC x.ME m_P1 m_Q1 m_M1 m_o1 m_f1 m_l1 m_lo1 m_hi1 x.co x.Kc x.Wt x.Ip x.ge x.GX x.GY m_r1) := by
  have hs := I.2.1
  have hkn := zkN I ht
  rw [hs] at hth
  have h4 : (u_kr = 0 ∧ (0 ≤ a1 ∧ a1 < x.sc) ∧ (0 ≤ a2 ∧ a2 ≤ 9) ∧ zpl (x.FA t) (x.FB t) (x.K t)) ∨ (u_kr = 1 ∧ ¬ (0 ≤ a1 ∧ a1 < x.sc)) ∨ (u_kr = 2 ∧ (0 ≤ a1 ∧ a1 < x.sc) ∧ ¬ (0 ≤ a2 ∧ a2 ≤ 9)) ∨ (u_kr = 3 ∧ (0 ≤ a1 ∧ a1 < x.sc) ∧ (0 ≤ a2 ∧ a2 ≤ 9) ∧ ¬ zpl (x.FA t) (x.FB t) (x.K t)) := by
    rcases hh with h | h | h | h
    · exact Or.inl ⟨h.1, h.2.2⟩
    · exact Or.inr (Or.inl ⟨h.1, h.2.2.2.2.2.2.2.2.2.2.2.2⟩)
    · exact Or.inr (Or.inr (Or.inl ⟨h.1, h.2.2.2.2.2.2.2.2.2.2.2.2⟩))
    · exact Or.inr (Or.inr (Or.inr ⟨h.1, h.2.2.2.2.2.2.2.2.2.2.2.2⟩))
  obtain ⟨e1, e2⟩ := zthr_eq Iff.rfl (zplI I ht hvt) hth h4
  refine ⟨e1, e2, fun z => ?_, I⟩
  rcases hh with ⟨_, rfl, k1, k2, k3⟩ | h | h | h
  · rw [zU_same, hrr (by omega), hvt k1.1 k1.2, hkn.2]
    rw [zpts_x I ht (zM_tim I ht k2.1 ha3)]
  · omega
  · omega
  · omega
set_option maxHeartbeats 2000000 in
theorem zl_best {x : zSt} (I : zInv x) {t : Nat} (ht : t < 8) {a1 a2 a3 a4 a5 : Int} (hvt : 0 ≤ a1 → a1 < x.sc → a1.toNat = t) {u_kr : Int} {u_O1 : Nat → Int} {u_rr : Int} {u_P1 : Nat → Int} {u_Q1 : Nat → Int} {u_M1 : Nat → Int} {u_kk1 : Int} {u_f1 : Int} {u_l1 : Int} {u_b1 : Int} {u_t1 : Int} {u_x1 : Int} {u_y1 : Int} (hh : (u_kr = 0 ∧ u_O1 = zU x.OF 0 (zT32 u_rr) ∧ ((0 ≤ a1 ∧ a1 < x.sc) ∧ zbok a2 a3 a4 a5 ∧ zpl (x.FA t) (x.FB t) (x.K t)) ∧ (∃ bx bY, zbestc (x.FA t) (x.FB t) (fun j => 1 * (x.FC t) j + a2 * (x.FE t) j) (x.K t) a3 a4 2000001 bx bY ∧ u_rr = zwhat (a3 * bx + a4 * bY) bx bY a5)) ∨ (u_kr = 1 ∧ u_O1 = x.OF ∧ (¬ (0 ≤ a1 ∧ a1 < x.sc))) ∨ (u_kr = 2 ∧ u_O1 = x.OF ∧ ((0 ≤ a1 ∧ a1 < x.sc) ∧ ¬ zbok a2 a3 a4 a5)) ∨ (u_kr = 3 ∧ u_O1 = x.OF ∧ ((0 ≤ a1 ∧ a1 < x.sc) ∧ zbok a2 a3 a4 a5 ∧ ¬ zpl (x.FA t) (x.FB t) (x.K t))) ∨ (u_kr = 3 ∧ u_O1 = x.OF ∧ ((0 ≤ a1 ∧ a1 < x.sc) ∧ zbok a2 a3 a4 a5 ∧ zpl (x.FA t) (x.FB t) (x.K t) ∧ znone (x.FA t) (x.FB t) (fun j => 1 * (x.FC t) j + a2 * (x.FE t) j) (x.K t) 2000001))) {m_rr : Int} {m_t1 : Int} {m_o1 : Int} {m_f1 : Int} {m_l1 : Int} {m_r1 : Int} {m_P1 : Nat → Int} {m_Q1 : Nat → Int} {m_M1 : Nat → Int} {m_lo1 : Int} {m_hi1 : Int} (hbr : zbestR (0 ≤ a1 ∧ a1 < x.sh) (zbok a2 a3 a4 a5) (zpl (zrow x.MA a1.toNat) (zrow x.MB a1.toNat) (x.MN a1.toNat).toNat) (zrow x.MA a1.toNat) (zrow x.MB a1.toNat) (zmst (-1) a2 0 x.MC x.ME a1.toNat) (x.MN a1.toNat).toNat a3 a4 a5 m_rr m_t1) : m_t1 = u_kr ∧ (0 ≤ u_kr ∧ u_kr ≤ 3) ∧ (u_kr = 0 → u_O1 0 = zT32 m_rr) ∧ zInv (zMk x.sc x.K x.FA x.FB x.FC x.FE u_O1 u_P1 u_Q1 u_M1 u_kk1 u_f1 u_l1 u_b1 u_t1 u_x1 u_y1 x.fx x.fy x.lx x.ly x.tn x.ar x.wx x.wy x.L0 x.n x.wg x.W0 x.Ls m_t1 x.sh x.MN x.MA x.MB x.MC x.ME m_P1 m_Q1 m_M1 m_o1 m_f1 m_l1 m_lo1 m_hi1 x.co x.Kc x.Wt x.Ip x.ge x.GX x.GY m_r1) := by
  have hs := I.2.1
  have hkn := zkN I ht
  unfold zbestR at hbr
  rw [hs] at hbr
  have hz := zplI I ht hvt
  have ca : (0 ≤ a1 ∧ a1 < x.sc) → zrow x.MA a1.toNat = zrow x.MA t ∧ zrow x.MB a1.toNat = zrow x.MB t ∧ zmst (-1) a2 0 x.MC x.ME a1.toNat = zmst (-1) a2 0 x.MC x.ME t ∧ (x.MN a1.toNat).toNat = x.K t := fun hv => by
    rw [hvt hv.1 hv.2]; exact ⟨rfl, rfl, rfl, hkn.2⟩
  have cA := fun i hi => (zrow_cg I ht i hi).1
  have cB := fun i hi => (zrow_cg I ht i hi).2.1
  have cM := @zM_let x I t ht a2
  rcases hbr with ⟨g1, g2, g3, g4, g5⟩ | ⟨g1, g2⟩
  · obtain ⟨c1, c2, c3, c4⟩ := ca g2
    rw [c1, c2, c3, c4] at g5
    rw [c1, c2, c4, ← zpl_cg (zrow_cg2 I ht)] at g4
    rcases hh with ⟨rfl, rfl, ⟨k1, k2, k3⟩, bx, bY, k4, k5⟩ | ⟨rfl, rfl, k1⟩ | ⟨rfl, rfl, k1, k2⟩ | ⟨rfl, rfl, k1, k2, k3⟩ | ⟨rfl, rfl, k1, k2, k3, k4⟩
    · have f := zbestc_cg cA cB cM k4
      exact absurd (g5 bx bY f.1 f.2.1.1 f.2.1.2.1 f.2.1.2.2.1 f.2.1.2.2.2) id
    · exact absurd g2 k1
    · exact absurd g3 k2
    · exact absurd g4 k3
    · exact ⟨g1, by omega, fun z => absurd z (by decide), I⟩
  · rcases hh with ⟨rfl, rfl, ⟨k1, k2, k3⟩, bx, bY, k4, k5⟩ | ⟨rfl, rfl, k1⟩ | ⟨rfl, rfl, k1, k2⟩ | ⟨rfl, rfl, k1, k2, k3⟩ | ⟨rfl, rfl, k1, k2, k3, k4⟩
    · obtain ⟨e1, e2⟩ := zthr_eq (kr := 0) Iff.rfl hz g1 (Or.inl ⟨rfl, k1, k2, k3⟩)
      refine ⟨e1, by omega, fun _ => ?_, I⟩
      obtain ⟨cx, cY, m1, m2⟩ := g2 e1
      obtain ⟨c1, c2, c3, c4⟩ := ca k1
      rw [c1, c2, c3, c4] at m1
      obtain ⟨q1, q2⟩ := zbest_un (zbestc_cg cA cB cM k4) m1
      rw [zU_same, k5, m2, q1, q2]
    · obtain ⟨e1, e2⟩ := zthr_eq (kr := 1) Iff.rfl hz g1 (Or.inr (Or.inl ⟨rfl, k1⟩))
      exact ⟨e1, by omega, fun z => absurd z (by decide), I⟩
    · obtain ⟨e1, e2⟩ := zthr_eq (kr := 2) Iff.rfl hz g1 (Or.inr (Or.inr (Or.inl ⟨rfl, k1, k2⟩)))
      exact ⟨e1, by omega, fun z => absurd z (by decide), I⟩
    · obtain ⟨e1, e2⟩ := zthr_eq (kr := 3) Iff.rfl hz g1 (Or.inr (Or.inr (Or.inr ⟨rfl, k1, k2, k3⟩)))
      exact ⟨e1, by omega, fun z => absurd z (by decide), I⟩
    · obtain ⟨e1, e2⟩ := zthr_eq (kr := 0) Iff.rfl hz g1 (Or.inl ⟨rfl, k1, k2, k3⟩)
      obtain ⟨cx, cY, m1, m2⟩ := g2 e1
      obtain ⟨c1, c2, c3, c4⟩ := ca k1
      rw [c1, c2, c3, c4] at m1
      have n := znone_cg cA cB cM k4
      exact absurd (n cx cY m1.1 m1.2.1.1 m1.2.1.2.1 m1.2.1.2.2.1 m1.2.1.2.2.2) id
