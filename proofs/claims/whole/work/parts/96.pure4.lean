/-! least sums: the greatest gap -/
theorem zpay_sum {C : Nat → Prop} (m : Nat) : ∀ {n : Nat}, zpay C m → zpay C n → zpay C (m + n) := by
  induction m using Nat.strongRecOn with
  | _ m ih =>
    intro n hm hn
    cases m with
    | zero => rw [Nat.zero_add]; exact hn
    | succ k =>
      obtain ⟨v, a, b, c, d, e⟩ := zpay_s.mp hm
      have h := zpay_add a b d (ih (k + 1 - v) (by omega) e hn)
      rwa [show k + 1 - v + n + v = k + 1 + n by omega] at h
theorem zpay_mul {C : Nat → Prop} {n : Nat} (h : zpay C n) : ∀ k, zpay C (k * n)
  | 0 => by rw [Nat.zero_mul]; exact zpay_0 C
  | k + 1 => by rw [Nat.succ_mul]; exact zpay_sum _ (zpay_mul h k) h
/-- some sum that can be paid has that rest -/
def zPR (C : Nat → Prop) (mm d : Nat) : Prop := ∃ s, zpay C s ∧ s % mm = d % mm
theorem zPR_add {C : Nat → Prop} {mm a b : Nat} (ha : zPR C mm a) (hb : zPR C mm b) : zPR C mm (a + b) := by
  obtain ⟨s, h1, h2⟩ := ha
  obtain ⟨t, k1, k2⟩ := hb
  exact ⟨s + t, zpay_sum s h1 k1, by rw [Nat.add_mod, h2, k2, ← Nat.add_mod]⟩
theorem zPR_mul {C : Nat → Prop} {mm a : Nat} (ha : zPR C mm a) (k : Nat) : zPR C mm (k * a) := by
  obtain ⟨s, h1, h2⟩ := ha
  exact ⟨k * s, zpay_mul h1 k, by rw [Nat.mul_mod, h2, ← Nat.mul_mod]⟩
theorem zPR_mod {C : Nat → Prop} {mm a b : Nat} (hm : 0 < mm) (ha : zPR C mm a) (hb : zPR C mm b) : zPR C mm (a % b) := by
  obtain ⟨s, h1, h2⟩ := zPR_add ha (zPR_mul hb ((mm - 1) * (a / b)))
  refine ⟨s, h1, h2.trans ?_⟩
  obtain ⟨u, rfl⟩ : ∃ u, mm = u + 1 := ⟨mm - 1, by omega⟩
  have e := Nat.div_add_mod a b
  have e2 : a + (u + 1 - 1) * (a / b) * b = a % b + (u + 1) * (a / b * b) := by
    rw [Nat.add_sub_cancel, Nat.add_mul, Nat.one_mul, Nat.mul_assoc]
    have e3 : b * (a / b) = a / b * b := Nat.mul_comm _ _
    omega
  rw [e2, Nat.add_mul_mod_self_left]
theorem zPR_gcd {C : Nat → Prop} {mm : Nat} (hm : 0 < mm) (a : Nat) : ∀ b, zPR C mm a → zPR C mm b → zPR C mm (Nat.gcd a b) := by
  induction a using Nat.strongRecOn with
  | _ a ih =>
    intro b ha hb
    by_cases e : a = 0
    · rw [e, Nat.gcd_zero_left]; exact hb
    · rw [Nat.gcd_rec]
      exact ih (b % a) (Nat.mod_lt _ (by omega)) a (zPR_mod hm hb ha) ha
theorem zPR_gd {C : Nat → Prop} {mm : Nat} (hm : 0 < mm) : ∀ j, j ≤ 60 → zPR C mm (zgd C j)
  | 0, _ => ⟨0, zpay_0 C, rfl⟩
  | j + 1, h => by
    have ih := zPR_gd (C := C) hm j (by omega)
    by_cases c : C (j + 1)
    · rw [zgd_t c]
      refine zPR_gcd hm _ _ ih ⟨j + 1, ?_, rfl⟩
      have := zpay_add (n := 0) (show 1 ≤ j + 1 by omega) h c (zpay_0 C)
      rwa [Nat.zero_add] at this
    · rw [zgd_f c]; exact ih
theorem zleast {p : Nat → Prop} (h : ∃ s, p s) : ∃ s, p s ∧ ∀ t, p t → s ≤ t := by
  obtain ⟨s, hs⟩ := h
  induction s using Nat.strongRecOn with
  | _ s ih =>
    by_cases c : ∃ t, t < s ∧ p t
    · obtain ⟨t, h1, h2⟩ := c
      exact ih t h1 h2
    · exact ⟨s, hs, fun t ht => Nat.le_of_not_lt fun z => c ⟨t, z, ht⟩⟩
theorem zpigeon : ∀ (m : Nat) (f : Nat → Nat), (∀ i, i ≤ m → f i < m) → ∃ i j, i < j ∧ j ≤ m ∧ f i = f j
  | 0, f, h => absurd (h 0 (Nat.le_refl 0)) (Nat.not_lt_zero _)
  | m + 1, f, h => by
    by_cases c : ∃ i, i ≤ m ∧ f i = f (m + 1)
    · obtain ⟨i, h1, h2⟩ := c
      exact ⟨i, m + 1, by omega, Nat.le_refl _, h2⟩
    · have hc : ∀ i, i ≤ m → f i ≠ f (m + 1) := fun i hi z => c ⟨i, hi, z⟩
      have ha := h (m + 1) (Nat.le_refl _)
      obtain ⟨i, j, h1, h2, h3⟩ := zpigeon m (fun i => if f i < f (m + 1) then f i else f i - 1) (fun i hi => by
        have h1 := h i (by omega)
        have h2 := hc i hi
        show (if f i < f (m + 1) then f i else f i - 1) < m
        split <;> omega)
      refine ⟨i, j, h1, by omega, ?_⟩
      have k1 := hc i (by omega)
      have k2 := hc j h2
      have h3 : (if f i < f (m + 1) then f i else f i - 1) = (if f j < f (m + 1) then f j else f j - 1) := h3
      split at h3 <;> split at h3 <;> omega
/-- what is left when one coin is paid -/
noncomputable def znx (C : Nat → Prop) (s : Nat) : Nat := @dite Nat (∃ v, 1 ≤ v ∧ v ≤ 60 ∧ v ≤ s ∧ C v ∧ zpay C (s - v)) (Classical.propDecidable _) (fun h => s - Classical.choose h) (fun _ => 0)
theorem znx_s {C : Nat → Prop} {s : Nat} (h : zpay C s) (hs : 0 < s) : ∃ v, 1 ≤ v ∧ v ≤ 60 ∧ v ≤ s ∧ C v ∧ zpay C (s - v) ∧ znx C s = s - v := by
  obtain ⟨n, rfl⟩ : ∃ n, s = n + 1 := ⟨s - 1, by omega⟩
  have hq : ∃ v, 1 ≤ v ∧ v ≤ 60 ∧ v ≤ n + 1 ∧ C v ∧ zpay C (n + 1 - v) := zpay_s.mp h
  have k := Classical.choose_spec hq
  exact ⟨Classical.choose hq, k.1, k.2.1, k.2.2.1, k.2.2.2.1, k.2.2.2.2, dif_pos hq⟩
theorem znx_0 {C : Nat → Prop} : znx C 0 = 0 := by
  unfold znx
  split <;> omega
noncomputable def zch (C : Nat → Prop) (s : Nat) : Nat → Nat
  | 0 => s
  | i + 1 => znx C (zch C s i)
theorem zch_inv {C : Nat → Prop} {s : Nat} (h : zpay C s) : ∀ i, zpay C (zch C s i) ∧ zch C s i ≤ s ∧ zpay C (s - zch C s i)
  | 0 => ⟨h, Nat.le_refl _, by show zpay C (s - s); rw [Nat.sub_self]; exact zpay_0 C⟩
  | i + 1 => by
    obtain ⟨h1, h2, h3⟩ := zch_inv h i
    show zpay C (znx C (zch C s i)) ∧ znx C (zch C s i) ≤ s ∧ zpay C (s - znx C (zch C s i))
    by_cases e : zch C s i = 0
    · rw [e, znx_0]; rw [e] at h3; exact ⟨zpay_0 C, Nat.zero_le _, h3⟩
    · obtain ⟨v, a, b, c, d, f, g⟩ := znx_s h1 (by omega)
      rw [g]
      refine ⟨f, by omega, ?_⟩
      have := zpay_add a b d h3
      rwa [show s - zch C s i + v = s - (zch C s i - v) by omega] at this
/-- the least sum of its rest: few coins, all above the least one -/
theorem zmin_few {C : Nat → Prop} {mm s : Nat} (hm : 1 ≤ mm) (hle : ∀ u, 1 ≤ u → u < mm → ¬ C u) (h : zpay C s) (hmin : ∀ t, zpay C t ∧ t % mm = s % mm → s ≤ t) : zpc C mm mm s ∧ s ≤ 60 * (mm - 1) := by
  have hst : ∀ i, 0 < zch C s i → ∃ v, mm < v ∧ v ≤ 60 ∧ v ≤ zch C s i ∧ C v ∧ zch C s (i + 1) = zch C s i - v := fun i hi => by
    obtain ⟨h1, h2, h3⟩ := zch_inv h i
    obtain ⟨v, a, b, c, d, f, g⟩ := znx_s h1 hi
    refine ⟨v, ?_, b, c, d, g⟩
    by_cases e : v < mm
    · exact absurd d (hle v a e)
    · by_cases e2 : v = mm
      · have k := zpay_sum _ h3 f
        rw [show s - zch C s i + (zch C s i - v) = s - v by omega, e2] at k
        have := hmin (s - mm) ⟨k, by rw [← Nat.mod_eq_sub_mod (show s ≥ mm by omega)]⟩
        omega
      · omega
  have hz : zch C s (mm - 1) = 0 := by
    refine Classical.byContradiction fun q => ?_
    have hpos : ∀ k i, i + k = mm - 1 → 0 < zch C s i := by
      intro k
      induction k with
      | zero => intro i hi; rw [Nat.add_zero] at hi; rw [hi]; omega
      | succ k ih =>
        intro i hi
        have h1 := ih (i + 1) (by omega)
        refine Nat.pos_of_ne_zero fun z => ?_
        have : zch C s (i + 1) = znx C (zch C s i) := rfl
        rw [z, znx_0] at this
        omega
    have hdec : ∀ i, i < mm → zch C s (i + 1) < zch C s i := fun i hi => by
      obtain ⟨v, a, b, c, d, g⟩ := hst i (hpos (mm - 1 - i) i (by omega))
      rw [g]; omega
    have hdec2 : ∀ k i, i + k ≤ mm → 0 < k → zch C s (i + k) < zch C s i := by
      intro k
      induction k with
      | zero => intro i _ h0; omega
      | succ k ih =>
        intro i hi _
        have h1 := hdec (i + k) (by omega)
        by_cases e : k = 0
        · subst e; exact h1
        · have h2 := ih i (by omega) (by omega)
          rw [show i + (k + 1) = i + k + 1 from rfl]
          omega
    obtain ⟨i, j, h1, h2, h3⟩ := zpigeon mm (fun i => zch C s i % mm) (fun i _ => Nat.mod_lt _ (by omega))
    have h4 := hdec2 (j - i) i (by omega) (by omega)
    rw [show i + (j - i) = j by omega] at h4
    obtain ⟨a1, a2, a3⟩ := zch_inv h i
    obtain ⟨b1, b2, b3⟩ := zch_inv h j
    have h3 : zch C s i % mm = zch C s j % mm := h3
    have k := hmin (s - zch C s i + zch C s j) ⟨zpay_sum _ a3 b1, by
      rw [Nat.add_mod, ← h3, ← Nat.add_mod, Nat.sub_add_cancel a2]⟩
    omega
  have hpc : ∀ k i, zch C s (i + k) = 0 → zpc C mm k (zch C s i) ∧ zch C s i ≤ 60 * k := by
    intro k
    induction k with
    | zero => intro i hi; rw [Nat.add_zero] at hi; rw [hi]; exact ⟨rfl, Nat.le_refl _⟩
    | succ k ih =>
      intro i hi
      obtain ⟨h1, h2⟩ := ih (i + 1) (by rw [← hi]; congr 1; omega)
      by_cases e : zch C s i = 0
      · have : zch C s (i + 1) = 0 := by show znx C (zch C s i) = 0; rw [e, znx_0]
        rw [this] at h1
        rw [e]
        exact ⟨Or.inl h1, Nat.zero_le _⟩
      · obtain ⟨v, a, b, c, d, g⟩ := hst i (by omega)
        rw [g] at h1 h2
        exact ⟨Or.inr ⟨v, a, b, d, c, h1⟩, by omega⟩
  obtain ⟨k1, k2⟩ := hpc (mm - 1) 0 (by rw [Nat.zero_add]; exact hz)
  refine ⟨?_, k2⟩
  obtain ⟨u, rfl⟩ : ∃ u, mm = u + 1 := ⟨mm - 1, by omega⟩
  exact Or.inl k1
theorem zcp_fix {C : Nat → Prop} {mm : Nat} {L : Nat → Int} (hm : 0 < mm) (h : zfix C mm L) (h0 : L 0 = 0) : ∀ t, zcp C mm t L
  | 0 => zcp_0 hm h0
  | t + 1 => zcp_s hm (zcp_fix hm h h0 t) (fun _ _ => Int.le_refl _) h
theorem zgd_no {C : Nat → Prop} : ∀ j, (∀ u, 1 ≤ u → u ≤ j → ¬ C u) → zgd C j = 0
  | 0, _ => rfl
  | j + 1, h => by rw [zgd_f (h (j + 1) (by omega) (Nat.le_refl _))]; exact zgd_no j (fun u a b => h u a (by omega))
theorem zgg_main {C : Nat → Prop} {mm : Nat} {L : Nat → Int} {mx : Int} (hm : 1 ≤ mm ∧ mm ≤ 60) (hle : ∀ u, 1 ≤ u → u < mm → ¬ C u) (hC : C mm) (hgd : zgd C 60 = 1) (hso : zso C mm L) (h3 : zfix C mm L ∨ zcp C mm mm L) (h00 : L 0 ≤ 0) (hmx : zmx L mm mx) : zgr C 3601 (mx - (mm : Int)) := by
  have h0 : L 0 = 0 := by have := (hso 0 (by omega)).1; omega
  have hcp : zcp C mm mm L := by
    rcases h3 with h | h
    · exact zcp_fix (by omega) h h0 mm
    · exact h
  have hr : ∀ r, r < mm → 0 ≤ L r ∧ L r ≤ 3540 ∧ (L r).toNat % mm = r ∧ zpay C (L r).toNat ∧ ∀ t, zpay C t → t % mm = r → L r ≤ (t : Int) := fun r hr => by
    obtain ⟨s, ⟨s1, s2⟩, s3⟩ := zleast (p := fun s => zpay C s ∧ s % mm = r) (by
      obtain ⟨s, a, b⟩ := zPR_mul (zPR_gd (C := C) (show 0 < mm by omega) 60 (Nat.le_refl _)) r
      rw [hgd, Nat.mul_one, Nat.mod_eq_of_lt hr] at b
      exact ⟨s, a, b⟩)
    obtain ⟨f1, f2⟩ := zmin_few hm.1 hle s1 (fun t ht => s3 t ⟨ht.1, ht.2.trans s2⟩)
    have k1 := hcp s f1
    rw [s2] at k1
    obtain ⟨l1, l2, l3⟩ := hso r hr
    rcases l3 with l3 | ⟨l3, l4⟩
    · omega
    · have k2 := s3 _ ⟨l4, l3⟩
      refine ⟨l1, by omega, l3, l4, fun t ht1 ht2 => ?_⟩
      have := s3 t ⟨ht1, ht2⟩
      omega
  have hmm : zpay C mm := by have := zpay_add (n := 0) hm.1 hm.2 hC (zpay_0 C); rwa [Nat.zero_add] at this
  have hup : ∀ t : Nat, mx - (mm : Int) < (t : Int) → zpay C t := fun t ht => by
    have hlt : t % mm < mm := Nat.mod_lt _ (by omega)
    obtain ⟨a1, a2, a3, a4, a5⟩ := hr (t % mm) hlt
    have a6 := hmx.1 (t % mm) hlt
    have hle2 : (L (t % mm)).toNat ≤ t := by
      refine Nat.le_of_not_lt fun q => ?_
      have e1 : ((L (t % mm)).toNat - t) % mm = 0 := Nat.sub_mod_eq_zero_of_mod_eq a3
      have e2 := Nat.div_add_mod ((L (t % mm)).toNat - t) mm
      rw [e1] at e2
      have e3 : 0 < ((L (t % mm)).toNat - t) / mm := by
        refine Nat.pos_of_ne_zero fun z => ?_
        rw [z, Nat.mul_zero] at e2
        omega
      have e4 : mm * 1 ≤ mm * (((L (t % mm)).toNat - t) / mm) := Nat.mul_le_mul_left _ e3
      omega
    have e1 : (t - (L (t % mm)).toNat) % mm = 0 := Nat.sub_mod_eq_zero_of_mod_eq a3.symm
    have e2 := Nat.div_add_mod (t - (L (t % mm)).toNat) mm
    rw [e1, Nat.add_zero, Nat.mul_comm] at e2
    have k := zpay_sum _ a4 (zpay_mul hmm ((t - (L (t % mm)).toNat) / mm))
    rw [e2] at k
    rwa [show (L (t % mm)).toNat + (t - (L (t % mm)).toNat) = t by omega] at k
  have hx0 := hmx.1 0 (by omega)
  have hx1 : mx ≤ 3540 := by
    rcases hmx.2 with h | ⟨r, h1, h2⟩
    · omega
    · have := (hr r h1).2.1; omega
  by_cases c : mx < (mm : Int)
  · have hm1 : mm = 1 := by
      refine Classical.byContradiction fun q => ?_
      obtain ⟨a1, a2, a3, a4, a5⟩ := hr 1 (by omega)
      have a6 := hmx.1 1 (by omega)
      have a7 : (L 1).toNat ≠ 0 := fun z => by rw [z, Nat.zero_mod] at a3; omega
      obtain ⟨n, hn⟩ : ∃ n, (L 1).toNat = n + 1 := ⟨(L 1).toNat - 1, by omega⟩
      rw [hn] at a4
      obtain ⟨v, b1, b2, b3, b4, b5⟩ := zpay_s.mp a4
      have : ¬ v < mm := fun z => hle v b1 z b4
      omega
    have hx : mx = 0 := by omega
    refine Or.inl ⟨by omega, fun t _ => hup t (by omega)⟩
  · refine Or.inr ⟨(mx - (mm : Int)).toNat, by omega, by omega, fun z => ?_, fun t h1 _ => hup t (by omega)⟩
    rcases hmx.2 with h | ⟨r, h1, h2⟩
    · omega
    · obtain ⟨a1, a2, a3, a4, a5⟩ := hr r h1
      have := a5 _ z (by
        rw [show (mx - (mm : Int)).toNat = mx.toNat - mm by omega, ← Nat.mod_eq_sub_mod (show mx.toNat ≥ mm by omega), ← h2]; exact a3)
      omega
theorem zgr_un {C : Nat → Prop} {s : Nat} {f1 f2 : Int} (h1 : zgr C s f1) (h2 : zgr C s f2) : f1 = f2 := by
  rcases h1 with ⟨a, b⟩ | ⟨g, a, b, c, d⟩
  · rcases h2 with ⟨a2, b2⟩ | ⟨g2, a2, b2, c2, d2⟩
    · omega
    · exact absurd (b g2 a2) c2
  · rcases h2 with ⟨a2, b2⟩ | ⟨g2, a2, b2, c2, d2⟩
    · exact absurd (b2 g a) c
    · rcases Nat.lt_trichotomy g g2 with q | q | q
      · exact absurd (d g2 q a2) c2
      · omega
      · exact absurd (d2 g q a) c
theorem zgr_cg {C D : Nat → Prop} {s : Nat} {f : Int} (e : ∀ t, zpay C t ↔ zpay D t) (h : zgr C s f) : zgr D s f := by
  rcases h with ⟨a, b⟩ | ⟨g, a, b, c, d⟩
  · exact Or.inl ⟨a, fun t ht => (e t).mp (b t ht)⟩
  · exact Or.inr ⟨g, a, b, fun z => c ((e g).mpr z), fun t h1 h2 => (e t).mp (d t h1 h2)⟩
set_option maxHeartbeats 2000000 in
theorem zl_greatestGap {x : zSt} (I : zInv x) {u_kr : Int} {u_O1 : Nat → Int} {u_mm : Nat} {u_L2 : Nat → Int} {u_mx : Int} (hh : (u_kr = 0 ∧ u_O1 = zU x.OF 0 (zT32 (u_mx - (u_mm : Int))) ∧ (zgd (zkc x.n) 60 = 1) ∧ (zlc x.n u_mm) ∧ (zso (zkc x.n) u_mm u_L2) ∧ ((zfix (zkc x.n) u_mm u_L2 ∨ zcp (zkc x.n) u_mm u_mm u_L2) ∧ u_L2 0 ≤ 0) ∧ (zmx u_L2 u_mm u_mx)) ∨ (u_kr = 1 ∧ u_O1 = x.OF ∧ (¬ zgd (zkc x.n) 60 = 1))) {m_rr : Int} {m_t1 : Int} {m_I1 : Nat → Int} (hgg : zgreatR x.Kc m_rr m_t1) : m_t1 = u_kr ∧ (0 ≤ u_kr ∧ u_kr ≤ 3) ∧ (u_kr = 0 → u_O1 0 = zT32 m_rr) ∧ zInv (zMk x.sc x.K x.FA x.FB x.FC x.FE u_O1 x.P x.Qu x.M x.kk x.f0 x.l0 x.b0 x.t0 x.x0 x.y0 x.fx x.fy x.lx x.ly x.tn x.ar x.wx x.wy x.L0 x.n x.wg x.W0 u_L2 m_t1 x.sh x.MN x.MA x.MB x.MC x.ME x.Yp x.Yq x.Yo x.ro x.fi x.la x.lo x.hi x.co x.Kc x.Wt m_I1 x.ge x.GX x.GY x.ir) := by
  have e1 : zgd (zkc x.n) 60 = zgd (zkm x.Kc) 60 := zgd_congr (zKK I)
  unfold zgreatR at hgg
  rcases hh with ⟨rfl, rfl, k1, k2, k3, k4, k5⟩ | ⟨rfl, rfl, k1⟩
  · rcases hgg with ⟨g1, g2⟩ | ⟨g1, g2, g3⟩
    · exact absurd (e1.symm.trans k1) g2
    · refine ⟨g1, by omega, fun _ => ?_, I⟩
      have hC : zkc x.n u_mm := by
        rcases k2.2.2 with q | q
        · exact q
        · rw [zgd_no 60 q] at k1; exact absurd k1 (by decide)
      have k := zgg_main k2.1 k2.2.1 hC k1 k3 k4.1 k4.2 k5
      rw [zU_same, zgr_un (zgr_cg (fun t => zpay_congr (zKK I) t) k) g3]
  · rcases hgg with ⟨g1, g2⟩ | ⟨g1, g2, g3⟩
    · exact ⟨g1, by omega, fun z => absurd z (by decide), I⟩
    · exact absurd (e1.trans g2) k1
