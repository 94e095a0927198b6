/-! what whole's rounds owed, as far as it speaks of no round -/
/-- points by rows are points by columns -/
theorem zsm_add (a b : Int → Nat) (lo : Int) : ∀ n, zsm (fun y => a y + b y) lo n = zsm a lo n + zsm b lo n
  | 0 => rfl
  | n + 1 => by rw [zsm_s, zsm_s, zsm_s, zsm_add a b lo n]; omega
theorem zsm_swap (f : Int → Int → Nat) (l1 l2 : Int) (k : Nat) : ∀ n, zsm (fun x => zsm (fun y => f x y) l2 k) l1 n = zsm (fun y => zsm (fun x => f x y) l1 n) l2 k
  | 0 => (zsm_zero (fun _ _ => rfl)).symm
  | n + 1 => by
    rw [zsm_s, zsm_swap f l1 l2 k n, ← zsm_add]
    rfl
theorem zn_sm (p : Int → Prop) (lo : Int) : ∀ n, zn p lo n = zsm (fun y => @ite Nat (p y) (Classical.propDecidable _) 1 0) lo n
  | 0 => rfl
  | n + 1 => by rw [zsm_s, ← zn_sm p lo n]; rfl
theorem zpts_swap {P Q M : Nat → Int} {k : Nat} : zpts Q P M k = zpts P Q M k := by
  have h : ∀ A B : Nat → Int, zpts A B M k = zsm (fun x => zsm (fun y => @ite Nat (zfe A B M k x y) (Classical.propDecidable _) 1 0) (-2000000) 4000001) (-2000000) 4000001 := fun A B => by
    unfold zpts
    exact zsm_congr (fun j _ => zn_sm _ _ _)
  rw [h Q P, h P Q, zsm_swap]
  refine zsm_congr (fun j _ => zsm_congr (fun i _ => ?_))
  have e : zfe Q P M k (-2000000 + (i : Int)) (-2000000 + (j : Int)) ↔ zfe P Q M k (-2000000 + (j : Int)) (-2000000 + (i : Int)) := ⟨zfe_swap, zfe_swap⟩
  by_cases c : zfe P Q M k (-2000000 + (j : Int)) (-2000000 + (i : Int))
  · rw [if_pos c, if_pos (e.mpr c)]
  · rw [if_neg c, if_neg (fun z => c (e.mp z))]
/-- the best point is one alone -/
theorem zbest_un {P Q M : Nat → Int} {k : Nat} {p q c bx bY cx cY : Int} (h1 : zbestc P Q M k p q c bx bY) (h2 : zbestc P Q M k p q c cx cY) : bx = cx ∧ bY = cY := by
  obtain ⟨f1, b1, m1⟩ := h1
  obtain ⟨f2, b2, m2⟩ := h2
  have e1 := m1 cx cY f2 b2.1 b2.2.1 b2.2.2.1 b2.2.2.2
  have e2 := m2 bx bY f1 b1.1 b1.2.1 b1.2.2.1 b1.2.2.2
  generalize p * cx + q * cY = u at *
  generalize p * bx + q * bY = w at *
  omega
theorem zkc_flip {n : Nat} {v : Int} (hv : 1 ≤ v ∧ v ≤ 60) {w : Nat} (h1 : 1 ≤ w) (h2 : w ≤ 60) : zkc (n ^^^ 2 ^ (v - 1).toNat) w ↔ (if w = v.toNat then ¬ zkc n w else zkc n w) := by
  rw [zkc_bits h1 h2, zkc_bits h1 h2, Nat.testBit_xor, Nat.testBit_two_pow]
  by_cases e : w = v.toNat
  · have e2 : (v - 1).toNat = w - 1 := by omega
    rw [if_pos e, e2]
    cases n.testBit (w - 1) <;> simp
  · have e2 : ¬ (v - 1).toNat = w - 1 := by omega
    rw [if_neg e, decide_eq_false e2, Bool.xor_false]
theorem zk_zkc {n : Nat} {v : Int} (hv : 1 ≤ v ∧ v ≤ 60) : zk n v ↔ zkc n v.toNat := by
  unfold zkc
  rw [show ((v.toNat : Nat) : Int) = v by omega]
theorem zpop_f {n : Nat} {v : Int} (hv : 1 ≤ v ∧ v ≤ 60) : (zk n v → zpop 64 (n ^^^ 2 ^ (v - 1).toNat) + 1 = zpop 64 n) ∧ (¬ zk n v → zpop 64 (n ^^^ 2 ^ (v - 1).toNat) = zpop 64 n + 1) := by
  have h := zpop_flip 64 (v - 1).toNat n (by omega)
  have e : n.testBit (v - 1).toNat = decide (n / 2 ^ (v - 1).toNat % 2 = 1) := Nat.testBit_eq_decide_div_mod_eq
  constructor
  · intro z
    have q := z.2.2
    rw [e, decide_eq_true_iff] at q
    omega
  · intro z
    have q : ¬ n / 2 ^ (v - 1).toNat % 2 = 1 := fun q => z ⟨hv.1, hv.2, by rw [e, decide_eq_true_iff]; exact q⟩
    omega
/-! least sums: the greatest gap -/
theorem zpay_sum {C : Nat → Prop} (m : Nat) : ∀ {n : Nat}, zpay C m → zpay C n → zpay C (m + n) := by
  induction m using Nat.strongRecOn with
  | _ m ih =>
    intro n hm hn
    cases m with
    | zero => rw [Nat.zero_add]; exact hn
    | succ k =>
      obtain ⟨v, a, b, c, d, e⟩ := zpay_s.mp hm
      have h := zpay_add a b d (ih (k + 1 - v) (by omega) e hn)
      rwa [show k + 1 - v + n + v = k + 1 + n by omega] at h
theorem zpay_mul {C : Nat → Prop} {n : Nat} (h : zpay C n) : ∀ k, zpay C (k * n)
  | 0 => by rw [Nat.zero_mul]; exact zpay_0 C
  | k + 1 => by rw [Nat.succ_mul]; exact zpay_sum _ (zpay_mul h k) h
/-- some sum that can be paid has that rest -/
def zPR (C : Nat → Prop) (mm d : Nat) : Prop := ∃ s, zpay C s ∧ s % mm = d % mm
theorem zPR_add {C : Nat → Prop} {mm a b : Nat} (ha : zPR C mm a) (hb : zPR C mm b) : zPR C mm (a + b) := by
  obtain ⟨s, h1, h2⟩ := ha
  obtain ⟨t, k1, k2⟩ := hb
  exact ⟨s + t, zpay_sum s h1 k1, by rw [Nat.add_mod, h2, k2, ← Nat.add_mod]⟩
theorem zPR_mul {C : Nat → Prop} {mm a : Nat} (ha : zPR C mm a) (k : Nat) : zPR C mm (k * a) := by
  obtain ⟨s, h1, h2⟩ := ha
  exact ⟨k * s, zpay_mul h1 k, by rw [Nat.mul_mod, h2, ← Nat.mul_mod]⟩
theorem zPR_mod {C : Nat → Prop} {mm a b : Nat} (hm : 0 < mm) (ha : zPR C mm a) (hb : zPR C mm b) : zPR C mm (a % b) := by
  obtain ⟨s, h1, h2⟩ := zPR_add ha (zPR_mul hb ((mm - 1) * (a / b)))
  refine ⟨s, h1, h2.trans ?_⟩
  obtain ⟨u, rfl⟩ : ∃ u, mm = u + 1 := ⟨mm - 1, by omega⟩
  have e := Nat.div_add_mod a b
  have e2 : a + (u + 1 - 1) * (a / b) * b = a % b + (u + 1) * (a / b * b) := by
    rw [Nat.add_sub_cancel, Nat.add_mul, Nat.one_mul, Nat.mul_assoc]
    have e3 : b * (a / b) = a / b * b := Nat.mul_comm _ _
    omega
  rw [e2, Nat.add_mul_mod_self_left]
theorem zPR_gcd {C : Nat → Prop} {mm : Nat} (hm : 0 < mm) (a : Nat) : ∀ b, zPR C mm a → zPR C mm b → zPR C mm (Nat.gcd a b) := by
  induction a using Nat.strongRecOn with
  | _ a ih =>
    intro b ha hb
    by_cases e : a = 0
    · rw [e, Nat.gcd_zero_left]; exact hb
    · rw [Nat.gcd_rec]
      exact ih (b % a) (Nat.mod_lt _ (by omega)) a (zPR_mod hm hb ha) ha
theorem zPR_gd {C : Nat → Prop} {mm : Nat} (hm : 0 < mm) : ∀ j, j ≤ 60 → zPR C mm (zgd C j)
  | 0, _ => ⟨0, zpay_0 C, rfl⟩
  | j + 1, h => by
    have ih := zPR_gd (C := C) hm j (by omega)
    by_cases c : C (j + 1)
    · rw [zgd_t c]
      refine zPR_gcd hm _ _ ih ⟨j + 1, ?_, rfl⟩
      have := zpay_add (n := 0) (show 1 ≤ j + 1 by omega) h c (zpay_0 C)
      rwa [Nat.zero_add] at this
    · rw [zgd_f c]; exact ih
theorem zleast {p : Nat → Prop} (h : ∃ s, p s) : ∃ s, p s ∧ ∀ t, p t → s ≤ t := by
  obtain ⟨s, hs⟩ := h
  induction s using Nat.strongRecOn with
  | _ s ih =>
    by_cases c : ∃ t, t < s ∧ p t
    · obtain ⟨t, h1, h2⟩ := c
      exact ih t h1 h2
    · exact ⟨s, hs, fun t ht => Nat.le_of_not_lt fun z => c ⟨t, z, ht⟩⟩
theorem zpigeon : ∀ (m : Nat) (f : Nat → Nat), (∀ i, i ≤ m → f i < m) → ∃ i j, i < j ∧ j ≤ m ∧ f i = f j
  | 0, f, h => absurd (h 0 (Nat.le_refl 0)) (Nat.not_lt_zero _)
  | m + 1, f, h => by
    by_cases c : ∃ i, i ≤ m ∧ f i = f (m + 1)
    · obtain ⟨i, h1, h2⟩ := c
      exact ⟨i, m + 1, by omega, Nat.le_refl _, h2⟩
    · have hc : ∀ i, i ≤ m → f i ≠ f (m + 1) := fun i hi z => c ⟨i, hi, z⟩
      have ha := h (m + 1) (Nat.le_refl _)
      obtain ⟨i, j, h1, h2, h3⟩ := zpigeon m (fun i => if f i < f (m + 1) then f i else f i - 1) (fun i hi => by
        have h1 := h i (by omega)
        have h2 := hc i hi
        show (if f i < f (m + 1) then f i else f i - 1) < m
        split <;> omega)
      refine ⟨i, j, h1, by omega, ?_⟩
      have k1 := hc i (by omega)
      have k2 := hc j h2
      have h3 : (if f i < f (m + 1) then f i else f i - 1) = (if f j < f (m + 1) then f j else f j - 1) := h3
      split at h3 <;> split at h3 <;> omega
/-- what is left when one coin is paid -/
noncomputable def znx (C : Nat → Prop) (s : Nat) : Nat := @dite Nat (∃ v, 1 ≤ v ∧ v ≤ 60 ∧ v ≤ s ∧ C v ∧ zpay C (s - v)) (Classical.propDecidable _) (fun h => s - Classical.choose h) (fun _ => 0)
theorem znx_s {C : Nat → Prop} {s : Nat} (h : zpay C s) (hs : 0 < s) : ∃ v, 1 ≤ v ∧ v ≤ 60 ∧ v ≤ s ∧ C v ∧ zpay C (s - v) ∧ znx C s = s - v := by
  obtain ⟨n, rfl⟩ : ∃ n, s = n + 1 := ⟨s - 1, by omega⟩
  have hq : ∃ v, 1 ≤ v ∧ v ≤ 60 ∧ v ≤ n + 1 ∧ C v ∧ zpay C (n + 1 - v) := zpay_s.mp h
  have k := Classical.choose_spec hq
  exact ⟨Classical.choose hq, k.1, k.2.1, k.2.2.1, k.2.2.2.1, k.2.2.2.2, dif_pos hq⟩
theorem znx_0 {C : Nat → Prop} : znx C 0 = 0 := by
  unfold znx
  split <;> omega
noncomputable def zch (C : Nat → Prop) (s : Nat) : Nat → Nat
  | 0 => s
  | i + 1 => znx C (zch C s i)
theorem zch_inv {C : Nat → Prop} {s : Nat} (h : zpay C s) : ∀ i, zpay C (zch C s i) ∧ zch C s i ≤ s ∧ zpay C (s - zch C s i)
  | 0 => ⟨h, Nat.le_refl _, by show zpay C (s - s); rw [Nat.sub_self]; exact zpay_0 C⟩
  | i + 1 => by
    obtain ⟨h1, h2, h3⟩ := zch_inv h i
    show zpay C (znx C (zch C s i)) ∧ znx C (zch C s i) ≤ s ∧ zpay C (s - znx C (zch C s i))
    by_cases e : zch C s i = 0
    · rw [e, znx_0]; rw [e] at h3; exact ⟨zpay_0 C, Nat.zero_le _, h3⟩
    · obtain ⟨v, a, b, c, d, f, g⟩ := znx_s h1 (by omega)
      rw [g]
      refine ⟨f, by omega, ?_⟩
      have := zpay_add a b d h3
      rwa [show s - zch C s i + v = s - (zch C s i - v) by omega] at this
/-- the least sum of its rest: few coins, all above the least one -/
theorem zmin_few {C : Nat → Prop} {mm s : Nat} (hm : 1 ≤ mm) (hle : ∀ u, 1 ≤ u → u < mm → ¬ C u) (h : zpay C s) (hmin : ∀ t, zpay C t ∧ t % mm = s % mm → s ≤ t) : zpc C mm mm s ∧ s ≤ 60 * (mm - 1) := by
  have hst : ∀ i, 0 < zch C s i → ∃ v, mm < v ∧ v ≤ 60 ∧ v ≤ zch C s i ∧ C v ∧ zch C s (i + 1) = zch C s i - v := fun i hi => by
    obtain ⟨h1, h2, h3⟩ := zch_inv h i
    obtain ⟨v, a, b, c, d, f, g⟩ := znx_s h1 hi
    refine ⟨v, ?_, b, c, d, g⟩
    by_cases e : v < mm
    · exact absurd d (hle v a e)
    · by_cases e2 : v = mm
      · have k := zpay_sum _ h3 f
        rw [show s - zch C s i + (zch C s i - v) = s - v by omega, e2] at k
        have := hmin (s - mm) ⟨k, by rw [← Nat.mod_eq_sub_mod (show s ≥ mm by omega)]⟩
        omega
      · omega
  have hz : zch C s (mm - 1) = 0 := by
    refine Classical.byContradiction fun q => ?_
    have hpos : ∀ k i, i + k = mm - 1 → 0 < zch C s i := by
      intro k
      induction k with
      | zero => intro i hi; rw [Nat.add_zero] at hi; rw [hi]; omega
      | succ k ih =>
        intro i hi
        have h1 := ih (i + 1) (by omega)
        refine Nat.pos_of_ne_zero fun z => ?_
        have : zch C s (i + 1) = znx C (zch C s i) := rfl
        rw [z, znx_0] at this
        omega
    have hdec : ∀ i, i < mm → zch C s (i + 1) < zch C s i := fun i hi => by
      obtain ⟨v, a, b, c, d, g⟩ := hst i (hpos (mm - 1 - i) i (by omega))
      rw [g]; omega
    have hdec2 : ∀ k i, i + k ≤ mm → 0 < k → zch C s (i + k) < zch C s i := by
      intro k
      induction k with
      | zero => intro i _ h0; omega
      | succ k ih =>
        intro i hi _
        have h1 := hdec (i + k) (by omega)
        by_cases e : k = 0
        · subst e; exact h1
        · have h2 := ih i (by omega) (by omega)
          rw [show i + (k + 1) = i + k + 1 from rfl]
          omega
    obtain ⟨i, j, h1, h2, h3⟩ := zpigeon mm (fun i => zch C s i % mm) (fun i _ => Nat.mod_lt _ (by omega))
    have h4 := hdec2 (j - i) i (by omega) (by omega)
    rw [show i + (j - i) = j by omega] at h4
    obtain ⟨a1, a2, a3⟩ := zch_inv h i
    obtain ⟨b1, b2, b3⟩ := zch_inv h j
    have h3 : zch C s i % mm = zch C s j % mm := h3
    have k := hmin (s - zch C s i + zch C s j) ⟨zpay_sum _ a3 b1, by
      rw [Nat.add_mod, ← h3, ← Nat.add_mod, Nat.sub_add_cancel a2]⟩
    omega
  have hpc : ∀ k i, zch C s (i + k) = 0 → zpc C mm k (zch C s i) ∧ zch C s i ≤ 60 * k := by
    intro k
    induction k with
    | zero => intro i hi; rw [Nat.add_zero] at hi; rw [hi]; exact ⟨rfl, Nat.le_refl _⟩
    | succ k ih =>
      intro i hi
      obtain ⟨h1, h2⟩ := ih (i + 1) (by rw [← hi]; congr 1; omega)
      by_cases e : zch C s i = 0
      · have : zch C s (i + 1) = 0 := by show znx C (zch C s i) = 0; rw [e, znx_0]
        rw [this] at h1
        rw [e]
        exact ⟨Or.inl h1, Nat.zero_le _⟩
      · obtain ⟨v, a, b, c, d, g⟩ := hst i (by omega)
        rw [g] at h1 h2
        exact ⟨Or.inr ⟨v, a, b, d, c, h1⟩, by omega⟩
  obtain ⟨k1, k2⟩ := hpc (mm - 1) 0 (by rw [Nat.zero_add]; exact hz)
  refine ⟨?_, k2⟩
  obtain ⟨u, rfl⟩ : ∃ u, mm = u + 1 := ⟨mm - 1, by omega⟩
  exact Or.inl k1
theorem zcp_fix {C : Nat → Prop} {mm : Nat} {L : Nat → Int} (hm : 0 < mm) (h : zfix C mm L) (h0 : L 0 = 0) : ∀ t, zcp C mm t L
  | 0 => zcp_0 hm h0
  | t + 1 => zcp_s hm (zcp_fix hm h h0 t) (fun _ _ => Int.le_refl _) h
theorem zgd_no {C : Nat → Prop} : ∀ j, (∀ u, 1 ≤ u → u ≤ j → ¬ C u) → zgd C j = 0
  | 0, _ => rfl
  | j + 1, h => by rw [zgd_f (h (j + 1) (by omega) (Nat.le_refl _))]; exact zgd_no j (fun u a b => h u a (by omega))
theorem zgg_main {C : Nat → Prop} {mm : Nat} {L : Nat → Int} {mx : Int} (hm : 1 ≤ mm ∧ mm ≤ 60) (hle : ∀ u, 1 ≤ u → u < mm → ¬ C u) (hC : C mm) (hgd : zgd C 60 = 1) (hso : zso C mm L) (h3 : zfix C mm L ∨ zcp C mm mm L) (h00 : L 0 ≤ 0) (hmx : zmx L mm mx) : zgr C 3601 (mx - (mm : Int)) := by
  have h0 : L 0 = 0 := by have := (hso 0 (by omega)).1; omega
  have hcp : zcp C mm mm L := by
    rcases h3 with h | h
    · exact zcp_fix (by omega) h h0 mm
    · exact h
  have hr : ∀ r, r < mm → 0 ≤ L r ∧ L r ≤ 3540 ∧ (L r).toNat % mm = r ∧ zpay C (L r).toNat ∧ ∀ t, zpay C t → t % mm = r → L r ≤ (t : Int) := fun r hr => by
    obtain ⟨s, ⟨s1, s2⟩, s3⟩ := zleast (p := fun s => zpay C s ∧ s % mm = r) (by
      obtain ⟨s, a, b⟩ := zPR_mul (zPR_gd (C := C) (show 0 < mm by omega) 60 (Nat.le_refl _)) r
      rw [hgd, Nat.mul_one, Nat.mod_eq_of_lt hr] at b
      exact ⟨s, a, b⟩)
    obtain ⟨f1, f2⟩ := zmin_few hm.1 hle s1 (fun t ht => s3 t ⟨ht.1, ht.2.trans s2⟩)
    have k1 := hcp s f1
    rw [s2] at k1
    obtain ⟨l1, l2, l3⟩ := hso r hr
    rcases l3 with l3 | ⟨l3, l4⟩
    · omega
    · have k2 := s3 _ ⟨l4, l3⟩
      refine ⟨l1, by omega, l3, l4, fun t ht1 ht2 => ?_⟩
      have := s3 t ⟨ht1, ht2⟩
      omega
  have hmm : zpay C mm := by have := zpay_add (n := 0) hm.1 hm.2 hC (zpay_0 C); rwa [Nat.zero_add] at this
  have hup : ∀ t : Nat, mx - (mm : Int) < (t : Int) → zpay C t := fun t ht => by
    have hlt : t % mm < mm := Nat.mod_lt _ (by omega)
    obtain ⟨a1, a2, a3, a4, a5⟩ := hr (t % mm) hlt
    have a6 := hmx.1 (t % mm) hlt
    have hle2 : (L (t % mm)).toNat ≤ t := by
      refine Nat.le_of_not_lt fun q => ?_
      have e1 : ((L (t % mm)).toNat - t) % mm = 0 := Nat.sub_mod_eq_zero_of_mod_eq a3
      have e2 := Nat.div_add_mod ((L (t % mm)).toNat - t) mm
      rw [e1] at e2
      have e3 : 0 < ((L (t % mm)).toNat - t) / mm := by
        refine Nat.pos_of_ne_zero fun z => ?_
        rw [z, Nat.mul_zero] at e2
        omega
      have e4 : mm * 1 ≤ mm * (((L (t % mm)).toNat - t) / mm) := Nat.mul_le_mul_left _ e3
      omega
    have e1 : (t - (L (t % mm)).toNat) % mm = 0 := Nat.sub_mod_eq_zero_of_mod_eq a3.symm
    have e2 := Nat.div_add_mod (t - (L (t % mm)).toNat) mm
    rw [e1, Nat.add_zero, Nat.mul_comm] at e2
    have k := zpay_sum _ a4 (zpay_mul hmm ((t - (L (t % mm)).toNat) / mm))
    rw [e2] at k
    rwa [show (L (t % mm)).toNat + (t - (L (t % mm)).toNat) = t by omega] at k
  have hx0 := hmx.1 0 (by omega)
  have hx1 : mx ≤ 3540 := by
    rcases hmx.2 with h | ⟨r, h1, h2⟩
    · omega
    · have := (hr r h1).2.1; omega
  by_cases c : mx < (mm : Int)
  · have hm1 : mm = 1 := by
      refine Classical.byContradiction fun q => ?_
      obtain ⟨a1, a2, a3, a4, a5⟩ := hr 1 (by omega)
      have a6 := hmx.1 1 (by omega)
      have a7 : (L 1).toNat ≠ 0 := fun z => by rw [z, Nat.zero_mod] at a3; omega
      obtain ⟨n, hn⟩ : ∃ n, (L 1).toNat = n + 1 := ⟨(L 1).toNat - 1, by omega⟩
      rw [hn] at a4
      obtain ⟨v, b1, b2, b3, b4, b5⟩ := zpay_s.mp a4
      have : ¬ v < mm := fun z => hle v b1 z b4
      omega
    have hx : mx = 0 := by omega
    refine Or.inl ⟨by omega, fun t _ => hup t (by omega)⟩
  · refine Or.inr ⟨(mx - (mm : Int)).toNat, by omega, by omega, fun z => ?_, fun t h1 _ => hup t (by omega)⟩
    rcases hmx.2 with h | ⟨r, h1, h2⟩
    · omega
    · obtain ⟨a1, a2, a3, a4, a5⟩ := hr r h1
      have := a5 _ z (by
        rw [show (mx - (mm : Int)).toNat = mx.toNat - mm by omega, ← Nat.mod_eq_sub_mod (show mx.toNat ≥ mm by omega), ← h2]; exact a3)
      omega
theorem zgr_un {C : Nat → Prop} {s : Nat} {f1 f2 : Int} (h1 : zgr C s f1) (h2 : zgr C s f2) : f1 = f2 := by
  rcases h1 with ⟨a, b⟩ | ⟨g, a, b, c, d⟩
  · rcases h2 with ⟨a2, b2⟩ | ⟨g2, a2, b2, c2, d2⟩
    · omega
    · exact absurd (b g2 a2) c2
  · rcases h2 with ⟨a2, b2⟩ | ⟨g2, a2, b2, c2, d2⟩
    · exact absurd (b2 g a) c
    · rcases Nat.lt_trichotomy g g2 with q | q | q
      · exact absurd (d g2 q a2) c2
      · omega
      · exact absurd (d2 g q a) c
theorem zgr_cg {C D : Nat → Prop} {s : Nat} {f : Int} (e : ∀ t, zpay C t ↔ zpay D t) (h : zgr C s f) : zgr D s f := by
  rcases h with ⟨a, b⟩ | ⟨g, a, b, c, d⟩
  · exact Or.inl ⟨a, fun t ht => (e t).mp (b t ht)⟩
  · exact Or.inr ⟨g, a, b, fun z => c ((e g).mpr z), fun t h1 h2 => (e t).mp (d t h1 h2)⟩
/-! cones: both ways are one chain -/
theorem zcone_un {x y v w a1 a2 a3 a4 a5 a6 b1 b2 b3 b4 b5 b6 : Int} (h : zcone x y v w a1 a2 a3 a4 a5 a6) (k : zcone x y v w b1 b2 b3 b4 b5 b6) : a1 = b1 ∧ a2 = b2 ∧ a3 = b3 ∧ a4 = b4 ∧ a5 = b5 ∧ a6 = b6 := by
  obtain ⟨⟨h1, h2, hg⟩, ⟨h3, h4, hh⟩, h5, h6⟩ := h
  obtain ⟨⟨k1, k2, -⟩, ⟨k3, k4, -⟩, k5, k6⟩ := k
  have hg0 : ((Nat.gcd x.natAbs y.natAbs : Nat) : Int) ≠ 0 := by omega
  have hh0 : ((Nat.gcd v.natAbs w.natAbs : Nat) : Int) ≠ 0 := by omega
  have e1 : a1 = b1 := Int.eq_of_mul_eq_mul_left hg0 (h1.symm.trans k1)
  have e2 : a2 = b2 := Int.eq_of_mul_eq_mul_left hg0 (h2.symm.trans k2)
  have e3 : a3 = b3 := Int.eq_of_mul_eq_mul_left hh0 (h3.symm.trans k3)
  have e4 : a4 = b4 := Int.eq_of_mul_eq_mul_left hh0 (h4.symm.trans k4)
  refine ⟨e1, e2, e3, e4, ?_, ?_⟩
  · rw [h5, k5, e1, e2, e3, e4]
  · rw [h6, k6, e1, e2, e3, e4]
theorem zcone_ix {x y v w fx fy lx ly tn ar : Int} (h : zcone x y v w fx fy lx ly tn ar) : zabs ((x * w - y * v).tdiv (zg2 x y * zg2 v w)) = ar := by
  obtain ⟨⟨h1, h2, hg⟩, ⟨h3, h4, hh⟩, h5, h6⟩ := h
  have e := zcone_cross h1 h2 h3 h4
  unfold zg2
  rw [e, Int.mul_tdiv_cancel_left _ (by
    intro z
    rcases Int.mul_eq_zero.mp z with q | q <;> omega), h6]
/-- the second vector, as it is found from the first -/
theorem zsec_snd {fx fy lx ly tn ar X T : Int} (ht : tn = -1 ∨ tn = 1) (har : ar = tn * (fx * ly - fy * lx)) (hp : ∃ p q : Int, fx * p + fy * q = 1) (hs : zsec fx fy tn X) (hf : 0 ≤ zFL tn lx ly (X - T * fx) (zsecY fx fy tn X - T * fy) ∧ zFL tn lx ly (X - T * fx) (zsecY fx fy tn X - T * fy) < ar) : zsnd tn fx fy lx ly (X - T * fx) (zsecY fx fy tn X - T * fy) := by
  rw [zsnd_iff har]
  refine ⟨?_, hf⟩
  rw [zFF_sub]
  have htt : tn * tn = 1 := by rcases ht with rfl | rfl <;> rfl
  obtain ⟨p, q, hpq⟩ := hp
  by_cases h0 : fx = 0
  · have hX := hs.2.1 h0
    unfold zsecY zFF
    rw [if_pos h0, hX, h0]
    rw [h0, Int.zero_mul, Int.zero_add] at hpq
    have hy : fy = 1 ∨ fy = -1 := by
      have hd : fy ∣ 1 := ⟨q, hpq.symm⟩
      have hn : fy.natAbs = 1 := by
        have := Int.natAbs_dvd_natAbs.mpr hd
        exact Nat.eq_one_of_dvd_one this
      omega
    rcases hy with rfl | rfl <;> rcases ht with rfl | rfl <;> decide
  · have habs : 0 < zabs fx := by unfold zabs; split <;> omega
    have hdiv : (tn + fy * X).tmod (zabs fx) = 0 := by
      rcases hs.2.2 h0 with h | ⟨-, h⟩
      · exact h.2.2
      · exfalso
        have hz0 := Int.emod_nonneg (-(tn * q)) (show zabs fx ≠ 0 by omega)
        have hz1 := Int.emod_lt_of_pos (-(tn * q)) habs
        obtain ⟨z, hz⟩ : ∃ z : Nat, (z : Int) = (-(tn * q)) % zabs fx := ⟨((-(tn * q)) % zabs fx).toNat, by omega⟩
        refine h z (by omega) ?_
        have e := Int.mul_ediv_add_emod (-(tn * q)) (zabs fx)
        have hdvd : zabs fx ∣ fx := by
          unfold zabs
          split
          · exact Int.dvd_refl _
          · exact (Int.neg_dvd).mpr (Int.dvd_refl _)
        have : zabs fx ∣ tn + fy * (z : Int) := by
          have e2 : tn + fy * (z : Int) = tn * p * fx + zabs fx * (-(fy * ((-(tn * q)) / zabs fx))) := by
            rw [hz]
            grind
          rw [e2]
          exact Int.dvd_add (Int.dvd_trans hdvd (Int.dvd_mul_left _ _)) (Int.dvd_mul_right _ _)
        exact Int.tmod_eq_zero_of_dvd this
    have hd : fx ∣ tn + fy * X := by
      have h1 : zabs fx ∣ tn + fy * X := Int.dvd_of_tmod_eq_zero hdiv
      have h2 : fx ∣ zabs fx := by
        unfold zabs
        split
        · exact Int.dvd_refl _
        · exact (Int.dvd_neg).mpr (Int.dvd_refl _)
      exact Int.dvd_trans h2 h1
    unfold zsecY zFF
    rw [if_neg h0, Int.mul_tdiv_cancel' hd, show tn + fy * X - fy * X = tn by omega]
    exact htt
theorem zgen_eq {tn fx fy lx ly : Int} {X Y : Nat → Int} {k N : Nat} {a b : Int} (hN : 1 ≤ N) (hc : ∀ j, j ≤ k → zhj tn lx ly fx fy a b j = (X j, Y j, X (j + 1), Y (j + 1))) (hp : zpos tn lx ly fx fy a b k) (h0 : zFL tn lx ly (X (k + 1)) (Y (k + 1)) = 0)
    (hp2 : zpos tn lx ly fx fy a b (N - 1)) (h02 : zFL tn lx ly (zhj tn lx ly fx fy a b (N - 1)).2.2.1 (zhj tn lx ly fx fy a b (N - 1)).2.2.2 = 0) : N = k + 1 := by
  rcases Nat.lt_trichotomy (N - 1) k with q | q | q
  · have := hp (N - 1) q; omega
  · omega
  · have := hp2 k q
    rw [hc k (Nat.le_refl _)] at this
    have : 0 < zFL tn lx ly (X (k + 1)) (Y (k + 1)) := this
    omega
/-- each two that follow each other, along the chain -/
theorem zgen_chn {tn fx fy lx ly ar : Int} {X Y : Nat → Int} {k : Nat} (har : ar = tn * (fx * ly - fy * lx)) {a b : Int} (hs : zsnd tn fx fy lx ly a b) (hc : ∀ j, j ≤ k → zhj tn lx ly fx fy a b j = (X j, Y j, X (j + 1), Y (j + 1))) (hp : zpos tn lx ly fx fy a b k) :
    (X 0 = fx ∧ Y 0 = fy) ∧ ∀ j, j ≤ k → zchn tn fx fy lx ly ar (X j) (Y j) (X (j + 1)) (Y (j + 1)) j := by
  have h0 : (fx, fy, a, b) = (X 0, Y 0, X (0 + 1), Y (0 + 1)) := hc 0 (Nat.zero_le _)
  simp only [Prod.mk.injEq] at h0
  obtain ⟨e1, e2, e3, e4⟩ := h0
  refine ⟨⟨e1.symm, e2.symm⟩, fun j => ?_⟩
  induction j with
  | zero =>
    intro _
    rw [← e1, ← e2, ← e3, ← e4]
    exact zchn_0 har hs
  | succ j ih =>
    intro hj
    have h1 := ih (by omega)
    have hq := hp j (by omega)
    rw [hc j (by omega)] at hq
    have hq : 0 < zFL tn lx ly (X (j + 1)) (Y (j + 1)) := hq
    have e5 : zhj tn lx ly fx fy a b (j + 1) = zhs tn lx ly (zhj tn lx ly fx fy a b j) := rfl
    rw [hc (j + 1) hj, hc j (by omega)] at e5
    unfold zhs at e5
    simp only [Prod.mk.injEq] at e5
    rw [e5.2.2.1, e5.2.2.2]
    exact zchn_s h1 hq rfl
/-- between two that follow each other nothing is nearer -/
theorem zlow {f0 l0 f1 l1 d e al be : Int} (h1 : 0 ≤ f0) (h2 : f0 < f1) (h3 : 0 ≤ l1) (h4 : l1 < l0) (hd : d = al * f0 + be * f1) (he : e = al * l0 + be * l1) (d0 : 0 ≤ d) (d1 : d < f1) (e0 : 0 ≤ e) (hz : ¬ (d = 0 ∧ e = 0)) : l0 ≤ e := by
  by_cases ca : 1 ≤ al
  · by_cases cb : 0 ≤ be
    · have m1 := Int.mul_nonneg (show 0 ≤ al - 1 by omega) (show 0 ≤ l0 by omega)
      have m2 := Int.mul_nonneg cb h3
      rw [Int.sub_mul, Int.one_mul] at m1
      omega
    · have m1 := Int.mul_nonneg (show 0 ≤ -be by omega) (show 0 ≤ f1 - f0 - 1 by omega)
      rw [Int.mul_sub, Int.mul_sub, Int.mul_one, Int.neg_mul, Int.neg_mul] at m1
      have m2 : 0 < al + be := by
        refine Int.lt_of_not_ge fun q => ?_
        have m3 := Int.mul_nonneg (show 0 ≤ -(al + be) by omega) h1
        rw [Int.neg_mul, Int.add_mul] at m3
        omega
      have m4 := Int.mul_nonneg (show 0 ≤ -be by omega) (show 0 ≤ l0 - l1 - 1 by omega)
      rw [Int.mul_sub, Int.mul_sub, Int.mul_one, Int.neg_mul, Int.neg_mul] at m4
      have m5 := Int.mul_nonneg (show 0 ≤ al + be - 1 by omega) (show 0 ≤ l0 by omega)
      rw [Int.sub_mul, Int.add_mul, Int.one_mul] at m5
      omega
  · by_cases cb : 1 ≤ be
    · by_cases cz : al = 0
      · subst cz
        have m1 := Int.mul_nonneg (show 0 ≤ be - 1 by omega) (show 0 ≤ f1 by omega)
        rw [Int.sub_mul, Int.one_mul] at m1
        rw [Int.zero_mul] at hd
        omega
      · have m1 := Int.mul_nonneg (show 0 ≤ -al by omega) (show 0 ≤ l0 - l1 - 1 by omega)
        rw [Int.mul_sub, Int.mul_sub, Int.mul_one, Int.neg_mul, Int.neg_mul] at m1
        have m2 : 0 < al + be := by
          refine Int.lt_of_not_ge fun q => ?_
          have m3 := Int.mul_nonneg (show 0 ≤ -(al + be) by omega) h3
          rw [Int.neg_mul, Int.add_mul] at m3
          omega
        have m4 := Int.mul_nonneg (show 0 ≤ -al by omega) (show 0 ≤ f1 - f0 - 1 by omega)
        rw [Int.mul_sub, Int.mul_sub, Int.mul_one, Int.neg_mul, Int.neg_mul] at m4
        have m5 := Int.mul_nonneg (show 0 ≤ al + be - 1 by omega) (show 0 ≤ f1 by omega)
        rw [Int.sub_mul, Int.add_mul, Int.one_mul] at m5
        omega
    · have m1 := Int.mul_nonneg (show 0 ≤ -al by omega) h1
      have m2 := Int.mul_nonneg (show 0 ≤ -be by omega) (show 0 ≤ f1 by omega)
      have m3 := Int.mul_nonneg (show 0 ≤ -al by omega) (show 0 ≤ l0 by omega)
      have m4 := Int.mul_nonneg (show 0 ≤ -be by omega) h3
      rw [Int.neg_mul] at m1 m2 m3 m4
      exact absurd ⟨by omega, by omega⟩ hz
theorem zbasis {tn fx fy lx ly px py cx cy x y : Int} (ht : tn = -1 ∨ tn = 1) (hd : tn * (px * cy - py * cx) = 1) :
    zFF tn fx fy x y = (tn * (x * cy - y * cx)) * zFF tn fx fy px py + (tn * (px * y - py * x)) * zFF tn fx fy cx cy ∧ zFL tn lx ly x y = (tn * (x * cy - y * cx)) * zFL tn lx ly px py + (tn * (px * y - py * x)) * zFL tn lx ly cx cy := by
  have hD : px * cy - py * cx = tn := by rcases ht with rfl | rfl <;> omega
  have ex : tn * x = (x * cy - y * cx) * px + (px * y - py * x) * cx := by rw [← hD]; grind
  have ey : tn * y = (x * cy - y * cx) * py + (px * y - py * x) * cy := by rw [← hD]; grind
  unfold zFF zFL
  constructor <;> rcases ht with rfl | rfl <;> grind
theorem zbx1 {ar a b f l z : Int} (h0 : 0 < ar) (h : ar * z = a * f + b * l) (ha : 0 ≤ a ∧ a ≤ ar) (hb : 0 ≤ b ∧ b ≤ ar) : zmin 0 f + zmin 0 l ≤ z ∧ z ≤ zmax 0 f + zmax 0 l := by
  have hf : ar * zmin 0 f ≤ a * f ∧ a * f ≤ ar * zmax 0 f := by
    unfold zmin zmax
    by_cases c : f < 0
    · rw [if_pos c, if_neg (by omega), Int.mul_zero]
      have m1 := Int.mul_nonneg (show 0 ≤ ar - a by omega) (show 0 ≤ -f by omega)
      have m2 := Int.mul_nonneg ha.1 (show 0 ≤ -f by omega)
      rw [Int.sub_mul, Int.mul_neg, Int.mul_neg] at m1
      rw [Int.mul_neg] at m2
      omega
    · rw [if_neg c, Int.mul_zero]
      have m1 := Int.mul_nonneg (show 0 ≤ ar - a by omega) (show 0 ≤ f by omega)
      have m2 := Int.mul_nonneg ha.1 (show 0 ≤ f by omega)
      rw [Int.sub_mul] at m1
      split
      · omega
      · have : f = 0 := by omega
        subst this
        rw [Int.mul_zero, Int.mul_zero]; omega
  have hl : ar * zmin 0 l ≤ b * l ∧ b * l ≤ ar * zmax 0 l := by
    unfold zmin zmax
    by_cases c : l < 0
    · rw [if_pos c, if_neg (by omega), Int.mul_zero]
      have m1 := Int.mul_nonneg (show 0 ≤ ar - b by omega) (show 0 ≤ -l by omega)
      have m2 := Int.mul_nonneg hb.1 (show 0 ≤ -l by omega)
      rw [Int.sub_mul, Int.mul_neg, Int.mul_neg] at m1
      rw [Int.mul_neg] at m2
      omega
    · rw [if_neg c, Int.mul_zero]
      have m1 := Int.mul_nonneg (show 0 ≤ ar - b by omega) (show 0 ≤ l by omega)
      have m2 := Int.mul_nonneg hb.1 (show 0 ≤ l by omega)
      rw [Int.sub_mul] at m1
      split
      · omega
      · have : l = 0 := by omega
        subst this
        rw [Int.mul_zero, Int.mul_zero]; omega
  constructor
  · refine Int.le_of_mul_le_mul_left ?_ h0
    rw [Int.mul_add, h]; omega
  · refine Int.le_of_mul_le_mul_left ?_ h0
    rw [Int.mul_add, h]; omega
/-- the records are the chain -/
theorem zrecs {tn fx fy lx ly ar : Int} {X Y L : Nat → Int} {k : Nat} (ht : tn = -1 ∨ tn = 1) (har : ar = tn * (fx * ly - fy * lx)) (h0 : 0 < ar) (h8 : ar ≤ 800) (hp2 : ∃ p q : Int, lx * p + ly * q = 1) (hL : zlv tn fx fy lx ly ar (zbox fx fy lx ly) L)
    (hX0 : X 0 = fx ∧ Y 0 = fy) (hch : ∀ j, j ≤ k → zchn tn fx fy lx ly ar (X j) (Y j) (X (j + 1)) (Y (j + 1)) j) (hend : zFL tn lx ly (X (k + 1)) (Y (k + 1)) = 0) :
    ∃ D : Nat → Nat, (∀ i, i ≤ k + 1 → ((D i : Nat) : Int) = zFF tn fx fy (X i) (Y i) ∧ L (D i) = zFL tn lx ly (X i) (Y i) ∧ zrec L (D i) ∧ zcn (zrec L) (D i) = i) ∧ zcn (zrec L) (ar.toNat + 1) = k + 2 ∧ (∀ i, i ≤ k + 1 → (D i : Int) ≤ ar) := by
  have f0 : zFF tn fx fy (X 0) (Y 0) = 0 := by rw [hX0.1, hX0.2]; unfold zFF; grind
  have l0 : zFL tn lx ly (X 0) (Y 0) = ar := by rw [hX0.1, hX0.2]; exact zarea_b har
  have hlast := zchn_end ht har h0 hp2 (hch k (Nat.le_refl _)) hend
  have fk : zFF tn fx fy (X (k + 1)) (Y (k + 1)) = ar := by rw [hlast.1, hlast.2, har]; unfold zFF; grind
  have hff : ∀ i, i ≤ k + 1 → 0 ≤ zFF tn fx fy (X i) (Y i) ∧ zFF tn fx fy (X i) (Y i) ≤ ar ∧ 0 ≤ zFL tn lx ly (X i) (Y i) ∧ zFL tn lx ly (X i) (Y i) ≤ ar := fun i hi => by
    cases i with
    | zero => omega
    | succ i =>
      have h := hch i (by omega)
      have h2 := zchn_ff ht har h
      obtain ⟨c1, c2, c3, c4, c5, c6, c7⟩ := h
      omega
  obtain ⟨D, hD⟩ : ∃ D : Nat → Nat, D = fun i => (zFF tn fx fy (X i) (Y i)).toNat := ⟨_, rfl⟩
  have hDi : ∀ i, i ≤ k + 1 → ((D i : Nat) : Int) = zFF tn fx fy (X i) (Y i) := fun i hi => by
    have := hff i hi
    rw [hD]
    show (((zFF tn fx fy (X i) (Y i)).toNat : Nat) : Int) = _
    omega
  have hinc : ∀ i, i ≤ k → D i < D (i + 1) := fun i hi => by
    have h := hch i hi
    have a := hDi i (by omega)
    have b := hDi (i + 1) (by omega)
    have := h.2.2.1
    omega
  have hlw : ∀ i, i ≤ k → ∀ (d : Nat) (e x y : Int), D i ≤ d → d < D (i + 1) → zok tn fx fy lx ly ar d e x y → zFL tn lx ly (X i) (Y i) ≤ e := fun i hi d e x y d1 d2 ho => by
    obtain ⟨c1, c2, c3, c4, c5, c6, c7⟩ := hch i hi
    obtain ⟨o1, o2, o3, o4, o5, o6⟩ := ho
    obtain ⟨b1, b2⟩ := zbasis (fx := fx) (fy := fy) (lx := lx) (ly := ly) (x := x) (y := y) ht c1
    have a := hDi (i + 1) (by omega)
    exact zlow c2 c3 c4 c5 (o1.symm.trans b1) (o2.symm.trans b2) (by omega) (by omega) o5 o3
  have hLi : ∀ i, i ≤ k + 1 → L (D i) = zFL tn lx ly (X i) (Y i) := fun i hi => by
    have hf := hff i hi
    have hd := hDi i hi
    obtain ⟨k1, k2, k3⟩ := hL (D i) (by omega)
    have hpx := zpl_x (fx := fx) (fy := fy) (i := X i) (j := Y i) ht har
    have hbx : zbox fx fy lx ly (X i) (Y i) := ⟨zbx1 h0 hpx.1 ⟨hf.2.2.1, hf.2.2.2⟩ ⟨hf.1, hf.2.1⟩, zbx1 h0 hpx.2 ⟨hf.2.2.1, hf.2.2.2⟩ ⟨hf.1, hf.2.1⟩⟩
    have hnz : ¬ (((D i : Nat) : Int) = 0 ∧ zFL tn lx ly (X i) (Y i) = 0) := by
      cases i with
      | zero => omega
      | succ i => have := (hch i (by omega)).2.2.1; have := (hch i (by omega)).2.1; omega
    have hle := k3 _ _ _ hbx ⟨hd.symm, rfl, hnz, by omega, hf.2.2.1, hf.2.2.2⟩
    rcases k2 with k2 | ⟨x, y, -, ho⟩
    · omega
    · by_cases c : i ≤ k
      · have := hlw i c (D i) (L (D i)) x y (Nat.le_refl _) (hinc i c) ho
        omega
      · have e : i = k + 1 := by omega
        have := ho.2.2.2.2.1
        subst e
        omega
  have hLd : ∀ i, i ≤ k → ∀ d, D i ≤ d → d < D (i + 1) → zFL tn lx ly (X i) (Y i) ≤ L d := fun i hi d d1 d2 => by
    have a := hDi (i + 1) (by omega)
    have b := hff (i + 1) (by omega)
    obtain ⟨k1, k2, k3⟩ := hL d (by omega)
    rcases k2 with k2 | ⟨x, y, -, ho⟩
    · have := hff i (by omega); omega
    · exact hlw i hi d (L d) x y d1 d2 ho
  have hD0 : D 0 = 0 := by have := hDi 0 (by omega); omega
  -- below a record, all is farther
  have hbl : ∀ i, i ≤ k + 1 → ∀ c, c < D i → zFL tn lx ly (X i) (Y i) < L c := by
    intro i
    induction i with
    | zero => intro _ c hc; omega
    | succ i ih =>
      intro hi c hc
      have h := (hch i (by omega)).2.2.2.2.1
      by_cases q : c < D i
      · have := ih (by omega) c q; omega
      · have := hLd i (by omega) c (by omega) hc; omega
  have hrc : ∀ i, i ≤ k + 1 → zrec L (D i) := fun i hi => by
    refine ⟨?_, fun c hc => ?_⟩
    · rw [hLi i hi]; have := hff i hi; omega
    · rw [hLi i hi]; exact hbl i hi c hc
  have hnr : ∀ i, i ≤ k → ∀ d, D i < d → d < D (i + 1) → ¬ zrec L d := fun i hi d d1 d2 z => by
    have h1 := z.2 (D i) d1
    rw [hLi i (by omega)] at h1
    have h2 := hLd i hi d (by omega) d2
    omega
  have hgap : ∀ i, i ≤ k → ∀ n, D i + 1 + n ≤ D (i + 1) → zcn (zrec L) (D i + 1 + n) = zcn (zrec L) (D i + 1) := by
    intro i hi n
    induction n with
    | zero => intro _; rfl
    | succ n ih =>
      intro h
      rw [show D i + 1 + (n + 1) = D i + 1 + n + 1 from rfl, zcn_f (hnr i hi _ (by omega) (by omega))]
      exact ih (by omega)
  have hcn : ∀ i, i ≤ k + 1 → zcn (zrec L) (D i) = i := by
    intro i
    induction i with
    | zero => intro _; rw [hD0]; rfl
    | succ i ih =>
      intro hi
      have h1 := hgap i (by omega) (D (i + 1) - (D i + 1)) (by have := hinc i (by omega); omega)
      rw [show D i + 1 + (D (i + 1) - (D i + 1)) = D (i + 1) by have := hinc i (by omega); omega, zcn_t (hrc i (by omega)), ih (by omega)] at h1
      exact h1
  refine ⟨D, fun i hi => ⟨hDi i hi, hLi i hi, hrc i hi, hcn i hi⟩, ?_, fun i hi => by have := hDi i hi; have := hff i hi; omega⟩
  have e : D (k + 1) = ar.toNat := by have := hDi (k + 1) (by omega); omega
  rw [← e, zcn_t (hrc _ (Nat.le_refl _)), hcn _ (Nat.le_refl _)]
theorem zanew_k {x y v w XX T : Int} {N : Nat} {fx fy lx ly tn ar : Int} {X Y : Nat → Int} {k : Nat} (hn : zcnm x y v w) (h : zfolP x y v w XX T N fx fy lx ly tn ar) (g : zgenK x y v w X Y k) : ((N : Int) + 1) = (((k + 2 : Nat) : Nat) : Int) ∧ ∀ pl wx wy, 0 ≤ pl → pl < (k : Int) + 2 → zwj tn lx ly fx fy (XX - T * fx) (zsecY fx fy tn XX - T * fy) N pl wx wy → wx = X pl.toNat ∧ wy = Y pl.toNat := by
  obtain ⟨b1, b2, b3, b4, b5, b6, c0, -, ⟨a, b, s1, s2, s3, s4⟩, -⟩ := g
  obtain ⟨z0, zb1, zp, zs, zf, zq, zN, zE⟩ := h
  obtain ⟨rfl, rfl, rfl, rfl, rfl, rfl⟩ := zcone_un z0 c0
  obtain ⟨t1, t2, t3⟩ := zcone_t z0
  have hp1 := zcone_p1 z0
  obtain ⟨rfl, rfl⟩ := zsnd_un t1 t2 zp hp1 (zsec_snd t1 t2 hp1 zs zf) s1
  have hN := zgen_eq zN s2 s3 s4 zq zE
  subst hN
  refine ⟨by omega, fun pl wx wy p0 p1 hw => ?_⟩
  by_cases c : pl = 0
  · subst c
    obtain ⟨w1, w2⟩ := hw.2 (fun j _ => by omega)
    have h0 := s2 0 (Nat.zero_le _)
    simp only [zhj, Prod.mk.injEq] at h0
    exact ⟨w1.trans h0.1, w2.trans h0.2.1⟩
  · obtain ⟨w1, w2⟩ := hw.1 (pl.toNat - 1) (by omega) (by omega)
    rw [s2 (pl.toNat - 1) (by omega), show pl.toNat - 1 + 1 = pl.toNat by omega] at w1 w2
    exact ⟨w1, w2⟩
theorem zlook_k {x y v w : Int} {L : Nat → Int} {fx fy lx ly tn ar : Int} {X Y : Nat → Int} {k : Nat} (hn : zcnm x y v w) (h : zlookP x y v w L fx fy lx ly tn ar) (g : zgenK x y v w X Y k) : ((zcn (zrec L) (ar.toNat + 1) : Nat) : Int) = (((k + 2 : Nat) : Nat) : Int) ∧ ∀ pl wx wy, 0 ≤ pl → pl < (k : Int) + 2 → zwant L fx fy lx ly ar (ar.toNat + 1) pl wx wy → wx = X pl.toNat ∧ wy = Y pl.toNat := by
  obtain ⟨b1, b2, b3, b4, b5, b6, c0, cb, ⟨a, b, s1, s2, s3, s4⟩, -⟩ := g
  obtain ⟨z0, zb1, zp, zl⟩ := h
  obtain ⟨rfl, rfl, rfl, rfl, rfl, rfl⟩ := zcone_un z0 c0
  obtain ⟨t1, t2, t3⟩ := zcone_t z0
  have h8 := zcone_ar z0 zb1.1 zb1.2.1 zb1.2.2.1 zb1.2.2.2
  obtain ⟨x0, hch⟩ := zgen_chn t2 s1 s2 s3
  obtain ⟨D, d1, d2, d3⟩ := zrecs t1 t2 zp h8 (zcone_p2 z0) zl x0 hch s4
  refine ⟨by rw [d2], fun pl wx wy p0 p1 hw => ?_⟩
  obtain ⟨i, rfl⟩ : ∃ i : Nat, pl = (i : Int) := ⟨pl.toNat, by omega⟩
  have hi : i ≤ k + 1 := by omega
  obtain ⟨q1, q2, q3, q4⟩ := d1 i hi
  have hle := d3 i hi
  obtain ⟨w1, w2⟩ := hw (D i) (by omega) q3 (by rw [q4])
  have hpx := zpl_x (fx := fx) (fy := fy) (i := X i) (j := Y i) t1 t2
  rw [q2, q1, ← hpx.1, Int.mul_tdiv_cancel_left _ (by omega)] at w1
  rw [q2, q1, ← hpx.2, Int.mul_tdiv_cancel_left _ (by omega)] at w2
  exact ⟨w1, w2⟩
