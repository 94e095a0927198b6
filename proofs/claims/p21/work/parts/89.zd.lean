/-! coins: what can be paid has a way; gaps by their rank -/
/-- the coins up to j -/
def zqup (C : Nat → Prop) (j : Nat) : Nat → Prop := fun v => C v ∧ v ≤ j
theorem zwi_at {F : Nat → Int} {v : Nat} (hv : 1 ≤ v) : ∀ (t i : Nat), (i < v → zwi F v t i = F i) ∧ (v ≤ i → i < v + t → zwi F v t i = F i + zwi F v t (i - v)) ∧ (v + t ≤ i → zwi F v t i = F i)
  | 0, i => ⟨fun _ => rfl, fun a b => absurd b (by omega), fun _ => rfl⟩
  | t + 1, i => by
    have ih := zwi_at (F := F) hv t i
    have e : ∀ j, j ≠ v + t → zwi F v (t + 1) j = zwi F v t j := fun j hj => zU_ne hj
    have es : zwi F v (t + 1) (v + t) = zwi F v t (v + t) + zwi F v t t := zU_same
    refine ⟨fun a => ?_, fun a b => ?_, fun a => ?_⟩
    · rw [e i (by omega)]; exact ih.1 a
    · by_cases c : i = v + t
      · rw [c, es, (zwi_at (F := F) hv t (v + t)).2.2 (Nat.le_refl _), show v + t - v = t by omega, e t (by omega)]
      · rw [e i c, e (i - v) (by omega)]; exact ih.2.1 a (by omega)
    · rw [e i (by omega)]; exact ih.2.2 (by omega)
theorem zwi_b {F : Nat → Int} {v t n : Nat} {B : Int} (hv : 1 ≤ v) (hF : ∀ i, i ≤ n → 0 ≤ F i ∧ F i ≤ B) : ∀ i, i ≤ n → 0 ≤ zwi F v t i ∧ zwi F v t i ≤ ((i : Int) + 1) * B := by
  intro i
  induction i using Nat.strongRecOn with
  | _ i ih =>
    intro hi
    obtain ⟨h1, h2, h3⟩ := zwi_at (F := F) hv t i
    have f := hF i hi
    have hB : 0 ≤ B := by omega
    have m : 0 ≤ (i : Int) * B := Int.mul_nonneg (by omega) hB
    rw [Int.add_mul, Int.one_mul]
    by_cases c : v ≤ i ∧ i < v + t
    · have k := ih (i - v) (by omega) (by omega)
      rw [h2 c.1 c.2]
      have m2 : (((i - v : Nat) : Int) + 1) * B ≤ (i : Int) * B := Int.mul_le_mul_of_nonneg_right (by omega) hB
      omega
    · have e : zwi F v t i = F i := by
        by_cases a : i < v
        · exact h1 a
        · exact h3 (by omega)
      rw [e]; omega
theorem zws_b (C : Nat → Prop) (n : Nat) : ∀ j i, i ≤ n → 0 ≤ zws C n j i ∧ zws C n j i ≤ (((n + 1) ^ zcn (fun i => C (i + 1)) j : Nat) : Int)
  | 0, i, _ => by
    show 0 ≤ (if i = 0 then (1 : Int) else 0) ∧ (if i = 0 then (1 : Int) else 0) ≤ (((n + 1) ^ 0 : Nat) : Int)
    rw [Nat.pow_zero]
    split <;> omega
  | j + 1, i, hi => by
    have ih := zws_b C n j
    by_cases h : C (j + 1)
    · rw [zws_t h, zcn_t (p := fun i => C (i + 1)) h, Nat.pow_succ, Int.natCast_mul]
      have k := zwi_b (t := n + 1 - (j + 1)) (show 1 ≤ j + 1 by omega) ih i hi
      have hP : (0 : Int) ≤ (((n + 1) ^ zcn (fun i => C (i + 1)) j : Nat) : Int) := Int.natCast_nonneg _
      have m : ((i : Int) + 1) * (((n + 1) ^ zcn (fun i => C (i + 1)) j : Nat) : Int) ≤ ((n + 1 : Nat) : Int) * (((n + 1) ^ zcn (fun i => C (i + 1)) j : Nat) : Int) := Int.mul_le_mul_of_nonneg_right (by omega) hP
      refine ⟨k.1, Int.le_trans k.2 ?_⟩
      rw [Int.mul_comm (((n + 1) ^ zcn (fun i => C (i + 1)) j : Nat) : Int)]
      exact m
    · rw [zws_f h, zcn_f (p := fun i => C (i + 1)) h]
      exact ih i hi
theorem zws_S {C : Nat → Prop} {n i : Nat} (hn : n ≤ 1000) (hc : zcn (fun i => C (i + 1)) 60 ≤ 5) (hi : i ≤ n) : 0 ≤ zws C n 60 i ∧ zws C n 60 i ≤ 1010000000000000 := by
  have h := zws_b C n 60 i hi
  have h2 : (n + 1) ^ zcn (fun i => C (i + 1)) 60 ≤ 1001 ^ 5 := Nat.le_trans (Nat.pow_le_pow_left (show n + 1 ≤ 1001 by omega) _) (Nat.pow_le_pow_right (by decide) hc)
  have h3 : (1001 : Nat) ^ 5 ≤ 1010000000000000 := Nat.le_of_ble_eq_true rfl
  have h4 : (n + 1) ^ zcn (fun i => C (i + 1)) 60 ≤ 1010000000000000 := Nat.le_trans h2 h3
  generalize (n + 1) ^ zcn (fun i => C (i + 1)) 60 = P at h h4
  omega
theorem zpay_mono {C D : Nat → Prop} (h : ∀ v, C v → D v) : ∀ t, zpay C t → zpay D t := by
  intro t
  induction t using Nat.strongRecOn with
  | _ t ih =>
    intro z
    cases t with
    | zero => exact zpay_0 D
    | succ n =>
      obtain ⟨v, a, b, c, d, e⟩ := zpay_s.mp z
      exact zpay_s.mpr ⟨v, a, b, c, h v d, ih _ (by omega) e⟩
theorem zpay_up1 {C : Nat → Prop} {j : Nat} : ∀ i, zpay (zqup C (j + 1)) i → zpay (zqup C j) i ∨ (j + 1 ≤ i ∧ zpay (zqup C (j + 1)) (i - (j + 1))) := by
  intro i
  induction i using Nat.strongRecOn with
  | _ i ih =>
    intro z
    cases i with
    | zero => exact Or.inl (zpay_0 _)
    | succ n =>
      obtain ⟨u, a, b, c, d, e⟩ := zpay_s.mp z
      by_cases q : u = j + 1
      · rw [q] at c e
        exact Or.inr ⟨c, e⟩
      · have du : zqup C j u := ⟨d.1, by have := d.2; omega⟩
        rcases ih (n + 1 - u) (by omega) e with h | ⟨h1, h2⟩
        · have k := zpay_add a b du h
          rw [show n + 1 - u + u = n + 1 by omega] at k
          exact Or.inl k
        · have k := zpay_add a b d h2
          rw [show n + 1 - u - (j + 1) + u = n + 1 - (j + 1) by omega] at k
          exact Or.inr ⟨by omega, k⟩
theorem zpay_up {C : Nat → Prop} {j : Nat} (hj : j + 1 ≤ 60) (hC : C (j + 1)) (i : Nat) : zpay (zqup C (j + 1)) i ↔ zpay (zqup C j) i ∨ (j + 1 ≤ i ∧ zpay (zqup C (j + 1)) (i - (j + 1))) := by
  constructor
  · exact zpay_up1 i
  · rintro (h | ⟨h1, h2⟩)
    · exact zpay_mono (fun v hv => ⟨hv.1, by have := hv.2; omega⟩) _ h
    · have k := zpay_add (show 1 ≤ j + 1 by omega) hj (show zqup C (j + 1) (j + 1) from ⟨hC, Nat.le_refl _⟩) h2
      rw [show i - (j + 1) + (j + 1) = i by omega] at k
      exact k
theorem zws_pos (C : Nat → Prop) (n : Nat) : ∀ j, j ≤ 60 → ∀ i, i ≤ n → (0 < zws C n j i ↔ zpay (zqup C j) i)
  | 0, _, i, _ => by
    show 0 < (if i = 0 then (1 : Int) else 0) ↔ zpay (zqup C 0) i
    cases i with
    | zero => exact ⟨fun _ => zpay_0 _, fun _ => by rw [if_pos rfl]; omega⟩
    | succ i =>
      rw [if_neg (by omega)]
      refine ⟨fun z => absurd z (by omega), fun z => ?_⟩
      obtain ⟨v, a, b, c, d, e⟩ := zpay_s.mp z
      have := d.2
      omega
  | j + 1, hj, i, hi => by
    have ih := zws_pos C n j (by omega)
    by_cases h : C (j + 1)
    · have hF := zws_b C n j
      rw [zws_t h]
      revert hi
      induction i using Nat.strongRecOn with
      | _ i ihi =>
        intro hi
        obtain ⟨h1, h2, h3⟩ := zwi_at (F := zws C n j) (show 1 ≤ j + 1 by omega) (n + 1 - (j + 1)) i
        have f := (hF i hi).1
        rw [zpay_up hj h i, ← ih i hi]
        by_cases c : i < j + 1
        · rw [h1 c]
          exact ⟨fun z => Or.inl z, fun z => z.elim (fun y => y) (fun y => absurd y.1 (by omega))⟩
        · have ihq : 0 < zwi (zws C n j) (j + 1) (n + 1 - (j + 1)) (i - (j + 1)) ↔ zpay (zqup C (j + 1)) (i - (j + 1)) := ihi _ (by omega) (by omega)
          rw [h2 (by omega) (by omega), ← ihq]
          have g := (zwi_b (t := n + 1 - (j + 1)) (show 1 ≤ j + 1 by omega) hF (i - (j + 1)) (by omega)).1
          omega
    · rw [zws_f h, ih i hi]
      refine zpay_congr (fun v a b => ⟨fun z => ⟨z.1, by have := z.2; omega⟩, fun z => ⟨z.1, ?_⟩⟩) i
      have z2 := z.2
      by_cases q : v = j + 1
      · rw [q] at z; exact absurd z.1 h
      · omega
theorem zws_iff {C : Nat → Prop} {n i : Nat} (hi : i ≤ n) : zws C n 60 i = 0 ↔ ¬ zpay C i := by
  have h := zws_pos C n 60 (Nat.le_refl _) i hi
  have h2 : zpay (zqup C 60) i ↔ zpay C i := zpay_congr (fun v a b => ⟨fun z => z.1, fun z => ⟨z, b⟩⟩) i
  have h3 := (zws_b C n 60 i hi).1
  rw [h2] at h
  constructor
  · intro z y
    have := h.mpr y
    omega
  · intro z
    refine Classical.byContradiction fun y => z (h.mp (by omega))
theorem zcn_s1 (p : Nat → Prop) (n : Nat) : zcn p n ≤ zcn p (n + 1) ∧ zcn p (n + 1) ≤ zcn p n + 1 := by
  by_cases h : p n
  · rw [zcn_t h]; omega
  · rw [zcn_f h]; omega
theorem zcn_rank {p : Nat → Prop} {r : Nat} : ∀ {s : Nat}, r < zcn p s → ∃ g, g < s ∧ p g ∧ zcn p g = r := by
  intro s
  induction s with
  | zero => intro h; exact absurd h (Nat.not_lt_zero _)
  | succ s ih =>
    intro h
    by_cases c : r < zcn p s
    · obtain ⟨g, a, b⟩ := ih c
      exact ⟨g, by omega, b⟩
    · by_cases q : p s
      · rw [zcn_t q] at h
        exact ⟨s, by omega, q, by omega⟩
      · rw [zcn_f q] at h
        exact absurd h c
theorem zcn_ord {p : Nat → Prop} {a b : Nat} (h : zcn p a < zcn p b) : a < b := by
  refine Nat.not_le.mp fun q => ?_
  have := zcn_mono (p := p) q
  omega
theorem zcn_lt2 {p : Nat → Prop} {g s : Nat} (hp : p g) : zcn p g < zcn p s ↔ g < s := by
  constructor
  · exact zcn_ord
  · intro h
    have := zcn_mono (p := p) (show g + 1 ≤ s by omega)
    rw [zcn_t hp] at this
    omega
/-- the last gap -/
theorem zgr_last {C : Nat → Prop} {g s : Nat} (hg : g < s) (hp : ¬ zpay C g) (hr : zcn (fun t => ¬ zpay C t) g + 1 = zcn (fun t => ¬ zpay C t) s) : zgr C s (g : Int) := by
  refine Or.inr ⟨g, hg, rfl, hp, fun t a b => Classical.byContradiction fun q => ?_⟩
  have h1 := (zcn_lt2 (p := fun t => ¬ zpay C t) (g := g) (s := t) hp).mpr a
  have h2 := (zcn_lt2 (p := fun t => ¬ zpay C t) (g := t) (s := s) q).mpr b
  omega
theorem zgr_non {C : Nat → Prop} {s : Nat} (hr : zcn (fun t => ¬ zpay C t) s = 0) : zgr C s (-1) := by
  refine Or.inl ⟨rfl, fun t a => Classical.byContradiction fun q => ?_⟩
  have h2 := (zcn_lt2 (p := fun t => ¬ zpay C t) (g := t) (s := s) q).mpr a
  omega
theorem zgd_one {C : Nat → Prop} (h : C 1) : ∀ j, zgd C (j + 1) = 1
  | 0 => by rw [zgd_t (j := 0) h]; exact Nat.gcd_one_right _
  | j + 1 => by
    have ih := zgd_one h j
    by_cases c : C (j + 1 + 1)
    · rw [zgd_t c, ih]; exact Nat.gcd_one_left _
    · rw [zgd_f c, ih]
theorem zgd_gap {C : Nat → Prop} (h : ¬ zgd C 60 = 1) : ¬ zpay C 1 := fun z => by
  obtain ⟨v, a, b, c, d, -⟩ := zpay_s.mp z
  rw [show v = 1 by omega] at d
  exact h (zgd_one d 59)
theorem zcn_near {p q : Nat → Prop} {v : Nat} (h : ∀ w, w ≠ v → q w → p w) : ∀ m, zcn q m ≤ zcn p m + (if v < m then 1 else 0)
  | 0 => Nat.zero_le _
  | m + 1 => by
    have ih := zcn_near h m
    have s1 := zcn_s1 p m
    have s2 := zcn_s1 q m
    by_cases e : m = v
    · rw [if_neg (by omega)] at ih
      rw [if_pos (by omega)]
      omega
    · by_cases c : q m
      · rw [zcn_t c, zcn_t (h m e c)]
        split at ih <;> split <;> omega
      · rw [zcn_f c]
        split at ih <;> split <;> omega
theorem zkc_near {n : Nat} {v : Int} (hv : 1 ≤ v ∧ v ≤ 60) : zcn (fun i => zkc (n ^^^ 2 ^ (v - 1).toNat) (i + 1)) 60 ≤ zcn (fun i => zkc n (i + 1)) 60 + 1 := by
  have k := zcn_near (p := fun i => zkc n (i + 1)) (q := fun i => zkc (n ^^^ 2 ^ (v - 1).toNat) (i + 1)) (v := (v - 1).toNat) (fun w hw z => by
    have z : zkc (n ^^^ 2 ^ (v - 1).toNat) (w + 1) := z
    have hb : 1 ≤ ((w + 1 : Nat) : Int) ∧ ((w + 1 : Nat) : Int) ≤ 60 := ⟨z.1, z.2.1⟩
    rw [zkc_flip hv (by omega) (by omega), if_neg (by omega)] at z
    exact z) 60
  split at k <;> omega
theorem zkc_0 : zcn (fun i => zkc 0 (i + 1)) 60 = 0 := by
  have h : ∀ m, zcn (fun i => zkc 0 (i + 1)) m = 0 := by
    intro m
    induction m with
    | zero => rfl
    | succ m ih =>
      rw [zcn_f (p := fun i => zkc 0 (i + 1)) (fun z => by
        have z : zkc 0 (m + 1) := z
        have q := z.2.2
        rw [Nat.zero_testBit] at q
        cases q), ih]
  exact h 60
