/-! coins: what can be paid, in how many ways, the gaps, the least sums; C v: the coin of the value v is there -/
noncomputable def zgd (C : Nat → Prop) : Nat → Nat
  | 0 => 0
  | j + 1 => @ite Nat (C (j + 1)) (Classical.propDecidable _) (Nat.gcd (zgd C j) (j + 1)) (zgd C j)
theorem zgd_t {C : Nat → Prop} {j : Nat} (h : C (j + 1)) : zgd C (j + 1) = Nat.gcd (zgd C j) (j + 1) := by exact if_pos h
theorem zgd_f {C : Nat → Prop} {j : Nat} (h : ¬ C (j + 1)) : zgd C (j + 1) = zgd C j := by exact if_neg h
theorem zgd_le (C : Nat → Prop) : ∀ j, zgd C j ≤ j
  | 0 => Nat.le_refl 0
  | j + 1 => by
    by_cases h : C (j + 1)
    · rw [zgd_t h]; exact Nat.le_of_dvd (Nat.succ_pos j) (Nat.gcd_dvd_right _ _)
    · rw [zgd_f h]; exact Nat.le_succ_of_le (zgd_le C j)
theorem zgd_congr {C D : Nat → Prop} : ∀ {j : Nat}, (∀ v, 1 ≤ v → v ≤ j → (C v ↔ D v)) → zgd C j = zgd D j := by
  intro j
  induction j with
  | zero => intro _; rfl
  | succ j ih =>
    intro h
    have h1 := ih (fun v a b => h v a (by omega))
    by_cases c : C (j + 1)
    · rw [zgd_t c, zgd_t ((h _ (by omega) (by omega)).mp c), h1]
    · rw [zgd_f c, zgd_f (fun z => c ((h _ (by omega) (by omega)).mpr z)), h1]
/-- ways: one coin more, place by place; then coin by coin -/
def zwi (F : Nat → Int) (v : Nat) : Nat → (Nat → Int)
  | 0 => F
  | t + 1 => zU (zwi F v t) (v + t) (zwi F v t (v + t) + zwi F v t t)
noncomputable def zws (C : Nat → Prop) (n : Nat) : Nat → (Nat → Int)
  | 0 => fun i => if i = 0 then 1 else 0
  | j + 1 => @ite (Nat → Int) (C (j + 1)) (Classical.propDecidable _) (zwi (zws C n j) (j + 1) (n + 1 - (j + 1))) (zws C n j)
theorem zws_t {C : Nat → Prop} {n j : Nat} (h : C (j + 1)) : zws C n (j + 1) = zwi (zws C n j) (j + 1) (n + 1 - (j + 1)) := by exact if_pos h
theorem zws_f {C : Nat → Prop} {n j : Nat} (h : ¬ C (j + 1)) : zws C n (j + 1) = zws C n j := by exact if_neg h
theorem zws_congr {C D : Nat → Prop} {n : Nat} : ∀ {j : Nat}, (∀ v, 1 ≤ v → v ≤ j → (C v ↔ D v)) → zws C n j = zws D n j := by
  intro j
  induction j with
  | zero => intro _; rfl
  | succ j ih =>
    intro h
    have h1 := ih (fun v a b => h v a (by omega))
    by_cases c : C (j + 1)
    · rw [zws_t c, zws_t ((h _ (by omega) (by omega)).mp c), h1]
    · rw [zws_f c, zws_f (fun z => c ((h _ (by omega) (by omega)).mpr z)), h1]
/-- alike up to n -/
def zal (n : Nat) (F G : Nat → Int) : Prop := ∀ i, i ≤ n → F i = G i
theorem zal_wi {n v t : Nat} {W F : Nat → Int} (hv : 1 ≤ v) (h : zal n W (zwi F v t)) (ht : v + t ≤ n) : zal n (zU W (v + t) (W (v + t) + W t)) (zwi F v (t + 1)) := by
  intro i hi
  show zU W (v + t) _ i = zU (zwi F v t) (v + t) _ i
  unfold zU
  by_cases e : i = v + t
  · rw [if_pos e, if_pos e, h _ ht, h t (by omega)]
  · rw [if_neg e, if_neg e]; exact h i hi
/-- what can be paid -/
def zpt (C : Nat → Prop) : Nat → (Nat → Prop)
  | 0 => fun t => t = 0
  | n + 1 => fun t => (t ≤ n ∧ zpt C n t) ∨ (t = n + 1 ∧ ∃ v, 1 ≤ v ∧ v ≤ 60 ∧ v ≤ n + 1 ∧ C v ∧ zpt C n (n + 1 - v))
def zpay (C : Nat → Prop) (t : Nat) : Prop := zpt C t t
theorem zpt_stable (C : Nat → Prop) {t : Nat} : ∀ {n : Nat}, t ≤ n → (zpt C n t ↔ zpay C t) := by
  intro n
  induction n with
  | zero => intro h; rw [Nat.le_zero.mp h]; exact Iff.rfl
  | succ n ih =>
    intro h
    by_cases e : t = n + 1
    · rw [e]; exact Iff.rfl
    · have h1 := ih (by omega)
      show ((t ≤ n ∧ zpt C n t) ∨ (t = n + 1 ∧ _)) ↔ _
      rw [← h1]
      constructor
      · rintro (⟨a, b⟩ | ⟨a, b⟩)
        · exact b
        · exact absurd a e
      · intro a; exact Or.inl ⟨by omega, a⟩
theorem zpay_0 (C : Nat → Prop) : zpay C 0 := rfl
theorem zpay_s {C : Nat → Prop} {n : Nat} : zpay C (n + 1) ↔ ∃ v, 1 ≤ v ∧ v ≤ 60 ∧ v ≤ n + 1 ∧ C v ∧ zpay C (n + 1 - v) := by
  show ((n + 1 ≤ n ∧ _) ∨ (n + 1 = n + 1 ∧ ∃ v, 1 ≤ v ∧ v ≤ 60 ∧ v ≤ n + 1 ∧ C v ∧ zpt C n (n + 1 - v))) ↔ _
  constructor
  · rintro (⟨a, -⟩ | ⟨-, v, a, b, c, d, e⟩)
    · omega
    · exact ⟨v, a, b, c, d, (zpt_stable C (by omega)).mp e⟩
  · rintro ⟨v, a, b, c, d, e⟩
    exact Or.inr ⟨rfl, v, a, b, c, d, (zpt_stable C (by omega)).mpr e⟩
theorem zpay_add {C : Nat → Prop} {v n : Nat} (h1 : 1 ≤ v) (h2 : v ≤ 60) (hc : C v) (h : zpay C n) : zpay C (n + v) := by
  obtain ⟨k, rfl⟩ : ∃ k, v = k + 1 := ⟨v - 1, by omega⟩
  rw [← Nat.add_assoc, zpay_s]
  exact ⟨k + 1, h1, h2, by omega, hc, by rw [show n + k + 1 - (k + 1) = n by omega]; exact h⟩
theorem zpay_congr {C D : Nat → Prop} (h : ∀ v, 1 ≤ v → v ≤ 60 → (C v ↔ D v)) (t : Nat) : zpay C t ↔ zpay D t := by
  induction t using Nat.strongRecOn with
  | _ t ih =>
    cases t with
    | zero => exact ⟨fun _ => rfl, fun _ => rfl⟩
    | succ n =>
      rw [zpay_s, zpay_s]
      constructor
      · rintro ⟨v, a, b, c, d, e⟩; exact ⟨v, a, b, c, (h v a b).mp d, (ih _ (by omega)).mp e⟩
      · rintro ⟨v, a, b, c, d, e⟩; exact ⟨v, a, b, c, (h v a b).mpr d, (ih _ (by omega)).mpr e⟩
/-- how many below n -/
noncomputable def zcn (p : Nat → Prop) : Nat → Nat
  | 0 => 0
  | n + 1 => zcn p n + (@ite Nat (p n) (Classical.propDecidable _) 1 0)
theorem zcn_t {p : Nat → Prop} {n : Nat} (h : p n) : zcn p (n + 1) = zcn p n + 1 := by show zcn p n + _ = _; rw [if_pos h]
theorem zcn_f {p : Nat → Prop} {n : Nat} (h : ¬ p n) : zcn p (n + 1) = zcn p n := by show zcn p n + _ = _; rw [if_neg h]; rfl
theorem zcn_le (p : Nat → Prop) : ∀ n, zcn p n ≤ n
  | 0 => Nat.le_refl 0
  | n + 1 => by
    have := zcn_le p n
    by_cases h : p n
    · rw [zcn_t h]; omega
    · rw [zcn_f h]; omega
theorem zcn_mono {p : Nat → Prop} {a : Nat} : ∀ {b : Nat}, a ≤ b → zcn p a ≤ zcn p b := by
  intro b
  induction b with
  | zero => intro h; rw [Nat.le_zero.mp h]; exact Nat.le_refl _
  | succ b ih =>
    intro h
    by_cases e : a = b + 1
    · rw [e]; exact Nat.le_refl _
    · have h1 := ih (by omega)
      by_cases c : p b
      · rw [zcn_t c]; omega
      · rw [zcn_f c]; exact h1
theorem zcn_congr {p q : Nat → Prop} : ∀ {n : Nat}, (∀ j, j < n → (p j ↔ q j)) → zcn p n = zcn q n := by
  intro n
  induction n with
  | zero => intro _; rfl
  | succ n ih =>
    intro h
    have h1 := ih (fun j a => h j (by omega))
    by_cases c : p n
    · rw [zcn_t c, zcn_t ((h n (by omega)).mp c), h1]
    · rw [zcn_f c, zcn_f (fun z => c ((h n (by omega)).mpr z)), h1]
/-- the window of bits: bit t tells of the sum s - 1 - t -/
def zwin (C : Nat → Prop) (s A : Nat) : Prop := ∀ t, A.testBit t = true ↔ (t < s ∧ zpay C (s - 1 - t))
theorem zwin_1 (C : Nat → Prop) : zwin C 1 1 := by
  intro t
  cases t with
  | zero => exact ⟨fun _ => ⟨by omega, rfl⟩, fun _ => by decide⟩
  | succ t =>
    constructor
    · intro h
      rw [Nat.testBit_succ] at h
      simp at h
    · intro h; omega
theorem zwin_hit {C : Nat → Prop} {n s A : Nat} (hn : n < 2 ^ 60) (hC : ∀ v, 1 ≤ v → v ≤ 60 → (C v ↔ n.testBit (v - 1) = true)) (hs : 1 ≤ s) (h : zwin C s A) : A &&& n ≠ 0 ↔ zpay C s := by
  obtain ⟨k, rfl⟩ : ∃ k, s = k + 1 := ⟨s - 1, by omega⟩
  constructor
  · intro z
    have : ∃ t, (A &&& n).testBit t = true := by
      refine Classical.byContradiction fun q => z ?_
      apply Nat.eq_of_testBit_eq
      intro i
      rw [Nat.zero_testBit]
      cases hb : (A &&& n).testBit i with
      | false => rfl
      | true => exact absurd ⟨i, hb⟩ q
    obtain ⟨t, ht⟩ := this
    rw [Nat.testBit_and, Bool.and_eq_true] at ht
    have ht60 : t < 60 := by
      refine Classical.byContradiction fun q => ?_
      have := Nat.testBit_lt_two_pow (x := n) (i := t) (Nat.lt_of_lt_of_le hn (Nat.pow_le_pow_right (by decide) (by omega)))
      rw [this] at ht
      exact absurd ht.2 (by decide)
    obtain ⟨h1, h2⟩ := (h t).mp ht.1
    rw [zpay_s]
    exact ⟨t + 1, by omega, by omega, by omega, (hC (t + 1) (by omega) (by omega)).mpr ht.2, by rw [show k + 1 - (t + 1) = k + 1 - 1 - t by omega]; exact h2⟩
  · intro z
    rw [zpay_s] at z
    obtain ⟨v, a, b, c, d, e⟩ := z
    intro q
    have h1 := (hC v a b).mp d
    have h2 := (h (v - 1)).mpr ⟨by omega, by rw [show k + 1 - 1 - (v - 1) = k + 1 - v by omega]; exact e⟩
    have h3 : (A &&& n).testBit (v - 1) = true := by rw [Nat.testBit_and, h1, h2]; rfl
    rw [q, Nat.zero_testBit] at h3
    exact absurd h3 (by decide)
theorem zwin_s {C : Nat → Prop} {s A b : Nat} (h : zwin C s A) (hb : b < 2) (hp : b = 1 ↔ zpay C s) : zwin C (s + 1) (A * 2 ^ 1 ||| b) := by
  intro t
  rw [Nat.testBit_or, Nat.mul_comm, Nat.testBit_two_pow_mul]
  cases t with
  | zero =>
    have e : b.testBit 0 = decide (b % 2 = 1) := Nat.testBit_zero b
    rw [e, show s + 1 - 1 - 0 = s by omega, ← hp]
    simp
    omega
  | succ t =>
    have e : b.testBit (t + 1) = false := Nat.testBit_lt_two_pow (Nat.lt_of_lt_of_le hb (by rw [Nat.pow_succ]; have := Nat.one_le_two_pow (n := t); omega))
    rw [e]
    have := h t
    simp
    rw [this, show s - 1 - t = s - (t + 1) by omega]
