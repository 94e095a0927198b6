/-! where edges meet -/
def zbel (P Q : Nat → Int) (i j : Nat) : Int := P i * Q j - P j * Q i
def zsg (b : Int) : Int := if b < 0 then -1 else 1
def zvx (P Q M : Nat → Int) (i j : Nat) : Int := zsg (zbel P Q i j) * (M i * Q j - M j * Q i)
def zvy (P Q M : Nat → Int) (i j : Nat) : Int := zsg (zbel P Q i j) * (P i * M j - P j * M i)
def zvb (P Q : Nat → Int) (i j : Nat) : Int := zbel P Q i j * zsg (zbel P Q i j)
def zvf (P Q M : Nat → Int) (x y b : Int) (k : Nat) : Prop := ∀ d, d < k → P d * x + Q d * y ≤ M d * b
def zvt (P Q M : Nat → Int) (k i j : Nat) : Prop := zbel P Q i j ≠ 0 ∧ zvf P Q M (zvx P Q M i j) (zvy P Q M i j) (zvb P Q i j) k
def zvc (P Q M : Nat → Int) (i j : Nat) : Int := -((-zvx P Q M i j) / zvb P Q i j)
def zvd (P Q M : Nat → Int) (i j : Nat) : Int := zvx P Q M i j / zvb P Q i j
def zlk (P Q M : Nat → Int) (k : Nat) (S : Nat → Nat → Prop) (f l r : Int) : Prop :=
  (r = 0 ∧ f = 1 ∧ l = 0 ∧ ∀ a b, S a b → ¬ zvt P Q M k a b) ∨
  (r = 1 ∧ (-2000000 ≤ f ∧ f ≤ 2000000) ∧ (-2000000 ≤ l ∧ l ≤ 2000000) ∧ ∀ a b, S a b → zvt P Q M k a b → f ≤ zvc P Q M a b ∧ zvd P Q M a b ≤ l)
theorem zvf_0 {P Q M : Nat → Int} {x y b : Int} : zvf P Q M x y b 0 := fun _ z => absurd z (Nat.not_lt_zero _)
theorem zvf_s {P Q M : Nat → Int} {x y b is is2 : Int} {c : Nat} (h : is = zb (zvf P Q M x y b c)) (h2 : is2 = zb (is ≠ 0 ∧ P c * x + Q c * y ≤ M c * b)) : is2 = zb (zvf P Q M x y b (c + 1)) := by
  rw [h2, h]
  apply zb_congr
  constructor
  · rintro ⟨a, e⟩ d hd
    by_cases q : d = c
    · rw [q]; exact e
    · exact (Classical.byContradiction fun q => a (zb_f q) : zvf P Q M x y b c) d (by omega)
  · intro a
    have k : zvf P Q M x y b c := fun d hd => a d (by omega)
    rw [zb_t k]
    exact ⟨by omega, a c (by omega)⟩
theorem zsg_1 (b : Int) : zsg b = -1 ∨ zsg b = 1 := by unfold zsg; split <;> omega
theorem zsg_b {b sg : Int} (h : sg = zsg b) (h0 : b ≠ 0) (h1 : -7200 ≤ b ∧ b ≤ 7200) : 0 < b * sg ∧ b * sg ≤ 7200 := by
  rw [h]
  unfold zsg
  split <;> omega
theorem zlk_b {P Q M : Nat → Int} {k : Nat} {S : Nat → Nat → Prop} {f l r : Int} (h : zlk P Q M k S f l r) : (r = 0 ∨ r = 1) ∧ (-2000000 ≤ f ∧ f ≤ 2000000) ∧ (-2000000 ≤ l ∧ l ≤ 2000000) := by
  rcases h with h | h <;> omega
theorem zlk_no {P Q M : Nat → Int} {k i j : Nat} {S : Nat → Nat → Prop} {f l r : Int} (h : zlk P Q M k S f l r) (hn : ¬ zvt P Q M k i j) : zlk P Q M k (fun a b => S a b ∨ (a = i ∧ b = j)) f l r := by
  rcases h with h | h
  · refine Or.inl ⟨h.1, h.2.1, h.2.2.1, ?_⟩
    rintro a b (q | ⟨rfl, rfl⟩)
    · exact h.2.2.2 a b q
    · exact hn
  · refine Or.inr ⟨h.1, h.2.1, h.2.2.1, ?_⟩
    rintro a b (q | ⟨rfl, rfl⟩) z
    · exact h.2.2.2 a b q z
    · exact absurd z hn
theorem zlk_yes {P Q M : Nat → Int} {k i j : Nat} {S : Nat → Nat → Prop} {f l r sg nw f1 l1 : Int} (h : zlk P Q M k S f l r) (hsg : sg = zsg (P i * Q j - P j * Q i))
    (hc : -2000000 ≤ -((-(sg * (M i * Q j - M j * Q i))) / ((P i * Q j - P j * Q i) * sg)) ∧ -((-(sg * (M i * Q j - M j * Q i))) / ((P i * Q j - P j * Q i) * sg)) ≤ 2000000)
    (hd : -2000000 ≤ (sg * (M i * Q j - M j * Q i)) / ((P i * Q j - P j * Q i) * sg) ∧ (sg * (M i * Q j - M j * Q i)) / ((P i * Q j - P j * Q i) * sg) ≤ 2000000)
    (hnw : nw = 1 ∧ l < f ∧ r = 0 ∨ nw = 0 ∧ ¬ (l < f ∧ r = 0))
    (hf : f1 = -((-(sg * (M i * Q j - M j * Q i))) / ((P i * Q j - P j * Q i) * sg)) ∧ (nw ≠ 0 ∨ -((-(sg * (M i * Q j - M j * Q i))) / ((P i * Q j - P j * Q i) * sg)) < f) ∨ f1 = f ∧ nw = 0 ∧ ¬ -((-(sg * (M i * Q j - M j * Q i))) / ((P i * Q j - P j * Q i) * sg)) < f)
    (hl : l1 = (sg * (M i * Q j - M j * Q i)) / ((P i * Q j - P j * Q i) * sg) ∧ (nw ≠ 0 ∨ l < (sg * (M i * Q j - M j * Q i)) / ((P i * Q j - P j * Q i) * sg)) ∨ l1 = l ∧ nw = 0 ∧ ¬ l < (sg * (M i * Q j - M j * Q i)) / ((P i * Q j - P j * Q i) * sg)) :
    zlk P Q M k (fun a b => S a b ∨ (a = i ∧ b = j)) f1 l1 1 := by
  have e1 : -((-(sg * (M i * Q j - M j * Q i))) / ((P i * Q j - P j * Q i) * sg)) = zvc P Q M i j := by rw [hsg]; rfl
  have e2 : (sg * (M i * Q j - M j * Q i)) / ((P i * Q j - P j * Q i) * sg) = zvd P Q M i j := by rw [hsg]; rfl
  rw [e1] at hc hf
  rw [e2] at hd hl
  rcases h with h | h
  · refine Or.inr ⟨rfl, by omega, by omega, ?_⟩
    rintro a b (q | ⟨rfl, rfl⟩) z
    · exact absurd z (h.2.2.2 a b q)
    · omega
  · refine Or.inr ⟨rfl, by omega, by omega, ?_⟩
    rintro a b (q | ⟨rfl, rfl⟩) z
    · have := h.2.2.2 a b q z; omega
    · omega
theorem zlk_c {P Q M : Nat → Int} {k : Nat} {S T : Nat → Nat → Prop} {f l r : Int} (h : zlk P Q M k S f l r) (e : ∀ a b, T a b → S a b) : zlk P Q M k T f l r := by
  rcases h with h | h
  · exact Or.inl ⟨h.1, h.2.1, h.2.2.1, fun a b q => h.2.2.2 a b (e a b q)⟩
  · exact Or.inr ⟨h.1, h.2.1, h.2.2.1, fun a b q => h.2.2.2 a b (e a b q)⟩
theorem zlk_0 {P Q M : Nat → Int} {k : Nat} {S : Nat → Nat → Prop} (h : ∀ a b, ¬ S a b) : zlk P Q M k S 1 0 0 := Or.inl ⟨rfl, rfl, rfl, fun a b q => absurd q (h a b)⟩
