def zthr (S L Z : Prop) (tn : Int) : Prop := tn = 1 ∧ ¬ S ∨ tn = 2 ∧ S ∧ ¬ L ∨ tn = 3 ∧ S ∧ L ∧ ¬ Z ∨ tn = 0 ∧ S ∧ L ∧ Z
theorem zthr_0 {S L Z : Prop} {tn : Int} (h : zthr S L Z tn) (h0 : tn = 0) : S ∧ L ∧ Z := by
  rcases h with h | h | h | h
  · exact absurd h.1 (by omega)
  · exact absurd h.1 (by omega)
  · exact absurd h.1 (by omega)
  · exact h.2
theorem zthr_R {S L Z : Prop} {tn : Int} (h : zthr S L Z tn) : 0 ≤ tn ∧ tn ≤ 3 := by
  rcases h with h | h | h | h <;> omega
theorem zmst_b1 {lt : Int} {C E : Nat → Int} {t k : Nat} (hc : ∀ j, j < 80 → -999 ≤ C j ∧ C j ≤ 999) (he : ∀ j, j < 80 → -9 ≤ E j ∧ E j ≤ 9) (ht : t < 8) (hk : k ≤ 10) (hl : 0 ≤ lt ∧ lt ≤ 9) : ∀ j, j < k → -9000 ≤ zmst (-1) lt 0 C E t j ∧ zmst (-1) lt 0 C E t j ≤ 9000 := by
  intro j hj
  have a := hc (10 * t + j) (by omega)
  have b := he (10 * t + j) (by omega)
  have d := zmulb (B := 9) b.1 b.2 (by omega) hl.2
  unfold zmst
  rw [if_pos (by omega), if_pos rfl]
  omega
theorem zmst_b2 {tm inr : Int} {C E : Nat → Int} {t k : Nat} (hc : ∀ j, j < 80 → -999 ≤ C j ∧ C j ≤ 999) (ht : t < 8) (hk : k ≤ 10) (hl : 0 ≤ tm ∧ tm ≤ 9) : ∀ j, j < k → -9000 ≤ zmst tm 0 inr C E t j ∧ zmst tm 0 inr C E t j ≤ 9000 := by
  intro j hj
  have a := hc (10 * t + j) (by omega)
  have d := zmulb (B := 9) a.1 a.2 (by omega) hl.2
  unfold zmst
  rw [if_neg (by omega)]
  split <;> omega
