def zbok (lt pp qq wt : Int) : Prop := (0 ≤ lt ∧ lt ≤ 9) ∧ (-99 ≤ pp ∧ pp ≤ 99) ∧ (-99 ≤ qq ∧ qq ≤ 99) ∧ (0 ≤ wt ∧ wt ≤ 2)
def zwhat (a b c wt : Int) : Int := if wt = 0 then a else if wt = 1 then b else c
def zbestR (S L Z : Prop) (A B M : Nat → Int) (k : Nat) (pp qq wt r t1 : Int) : Prop :=
  (t1 = 3 ∧ S ∧ L ∧ Z ∧ znone A B M k 2000001) ∨ (zthr S L Z t1 ∧ (t1 = 0 → ∃ bx bY, zbestc A B M k pp qq 2000001 bx bY ∧ r = zwhat (pp * bx + qq * bY) bx bY wt))
theorem zbs_keep1 {P Q M : Nat → Int} {k : Nat} {p q c fl bx bY z : Int} (h : zbst P Q M k p q c fl bx bY) (h0 : ¬ fl = 0) (hz : zendb P Q M k q c z) (hb : p * c + q * z ≤ p * bx + q * bY) : zbst P Q M k p q (c + 1) 1 bx bY := by
  have e : fl = 1 := by rcases h with h | h; exact absurd h.1 h0; exact h.1
  have g := zbs_keep h h0 hz hb
  rw [e] at g
  exact g
theorem zbs_01 {P Q M : Nat → Int} {k : Nat} {p q c fl bx bY : Int} (h : zbst P Q M k p q c fl bx bY) : fl = 0 ∨ fl = 1 := by
  rcases h with h | h
  · exact Or.inl h.1
  · exact Or.inr h.1
theorem zbs_f0 {P Q M : Nat → Int} {k : Nat} {p q c fl bx bY : Int} (h : zbst P Q M k p q c fl bx bY) (h0 : fl = 0) : znone P Q M k c := by
  rcases h with h | h
  · exact h.2
  · exact absurd h.1 (by omega)
theorem zbs_f1 {P Q M : Nat → Int} {k : Nat} {p q c fl bx bY : Int} (h : zbst P Q M k p q c fl bx bY) (h0 : ¬ fl = 0) : zbestc P Q M k p q c bx bY := by
  rcases h with h | h
  · exact absurd h.1 h0
  · exact h.2
theorem zcol_rb {A B M : Nat → Int} {k : Nat} {x r l h : Int} (hg : zgood A B M k) (hc : zcolR A B M k x r l h) : 0 ≤ r ∧ r ≤ 4000001 := by
  rcases hc with hc | hc
  · omega
  · have b1 := (hg.2.2.1 x l ((hc.2.2 l).mpr (by omega))).2
    have b2 := (hg.2.2.1 x h ((hc.2.2 h).mpr (by omega))).2
    omega
