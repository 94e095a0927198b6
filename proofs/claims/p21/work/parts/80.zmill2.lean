theorem zbfill {f g : Nat → Int} {k : Nat} {B : Int} (h : ∀ j, j < k → -B ≤ f j ∧ f j ≤ B) : ∀ j, j < k → -B ≤ zfill f g k j ∧ zfill f g k j ≤ B := fun j hj => by rw [zfill_in hj]; exact h j hj
theorem znfill {f g P Q : Nat → Int} {k : Nat} (h : ∀ i, i < k → ¬ (f i = 0 ∧ g i = 0)) : ∀ i, i < k → ¬ (zfill f P k i = 0 ∧ zfill g Q k i = 0) := fun i hi => by rw [zfill_in hi, zfill_in hi]; exact h i hi
theorem zblet {fc fe : Nat → Int} {k : Nat} {lt : Int} (h1 : ∀ j, j < k → -999 ≤ fc j ∧ fc j ≤ 999) (h2 : ∀ j, j < k → -9 ≤ fe j ∧ fe j ≤ 9) (hl : 0 ≤ lt ∧ lt ≤ 9) : ∀ j, j < k → -9999 ≤ 1 * fc j + lt * fe j ∧ 1 * fc j + lt * fe j ≤ 9999 := fun j hj => by
  have a := h1 j hj
  have b := h2 j hj
  have m := zmulb (a := lt) (A := 9) (by omega) hl.2 b.1 b.2
  omega
theorem zbtim {fc fe : Nat → Int} {k : Nat} {tm : Int} (h1 : ∀ j, j < k → -999 ≤ fc j ∧ fc j ≤ 999) (hl : 0 ≤ tm ∧ tm ≤ 9) : ∀ j, j < k → -8999 ≤ tm * fc j + 0 * fe j ∧ tm * fc j + 0 * fe j ≤ 8999 := fun j hj => by
  have a := h1 j hj
  have m := zmulb (a := tm) (A := 9) (by omega) hl.2 a.1 a.2
  omega
theorem zbless {f g : Nat → Int} {k : Nat} (h : ∀ j, j < k → -8999 ≤ f j ∧ f j ≤ 8999) : ∀ j, j < k → -9999 ≤ zfill (fun j => zfill f g k j - 1) (zfill f g k) k j ∧ zfill (fun j => zfill f g k j - 1) (zfill f g k) k j ≤ 9999 := fun j hj => by
  rw [zfill_in hj]
  show -9999 ≤ zfill f g k j - 1 ∧ zfill f g k j - 1 ≤ 9999
  rw [zfill_in hj]
  have := h j hj
  omega
theorem zbmore {f : Nat → Int} {k : Nat} (h : ∀ j, j < k → -8999 ≤ f j ∧ f j ≤ 8999) : ∀ j, j < k → -9999 ≤ f j ∧ f j ≤ 9999 := fun j hj => by
  have := h j hj
  omega
theorem zless_in {f g : Nat → Int} {k i : Nat} (hi : i < k) : zfill (fun j => zfill f g k j - 1) (zfill f g k) k i = f i - 1 := by
  rw [zfill_in hi]
  show zfill f g k i - 1 = _
  rw [zfill_in hi]
theorem zbst2 {P Q M : Nat → Int} {k : Nat} {p q bx bY fl : Int} (h : (fl = 0 ∧ znone P Q M k 2000001) ∨ (fl = 1 ∧ zbestc P Q M k p q 2000001 bx bY)) : zbst P Q M k p q 2000001 fl bx bY := h
