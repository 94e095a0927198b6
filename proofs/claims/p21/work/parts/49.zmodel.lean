/-! what the model's calls do, as relations between its numbers before and behind -/
def zadok (x y c e : Int) : Prop := (-9 ≤ x ∧ x ≤ 9) ∧ (-9 ≤ y ∧ y ≤ 9) ∧ (-99 ≤ c ∧ c ≤ 99) ∧ (-9 ≤ e ∧ e ≤ 9) ∧ ¬ (x = 0 ∧ y = 0)
/-- nothing changed -/
def zun (N A B C E N1 A1 B1 C1 E1 : Nat → Int) : Prop := N1 = N ∧ A1 = A ∧ B1 = B ∧ C1 = C ∧ E1 = E
/-- a row x, y, c, e put behind the rows of shape t -/
def zputs (N A B C E N1 A1 B1 C1 E1 : Nat → Int) (t : Nat) (x y c e : Int) : Prop := N1 = zU N t (N t + 1) ∧ A1 = zU A (10 * t + (N t).toNat) x ∧ B1 = zU B (10 * t + (N t).toNat) y ∧ C1 = zU C (10 * t + (N t).toNat) c ∧ E1 = zU E (10 * t + (N t).toNat) e
def zaddR (sh : Int) (N A B C E : Nat → Int) (v x y c e r t1 : Int) (N1 A1 B1 C1 E1 : Nat → Int) : Prop :=
  (¬ (0 ≤ v ∧ v < sh) → t1 = 1 ∧ zun N A B C E N1 A1 B1 C1 E1) ∧
  ((0 ≤ v ∧ v < sh) → ¬ zadok x y c e → t1 = 2 ∧ zun N A B C E N1 A1 B1 C1 E1) ∧
  ((0 ≤ v ∧ v < sh) → zadok x y c e → N v.toNat = 10 → t1 = 3 ∧ zun N A B C E N1 A1 B1 C1 E1) ∧
  ((0 ≤ v ∧ v < sh) → zadok x y c e → N v.toNat ≠ 10 → t1 = 0 ∧ r = N v.toNat ∧ zputs N A B C E N1 A1 B1 C1 E1 v.toNat x y c e)
/-- the rows of shape t -/
def zrow (F : Nat → Int) (t : Nat) : Nat → Int := fun i => F (10 * t + i)
theorem zstr_s {A B : Nat → Int} {t i : Nat} {x y is is2 : Int} (h : is = zb (zst (zrow A t) (zrow B t) i x y)) (h1 : is2 = zb (is ≠ 0 ∧ A (10 * t + i) * x + B (10 * t + i) * y ≤ 0)) : is2 = zb (zst (zrow A t) (zrow B t) (i + 1) x y) := by
  rw [h1, h]
  apply zb_congr
  constructor
  · rintro ⟨a, b⟩
    refine zst_s ?_ b
    exact Classical.byContradiction fun q => a (zb_f q)
  · intro a
    have k : zst (zrow A t) (zrow B t) i x y := fun j hj => a j (by omega)
    rw [zb_t k]
    exact ⟨by omega, a i (by omega)⟩
theorem zplk_r {A B : Nat → Int} {k i : Nat} {is is2 : Int} (h : is = zb (0 < k ∧ zplk A B k i)) (h1 : is2 = zb (is ≠ 0 ∧ ¬ zst A B k (B i) (-A i) ∧ ¬ zst A B k (-B i) (A i))) : is2 = zb (0 < k ∧ zplk A B k (i + 1)) := by
  rw [h1, h]
  apply zb_congr
  constructor
  · rintro ⟨a, b, c⟩
    have k1 : 0 < k ∧ zplk A B k i := Classical.byContradiction fun q => a (zb_f q)
    exact ⟨k1.1, zplk_s k1.2 b c⟩
  · intro a
    have k1 : 0 < k ∧ zplk A B k i := ⟨a.1, fun j hj => a.2 j (by omega)⟩
    rw [zb_t k1]
    exact ⟨by omega, a.2 i (by omega)⟩
theorem zb_0 (is : Int) {P : Prop} (h : is = 0) : (0 : Int) = zb (is ≠ 0 ∧ P) := (zb_f (fun z => z.1 h)).symm
theorem zb_n (is : Int) {P : Prop} (h : ¬ P) : (0 : Int) = zb (is ≠ 0 ∧ P) := (zb_f (fun z => h z.2)).symm
theorem zb_y (is : Int) {P : Prop} (h : ¬ is = 0) (h2 : P) : (1 : Int) = zb (is ≠ 0 ∧ P) := (zb_t ⟨h, h2⟩).symm
