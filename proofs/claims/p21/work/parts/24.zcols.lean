/-! the loops over columns and rows, a step each -/
theorem zin1 {P Q M : Nat → Int} {k i : Nat} {f l : Int} (hv : ∀ x, (f ≤ x ∧ x ≤ l) ↔ (-2000000 ≤ x ∧ x ≤ 2000000 ∧ zcc P Q M k i x)) (hQ : ¬ Q i = 0) : ∀ x, (f ≤ x ∧ x ≤ l) ↔ (-2000000 ≤ x ∧ x ≤ 2000000 ∧ zcc P Q M k i x ∧ zc1 P Q M i x ∧ ∀ b, b < 0 → zc2 P Q M i b x) := by
  intro x
  rw [hv x]
  constructor
  · intro h; exact ⟨h.1, h.2.1, h.2.2, fun z => absurd z hQ, fun b hb => absurd hb (Nat.not_lt_zero b)⟩
  · intro h; exact ⟨h.1, h.2.1, h.2.2.1⟩
theorem zin2 {P Q M : Nat → Int} {k i : Nat} {f l : Int} (hv : ∀ x, (f ≤ x ∧ x ≤ l) ↔ (-2000000 ≤ x ∧ x ≤ 2000000 ∧ zcc P Q M k i x)) (hQ : Q i = 0) : ∀ x, (znf (P i) (M i) f ≤ x ∧ x ≤ znl (P i) (M i) l) ↔ (-2000000 ≤ x ∧ x ≤ 2000000 ∧ zcc P Q M k i x ∧ zc1 P Q M i x ∧ ∀ b, b < 0 → zc2 P Q M i b x) := by
  intro x
  rw [znarrow, hv x]
  constructor
  · intro h; exact ⟨h.1.1, h.1.2.1, h.1.2.2, fun _ z => h.2 z, fun b hb => absurd hb (Nat.not_lt_zero b)⟩
  · intro h; exact ⟨⟨h.1, h.2.1, h.2.2.1⟩, fun z => h.2.2.2.1 hQ z⟩
theorem zin3 {P Q M : Nat → Int} {k i j : Nat} {f l : Int} (hw : ∀ x, (f ≤ x ∧ x ≤ l) ↔ (-2000000 ≤ x ∧ x ≤ 2000000 ∧ zcc P Q M k i x ∧ zc1 P Q M i x ∧ ∀ b, b < j → zc2 P Q M i b x)) (hQ : ¬ (0 < Q i ∧ Q j < 0)) : ∀ x, (f ≤ x ∧ x ≤ l) ↔ (-2000000 ≤ x ∧ x ≤ 2000000 ∧ zcc P Q M k i x ∧ zc1 P Q M i x ∧ ∀ b, b < j + 1 → zc2 P Q M i b x) := by
  intro x
  rw [hw x, zall_s]
  constructor
  · intro h; exact ⟨h.1, h.2.1, h.2.2.1, h.2.2.2.1, h.2.2.2.2, fun a b _ => absurd ⟨a, b⟩ hQ⟩
  · intro h; exact ⟨h.1, h.2.1, h.2.2.1, h.2.2.2.1, h.2.2.2.2.1⟩
theorem zin4 {P Q M : Nat → Int} {k i j : Nat} {f l : Int} (hw : ∀ x, (f ≤ x ∧ x ≤ l) ↔ (-2000000 ≤ x ∧ x ≤ 2000000 ∧ zcc P Q M k i x ∧ zc1 P Q M i x ∧ ∀ b, b < j → zc2 P Q M i b x)) (h1 : 0 < Q i) (h2 : Q j < 0) : ∀ x, (znf (P j * Q i - P i * Q j) (M j * Q i - M i * Q j) f ≤ x ∧ x ≤ znl (P j * Q i - P i * Q j) (M j * Q i - M i * Q j) l) ↔ (-2000000 ≤ x ∧ x ≤ 2000000 ∧ zcc P Q M k i x ∧ zc1 P Q M i x ∧ ∀ b, b < j + 1 → zc2 P Q M i b x) := by
  intro x
  rw [znarrow, hw x, zall_s]
  constructor
  · intro h; exact ⟨h.1.1, h.1.2.1, h.1.2.2.1, h.1.2.2.2.1, h.1.2.2.2.2, fun _ _ z => h.2 z⟩
  · intro h; exact ⟨⟨h.1, h.2.1, h.2.2.1, h.2.2.2.1, h.2.2.2.2.1⟩, fun z => h.2.2.2.2.2 h1 h2 z⟩
theorem zin5 {P Q M : Nat → Int} {k i j : Nat} {f l : Int} (hw : ∀ x, (f ≤ x ∧ x ≤ l) ↔ (-2000000 ≤ x ∧ x ≤ 2000000 ∧ zcc P Q M k i x ∧ zc1 P Q M i x ∧ ∀ b, b < j → zc2 P Q M i b x)) (h1 : j = k) : ∀ x, (f ≤ x ∧ x ≤ l) ↔ (-2000000 ≤ x ∧ x ≤ 2000000 ∧ zcc P Q M k (i + 1) x) := by
  intro x
  rw [hw x, zcc_s, h1]
theorem zin0 {P Q M : Nat → Int} {k : Nat} : ∀ x, ((-2000000 : Int) ≤ x ∧ x ≤ 2000000) ↔ (-2000000 ≤ x ∧ x ≤ 2000000 ∧ zcc P Q M k 0 x) := fun x => ⟨fun h => ⟨h.1, h.2, zcc_0⟩, fun h => ⟨h.1, h.2.1⟩⟩
theorem znb {f m a l : Int} (hm : -2000000 ≤ m ∧ m ≤ 2000000) (ha : -2000000 ≤ a ∧ a ≤ 2000000) (hl : -2000000 ≤ l ∧ l ≤ 2000000) : (-2000000 ≤ znf f m a ∧ znf f m a ≤ 2000000) ∧ (-2000000 ≤ znl f m l ∧ znl f m l ≤ 2000000) := by
  unfold znf znl
  constructor
  · split
    · have := zdivb (show 0 < -f by omega) hm.1 hm.2
      unfold zmax; split <;> omega
    · exact ha
  · split
    · have := zdivb (show 0 < f by omega) hm.1 hm.2
      unfold zmin; split <;> omega
    · exact hl
theorem zen0 {P Q M : Nat → Int} {c : Int} : ∀ y, ((-2000000 : Int) ≤ y ∧ y ≤ 2000000) ↔ (-2000000 ≤ y ∧ y ≤ 2000000 ∧ zce P Q M 0 c y) := fun x => ⟨fun h => ⟨h.1, h.2, zce_0⟩, fun h => ⟨h.1, h.2.1⟩⟩
theorem zen1 {P Q M : Nat → Int} {i : Nat} {c b t : Int} (hv : ∀ y, (b ≤ y ∧ y ≤ t) ↔ (-2000000 ≤ y ∧ y ≤ 2000000 ∧ zce P Q M i c y)) (hQ : 0 < Q i) : ∀ y, (b ≤ y ∧ y ≤ zmin t ((M i - P i * c) / Q i)) ↔ (-2000000 ≤ y ∧ y ≤ 2000000 ∧ zce P Q M (i + 1) c y) := by
  intro y
  rw [zle_min, zle_div hQ, zce_s, ← and_assoc, hv y]
  constructor
  · intro h; exact ⟨h.1.1, h.1.2.1, h.1.2.2, fun _ => by omega⟩
  · intro h; exact ⟨⟨h.1, h.2.1, h.2.2.1⟩, by have := h.2.2.2 (by omega); omega⟩
theorem zen2 {P Q M : Nat → Int} {i : Nat} {c b t : Int} (hv : ∀ y, (b ≤ y ∧ y ≤ t) ↔ (-2000000 ≤ y ∧ y ≤ 2000000 ∧ zce P Q M i c y)) (hQ : Q i < 0) : ∀ y, (zmax b (-((M i - P i * c) / -Q i)) ≤ y ∧ y ≤ t) ↔ (-2000000 ≤ y ∧ y ≤ 2000000 ∧ zce P Q M (i + 1) c y) := by
  intro y
  have h0 := hv y
  rw [zmax_le, zge_div hQ, zce_s]
  constructor
  · intro h
    obtain ⟨a1, a2, a3⟩ := h0.mp ⟨h.1.1, h.2⟩
    exact ⟨a1, a2, a3, fun _ => by omega⟩
  · intro h
    have h1 := h0.mpr ⟨h.1, h.2.1, h.2.2.1⟩
    exact ⟨⟨h1.1, by have := h.2.2.2 (by omega); omega⟩, h1.2⟩
theorem zen3 {P Q M : Nat → Int} {i : Nat} {c b t : Int} (hv : ∀ y, (b ≤ y ∧ y ≤ t) ↔ (-2000000 ≤ y ∧ y ≤ 2000000 ∧ zce P Q M i c y)) (hQ : Q i = 0) : ∀ y, (b ≤ y ∧ y ≤ t) ↔ (-2000000 ≤ y ∧ y ≤ 2000000 ∧ zce P Q M (i + 1) c y) := by
  intro y
  rw [hv y, zce_s]
  constructor
  · intro h; exact ⟨h.1, h.2.1, h.2.2, fun z => absurd hQ z⟩
  · intro h; exact ⟨h.1, h.2.1, h.2.2.1⟩
/-! the best point, column by column -/
def zbestc (P Q M : Nat → Int) (k : Nat) (p q c bx bY : Int) : Prop := zfe P Q M k bx bY ∧ (-2000000 ≤ bx ∧ bx < c ∧ -2000000 ≤ bY ∧ bY ≤ 2000000) ∧ ∀ x y, zfe P Q M k x y → -2000000 ≤ x → x < c → -2000000 ≤ y → y ≤ 2000000 → p * x + q * y < p * bx + q * bY ∨ (p * x + q * y = p * bx + q * bY ∧ (bx < x ∨ (bx = x ∧ bY ≤ y)))
def znone (P Q M : Nat → Int) (k : Nat) (c : Int) : Prop := ∀ x y, zfe P Q M k x y → -2000000 ≤ x → x < c → -2000000 ≤ y → y ≤ 2000000 → False
def zbst (P Q M : Nat → Int) (k : Nat) (p q c fl bx bY : Int) : Prop := (fl = 0 ∧ znone P Q M k c) ∨ (fl = 1 ∧ zbestc P Q M k p q c bx bY)
theorem zbs_0 {P Q M : Nat → Int} {k : Nat} {p q f l bx bY : Int} (hf : ∀ x, (f ≤ x ∧ x ≤ l) ↔ (-2000000 ≤ x ∧ x ≤ 2000000 ∧ zcc P Q M k k x)) (h2 : f ≤ 2000000) : zbst P Q M k p q f 0 bx bY :=
  Or.inl ⟨rfl, fun x y h a b _ _ => by have := (hf x).mpr ⟨a, by omega, zfe_cc h⟩; omega⟩
/-- a column without points -/
theorem zbs_no {P Q M : Nat → Int} {k : Nat} {p q c fl bx bY : Int} (h : zbst P Q M k p q c fl bx bY) (hc : ∀ y, -2000000 ≤ y → y ≤ 2000000 → ¬ zfe P Q M k c y) : zbst P Q M k p q (c + 1) fl bx bY := by
  rcases h with ⟨h1, h2⟩ | ⟨h1, h2, h3, h4⟩
  · refine Or.inl ⟨h1, fun x y a b d e f => ?_⟩
    by_cases z : x = c
    · rw [z] at a; exact hc y e f a
    · exact h2 x y a b (by omega) e f
  · refine Or.inr ⟨h1, h2, ⟨h3.1, by omega, h3.2.2⟩, fun x y a b d e f => ?_⟩
    by_cases z : x = c
    · rw [z] at a; exact absurd a (hc y e f)
    · exact h4 x y a b (by omega) e f
/-- of a column the end is the best -/
def zendb (P Q M : Nat → Int) (k : Nat) (q c z : Int) : Prop := zfe P Q M k c z ∧ (-2000000 ≤ z ∧ z ≤ 2000000) ∧ ∀ y, zfe P Q M k c y → -2000000 ≤ y → y ≤ 2000000 → q * y < q * z ∨ (q * y = q * z ∧ z ≤ y)
theorem zbs_first {P Q M : Nat → Int} {k : Nat} {p q c fl bx bY z : Int} (h : zbst P Q M k p q c fl bx bY) (h0 : fl = 0) (hc : -2000000 ≤ c ∧ c ≤ 2000000) (hz : zendb P Q M k q c z) : zbst P Q M k p q (c + 1) 1 c z := by
  rcases h with ⟨h1, h2⟩ | ⟨h1, h2, h3, h4⟩
  · refine Or.inr ⟨rfl, hz.1, ⟨hc.1, by omega, hz.2.1⟩, fun x y a b d e f => ?_⟩
    by_cases w : x = c
    · rw [w] at a ⊢
      have := hz.2.2 y a e f
      omega
    · exact absurd (h2 x y a b (by omega) e f) (fun z => z)
  · omega
theorem zbs_better {P Q M : Nat → Int} {k : Nat} {p q c fl bx bY z : Int} (h : zbst P Q M k p q c fl bx bY) (h0 : ¬ fl = 0) (hc : -2000000 ≤ c ∧ c ≤ 2000000) (hz : zendb P Q M k q c z) (hb : p * bx + q * bY < p * c + q * z) : zbst P Q M k p q (c + 1) 1 c z := by
  rcases h with ⟨h1, h2⟩ | ⟨h1, h2, h3, h4⟩
  · omega
  · refine Or.inr ⟨rfl, hz.1, ⟨hc.1, by omega, hz.2.1⟩, fun x y a b d e f => ?_⟩
    by_cases w : x = c
    · rw [w] at a ⊢
      have := hz.2.2 y a e f
      omega
    · have := h4 x y a b (by omega) e f
      omega
theorem zbs_keep {P Q M : Nat → Int} {k : Nat} {p q c fl bx bY z : Int} (h : zbst P Q M k p q c fl bx bY) (h0 : ¬ fl = 0) (hz : zendb P Q M k q c z) (hb : p * c + q * z ≤ p * bx + q * bY) : zbst P Q M k p q (c + 1) fl bx bY := by
  rcases h with ⟨h1, h2⟩ | ⟨h1, h2, h3, h4⟩
  · omega
  · refine Or.inr ⟨h1, h2, ⟨h3.1, by omega, h3.2.2⟩, fun x y a b d e f => ?_⟩
    by_cases w : x = c
    · rw [w] at a ⊢
      have := hz.2.2 y a e f
      omega
    · exact h4 x y a b (by omega) e f
theorem zendb_top {P Q M : Nat → Int} {k : Nat} {q c b t : Int} (hz : ∀ i, i < k → ¬ (P i = 0 ∧ Q i = 0)) (hc : zcc P Q M k k c) (he : ∀ y, (b ≤ y ∧ y ≤ t) ↔ (-2000000 ≤ y ∧ y ≤ 2000000 ∧ zce P Q M k c y)) (hbt : b ≤ t) (hq : 0 < q) : zendb P Q M k q c t := by
  have h1 := (he t).mp ⟨hbt, by omega⟩
  refine ⟨(zfe_iff hz hc).mpr h1.2.2, ⟨h1.1, h1.2.1⟩, fun y a e f => ?_⟩
  have h2 := (he y).mpr ⟨e, f, (zfe_iff hz hc).mp a⟩
  by_cases w : y = t
  · right; rw [w]; omega
  · left; exact Int.mul_lt_mul_of_pos_left (by omega) hq
theorem zendb_bot {P Q M : Nat → Int} {k : Nat} {q c b t : Int} (hz : ∀ i, i < k → ¬ (P i = 0 ∧ Q i = 0)) (hc : zcc P Q M k k c) (he : ∀ y, (b ≤ y ∧ y ≤ t) ↔ (-2000000 ≤ y ∧ y ≤ 2000000 ∧ zce P Q M k c y)) (hbt : b ≤ t) (hq : q ≤ 0) : zendb P Q M k q c b := by
  have h1 := (he b).mp ⟨by omega, hbt⟩
  refine ⟨(zfe_iff hz hc).mpr h1.2.2, ⟨h1.1, h1.2.1⟩, fun y a e f => ?_⟩
  have h2 := (he y).mpr ⟨e, f, (zfe_iff hz hc).mp a⟩
  by_cases w : q = 0
  · right; rw [w, Int.zero_mul, Int.zero_mul]; omega
  · by_cases w2 : y = b
    · right; rw [w2]; omega
    · left; exact Int.mul_lt_mul_of_neg_left (by omega) (by omega)
theorem zcol_none {P Q M : Nat → Int} {k : Nat} {c b t : Int} (he : ∀ y, (b ≤ y ∧ y ≤ t) ↔ (-2000000 ≤ y ∧ y ≤ 2000000 ∧ zce P Q M k c y)) (hbt : t < b) : ∀ y, -2000000 ≤ y → y ≤ 2000000 → ¬ zfe P Q M k c y := fun y e f a => by
  have := (he y).mpr ⟨e, f, fun i hi _ => a i hi⟩
  omega
/-- at the end -/
theorem zbs_end {P Q M : Nat → Int} {k : Nat} {p q c f l fl bx bY : Int} (hf : ∀ x, (f ≤ x ∧ x ≤ l) ↔ (-2000000 ≤ x ∧ x ≤ 2000000 ∧ zcc P Q M k k x)) (hl : l < c) (hc2 : c ≤ 2000001) (h : zbst P Q M k p q c fl bx bY) : (fl = 0 ∧ znone P Q M k 2000001) ∨ (fl = 1 ∧ zbestc P Q M k p q 2000001 bx bY) := by
  have out : ∀ x y, zfe P Q M k x y → -2000000 ≤ x → x < 2000001 → x < c := fun x y a b d => by
    have := (hf x).mpr ⟨b, by omega, zfe_cc a⟩
    omega
  rcases h with ⟨h1, h2⟩ | ⟨h1, h2, h3, h4⟩
  · exact Or.inl ⟨h1, fun x y a b d e f => h2 x y a b (out x y a b d) e f⟩
  · exact Or.inr ⟨h1, h2, ⟨h3.1, by omega, h3.2.2⟩, fun x y a b d e f => h4 x y a b (out x y a b d) e f⟩
theorem zbs_bounds {P Q M : Nat → Int} {k : Nat} {p q c fl bx bY : Int} (h : zbst P Q M k p q c fl bx bY) (h0 : ¬ fl = 0) (hc : c ≤ 2000001) : -2000000 ≤ bx ∧ bx ≤ 2000000 ∧ -2000000 ≤ bY ∧ bY ≤ 2000000 := by
  rcases h with ⟨h1, h2⟩ | ⟨h1, h2, h3, h4⟩
  · omega
  · omega
