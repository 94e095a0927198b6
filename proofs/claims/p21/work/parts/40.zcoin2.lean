/-! steps of the loops over rests -/
theorem zfar_s {L : Nat → Int} {t : Nat} (h : ∀ r, 1 ≤ r → r < t + 1 → L r = 1000000) : ∀ r, 1 ≤ r → r < t + 1 + 1 → zU L (t + 1) 1000000 r = 1000000 := by
  intro r a b
  by_cases e : r = t + 1
  · rw [e, zU_same]
  · rw [zU_ne e]; exact h r a (by omega)
theorem zkc_u {n u : Nat} {v : Int} (h : v = ((u + 1 : Nat) : Int)) (h2 : zk n v) : zkc n (u + 1) := by unfold zkc; rw [← h]; exact h2
theorem zstep_no {n mm u : Nat} {v : Int} {L M : Nat → Int} (hv : v = ((u + 1 : Nat) : Int)) (h : ∀ v, mm < v → v < u + 1 → zkc n v → ∀ r, r < mm → L ((r + v) % mm) ≤ M r + (v : Int)) (h2 : ¬ zk n v) : ∀ v, mm < v → v < u + 1 + 1 → zkc n v → ∀ r, r < mm → L ((r + v) % mm) ≤ M r + (v : Int) := by
  intro v a b c
  by_cases e : v = u + 1
  · exact absurd (by rw [e] at c; rw [hv]; exact c) h2
  · exact h v a (by omega) c
theorem zstep_yes {n mm u : Nat} {L L2 M : Nat → Int} (hm : 0 < mm) (h0 : ∀ r, r < mm → L2 r ≤ M r) (h : ∀ v, mm < v → v < u + 1 → zkc n v → ∀ r, r < mm → L2 ((r + v) % mm) ≤ M r + (v : Int)) (h1 : ∀ r, r < mm → L r ≤ L2 r) (h2 : ∀ r, r < mm → L ((r + (u + 1)) % mm) ≤ L2 r + ((u + 1 : Nat) : Int)) : ∀ v, mm < v → v < u + 1 + 1 → zkc n v → ∀ r, r < mm → L ((r + v) % mm) ≤ M r + (v : Int) := by
  intro v a b c r hr
  by_cases e : v = u + 1
  · rw [e]; have := h2 r hr; have := h0 r hr; omega
  · have k1 := h v a (by omega) c r hr
    have k2 := h1 _ (Nat.mod_lt (r + v) hm)
    omega
theorem zch_same {mm : Nat} {a b : Int} {L L2 M : Nat → Int} (h : (a = 0 ∧ ∀ r, r < mm → L2 r = M r) ∨ a = 1) (h2 : (b = 0 ∧ ∀ r, r < mm → L r = L2 r) ∨ b = 1) (hb : b = 0) : (a = 0 ∧ ∀ r, r < mm → L r = M r) ∨ a = 1 := by
  rcases h2 with ⟨-, h2⟩ | h2
  · rcases h with ⟨h, h1⟩ | h
    · exact Or.inl ⟨h, fun r hr => (h2 r hr).trans (h1 r hr)⟩
    · exact Or.inr h
  · omega
theorem zch_R {P : Prop} {b : Int} (h : (b = 0 ∧ P) ∨ b = 1) : zR b := by unfold zR; rcases h with h | h <;> omega
theorem zch_fix {P : Prop} {b : Int} (h : (b = 0 ∧ P) ∨ b = 1) (h2 : b = 0) : P := by
  rcases h with h | h
  · exact h.2
  · omega
/-- the greatest of a row's beginning -/
def zmx (L : Nat → Int) (t : Nat) (m : Int) : Prop := (∀ r, r < t → L r ≤ m) ∧ (m = 0 ∨ ∃ r, r < t ∧ L r = m)
theorem zmx_0 {L : Nat → Int} : zmx L 0 0 := ⟨fun r h => absurd h (Nat.not_lt_zero r), Or.inl rfl⟩
theorem zmx_s {L : Nat → Int} {t : Nat} {m : Int} (h : zmx L t m) : zmx L (t + 1) (zmax m (L t)) := by
  constructor
  · intro r hr
    by_cases e : r = t
    · rw [e]; unfold zmax; split <;> omega
    · have := h.1 r (by omega)
      unfold zmax; split <;> omega
  · unfold zmax
    split
    · exact Or.inr ⟨t, by omega, rfl⟩
    · rcases h.2 with q | ⟨r, q1, q2⟩
      · exact Or.inl q
      · exact Or.inr ⟨r, by omega, q2⟩
