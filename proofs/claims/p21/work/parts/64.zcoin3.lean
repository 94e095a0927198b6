/-! the model's coins -/
def zkm (K : Nat → Int) : Nat → Prop := fun v => ¬ K v = 0
def zcoinR (K : Nat → Int) (co v r t1 co1 : Int) (K1 : Nat → Int) : Prop :=
  t1 = 1 ∧ ¬ (1 ≤ v ∧ v ≤ 60) ∧ K1 = K ∧ co1 = co ∨
  t1 = 2 ∧ (1 ≤ v ∧ v ≤ 60) ∧ (K v.toNat = 0 ∧ co = 6) ∧ K1 = K ∧ co1 = co ∨
  t1 = 0 ∧ (1 ≤ v ∧ v ≤ 60) ∧ ¬ (K v.toNat = 0 ∧ co = 6) ∧ r = co1 ∧ (K v.toNat = 0 ∧ co1 = co + 1 ∧ K1 = zU K v.toNat 1 ∨ ¬ K v.toNat = 0 ∧ co1 = co - 1 ∧ K1 = zU K v.toNat 0)
theorem zwl {C : Nat → Prop} {tt j t : Nat} {W : Nat → Int} (h : zal tt W (zwi (zws C tt j) (j + 1) t)) (h1 : t = 0 ∨ C (j + 1)) (h2 : ¬ C (j + 1) ∨ t = tt + 1 - (j + 1)) : zal tt W (zws C tt (j + 1)) := by
  by_cases c : C (j + 1)
  · rw [zws_t c]
    rcases h2 with h2 | h2
    · exact absurd c h2
    · rw [← h2]; exact h
  · rw [zws_f c]
    rcases h1 with h1 | h1
    · rw [h1] at h; exact h
    · exact absurd h1 c
theorem zw0_s {W : Nat → Int} {j : Nat} {v : Int} (h : ∀ i, i < j → W i = (if i = 0 then 1 else 0)) (hv : v = (if j = 0 then 1 else 0)) : ∀ i, i < j + 1 → zU W j v i = (if i = 0 then 1 else 0) := by
  intro i hi
  by_cases e : i = j
  · rw [e, zU_same, hv]
  · rw [zU_ne e]; exact h i (by omega)
theorem zw0_e {C : Nat → Prop} {W : Nat → Int} {j tt : Nat} (h : ∀ i, i < j → W i = (if i = 0 then 1 else 0)) (hj : tt < j) : zal tt W (zws C tt 0) := fun i hi => h i (by omega)
def zwaysR (K : Nat → Int) (v r t1 : Int) : Prop := t1 = 1 ∧ ¬ (0 ≤ v ∧ v ≤ 1000) ∨ t1 = 0 ∧ (0 ≤ v ∧ v ≤ 1000) ∧ r = zws (zkm K) v.toNat 60 v.toNat
theorem zgm_t {C : Nat → Prop} {j : Nat} {v d : Int} (hv : v = (j : Int) + 1) (hd : d = ((zgd C j : Nat) : Int)) (h : C (j + 1)) : ((Nat.gcd d.natAbs v.natAbs : Nat) : Int) = ((zgd C (j + 1) : Nat) : Int) := by
  rw [zgd_t h, hd, hv]; rfl
theorem zgm_f {C : Nat → Prop} {j : Nat} {d : Int} (hd : d = ((zgd C j : Nat) : Int)) (h : ¬ C (j + 1)) : d = ((zgd C (j + 1) : Nat) : Int) := by rw [zgd_f h]; exact hd
/-- what can be paid: the sum s by coins up to u -/
def zpu (C : Nat → Prop) (s u : Nat) : Prop := s = 0 ∨ ∃ w, 1 ≤ w ∧ w ≤ u ∧ w ≤ s ∧ C w ∧ zpay C (s - w)
theorem zpu_0 {C : Nat → Prop} {s : Nat} : zpu C s 0 ↔ s = 0 := by
  constructor
  · rintro (h | ⟨w, a, b, _⟩)
    · exact h
    · omega
  · exact Or.inl
theorem zpu_s {C : Nat → Prop} {s u : Nat} (h : u + 1 ≤ s) : zpu C s (u + 1) ↔ zpu C s u ∨ (C (u + 1) ∧ zpay C (s - (u + 1))) := by
  constructor
  · rintro (h | ⟨w, a, b, c, d, e⟩)
    · exact Or.inl (Or.inl h)
    · by_cases q : w = u + 1
      · rw [q] at d e; exact Or.inr ⟨d, e⟩
      · exact Or.inl (Or.inr ⟨w, a, by omega, c, d, e⟩)
  · rintro ((h | ⟨w, a, b, c, d, e⟩) | ⟨d, e⟩)
    · exact Or.inl h
    · exact Or.inr ⟨w, a, by omega, c, d, e⟩
    · exact Or.inr ⟨u + 1, by omega, Nat.le_refl _, h, d, e⟩
theorem zpu_e {C : Nat → Prop} {s u : Nat} (h : u = 60 ∨ u = s) (h6 : u ≤ 60) : zpu C s u ↔ zpay C s := by
  cases s with
  | zero => exact ⟨fun _ => zpay_0 C, fun _ => Or.inl rfl⟩
  | succ n =>
    rw [zpay_s]
    constructor
    · rintro (h | ⟨w, a, b, c, d, e⟩)
      · omega
      · exact ⟨w, a, by omega, c, d, e⟩
    · rintro ⟨w, a, b, c, d, e⟩
      exact Or.inr ⟨w, a, by omega, c, d, e⟩
theorem zpi_s {C : Nat → Prop} {I J : Nat → Int} {s : Nat} (h : ∀ t, t < s → I t = zb (zpay C t)) (hJ : ∀ t, t < s → J t = I t) (h2 : J s = zb (zpay C s)) : ∀ t, t < s + 1 → J t = zb (zpay C t) := by
  intro t ht
  by_cases e : t = s
  · rw [e]; exact h2
  · rw [hJ t (by omega)]; exact h t (by omega)
theorem zpi_u {I : Nat → Int} {C : Nat → Prop} {s : Nat} {v : Int} (h : ∀ t, t < s → I t = zb (zpay C t)) : ∀ t, t < s → zU I s v t = zb (zpay C t) := fun t ht => by rw [zU_ne (by omega)]; exact h t ht
/-- gaps by place -/
def zgapR (K : Nat → Int) (pl r t1 : Int) : Prop :=
  t1 = 1 ∧ pl < -1 ∨ t1 = 2 ∧ ¬ pl < -1 ∧ ¬ zgd (zkm K) 60 = 1 ∨
  t1 = 0 ∧ zgd (zkm K) 60 = 1 ∧ pl = -1 ∧ r = ((zcn (fun t => ¬ zpay (zkm K) t) 3601 : Nat) : Int) ∨
  t1 = 0 ∧ zgd (zkm K) 60 = 1 ∧ 0 ≤ pl ∧ (∃ g : Nat, g < 3601 ∧ ¬ zpay (zkm K) g ∧ ((zcn (fun t => ¬ zpay (zkm K) t) g : Nat) : Int) = pl ∧ r = (g : Int)) ∨
  t1 = 1 ∧ zgd (zkm K) 60 = 1 ∧ 0 ≤ pl ∧ ((zcn (fun t => ¬ zpay (zkm K) t) 3601 : Nat) : Int) ≤ pl
def zgr (C : Nat → Prop) (s : Nat) (f : Int) : Prop := (f = -1 ∧ ∀ t, t < s → zpay C t) ∨ ∃ g : Nat, g < s ∧ f = (g : Int) ∧ ¬ zpay C g ∧ ∀ t, g < t → t < s → zpay C t
theorem zgr_0 {C : Nat → Prop} : zgr C 0 (-1) := Or.inl ⟨rfl, fun _ h => absurd h (Nat.not_lt_zero _)⟩
theorem zgr_p {C : Nat → Prop} {s : Nat} {f : Int} (h : zgr C s f) (hp : zpay C s) : zgr C (s + 1) f := by
  rcases h with h | ⟨g, a, b, c, d⟩
  · refine Or.inl ⟨h.1, fun t ht => ?_⟩
    by_cases e : t = s
    · rw [e]; exact hp
    · exact h.2 t (by omega)
  · refine Or.inr ⟨g, by omega, b, c, fun t h1 h2 => ?_⟩
    by_cases e : t = s
    · rw [e]; exact hp
    · exact d t h1 (by omega)
theorem zgr_n {C : Nat → Prop} {s : Nat} (hp : ¬ zpay C s) : zgr C (s + 1) (s : Int) := Or.inr ⟨s, by omega, rfl, hp, fun t h1 h2 => by omega⟩
def zgreatR (K : Nat → Int) (r t1 : Int) : Prop := t1 = 1 ∧ ¬ zgd (zkm K) 60 = 1 ∨ t1 = 0 ∧ zgd (zkm K) 60 = 1 ∧ zgr (zkm K) 3601 r
/-! tables -/
def zts (a nx r : Int) : Nat → Int
  | 0 => 0
  | m + 1 => zts a nx r m + zmax 0 (zmin nx (a - (m : Int)) - zmax 0 (a - (m : Int) - r) + 1)
def ztabR (a b l nx r t1 : Int) : Prop :=
  t1 = 1 ∧ ¬ ((0 ≤ a ∧ a ≤ 60) ∧ (0 ≤ b ∧ b ≤ 60) ∧ (0 ≤ l ∧ l ≤ 60) ∧ (0 ≤ nx ∧ nx ≤ 60)) ∨
  t1 = 0 ∧ ((0 ≤ a ∧ a ≤ 60) ∧ (0 ≤ b ∧ b ≤ 60) ∧ (0 ≤ l ∧ l ≤ 60) ∧ (0 ≤ nx ∧ nx ≤ 60)) ∧ (a + b - l - nx < 0 ∧ r = 0 ∨ 0 ≤ a + b - l - nx ∧ r = zts a nx (a + b - l - nx) ((zmin a l).toNat + 1))
