/-! coins as the class holds them -/
def zkc (n : Nat) : Nat → Prop := fun v => zk n (v : Int)
theorem zkc_s {n j : Nat} {v : Int} (h : v = (j : Int) + 1) : zkc n (j + 1) ↔ zk n v := by
  unfold zkc; rw [h]; rfl
theorem zkc_bits {n v : Nat} (h1 : 1 ≤ v) (h2 : v ≤ 60) : zkc n v ↔ n.testBit (v - 1) = true := by
  unfold zkc zk
  rw [show ((v : Int) - 1).toNat = v - 1 by omega]
  constructor
  · intro h; exact h.2.2
  · intro h; exact ⟨by omega, by omega, h⟩
theorem zgd_a {n j : Nat} {v d : Int} (hv : v = (j : Int) + 1) (hd : d = ((zgd (zkc n) j : Nat) : Int)) (h : zk n v) : ((Nat.gcd d.natAbs v.natAbs : Nat) : Int) = ((zgd (zkc n) (j + 1) : Nat) : Int) := by
  rw [zgd_t ((zkc_s hv).mpr h), hd, hv, Int.natAbs_natCast, show ((j : Int) + 1).natAbs = j + 1 by omega]
theorem zgd_b {n j : Nat} {v d : Int} (hv : v = (j : Int) + 1) (hd : d = ((zgd (zkc n) j : Nat) : Int)) (h : ¬ zk n v) : d = ((zgd (zkc n) (j + 1) : Nat) : Int) := by
  rw [zgd_f (fun z => h ((zkc_s hv).mp z)), hd]
/-- zeros put, place by place -/
theorem zz_0 {W : Nat → Int} : ∀ i, 1 ≤ i → i < 0 + 1 → W i = 0 := fun i a b => by omega
theorem zz_s {W : Nat → Int} {j : Nat} (h : ∀ i, 1 ≤ i → i < j + 1 → W i = 0) : ∀ i, 1 ≤ i → i < j + 1 + 1 → zU W (j + 1) 0 i = 0 := by
  intro i a b
  by_cases e : i = j + 1
  · rw [e, zU_same]
  · rw [zU_ne e]; exact h i a (by omega)
theorem zz_base {C : Nat → Prop} {W : Nat → Int} {j n : Nat} (h : ∀ i, 1 ≤ i → i < j + 1 → W i = 0) (hj : j = n) : zal n (zU W 0 1) (zws C n 0) := by
  intro i hi
  show _ = if i = 0 then (1 : Int) else 0
  by_cases e : i = 0
  · rw [e, zU_same, if_pos rfl]
  · rw [zU_ne e, if_neg e]; exact h i (by omega) (by omega)
/-- the gaps found so far, and the one that is wanted -/
def zgap (C : Nat → Prop) (s : Nat) (pl wg : Int) : Prop := ∀ g : Nat, g < s → ¬ zpay C g → ((zcn (fun t => ¬ zpay C t) g : Nat) : Int) = pl → wg = (g : Int)
theorem zgap_1 {C : Nat → Prop} {pl wg : Int} : zgap C 1 pl wg := fun g a b _ => absurd (by rw [show g = 0 by omega]; rfl) b
theorem zgap_p {C : Nat → Prop} {s : Nat} {pl wg : Int} (h : zgap C s pl wg) (hp : zpay C s) : zgap C (s + 1) pl wg := fun g a b c => by
  by_cases e : g = s
  · rw [e] at b; exact absurd hp b
  · exact h g (by omega) b c
theorem zgap_n {C : Nat → Prop} {s : Nat} {pl wg : Int} (h : zgap C s pl wg) (hc : ¬ ((zcn (fun t => ¬ zpay C t) s : Nat) : Int) = pl) : zgap C (s + 1) pl wg := fun g a b c => by
  by_cases e : g = s
  · rw [e] at c; exact absurd c hc
  · exact h g (by omega) b c
theorem zgap_y {C : Nat → Prop} {s : Nat} {pl : Int} (hs : ¬ zpay C s) (hc : ((zcn (fun t => ¬ zpay C t) s : Nat) : Int) = pl) : zgap C (s + 1) pl (s : Int) := fun g a b c => by
  have h1 := zcn_mono (p := fun t => ¬ zpay C t) (show g ≤ s by omega)
  by_cases e : g = s
  · rw [e]
  · have h2 := zcn_mono (p := fun t => ¬ zpay C t) (show g + 1 ≤ s by omega)
    rw [zcn_t b] at h2
    omega
theorem zcn_1 {C : Nat → Prop} : (0 : Int) = ((zcn (fun t => ¬ zpay C t) 1 : Nat) : Int) := by
  rw [zcn_f (n := 0) (fun z => z (zpay_0 C))]; rfl
theorem zcn_up {C : Nat → Prop} {s : Nat} {f : Int} (h : f = ((zcn (fun t => ¬ zpay C t) s : Nat) : Int)) (hs : ¬ zpay C s) : f + 1 = ((zcn (fun t => ¬ zpay C t) (s + 1) : Nat) : Int) := by
  rw [zcn_t hs, h]; rfl
theorem zcn_same {C : Nat → Prop} {s : Nat} {f : Int} (h : f = ((zcn (fun t => ¬ zpay C t) s : Nat) : Int)) (hs : zpay C s) : f = ((zcn (fun t => ¬ zpay C t) (s + 1) : Nat) : Int) := by
  rw [zcn_f (fun z => z hs), h]
theorem zhit {n s A : Nat} (hn : n < 2 ^ 60) (hs : 1 ≤ s) (h : zwin (zkc n) s A) : ((A &&& n : Nat) : Int) = 0 ↔ ¬ zpay (zkc n) s := by
  have := zwin_hit hn (fun v a b => zkc_bits a b) hs h
  rw [← this]
  omega
/-- the least coin -/
def zlc (n mm : Nat) : Prop := (1 ≤ mm ∧ mm ≤ 60) ∧ (∀ u, 1 ≤ u → u < mm → ¬ zkc n u) ∧ (zkc n mm ∨ ∀ u, 1 ≤ u → u ≤ 60 → ¬ zkc n u)
theorem znc_s {n j : Nat} {v : Int} (hv : v = (j : Int) + 1) (h : ∀ u, 1 ≤ u → u < j + 1 → ¬ zkc n u) (h2 : ¬ zk n v) : ∀ u, 1 ≤ u → u < j + 1 + 1 → ¬ zkc n u := by
  intro u a b
  by_cases e : u = j + 1
  · rw [e]; exact fun z => h2 ((zkc_s hv).mp z)
  · exact h u a (by omega)
/-- least sums: what stands at a rest is far off, or can be paid and has that rest -/
def zso (C : Nat → Prop) (mm : Nat) (L : Nat → Int) : Prop := ∀ r, r < mm → 0 ≤ L r ∧ L r ≤ 1000000 ∧ (L r = 1000000 ∨ ((L r).toNat % mm = r ∧ zpay C (L r).toNat))
theorem zmod_nat (a b c : Nat) : ((a : Int) + (b : Int)) % (c : Int) = (((a + b) % c : Nat) : Int) := by rw [Int.natCast_emod, Int.natCast_add]
theorem zso_put {C : Nat → Prop} {mm t v : Nat} {L : Nat → Int} (h : zso C mm L) (ht : t < mm) (h1 : 1 ≤ v) (h2 : v ≤ 60) (hc : C v) (hlt : L t + (v : Int) < L ((t + v) % mm)) : zso C mm (zU L ((t + v) % mm) (L t + (v : Int))) := by
  have hm : 0 < mm := by omega
  intro r hr
  by_cases e : r = (t + v) % mm
  · have k1 := h t ht
    have k2 := h ((t + v) % mm) (Nat.mod_lt _ hm)
    rw [e, zU_same]
    refine ⟨by omega, by omega, Or.inr ?_⟩
    have k0 := k1.1
    obtain ⟨-, -, k3 | ⟨k3, k4⟩⟩ := k1
    · omega
    · have e2 : (L t + (v : Int)).toNat = (L t).toNat + v := by omega
      rw [e2]
      refine ⟨?_, zpay_add h1 h2 hc k4⟩
      rw [Nat.add_mod, k3, ← Nat.add_mod_mod]
      rw [Nat.add_mod_mod, Nat.add_mod t v mm, Nat.mod_eq_of_lt ht]
  · rw [zU_ne e]; exact h r hr
theorem zle_put {mm t v : Nat} {L M : Nat → Int} (h : ∀ r, r < mm → L r ≤ M r) (hlt : L t + (v : Int) < L ((t + v) % mm)) (hm : 0 < mm) : ∀ r, r < mm → zU L ((t + v) % mm) (L t + (v : Int)) r ≤ M r := by
  intro r hr
  by_cases e : r = (t + v) % mm
  · rw [e, zU_same]; have := h ((t + v) % mm) (Nat.mod_lt _ hm); omega
  · rw [zU_ne e]; exact h r hr
theorem zst_put {mm t v : Nat} {L M : Nat → Int} (h0 : ∀ r, r < mm → L r ≤ M r) (h : ∀ r, r < t → L ((r + v) % mm) ≤ M r + (v : Int)) (ht : t < mm) (hlt : L t + (v : Int) < L ((t + v) % mm)) : ∀ r, r < t + 1 → zU L ((t + v) % mm) (L t + (v : Int)) ((r + v) % mm) ≤ M r + (v : Int) := by
  intro r hr
  by_cases e : (r + v) % mm = (t + v) % mm
  · rw [e, zU_same]
    by_cases e2 : r = t
    · rw [e2]; have := h0 t ht; omega
    · have := h r (by omega); rw [e] at this; omega
  · rw [zU_ne e]
    by_cases e2 : r = t
    · rw [e2] at e; exact absurd rfl e
    · exact h r (by omega)
theorem zst_not {mm t v : Nat} {L M : Nat → Int} (h0 : ∀ r, r < mm → L r ≤ M r) (h : ∀ r, r < t → L ((r + v) % mm) ≤ M r + (v : Int)) (ht : t < mm) (hlt : L ((t + v) % mm) ≤ L t + (v : Int)) : ∀ r, r < t + 1 → L ((r + v) % mm) ≤ M r + (v : Int) := by
  intro r hr
  by_cases e2 : r = t
  · rw [e2]; have := h0 t ht; omega
  · exact h r (by omega)
/-- paid by at most t coins, each above mm -/
def zpc (C : Nat → Prop) (mm : Nat) : Nat → (Nat → Prop)
  | 0 => fun s => s = 0
  | t + 1 => fun s => zpc C mm t s ∨ ∃ v, mm < v ∧ v ≤ 60 ∧ C v ∧ v ≤ s ∧ zpc C mm t (s - v)
def zfix (C : Nat → Prop) (mm : Nat) (L : Nat → Int) : Prop := ∀ v, mm < v → v ≤ 60 → C v → ∀ r, r < mm → L ((r + v) % mm) ≤ L r + (v : Int)
def zcp (C : Nat → Prop) (mm t : Nat) (L : Nat → Int) : Prop := ∀ s, zpc C mm t s → L (s % mm) ≤ (s : Int)
theorem zcp_0 {C : Nat → Prop} {mm : Nat} {L : Nat → Int} (hm : 0 < mm) (h : L 0 = 0) : zcp C mm 0 L := by
  intro s hs
  have e : s = 0 := hs
  rw [e, Nat.zero_mod, h]; exact Int.le_refl _
theorem zcp_s {C : Nat → Prop} {mm t : Nat} {L M : Nat → Int} (hm : 0 < mm) (h : zcp C mm t M) (h1 : ∀ r, r < mm → L r ≤ M r) (h2 : ∀ v, mm < v → v ≤ 60 → C v → ∀ r, r < mm → L ((r + v) % mm) ≤ M r + (v : Int)) : zcp C mm (t + 1) L := by
  intro s hs
  rcases hs with hs | ⟨v, a, b, c, d, e⟩
  · exact Int.le_trans (h1 _ (Nat.mod_lt _ hm)) (h s hs)
  · have k1 := h2 v a b c ((s - v) % mm) (Nat.mod_lt _ hm)
    have k2 := h _ e
    rw [Nat.mod_add_mod, Nat.sub_add_cancel d] at k1
    omega
theorem zfix_of {C : Nat → Prop} {mm : Nat} {L M : Nat → Int} (hm : 0 < mm) (he : ∀ r, r < mm → L r = M r) (h2 : ∀ v, mm < v → v ≤ 60 → C v → ∀ r, r < mm → L ((r + v) % mm) ≤ M r + (v : Int)) : zfix C mm L := by
  intro v a b c r hr
  rw [he r hr]; exact h2 v a b c r hr
theorem zinit {mm : Nat} {C : Nat → Prop} {L : Nat → Int} (hm : 0 < mm) (h0 : L 0 = 0) (h : ∀ r, 1 ≤ r → r < mm → L r = 1000000) : zso C mm L := by
  intro r hr
  by_cases e : r = 0
  · rw [e, h0]; exact ⟨by omega, by omega, Or.inr ⟨by rw [show ((0 : Int)).toNat = 0 from rfl, Nat.zero_mod], zpay_0 C⟩⟩
  · rw [h r (by omega) hr]; exact ⟨by omega, by omega, Or.inl rfl⟩
