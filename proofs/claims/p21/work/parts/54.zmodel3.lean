theorem zv_ldc2 {p : Program} {l : Launch} {e : Env} {R : Room} {s : State} {m : MethodId} {args : Array Value} {below : List Frame} {meth : Method} {c : Code} {H : Heap} {locs : List Loc} {cells slots : Nat} {Q : State → Prop} {cc : ByteArray} {nL pc : Nat} {ls : Array Slot} {rest : List Value} {Ts : List Cond} {own : String} (S : CallFix p m c cc nL s args Ts own) {index : Nat} {z : Int64} {v : Int} (hw : Cond.constantLong own index z ∈ Ts) (hv : z = zL v) (hdg : decode cc pc = .ok (.ldc2_w index, 3))
    (k : W p l e R s m args below meth c H locs cells slots Q (F0 m (pc + 3) ls (.long (zL v) :: rest))) : W p l e R s m args below meth c H locs cells slots Q (F0 m pc ls rest) := lv_ldc2 S.1 S.2.1 S.2.2.2.1 (S.2.2.2.2 _ hw) hdg (hv ▸ k)
/-! a column's places -/
def zup (P Q M : Nat → Int) (i : Nat) (x h : Int) : Prop := ∀ y, y ≤ h ↔ ∀ j, j < i → 0 < Q j → P j * x + Q j * y ≤ M j
def zdn (P Q M : Nat → Int) (i : Nat) (x h : Int) : Prop := ∀ y, h ≤ y ↔ ∀ j, j < i → Q j < 0 → P j * x + Q j * y ≤ M j
def zflat (P Q M : Nat → Int) (i : Nat) (x : Int) : Prop := ∀ j, j < i → Q j = 0 → P j * x ≤ M j
def zcu (P Q M : Nat → Int) (i : Nat) (x up h : Int) : Prop := (up = 0 ∧ ∀ j, j < i → ¬ 0 < Q j) ∨ (up = 1 ∧ (-200000000 ≤ h ∧ h ≤ 200000000) ∧ zup P Q M i x h)
def zcd (P Q M : Nat → Int) (i : Nat) (x up h : Int) : Prop := (up = 0 ∧ ∀ j, j < i → ¬ Q j < 0) ∨ (up = 1 ∧ (-200000000 ≤ h ∧ h ≤ 200000000) ∧ zdn P Q M i x h)
theorem zcu_0 {P Q M : Nat → Int} {x h : Int} : zcu P Q M 0 x 0 h := Or.inl ⟨rfl, fun _ z => absurd z (Nat.not_lt_zero _)⟩
theorem zcd_0 {P Q M : Nat → Int} {x h : Int} : zcd P Q M 0 x 0 h := Or.inl ⟨rfl, fun _ z => absurd z (Nat.not_lt_zero _)⟩
theorem zflat_0 {P Q M : Nat → Int} {x : Int} : zflat P Q M 0 x := fun _ z => absurd z (Nat.not_lt_zero _)
theorem zcu_n {P Q M : Nat → Int} {i : Nat} {x up h : Int} (hh : zcu P Q M i x up h) (hq : ¬ 0 < Q i) : zcu P Q M (i + 1) x up h := by
  rcases hh with g | g
  · refine Or.inl ⟨g.1, fun j hj => ?_⟩
    by_cases e : j = i
    · rw [e]; exact hq
    · exact g.2 j (by omega)
  · refine Or.inr ⟨g.1, g.2.1, fun y => ?_⟩
    rw [g.2.2 y]
    constructor
    · intro a j hj
      by_cases e : j = i
      · rw [e]; exact fun z => absurd z hq
      · exact a j (by omega)
    · intro a j hj; exact a j (by omega)
theorem zcd_n {P Q M : Nat → Int} {i : Nat} {x up h : Int} (hh : zcd P Q M i x up h) (hq : ¬ Q i < 0) : zcd P Q M (i + 1) x up h := by
  rcases hh with g | g
  · refine Or.inl ⟨g.1, fun j hj => ?_⟩
    by_cases e : j = i
    · rw [e]; exact hq
    · exact g.2 j (by omega)
  · refine Or.inr ⟨g.1, g.2.1, fun y => ?_⟩
    rw [g.2.2 y]
    constructor
    · intro a j hj
      by_cases e : j = i
      · rw [e]; exact fun z => absurd z hq
      · exact a j (by omega)
    · intro a j hj; exact a j (by omega)
theorem zle_d2 {x q y m : Int} (hq : 0 < q) : y ≤ (m - x) / q ↔ x + q * y ≤ m := by rw [zle_div hq]; omega
theorem zge_d2 {x q y m : Int} (hq : q < 0) : -((m - x) / (-q)) ≤ y ↔ x + q * y ≤ m := by rw [zge_div hq]; omega
theorem zcu_s {P Q M : Nat → Int} {i : Nat} {x up h nh : Int} (hh : zcu P Q M i x up h) (hq : 0 < Q i) (hb : -200000000 ≤ (M i - P i * x) / Q i ∧ (M i - P i * x) / Q i ≤ 200000000)
    (hn : nh = (M i - P i * x) / Q i ∧ (up = 0 ∨ (M i - P i * x) / Q i < h) ∨ nh = h ∧ ¬ up = 0 ∧ ¬ (M i - P i * x) / Q i < h) : zcu P Q M (i + 1) x 1 nh := by
  rcases hh with g | g
  · have e : nh = (M i - P i * x) / Q i := by rcases hn with n | n; exact n.1; exact absurd g.1 n.2.1
    refine Or.inr ⟨rfl, by omega, fun y => ?_⟩
    rw [e, zle_d2 hq]
    constructor
    · intro a j hj hjq
      by_cases e : j = i
      · rw [e]; exact a
      · exact absurd hjq (g.2 j (by omega))
    · intro a; exact a i (by omega) hq
  · refine Or.inr ⟨rfl, by omega, fun y => ?_⟩
    have k : y ≤ nh ↔ y ≤ h ∧ y ≤ (M i - P i * x) / Q i := by omega
    rw [k, g.2.2 y, zle_d2 hq]
    constructor
    · intro a j hj hjq
      by_cases e : j = i
      · rw [e]; exact a.2
      · exact a.1 j (by omega) hjq
    · intro a; exact ⟨fun j hj => a j (by omega), a i (by omega) hq⟩
theorem zcd_s {P Q M : Nat → Int} {i : Nat} {x up h nh : Int} (hh : zcd P Q M i x up h) (hq : Q i < 0) (hb : -200000000 ≤ (M i - P i * x) / (-Q i) ∧ (M i - P i * x) / (-Q i) ≤ 200000000)
    (hn : nh = -((M i - P i * x) / (-Q i)) ∧ (up = 0 ∨ h < -((M i - P i * x) / (-Q i))) ∨ nh = h ∧ ¬ up = 0 ∧ ¬ h < -((M i - P i * x) / (-Q i))) : zcd P Q M (i + 1) x 1 nh := by
  rcases hh with g | g
  · have e : nh = -((M i - P i * x) / (-Q i)) := by rcases hn with n | n; exact n.1; exact absurd g.1 n.2.1
    refine Or.inr ⟨rfl, by omega, fun y => ?_⟩
    rw [e, zge_d2 hq]
    constructor
    · intro a j hj hjq
      by_cases e : j = i
      · rw [e]; exact a
      · exact absurd hjq (g.2 j (by omega))
    · intro a; exact a i (by omega) hq
  · refine Or.inr ⟨rfl, by omega, fun y => ?_⟩
    have k : nh ≤ y ↔ h ≤ y ∧ -((M i - P i * x) / (-Q i)) ≤ y := by omega
    rw [k, g.2.2 y, zge_d2 hq]
    constructor
    · intro a j hj hjq
      by_cases e : j = i
      · rw [e]; exact a.2
      · exact a.1 j (by omega) hjq
    · intro a; exact ⟨fun j hj => a j (by omega), a i (by omega) hq⟩
theorem zflat_n {P Q M : Nat → Int} {i : Nat} {x : Int} (hq : ¬ Q i = 0) : zflat P Q M (i + 1) x ↔ zflat P Q M i x := by
  constructor
  · intro a j hj; exact a j (by omega)
  · intro a j hj
    by_cases e : j = i
    · rw [e]; exact fun z => absurd z hq
    · exact a j (by omega)
theorem zflat_s {P Q M : Nat → Int} {i : Nat} {x is is2 : Int} (hq : Q i = 0) (h : is = zb (zflat P Q M i x)) (h2 : is2 = zb (is ≠ 0 ∧ 0 ≤ M i - P i * x)) : is2 = zb (zflat P Q M (i + 1) x) := by
  rw [h2, h]
  apply zb_congr
  constructor
  · rintro ⟨a, b⟩ j hj hjq
    by_cases e : j = i
    · rw [e]; omega
    · exact (Classical.byContradiction fun q => a (zb_f q) : zflat P Q M i x) j (by omega) hjq
  · intro a
    have k : zflat P Q M i x := fun j hj => a j (by omega)
    have k2 := a i (by omega) hq
    rw [zb_t k]
    exact ⟨by omega, by omega⟩
def zcolR (P Q M : Nat → Int) (k : Nat) (x r l h : Int) : Prop :=
  (r = 0 ∧ ∀ y, ¬ zfe P Q M k x y) ∨ (0 < r ∧ r = h - l + 1 ∧ ∀ y, zfe P Q M k x y ↔ l ≤ y ∧ y ≤ h)
theorem zfe_parts {P Q M : Nat → Int} {k : Nat} {x y l h up dn : Int} (h1 : zcu P Q M k x up h) (h2 : zcd P Q M k x dn l) (hu : ∃ i, i < k ∧ 0 < Q i) (hd : ∃ i, i < k ∧ Q i < 0) : zfe P Q M k x y ↔ zflat P Q M k x ∧ l ≤ y ∧ y ≤ h := by
  have k1 : zup P Q M k x h := by
    rcases h1 with g | g
    · obtain ⟨i, a, b⟩ := hu; exact absurd b (g.2 i a)
    · exact g.2.2
  have k2 : zdn P Q M k x l := by
    rcases h2 with g | g
    · obtain ⟨i, a, b⟩ := hd; exact absurd b (g.2 i a)
    · exact g.2.2
  rw [k1 y, k2 y]
  constructor
  · intro a
    exact ⟨fun j hj hq => by have := a j hj; rw [hq] at this; omega, fun j hj _ => a j hj, fun j hj _ => a j hj⟩
  · rintro ⟨a, b, c⟩ j hj
    by_cases q : 0 < Q j
    · exact c j hj q
    · by_cases q2 : Q j < 0
      · exact b j hj q2
      · have e : Q j = 0 := by omega
        have := a j hj e
        rw [e]; omega
theorem zcu_b {P Q M : Nat → Int} {k : Nat} {x h up : Int} (h1 : zcu P Q M k x up h) (hu : ∃ i, i < k ∧ 0 < Q i) : -200000000 ≤ h ∧ h ≤ 200000000 := by
  rcases h1 with g | g
  · obtain ⟨i, a, b⟩ := hu; exact absurd b (g.2 i a)
  · exact g.2.1
theorem zcd_b {P Q M : Nat → Int} {k : Nat} {x h up : Int} (h1 : zcd P Q M k x up h) (hu : ∃ i, i < k ∧ Q i < 0) : -200000000 ≤ h ∧ h ≤ 200000000 := by
  rcases h1 with g | g
  · obtain ⟨i, a, b⟩ := hu; exact absurd b (g.2 i a)
  · exact g.2.1
theorem zcu_01 {P Q M : Nat → Int} {k : Nat} {x h up : Int} (h1 : zcu P Q M k x up h) : (up = 0 ∨ up = 1) ∧ (up = 0 ∨ (-200000000 ≤ h ∧ h ≤ 200000000)) := by
  rcases h1 with g | g
  · exact ⟨Or.inl g.1, Or.inl g.1⟩
  · exact ⟨Or.inr g.1, Or.inr g.2.1⟩
theorem zcd_01 {P Q M : Nat → Int} {k : Nat} {x h up : Int} (h1 : zcd P Q M k x up h) : (up = 0 ∨ up = 1) ∧ (up = 0 ∨ (-200000000 ≤ h ∧ h ≤ 200000000)) := by
  rcases h1 with g | g
  · exact ⟨Or.inl g.1, Or.inl g.1⟩
  · exact ⟨Or.inr g.1, Or.inr g.2.1⟩
theorem zcolR_0 {P Q M : Nat → Int} {k : Nat} {x l h up dn : Int} (h1 : zcu P Q M k x up h) (h2 : zcd P Q M k x dn l) (hu : ∃ i, i < k ∧ 0 < Q i) (hd : ∃ i, i < k ∧ Q i < 0) (hn : ¬ zflat P Q M k x ∨ h < l) : zcolR P Q M k x 0 l h := by
  refine Or.inl ⟨rfl, fun y z => ?_⟩
  rw [zfe_parts h1 h2 hu hd] at z
  rcases hn with g | g
  · exact g z.1
  · omega
theorem zcolR_1 {P Q M : Nat → Int} {k : Nat} {x l h up dn : Int} (h1 : zcu P Q M k x up h) (h2 : zcd P Q M k x dn l) (hu : ∃ i, i < k ∧ 0 < Q i) (hd : ∃ i, i < k ∧ Q i < 0) (hf : zflat P Q M k x) (hn : l ≤ h) : zcolR P Q M k x (h - l + 1) l h := by
  refine Or.inr ⟨by omega, rfl, fun y => ?_⟩
  rw [zfe_parts h1 h2 hu hd]
  exact ⟨fun z => z.2, fun z => ⟨hf, z⟩⟩
