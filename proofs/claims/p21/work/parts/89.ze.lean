/-! tables: rows and columns changed -/
/-- the corner and its neighbour of a table -/
def ztS (a l nx r c d : Int) : Prop := (0 ≤ c ∧ c ≤ l) ∧ (0 ≤ d ∧ d ≤ nx) ∧ 0 ≤ a - c - d ∧ a - c - d ≤ r
noncomputable def ztT (a l nx r : Int) : Nat := zsm (fun c => zsm (fun d => zone (ztS a l nx r c d)) 0 61) 0 61
theorem ztc {a nx r : Int} (h : 0 ≤ nx ∧ nx ≤ 60) (c : Int) : (zsm (fun d => zone (0 ≤ d ∧ d ≤ nx ∧ a - c - r ≤ d ∧ d ≤ a - c)) 0 61 : Int) = zmax 0 (zmin nx (a - c) - zmax 0 (a - c - r) + 1) := by
  have k := zn_iv (p := fun d => 0 ≤ d ∧ d ≤ nx ∧ a - c - r ≤ d ∧ d ≤ a - c) (lo := 0) (b := zmax 0 (a - c - r)) (t := zmin nx (a - c)) (n := 61) (by unfold zmax; split <;> omega) (fun j hj => by
    rw [zmax_le, zle_min]
    constructor
    · intro z; exact ⟨⟨z.1, z.2.2.1⟩, z.2.1, z.2.2.2⟩
    · intro z; exact ⟨z.1.1, z.2.1, z.1.2, z.2.2⟩)
  have e : zn (fun d => 0 ≤ d ∧ d ≤ nx ∧ a - c - r ≤ d ∧ d ≤ a - c) 0 61 = zsm (fun d => zone (0 ≤ d ∧ d ≤ nx ∧ a - c - r ≤ d ∧ d ≤ a - c)) 0 61 := zn_sm _ _ _
  rw [← e, k, show zmin (zmin nx (a - c)) (0 + ((61 : Nat) : Int) - 1) = zmin nx (a - c) by
    have h1 := (zle_min (x := zmin nx (a - c)) (a := nx) (b := a - c)).mp (Int.le_refl _)
    generalize zmin nx (a - c) = z at h1 ⊢
    unfold zmin
    split <;> omega]
theorem zts_dd {a nx r : Int} (h : 0 ≤ nx ∧ nx ≤ 60) : ∀ m, zts a nx r m = (zsm (fun c => zsm (fun d => zone (0 ≤ d ∧ d ≤ nx ∧ a - c - r ≤ d ∧ d ≤ a - c)) 0 61) 0 m : Int)
  | 0 => rfl
  | m + 1 => by
    have k := ztc (a := a) (r := r) h (m : Int)
    have ih := zts_dd (a := a) (r := r) h m
    show zts a nx r m + zmax 0 (zmin nx (a - (m : Int)) - zmax 0 (a - (m : Int) - r) + 1) = _
    rw [zsm_s, Int.zero_add, ← k, ih]
    rfl
theorem ztS_0 {a l nx r c : Int} (h : c < 0 ∨ l < c ∨ a < c) : zsm (fun d => zone (ztS a l nx r c d)) 0 61 = 0 :=
  zsm_zero (fun j _ => zone_f (fun z => by
    obtain ⟨z1, z2, z3, z4⟩ := z
    omega))
theorem zts_T {a l nx r : Int} (ha : 0 ≤ a ∧ a ≤ 60) (hl : 0 ≤ l ∧ l ≤ 60) (h : 0 ≤ nx ∧ nx ≤ 60) : zts a nx r ((zmin a l).toNat + 1) = (ztT a l nx r : Int) := by
  rw [zts_dd h]
  have hm := (zle_min (x := zmin a l) (a := a) (b := l)).mp (Int.le_refl _)
  have hm0 : 0 ≤ zmin a l := zle_min.mpr ⟨ha.1, hl.1⟩
  have e1 : zsm (fun c => zsm (fun d => zone (0 ≤ d ∧ d ≤ nx ∧ a - c - r ≤ d ∧ d ≤ a - c)) 0 61) 0 ((zmin a l).toNat + 1) = zsm (fun c => zsm (fun d => zone (ztS a l nx r c d)) 0 61) 0 ((zmin a l).toNat + 1) := by
    refine zsm_congr (fun j hj => zsm_congr (fun i hi => zone_cg ⟨fun z => ⟨⟨by omega, by omega⟩, ⟨z.1, z.2.1⟩, by have := z.2.2; omega, by have := z.2.2; omega⟩, fun z => ?_⟩))
    obtain ⟨z1, z2, z3, z4⟩ := z
    exact ⟨z2.1, z2.2, by omega, by omega⟩
  have e2 : zsm (fun c => zsm (fun d => zone (ztS a l nx r c d)) 0 61) 0 ((zmin a l).toNat + 1) = ztT a l nx r := by
    have hk : ∀ x, x < 0 ∨ zmin a l < x → (fun c => zsm (fun d => zone (ztS a l nx r c d)) 0 61) x = 0 := fun x hx => ztS_0 (by
      rcases hx with hx | hx
      · exact Or.inl hx
      · have : ¬ (x ≤ a ∧ x ≤ l) := fun q => by have := zle_min.mpr q; omega
        omega)
    exact zsm_win (B := 0) (U := zmin a l) hk (by omega) (by omega) (by omega) (by omega) (by omega)
  rw [e1, e2]
theorem ztT_cols (a l nx r : Int) : ztT a nx l r = ztT a l nx r := by
  unfold ztT
  rw [zsm_swap]
  refine zsm_congr (fun j _ => zsm_congr (fun i _ => zone_cg ?_))
  unfold ztS
  constructor
  · rintro ⟨z1, z2, z3, z4⟩; exact ⟨z2, z1, by omega, by omega⟩
  · rintro ⟨z1, z2, z3, z4⟩; exact ⟨z2, z1, by omega, by omega⟩
theorem ztT_last {a l nx r : Int} (ha : 0 ≤ a ∧ a ≤ 60) : ztT a l r nx = ztT a l nx r := by
  unfold ztT
  refine zsm_congr (fun j _ => ?_)
  show zsm (fun d => zone (ztS a l r nx (0 + (j : Int)) d)) 0 61 = zsm (fun d => zone (ztS a l nx r (0 + (j : Int)) d)) 0 61
  have hc : 0 ≤ 0 + (j : Int) := by omega
  generalize 0 + (j : Int) = c at hc ⊢
  by_cases q : a < c
  · rw [ztS_0 (Or.inr (Or.inr q)), ztS_0 (Or.inr (Or.inr q))]
  · have e : ∀ d, zone (ztS a l r nx c d) = (fun x => zone (ztS a l nx r c x)) (a - c - d) := fun d => zone_cg (by
      unfold ztS
      constructor
      · rintro ⟨z1, z2, z3, z4⟩; exact ⟨z1, ⟨z3, z4⟩, by omega, by omega⟩
      · rintro ⟨z1, z2, z3, z4⟩; exact ⟨z1, ⟨by omega, by omega⟩, z2.1, z2.2⟩)
    have e2 := zsm_rev (fun x => zone (ztS a l nx r c x)) (a - c) 61 0
    have e3 : zsm (fun d => zone (ztS a l r nx c d)) 0 61 = zsm (fun d => (fun x => zone (ztS a l nx r c x)) (a - c - d)) 0 61 := zsm_congr (fun i _ => e _)
    rw [e3, e2]
    exact zsm_win (B := 0) (U := a - c) (fun x hx => zone_f (fun z => by
      obtain ⟨z1, z2, z3, z4⟩ := z
      omega)) (by omega) (by omega) (by omega) (by omega) (by omega)
theorem ztT_rows {a b l nx r : Int} (hb : b = l + nx + r - a) (hl : 0 ≤ l ∧ l ≤ 60) (hn : 0 ≤ nx ∧ nx ≤ 60) : ztT b l nx r = ztT a l nx r := by
  unfold ztT
  have e : ∀ c, zsm (fun d => zone (ztS b l nx r c d)) 0 61 = (fun x => zsm (fun d => zone (ztS a l nx r x d)) 0 61) (l - c) := fun c => by
    have e1 : ∀ d, zone (ztS b l nx r c d) = (fun x => zone (ztS a l nx r (l - c) x)) (nx - d) := fun d => zone_cg (by
      unfold ztS
      constructor
      · rintro ⟨z1, z2, z3, z4⟩; exact ⟨⟨by omega, by omega⟩, ⟨by omega, by omega⟩, by omega, by omega⟩
      · rintro ⟨z1, z2, z3, z4⟩; exact ⟨⟨by omega, by omega⟩, ⟨by omega, by omega⟩, by omega, by omega⟩)
    have e2 := zsm_rev (fun x => zone (ztS a l nx r (l - c) x)) nx 61 0
    have e3 : zsm (fun d => zone (ztS b l nx r c d)) 0 61 = zsm (fun d => (fun x => zone (ztS a l nx r (l - c) x)) (nx - d)) 0 61 := zsm_congr (fun i _ => e1 _)
    rw [e3, e2]
    exact zsm_win (B := 0) (U := nx) (fun x hx => zone_f (fun z => by
      obtain ⟨z1, z2, z3, z4⟩ := z
      omega)) (by omega) (by omega) (by omega) (by omega) (by omega)
  have e2 := zsm_rev (fun x => zsm (fun d => zone (ztS a l nx r x d)) 0 61) l 61 0
  have e3 : zsm (fun c => zsm (fun d => zone (ztS b l nx r c d)) 0 61) 0 61 = zsm (fun c => (fun x => zsm (fun d => zone (ztS a l nx r x d)) 0 61) (l - c)) 0 61 := zsm_congr (fun i _ => e _)
  rw [e3, e2]
  exact zsm_win (B := 0) (U := l) (fun x hx => ztS_0 (by omega)) (by omega) (by omega) (by omega) (by omega) (by omega)
theorem ztT_pos {a l nx r : Int} (ha : 0 ≤ a ∧ a ≤ 60) (hl : 0 ≤ l ∧ l ≤ 60) (hn : 0 ≤ nx ∧ nx ≤ 60) (hr : 0 ≤ r) (hs : a ≤ l + nx + r) : 0 < ztT a l nx r := by
  obtain ⟨c, hc⟩ : ∃ c, c = zmin a l := ⟨_, rfl⟩
  obtain ⟨d, hd⟩ : ∃ d, d = zmin (a - c) nx := ⟨_, rfl⟩
  have hc1 : (c = a ∧ a ≤ l) ∨ (c = l ∧ l ≤ a) := by
    unfold zmin at hc
    split at hc <;> omega
  have hd1 : (d = a - c ∧ a - c ≤ nx) ∨ (d = nx ∧ nx ≤ a - c) := by
    unfold zmin at hd
    split at hd <;> omega
  refine zsm_pos (x := c) ?_ (by omega) (by omega)
  refine zsm_pos (x := d) ?_ (by omega) (by omega)
  rw [zone_t ⟨⟨by omega, by omega⟩, ⟨by omega, by omega⟩, by omega, by omega⟩]
  exact Nat.one_pos
/-- what the law asks of four tables -/
theorem ztab_law {oa ob ol nx : Int} (h1 : 0 ≤ oa ∧ oa ≤ 60) (h2 : 0 ≤ ob ∧ ob ≤ 60) (h3 : 0 ≤ ol ∧ ol ≤ 60) (h4 : 0 ≤ nx ∧ nx ≤ 60) (h5 : 0 ≤ oa + ob - ol - nx ∧ oa + ob - ol - nx ≤ 60) :
    zts ob nx (ob + oa - ol - nx) ((zmin ob ol).toNat + 1) = zts oa nx (oa + ob - ol - nx) ((zmin oa ol).toNat + 1) ∧ zts oa ol (oa + ob - nx - ol) ((zmin oa nx).toNat + 1) = zts oa nx (oa + ob - ol - nx) ((zmin oa ol).toNat + 1) ∧
    zts oa (oa + ob - ol - nx) (oa + ob - ol - (oa + ob - ol - nx)) ((zmin oa ol).toNat + 1) = zts oa nx (oa + ob - ol - nx) ((zmin oa ol).toNat + 1) ∧ 0 < zts oa nx (oa + ob - ol - nx) ((zmin oa ol).toNat + 1) := by
  rw [zts_T h2 h3 h4, zts_T h1 h3 h4, zts_T h1 h4 h3, zts_T h1 h3 h5]
  rw [show ob + oa - ol - nx = oa + ob - ol - nx by omega, show oa + ob - nx - ol = oa + ob - ol - nx by omega, show oa + ob - ol - (oa + ob - ol - nx) = nx by omega]
  rw [ztT_rows (a := oa) (b := ob) (by omega) h3 h4, ztT_cols oa ol nx, ztT_last (l := ol) (nx := nx) (r := oa + ob - ol - nx) h1]
  have := ztT_pos h1 h3 h4 h5.1 (by omega)
  exact ⟨rfl, rfl, rfl, by omega⟩
