/-! what the law's last loops need -/
theorem zk_0 (v : Int) : ¬ zk 0 v := fun z => by
  have q := z.2.2
  rw [Nat.zero_testBit] at q
  cases q
theorem zcoin_step {n : Nat} {v F co : Int} (hv : 1 ≤ v ∧ v ≤ 60) (hF : (F = 0 ∧ ¬ zk n v) ∨ (F = 1 ∧ zk n v)) (hco : co = ((zpop 64 n : Nat) : Int)) : ((zpop 64 (n ^^^ 2 ^ (v - 1).toNat : Nat) : Nat) : Int) = co + (1 - 2 * F) := by
  have h := zpop_f (n := n) hv
  rcases hF with ⟨a, b⟩ | ⟨a, b⟩
  · have := h.2 b
    omega
  · have := h.1 b
    omega
theorem zhas_step {n : Nat} {v : Int} {F : Nat → Int} (hv : 1 ≤ v ∧ v ≤ 60) (hF : ∀ w : Nat, 1 ≤ w → w ≤ 60 → (F w = 0 ∧ ¬ zk n (w : Int)) ∨ (F w = 1 ∧ zk n (w : Int))) : ∀ w : Nat, 1 ≤ w → w ≤ 60 → (zU F v.toNat (1 - F v.toNat) w = 0 ∧ ¬ zk (n ^^^ 2 ^ (v - 1).toNat) (w : Int)) ∨ (zU F v.toNat (1 - F v.toNat) w = 1 ∧ zk (n ^^^ 2 ^ (v - 1).toNat) (w : Int)) := by
  intro w h1 h2
  have k : zk (n ^^^ 2 ^ (v - 1).toNat) (w : Int) ↔ (if w = v.toNat then ¬ zk n (w : Int) else zk n (w : Int)) := zkc_flip hv h1 h2
  have hw := hF w h1 h2
  by_cases e : w = v.toNat
  · rw [if_pos e] at k
    rw [← e, zU_same, k]
    rcases hw with ⟨a, b⟩ | ⟨a, b⟩
    · exact Or.inr ⟨by omega, b⟩
    · exact Or.inl ⟨by omega, fun z => z b⟩
  · rw [if_neg e] at k
    rw [zU_ne e, k]
    exact hw
theorem zts_b {a nx r : Int} (h : nx ≤ 60) : ∀ m : Nat, 0 ≤ zts a nx r m ∧ zts a nx r m ≤ 61 * (m : Int)
  | 0 => by
    show 0 ≤ (0 : Int) ∧ (0 : Int) ≤ 61 * ((0 : Nat) : Int)
    omega
  | m + 1 => by
    have ih := zts_b (a := a) (r := r) h m
    have k := ztb_b (nx := nx) (u := a - (m : Int)) (v := a - (m : Int) - r) h
    show 0 ≤ zts a nx r m + zmax 0 (zmin nx (a - (m : Int)) - zmax 0 (a - (m : Int) - r) + 1) ∧ zts a nx r m + zmax 0 (zmin nx (a - (m : Int)) - zmax 0 (a - (m : Int) - r) + 1) ≤ 61 * ((m + 1 : Nat) : Int)
    omega
/-- how many tables -/
def ztv (oa ob ol nx : Int) : Int := if oa + ob - ol - nx < 0 then 0 else zts oa nx (oa + ob - ol - nx) ((zmin oa ol).toNat + 1)
theorem ztab_v {oa ob ol nx rr : Int} (h : oa + ob - ol - nx < 0 ∧ rr = 0 ∨ 0 ≤ oa + ob - ol - nx ∧ rr = zts oa nx (oa + ob - ol - nx) ((zmin oa ol).toNat + 1)) : rr = ztv oa ob ol nx := by
  unfold ztv
  rcases h with ⟨a, b⟩ | ⟨a, b⟩
  · rw [if_pos a, b]
  · rw [if_neg (by omega), b]
theorem ztv_b {oa ob ol nx : Int} (h1 : 0 ≤ oa ∧ oa ≤ 60) (h3 : 0 ≤ ol ∧ ol ≤ 60) (h4 : 0 ≤ nx ∧ nx ≤ 60) : 0 ≤ ztv oa ob ol nx ∧ ztv oa ob ol nx ≤ 4000 := by
  unfold ztv
  split
  · omega
  · have k := zts_b (a := oa) (r := oa + ob - ol - nx) h4.2 ((zmin oa ol).toNat + 1)
    have hm := (zle_min (x := zmin oa ol) (a := oa) (b := ol)).mp (Int.le_refl _)
    omega
theorem ztv_neg {oa ob ol nx : Int} (h : oa + ob - ol - nx < 0) : ztv oa ob ol nx = 0 := if_pos h
theorem ztv_ge {oa ob ol nx : Int} (h : 0 ≤ oa + ob - ol - nx) : ztv oa ob ol nx = zts oa nx (oa + ob - ol - nx) ((zmin oa ol).toNat + 1) := if_neg (by omega)
theorem ztv_law {oa ob ol nx : Int} (h1 : 0 ≤ oa ∧ oa ≤ 60) (h2 : 0 ≤ ob ∧ ob ≤ 60) (h3 : 0 ≤ ol ∧ ol ≤ 60) (h4 : 0 ≤ nx ∧ nx ≤ 60) (h5 : oa + ob - ol - nx ≤ 60) :
    ztv oa ob ol nx = ztv ob oa ol nx ∧ ztv oa ob ol nx = ztv oa ob nx ol ∧ (0 ≤ oa + ob - ol - nx → ztv oa ob ol nx = ztv oa ob ol (oa + ob - ol - nx) ∧ 0 < ztv oa ob ol nx) := by
  by_cases c : 0 ≤ oa + ob - ol - nx
  · obtain ⟨k1, k2, k3, k4⟩ := ztab_law h1 h2 h3 h4 ⟨c, h5⟩
    rw [ztv_ge c, ztv_ge (show 0 ≤ ob + oa - ol - nx by omega), ztv_ge (show 0 ≤ oa + ob - nx - ol by omega), ztv_ge (show 0 ≤ oa + ob - ol - (oa + ob - ol - nx) by omega)]
    exact ⟨k1.symm, k2.symm, fun _ => ⟨k3.symm, k4⟩⟩
  · rw [ztv_neg (show oa + ob - ol - nx < 0 by omega), ztv_neg (show ob + oa - ol - nx < 0 by omega), ztv_neg (show oa + ob - nx - ol < 0 by omega)]
    exact ⟨rfl, rfl, fun z => absurd z c⟩
