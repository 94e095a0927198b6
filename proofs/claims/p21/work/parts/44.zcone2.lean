/-! cones: the loops over vectors, and the chain of generators -/
theorem zmm_b {a b : Int} (ha : -20 ≤ a ∧ a ≤ 20) (hb : -20 ≤ b ∧ b ≤ 20) : (-40 ≤ zmin 0 a + zmin 0 b ∧ zmin 0 a + zmin 0 b ≤ 0) ∧ (0 ≤ zmax 0 a + zmax 0 b ∧ zmax 0 a + zmax 0 b ≤ 40) ∧ (-20 ≤ zmin 0 a ∧ zmin 0 a ≤ 0) ∧ (-20 ≤ zmin 0 b ∧ zmin 0 b ≤ 0) ∧ (0 ≤ zmax 0 a ∧ zmax 0 a ≤ 20) ∧ (0 ≤ zmax 0 b ∧ zmax 0 b ≤ 20) := by
  unfold zmin zmax
  split <;> split <;> (try split) <;> (try split) <;> omega
def zbox (fx fy lx ly : Int) (x y : Int) : Prop := (zmin 0 fx + zmin 0 lx ≤ x ∧ x ≤ zmax 0 fx + zmax 0 lx) ∧ (zmin 0 fy + zmin 0 ly ≤ y ∧ y ≤ zmax 0 fy + zmax 0 ly)
theorem zdist_b {t a b x y : Int} (ht : t = -1 ∨ t = 1) (ha : -20 ≤ a ∧ a ≤ 20) (hb : -20 ≤ b ∧ b ≤ 20) (hx : -40 ≤ x ∧ x ≤ 40) (hy : -40 ≤ y ∧ y ≤ 40) : (-1600 ≤ zFF t a b x y ∧ zFF t a b x y ≤ 1600) ∧ (-1600 ≤ zFL t a b x y ∧ zFL t a b x y ≤ 1600) := by
  have h1 := zmulb ha.1 ha.2 hy.1 hy.2
  have h2 := zmulb hb.1 hb.2 hx.1 hx.2
  have h3 := zmulb hx.1 hx.2 hb.1 hb.2
  have h4 := zmulb hy.1 hy.2 ha.1 ha.2
  unfold zFF zFL
  rcases ht with rfl | rfl <;> omega
theorem zseen_0 {x1 y1 y2 : Int} (x y : Int) : ¬ zseen x1 y1 y2 x1 y1 x y := by unfold zseen; omega
theorem zseen_s {x1 y1 y2 x0 y0 : Int} (h1 : y1 ≤ y0) (x y : Int) : zseen x1 y1 y2 x0 (y0 + 1) x y ↔ zseen x1 y1 y2 x0 y0 x y ∨ (x = x0 ∧ y = y0) := by unfold zseen; omega
theorem zseen_n {x1 y1 y2 x0 y0 : Int} (h1 : x1 ≤ x0) (h2 : y0 = y2 + 1) (x y : Int) : zseen x1 y1 y2 x0 y0 x y ↔ zseen x1 y1 y2 (x0 + 1) y1 x y := by unfold zseen; omega
theorem zseen_e {fx fy lx ly x0 : Int} (h : x0 = zmax 0 fx + zmax 0 lx + 1) (x y : Int) : zseen (zmin 0 fx + zmin 0 lx) (zmin 0 fy + zmin 0 ly) (zmax 0 fy + zmax 0 ly) x0 (zmin 0 fy + zmin 0 ly) x y ↔ zbox fx fy lx ly x y := by unfold zseen zbox; omega
theorem zfill_far {L : Nat → Int} {j : Nat} (h : ∀ d, d < j → L d = 1000000) : ∀ d, d < j + 1 → zU L j 1000000 d = 1000000 := by
  intro d hd
  by_cases e : d = j
  · rw [e, zU_same]
  · rw [zU_ne e]; exact h d (by omega)
/-- what secondX finds -/
def zsec (fx fy tn X : Int) : Prop := (-20 ≤ X ∧ X ≤ 20) ∧ (fx = 0 → X = -tn * fy) ∧ (fx ≠ 0 → (0 ≤ X ∧ X < zabs fx ∧ (tn + fy * X).tmod (zabs fx) = 0) ∨ (X = 0 ∧ ∀ z : Nat, (z : Int) < zabs fx → ¬ (tn + fy * (z : Int)).tmod (zabs fx) = 0))
def zsecY (fx fy tn X : Int) : Int := if fx = 0 then 0 else (tn + fy * X).tdiv fx
theorem zsec_no {fx fy tn : Int} {j : Nat} (h : ∀ z : Nat, z < j → ¬ (tn + fy * (z : Int)).tmod (zabs fx) = 0) (h2 : ¬ (tn + fy * (j : Int)).tmod (zabs fx) = 0) : ∀ z : Nat, z < j + 1 → ¬ (tn + fy * (z : Int)).tmod (zabs fx) = 0 := by
  intro z hz
  by_cases e : z = j
  · rw [e]; exact h2
  · exact h z (by omega)
/-- the chain: a vector and the one ahead of it -/
def zhs (tn lx ly : Int) (s : Int × Int × Int × Int) : Int × Int × Int × Int :=
  (s.2.2.1, s.2.2.2, (-((-zFL tn lx ly s.1 s.2.1) / zFL tn lx ly s.2.2.1 s.2.2.2)) * s.2.2.1 - s.1, (-((-zFL tn lx ly s.1 s.2.1) / zFL tn lx ly s.2.2.1 s.2.2.2)) * s.2.2.2 - s.2.1)
def zhj (tn lx ly a b x y : Int) : Nat → Int × Int × Int × Int
  | 0 => (a, b, x, y)
  | k + 1 => zhs tn lx ly (zhj tn lx ly a b x y k)
theorem zFL_lin (tn lx ly t x y a b : Int) : zFL tn lx ly (t * x - a) (t * y - b) = t * zFL tn lx ly x y - zFL tn lx ly a b := by unfold zFL; grind
theorem zFL_sub (tn lx ly t x y a b : Int) : zFL tn lx ly (x - t * a) (y - t * b) = zFL tn lx ly x y - t * zFL tn lx ly a b := by unfold zFL; grind
theorem zFF_sub (tn fx fy t x y : Int) : zFF tn fx fy (x - t * fx) (y - t * fy) = zFF tn fx fy x y := by unfold zFF; grind
theorem zceil {p q : Int} (hq : 0 < q) : 0 ≤ -((-p) / q) * q - p ∧ -((-p) / q) * q - p < q := by
  have h1 := Int.mul_ediv_add_emod (-p) q
  have h2 := Int.emod_nonneg (-p) (show q ≠ 0 by omega)
  have h3 := Int.emod_lt_of_pos (-p) hq
  rw [Int.neg_mul, Int.mul_comm ((-p) / q) q]
  omega
/-- the generator that is wanted, of those below k -/
def zwj (tn lx ly fx fy x y : Int) (k : Nat) (pl wx wy : Int) : Prop := (∀ j, j < k → (j : Int) + 1 = pl → wx = (zhj tn lx ly fx fy x y j).2.2.1 ∧ wy = (zhj tn lx ly fx fy x y j).2.2.2) ∧ ((∀ j, j < k → (j : Int) + 1 ≠ pl) → wx = fx ∧ wy = fy)
theorem zwj_0 {tn lx ly fx fy x y pl : Int} : zwj tn lx ly fx fy x y 0 pl fx fy := ⟨fun j h => absurd h (Nat.not_lt_zero j), fun _ => ⟨rfl, rfl⟩⟩
theorem zwj_n {tn lx ly fx fy x y pl wx wy : Int} {k : Nat} (h : zwj tn lx ly fx fy x y k pl wx wy) (hc : ¬ (k : Int) + 1 = pl) : zwj tn lx ly fx fy x y (k + 1) pl wx wy := by
  constructor
  · intro j hj e
    by_cases q : j = k
    · rw [q] at e; exact absurd e hc
    · exact h.1 j (by omega) e
  · intro a; exact h.2 (fun j hj => a j (by omega))
theorem zwj_y {tn lx ly fx fy x y pl wx wy : Int} {k : Nat} (hc : (k : Int) + 1 = pl) (h1 : wx = (zhj tn lx ly fx fy x y k).2.2.1) (h2 : wy = (zhj tn lx ly fx fy x y k).2.2.2) : zwj tn lx ly fx fy x y (k + 1) pl wx wy := by
  constructor
  · intro j hj e
    have : j = k := by omega
    rw [this]; exact ⟨h1, h2⟩
  · intro a; exact absurd hc (a k (by omega))
def zpos (tn lx ly fx fy x y : Int) (k : Nat) : Prop := ∀ j, j < k → 0 < zFL tn lx ly (zhj tn lx ly fx fy x y j).2.2.1 (zhj tn lx ly fx fy x y j).2.2.2
theorem zpos_0 {tn lx ly fx fy x y : Int} : zpos tn lx ly fx fy x y 0 := fun j h => absurd h (Nat.not_lt_zero j)
theorem zpos_s {tn lx ly fx fy x y : Int} {k : Nat} (h : zpos tn lx ly fx fy x y k) (h2 : 0 < zFL tn lx ly (zhj tn lx ly fx fy x y k).2.2.1 (zhj tn lx ly fx fy x y k).2.2.2) : zpos tn lx ly fx fy x y (k + 1) := by
  intro j hj
  by_cases e : j = k
  · rw [e]; exact h2
  · exact h j (by omega)
theorem zarea_b {fx fy lx ly tn ar : Int} (h : ar = tn * (fx * ly - fy * lx)) : zFL tn lx ly fx fy = ar := by unfold zFL; rw [h]
theorem zrec_800 {tn fx fy lx ly ar nr : Int} {P : Int → Int → Prop} {L : Nat → Int} {d : Nat} (har : 0 < ar ∧ ar ≤ 800) (h : zlv tn fx fy lx ly ar P L) (hr : L d < nr ↔ zrec L d) (h1 : L d < nr) (hd : d ≤ 800) : 0 ≤ L d ∧ L d ≤ 800 := by
  obtain ⟨h2, h3, -⟩ := h d hd
  have h4 := (hr.mp h1).1
  rcases h3 with q | ⟨x, y, -, q⟩
  · omega
  · have := q.2.2.2.2.2; omega
theorem zI_div2 {x y : Int} (hx : zR x) (hy : zR y) (hm : x ≠ -2147483648) : zI x / zI y = zI (x.tdiv y) := by
  have hq : zR (x.tdiv y) := by
    have h1 := Int.natAbs_tdiv_le_natAbs x y
    obtain ⟨a, b⟩ := hx
    unfold zR
    omega
  rw [← Int32.toInt_inj, Int32.toInt_div_of_ne_left, zI_toInt hx, zI_toInt hy, zI_toInt hq]
  intro h
  have h2 := congrArg Int32.toInt h
  rw [zI_toInt hx] at h2
  exact hm (h2.trans rfl)
theorem zv_idiv2 {p : Program} {l : Launch} {e : Env} {R : Room} {s : State} {m : MethodId} {args : Array Value} {below : List Frame} {meth : Method} {c : Code} {H : Heap} {locs : List Loc} {cells slots : Nat} {Q : State → Prop} {cc : ByteArray} {nL pc : Nat} {ls : Array Slot} {rest : List Value} {Ts : List Cond} {own : String} (S : CallFix p m c cc nL s args Ts own) {x y : Int} (hx : zR x) (hy : zR y) (h0 : y ≠ 0) (hm : x ≠ -2147483648) (hdg : decode cc pc = .ok (.idiv, 1))
    (k : W p l e R s m args below meth c H locs cells slots Q (F0 m (pc + 1) ls (.int (zI (x.tdiv y)) :: rest))) : W p l e R s m args below meth c H locs cells slots Q (F0 m pc ls (.int (zI y) :: .int (zI x) :: rest)) := lv_idiv S.1 S.2.1 hdg (fun h => h0 ((zI_eq hy zR0).mp h)) (zI_div2 hx hy hm ▸ k)
