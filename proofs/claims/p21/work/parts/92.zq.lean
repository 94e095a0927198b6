/-! what the law's walks need of numbers -/
theorem zpts_S (A B M : Nat → Int) (k : Nat) : zS ((zpts A B M k : Nat) : Int) := by
  have h := zpts_bd A B M k
  unfold zS
  omega
theorem zqM {fa fb fc fe : Nat → Int} {k : Nat} (I : zqI fa fb fc fe k) (lt : Int) : ∀ j, j < 4 → (fun j => 1 * fc j + lt * fe j) j ≤ 12 := fun j hj => by
  have h := I.2.2.2.2 j hj
  show 1 * fc j + lt * fe j ≤ 12
  rw [h.2, Int.mul_zero]
  omega
theorem zqM2 {fa fb fc fe : Nat → Int} {k : Nat} (I : zqI fa fb fc fe k) {inr : Int} (hi : 0 ≤ inr) : ∀ j, j < 4 → (fun j => (1 * fc j + 0 * fe j) - inr) j ≤ 12 := fun j hj => by
  have h := I.2.2.2.2 j hj
  show 1 * fc j + 0 * fe j - inr ≤ 12
  omega
theorem zbest_b {fa fb fc fe : Nat → Int} {k : Nat} (I : zqI fa fb fc fe k) {lt p q c bx bY : Int} (h : zbestc fa fb (fun j => 1 * fc j + lt * fe j) k p q c bx bY) : (-1440 ≤ bx ∧ bx ≤ 1440) ∧ (-1440 ≤ bY ∧ bY ≤ 1440) := zqB_in I (zqM I lt) h.1
theorem zpq_b {p q x y : Int} (hp : -99 ≤ p ∧ p ≤ 99) (hq : -99 ≤ q ∧ q ≤ 99) (hx : -1440 ≤ x ∧ x ≤ 1440) (hy : -1440 ≤ y ∧ y ≤ 1440) : (-142560 ≤ p * x ∧ p * x ≤ 142560) ∧ (-142560 ≤ q * y ∧ q * y ≤ 142560) := by
  have h1 := zmulb hp.1 hp.2 hx.1 hx.2
  have h2 := zmulb hq.1 hq.2 hy.1 hy.2
  omega
theorem zbest_at {A B M : Nat → Int} {k : Nat} {p q c bx bY wt rr : Int} (h : zbestc A B M k p q c bx bY) (hb : ∃ cx cY, zbestc A B M k p q c cx cY ∧ rr = zwhat (p * cx + q * cY) cx cY wt) : rr = zwhat (p * bx + q * bY) bx bY wt := by
  obtain ⟨cx, cY, h1, h2⟩ := hb
  obtain ⟨e1, e2⟩ := zbest_un h1 h
  rw [h2, e1, e2]
theorem zwhat_0 {a b c : Int} : zwhat a b c 0 = a := if_pos rfl
theorem zwhat_1 {a b c : Int} : zwhat a b c 1 = b := (if_neg (by decide)).trans (if_pos rfl)
theorem zwhat_2 {a b c : Int} : zwhat a b c 2 = c := (if_neg (by decide)).trans (if_neg (by decide))
theorem zpart_0 {a b c e : Int} : zpart a b c e 0 = a := if_pos rfl
theorem zpart_1 {a b c e : Int} : zpart a b c e 1 = b := (if_neg (by decide)).trans (if_pos rfl)
theorem zpart_2 {a b c e : Int} : zpart a b c e 2 = c := (if_neg (by decide)).trans ((if_neg (by decide)).trans (if_pos rfl))
theorem zpart_3 {a b c e : Int} : zpart a b c e 3 = e := (if_neg (by decide)).trans ((if_neg (by decide)).trans (if_neg (by decide)))
/-- what is best against the turned slope is no less than the best one's, turned -/
theorem zbest_opp {A B M : Nat → Int} {k : Nat} {p q bx bY rr : Int} (hf : zfe A B M k bx bY) (hx : -1440 ≤ bx ∧ bx ≤ 1440) (hy : -1440 ≤ bY ∧ bY ≤ 1440) (hb : ∃ cx cY, zbestc A B M k (-p) (-q) 2000001 cx cY ∧ rr = zwhat (-p * cx + -q * cY) cx cY 0) : -(p * bx + q * bY) ≤ rr := by
  obtain ⟨cx, cY, h1, h2⟩ := hb
  have h3 := h1.2.2 bx bY hf (by omega) (by omega) (by omega) (by omega)
  have e : -p * bx + -q * bY = -(p * bx + q * bY) := by
    rw [Int.neg_mul, Int.neg_mul]
    omega
  rw [e] at h3
  rw [h2, zwhat_0]
  omega
theorem zbest_rb {fa fb fc fe : Nat → Int} {k : Nat} (I : zqI fa fb fc fe k) {lt p q rr : Int} (hp : -99 ≤ p ∧ p ≤ 99) (hq : -99 ≤ q ∧ q ≤ 99) (hb : ∃ cx cY, zbestc fa fb (fun j => 1 * fc j + lt * fe j) k p q 2000001 cx cY ∧ rr = zwhat (p * cx + q * cY) cx cY 0) : -285120 ≤ rr ∧ rr ≤ 285120 := by
  obtain ⟨cx, cY, h1, h2⟩ := hb
  have b := zbest_b I h1
  have d := zpq_b hp hq b.1 b.2
  rw [h2, zwhat_0]
  omega
theorem zbest_00 {A B M : Nat → Int} {k : Nat} {rr : Int} (hb : ∃ cx cY, zbestc A B M k 0 0 2000001 cx cY ∧ rr = zwhat (0 * cx + 0 * cY) cx cY 0) : rr = 0 := by
  obtain ⟨cx, cY, h1, h2⟩ := hb
  rw [h2, zwhat_0]
  omega
theorem zbest_ne {A B M : Nat → Int} {k : Nat} {p q bx bY : Int} (h : zbestc A B M k p q 2000001 bx bY) : ¬ znone A B M k 2000001 := fun z => z bx bY h.1 h.2.1.1 h.2.1.2.1 h.2.1.2.2.1 h.2.1.2.2.2
theorem zbest_pos {A B M : Nat → Int} {k : Nat} {p q bx bY : Int} (h : zbestc A B M k p q 2000001 bx bY) : (0 : Int) < ((zpts A B M k : Nat) : Int) := by
  have := zpts_some h.1 ⟨h.2.1.1, by have := h.2.1.2.1; omega⟩ h.2.1.2.2
  omega
theorem znone_0 {A B M : Nat → Int} {k : Nat} (h : znone A B M k 2000001) : ((zpts A B M k : Nat) : Int) = 0 := by
  rw [zpts_none h]
  rfl
theorem zin_law {A B C E : Nat → Int} {k i : Nat} {lt x y : Int} (h : zfe A B (fun j => 1 * C j + lt * E j) k x y) (hi : i < k) : A i * x + B i * y ≤ C i + E i * lt := by
  have h1 : A i * x + B i * y ≤ 1 * C i + lt * E i := h i hi
  rw [Int.mul_comm (E i)]
  omega
theorem zinq_b {fa fb fc fe : Nat → Int} {k i : Nat} (I : zqI fa fb fc fe k) (hi : i < k) {x y lt : Int} (hx : -1440 ≤ x ∧ x ≤ 1440) (hy : -1440 ≤ y ∧ y ≤ 1440) (hl : 0 ≤ lt ∧ lt ≤ 9) : (-86400 ≤ fa i * x ∧ fa i * x ≤ 86400) ∧ (-86400 ≤ fb i * y ∧ fb i * y ≤ 86400) ∧ (-999 ≤ fc i ∧ fc i ≤ 999) ∧ (-81 ≤ fe i * lt ∧ fe i * lt ≤ 81) := by
  obtain ⟨r1, r2, r3, r4, -⟩ := I.2.1 i hi
  have h1 := zmulb r1.1 r1.2 hx.1 hx.2
  have h2 := zmulb r2.1 r2.2 hy.1 hy.2
  have h3 := zmulb (A := 9) (B := 9) r4.1 r4.2 (show -9 ≤ lt by omega) hl.2
  omega
theorem zmod_lt {x m : Int} (hx : 0 ≤ x) (hm : 0 < m) : 0 ≤ x.tmod m ∧ x.tmod m < m := by
  have h := ztd (x := x) hm
  omega
/-! a cone of the law: its vectors, its chain -/
theorem zgcd_dv {x y : Int} (h : x ≠ 0 ∨ y ≠ 0) (hx : -20 ≤ x ∧ x ≤ 20) (hy : -20 ≤ y ∧ y ≤ 20) : ∃ fx fy, (x = ((Nat.gcd x.natAbs y.natAbs : Nat) : Int) * fx ∧ y = ((Nat.gcd x.natAbs y.natAbs : Nat) : Int) * fy ∧ 0 < Nat.gcd x.natAbs y.natAbs) ∧ (-20 ≤ fx ∧ fx ≤ 20) ∧ (-20 ≤ fy ∧ fy ≤ 20) := by
  have hg : 0 < Nat.gcd x.natAbs y.natAbs := by
    have := zg2_pos h
    unfold zg2 at this
    omega
  obtain ⟨fx, hfx⟩ := Int.ofNat_dvd_left.mpr (Nat.gcd_dvd_left x.natAbs y.natAbs)
  obtain ⟨fy, hfy⟩ := Int.ofNat_dvd_left.mpr (Nat.gcd_dvd_right x.natAbs y.natAbs)
  have key : ∀ z f : Int, z = ((Nat.gcd x.natAbs y.natAbs : Nat) : Int) * f → -20 ≤ z ∧ z ≤ 20 → -20 ≤ f ∧ f ≤ 20 := by
    intro z f hz hb
    have h1 : z.natAbs = Nat.gcd x.natAbs y.natAbs * f.natAbs := by rw [hz, Int.natAbs_mul, Int.natAbs_natCast]
    have h2 : 1 * f.natAbs ≤ Nat.gcd x.natAbs y.natAbs * f.natAbs := Nat.mul_le_mul_right _ hg
    omega
  exact ⟨fx, fy, ⟨hfx, hfy, hg⟩, key x fx hfx hx, key y fy hfy hy⟩
theorem zcone_all {x y v w : Int} (hn : zcnm x y v w) : ∃ fx fy lx ly tn ar, zcone x y v w fx fy lx ly tn ar ∧ ((-20 ≤ fx ∧ fx ≤ 20) ∧ (-20 ≤ fy ∧ fy ≤ 20) ∧ (-20 ≤ lx ∧ lx ≤ 20) ∧ (-20 ≤ ly ∧ ly ≤ 20)) := by
  obtain ⟨z1, z2⟩ := zcnm_nz hn
  obtain ⟨fx, fy, a, a4, a5⟩ := zgcd_dv z1 hn.1 hn.2.1
  obtain ⟨lx, ly, b, b4, b5⟩ := zgcd_dv z2 hn.2.2.1 hn.2.2.2.1
  exact ⟨fx, fy, lx, ly, _, _, ⟨a, b, rfl, rfl⟩, a4, a5, b4, b5⟩
theorem zgen_all {x y v w : Int} (hn : zcnm x y v w) : ∃ X Y k, zgenK x y v w X Y k := by
  obtain ⟨fx, fy, lx, ly, tn, ar, hz, hb⟩ := zcone_all hn
  exact zgen_ex hn hz hb
/-- what both walks answer -/
def zgv (X Y : Nat → Int) (k : Nat) (pl fs : Int) : Int := if pl = -1 then (k : Int) + 2 else if fs = 0 then Y pl.toNat else X pl.toNat
theorem zgen_res {x y v w : Int} {X Y : Nat → Int} {k : Nat} (hn : zcnm x y v w) (g : zgenK x y v w X Y k) {L : Nat → Int} {fx fy lx ly tn ar pl fs rr a b : Int} (h1 : -1 ≤ pl) (h : zlookP x y v w L fx fy lx ly tn ar ∧ zwant L fx fy lx ly ar (ar.toNat + 1) pl a b)
    (hr : (pl = -1 ∧ rr = ((zcn (zrec L) (ar.toNat + 1) : Nat) : Int)) ∨ (¬ pl = -1 ∧ pl < ((zcn (zrec L) (ar.toNat + 1) : Nat) : Int) ∧ rr = (if fs = 0 then b else a))) : rr = zgv X Y k pl fs := by
  obtain ⟨e1, e2⟩ := zcone_both hn g h.1
  unfold zgv
  rw [e1] at hr
  rcases hr with ⟨q1, q2⟩ | ⟨q1, q2, q3⟩
  · rw [if_pos q1, q2]
  · obtain ⟨w1, w2⟩ := e2 pl a b (by omega) q2 h.2
    rw [if_neg q1, q3, w1, w2]
theorem zgan_res {x y v w : Int} {X Y : Nat → Int} {k : Nat} (hn : zcnm x y v w) (g : zgenK x y v w X Y k) {XX T fx fy lx ly tn ar pl fs rr a b : Int} {N : Nat} (h1 : -1 ≤ pl) (h : zfolP x y v w XX T N fx fy lx ly tn ar ∧ zwj tn lx ly fx fy (XX - T * fx) (zsecY fx fy tn XX - T * fy) N pl a b)
    (hr : (pl = -1 ∧ rr = ((N : Int) + 1)) ∨ (¬ pl = -1 ∧ pl < ((N : Int) + 1) ∧ rr = (if fs = 0 then b else a))) : rr = zgv X Y k pl fs := by
  obtain ⟨e1, e2⟩ := zcone_anew hn g h.1
  unfold zgv
  rw [e1] at hr
  rcases hr with ⟨q1, q2⟩ | ⟨q1, q2, q3⟩
  · rw [if_pos q1, q2]
  · obtain ⟨w1, w2⟩ := e2 pl a b (by omega) q2 h.2
    rw [if_neg q1, q3, w1, w2]
theorem zgv_n {X Y : Nat → Int} {k : Nat} {fs : Int} : zgv X Y k (-1) fs = (k : Int) + 2 := if_pos rfl
theorem zgv_1 {X Y : Nat → Int} {k : Nat} {pl : Int} (h : 0 ≤ pl) : zgv X Y k pl 1 = X pl.toNat := by
  unfold zgv
  rw [if_neg (by omega), if_neg (by decide)]
theorem zgv_0 {X Y : Nat → Int} {k : Nat} {pl : Int} (h : 0 ≤ pl) : zgv X Y k pl 0 = Y pl.toNat := by
  unfold zgv
  rw [if_neg (by omega), if_pos rfl]
/-- all places of the chain lie in a box -/
theorem zgen_box {x y v w : Int} {X Y : Nat → Int} {k : Nat} (hn : zcnm x y v w) (g : zgenK x y v w X Y k) : ∀ j, j ≤ k + 1 → (-40 ≤ X j ∧ X j ≤ 40) ∧ (-40 ≤ Y j ∧ Y j ≤ 40) := by
  obtain ⟨fx, fy, lx, ly, tn, ar, c0, cb, ⟨a, b, s1, s2, s3, s4⟩, hk⟩ := g
  obtain ⟨t1, t2, t3⟩ := zcone_t c0
  have hp := zcone_pos c0 hn
  obtain ⟨x0, hch⟩ := zgen_chn t2 s1 s2 s3
  intro j hj
  cases j with
  | zero => rw [x0.1, x0.2]; omega
  | succ j => exact zchn_b t1 t2 hp (hch j (by omega)) cb.1 cb.2.1 cb.2.2.1 cb.2.2.2
