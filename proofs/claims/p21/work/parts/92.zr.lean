/-! the box that the law begins with -/
def zbxa (f : Nat → Int) : Nat → Int := zU (zU (zU (zU f 0 1) 1 (-1)) 2 0) 3 0
def zbxb (f : Nat → Int) : Nat → Int := zU (zU (zU (zU f 0 0) 1 0) 2 1) 3 (-1)
def zbxc (f : Nat → Int) (w t : Int) : Nat → Int := zU (zU (zU (zU f 0 w) 1 0) 2 t) 3 0
def zbxe (f : Nat → Int) : Nat → Int := zU (zU (zU (zU f 0 0) 1 0) 2 0) 3 0
theorem zbx_at (fa fb fc fe : Nat → Int) (w t : Int) : (zbxa fa 0 = 1 ∧ zbxa fa 1 = -1 ∧ zbxa fa 2 = 0 ∧ zbxa fa 3 = 0) ∧ (zbxb fb 0 = 0 ∧ zbxb fb 1 = 0 ∧ zbxb fb 2 = 1 ∧ zbxb fb 3 = -1) ∧ (zbxc fc w t 0 = w ∧ zbxc fc w t 1 = 0 ∧ zbxc fc w t 2 = t ∧ zbxc fc w t 3 = 0) ∧ (zbxe fe 0 = 0 ∧ zbxe fe 1 = 0 ∧ zbxe fe 2 = 0 ∧ zbxe fe 3 = 0) :=
  ⟨⟨rfl, rfl, rfl, rfl⟩, ⟨rfl, rfl, rfl, rfl⟩, ⟨rfl, rfl, rfl, rfl⟩, ⟨rfl, rfl, rfl, rfl⟩⟩
theorem zbx_I (fa fb fc fe : Nat → Int) {w t : Int} (hw : 1 ≤ w ∧ w ≤ 12) (ht : 1 ≤ t ∧ t ≤ 12) : zqI (zbxa fa) (zbxb fb) (zbxc fc w t) (zbxe fe) 4 := by
  obtain ⟨⟨a0, a1, a2, a3⟩, ⟨b0, b1, b2, b3⟩, ⟨c0, c1, c2, c3⟩, ⟨e0, e1, e2, e3⟩⟩ := zbx_at fa fb fc fe w t
  refine ⟨⟨by omega, by omega⟩, fun j hj => ?_, ⟨⟨?_, ?_, ?_, ?_⟩, ?_, fun j hj => ?_⟩⟩
  · rcases (show j = 0 ∨ j = 1 ∨ j = 2 ∨ j = 3 by omega) with rfl | rfl | rfl | rfl
    · rw [a0, b0, c0, e0]; omega
    · rw [a1, b1, c1, e1]; omega
    · rw [a2, b2, c2, e2]; omega
    · rw [a3, b3, c3, e3]; omega
  · rw [a1, a0]
  · rw [b1, b0]; rfl
  · rw [a3, a2]; rfl
  · rw [b3, b2]
  · rw [a0, b2, b0, a2]; exact Or.inl rfl
  · rcases (show j = 0 ∨ j = 1 ∨ j = 2 ∨ j = 3 by omega) with rfl | rfl | rfl | rfl
    · rw [c0, e0]; omega
    · rw [c1, e1]; omega
    · rw [c2, e2]; omega
    · rw [c3, e3]; omega
theorem zbx_fe {fa fb M : Nat → Int} {x y : Int} : zfe (zbxa fa) (zbxb fb) M 4 x y ↔ x ≤ M 0 ∧ -x ≤ M 1 ∧ y ≤ M 2 ∧ -y ≤ M 3 := by
  obtain ⟨⟨a0, a1, a2, a3⟩, ⟨b0, b1, b2, b3⟩, -, -⟩ := zbx_at fa fb fa fa 0 0
  constructor
  · intro h
    have h0 := h 0 (by omega)
    have h1 := h 1 (by omega)
    have h2 := h 2 (by omega)
    have h3 := h 3 (by omega)
    rw [a0, b0] at h0
    rw [a1, b1] at h1
    rw [a2, b2] at h2
    rw [a3, b3] at h3
    omega
  · intro h j hj
    rcases (show j = 0 ∨ j = 1 ∨ j = 2 ∨ j = 3 by omega) with rfl | rfl | rfl | rfl
    · rw [a0, b0]; omega
    · rw [a1, b1]; omega
    · rw [a2, b2]; omega
    · rw [a3, b3]; omega
theorem zbx_n {fa fb M : Nat → Int} {x0 x1 y0 y1 : Int} (m0 : M 0 = x1) (m1 : M 1 = -x0) (m2 : M 2 = y1) (m3 : M 3 = -y0) (hx : -2000000 ≤ x0 ∧ x0 ≤ x1 + 1 ∧ x1 ≤ 2000000) (hy : -2000000 ≤ y0 ∧ y0 ≤ y1 + 1 ∧ y1 ≤ 2000000) : ((zpts (zbxa fa) (zbxb fb) M 4 : Nat) : Int) = (x1 - x0 + 1) * (y1 - y0 + 1) := by
  rw [zpts_box (x0 := x0) (x1 := x1) (y0 := y0) (y1 := y1) (fun x y => by rw [zbx_fe, m0, m1, m2, m3]; omega) hx hy, Int.natCast_mul]
  rw [show (((x1 - x0 + 1).toNat : Nat) : Int) = x1 - x0 + 1 by omega, show (((y1 - y0 + 1).toNat : Nat) : Int) = y1 - y0 + 1 by omega]
theorem zbx_all {fa fb : Nat → Int} (fc fe : Nat → Int) {w t : Int} (hw : 1 ≤ w ∧ w ≤ 12) (ht : 1 ≤ t ∧ t ≤ 12) :
    ((zpts (zbxa fa) (zbxb fb) (fun j => 1 * zbxc fc w t j + 3 * zbxe fe j) 4 : Nat) : Int) = (w + 1) * (t + 1) ∧ ((zpts (zbxa fa) (zbxb fb) (fun j => (1 * zbxc fc w t j + 0 * zbxe fe j) - 1) 4 : Nat) : Int) = (w - 1) * (t - 1) ∧
    ((zpts (zbxa fa) (zbxb fb) (fun j => (3 * zbxc fc w t j + 0 * zbxe fe j) - 0) 4 : Nat) : Int) = (3 * w + 1) * (3 * t + 1) := by
  obtain ⟨-, -, ⟨c0, c1, c2, c3⟩, ⟨e0, e1, e2, e3⟩⟩ := zbx_at fa fb fc fe w t
  refine ⟨?_, ?_, ?_⟩
  · rw [zbx_n (x0 := 0) (x1 := w) (y0 := 0) (y1 := t) (by show 1 * zbxc fc w t 0 + 3 * zbxe fe 0 = w; rw [c0, e0]; omega) (by show 1 * zbxc fc w t 1 + 3 * zbxe fe 1 = -0; rw [c1, e1]; omega) (by show 1 * zbxc fc w t 2 + 3 * zbxe fe 2 = t; rw [c2, e2]; omega) (by show 1 * zbxc fc w t 3 + 3 * zbxe fe 3 = -0; rw [c3, e3]; omega) (by omega) (by omega)]
    rw [show w - 0 + 1 = w + 1 by omega, show t - 0 + 1 = t + 1 by omega]
  · rw [zbx_n (x0 := 1) (x1 := w - 1) (y0 := 1) (y1 := t - 1) (by show 1 * zbxc fc w t 0 + 0 * zbxe fe 0 - 1 = w - 1; rw [c0]; omega) (by show 1 * zbxc fc w t 1 + 0 * zbxe fe 1 - 1 = -1; rw [c1]; omega) (by show 1 * zbxc fc w t 2 + 0 * zbxe fe 2 - 1 = t - 1; rw [c2]; omega) (by show 1 * zbxc fc w t 3 + 0 * zbxe fe 3 - 1 = -1; rw [c3]; omega) (by omega) (by omega)]
    rw [show w - 1 - 1 + 1 = w - 1 by omega, show t - 1 - 1 + 1 = t - 1 by omega]
  · rw [zbx_n (x0 := 0) (x1 := 3 * w) (y0 := 0) (y1 := 3 * t) (by show 3 * zbxc fc w t 0 + 0 * zbxe fe 0 - 0 = 3 * w; rw [c0]; omega) (by show 3 * zbxc fc w t 1 + 0 * zbxe fe 1 - 0 = -0; rw [c1]; omega) (by show 3 * zbxc fc w t 2 + 0 * zbxe fe 2 - 0 = 3 * t; rw [c2]; omega) (by show 3 * zbxc fc w t 3 + 0 * zbxe fe 3 - 0 = -0; rw [c3]; omega) (by omega) (by omega)]
    rw [show 3 * w - 0 + 1 = 3 * w + 1 by omega, show 3 * t - 0 + 1 = 3 * t + 1 by omega]
/-! blown up once, with its edges or without -/
theorem zbl_1 {A B C E : Nat → Int} {k : Nat} : zpts A B (fun j => (1 * C j + 0 * E j) - 0) k = zpts A B (fun j => 1 * C j + 0 * E j) k := zpts_cg (fun i _ => rfl) (fun i _ => rfl) (fun i _ => by
  show 1 * C i + 0 * E i - 0 = 1 * C i + 0 * E i
  omega)
theorem zbl_2 {A B C E : Nat → Int} {k : Nat} : ((zpts A B (fun j => (1 * C j + 0 * E j) - 1) k : Nat) : Int) ≤ ((zpts A B (fun j => (1 * C j + 0 * E j) - 0) k : Nat) : Int) := by
  have h := zpts_le (A := A) (B := B) (M := fun j => (1 * C j + 0 * E j) - 1) (k := k) (A1 := A) (B1 := B) (M1 := fun j => (1 * C j + 0 * E j) - 0) (k1 := k) (fun x y z i hi => by
    have q : A i * x + B i * y ≤ 1 * C i + 0 * E i - 1 := z i hi
    show A i * x + B i * y ≤ 1 * C i + 0 * E i - 0
    omega)
  omega
/-! coins as the law looks at them -/
theorem zsum_t {C : Nat → Prop} {t : Nat} {v sm : Int} (hs : sm = ((zcn (fun t => ¬ zpay C t) t : Nat) : Int)) (hv : v = (t : Int)) (h : zws C v.toNat 60 v.toNat = 0) : sm + 1 = ((zcn (fun t => ¬ zpay C t) (t + 1) : Nat) : Int) := by
  rw [show v.toNat = t by omega, zws_iff (Nat.le_refl _)] at h
  rw [zcn_t (p := fun t => ¬ zpay C t) h]
  omega
theorem zsum_f {C : Nat → Prop} {t : Nat} {v sm : Int} (hs : sm = ((zcn (fun t => ¬ zpay C t) t : Nat) : Int)) (hv : v = (t : Int)) (h : ¬ zws C v.toNat 60 v.toNat = 0) : sm + 0 = ((zcn (fun t => ¬ zpay C t) (t + 1) : Nat) : Int) := by
  rw [show v.toNat = t by omega, zws_iff (Nat.le_refl _)] at h
  rw [zcn_f (p := fun t => ¬ zpay C t) h]
  omega
theorem zws_zS {C : Nat → Prop} {v : Int} (hc : zcn (fun i => C (i + 1)) 60 ≤ 5) (hv : 0 ≤ v ∧ v ≤ 1000) : zS (zws C v.toNat 60 v.toNat) := by
  have := zws_S (n := v.toNat) (i := v.toNat) (by omega) hc (Nat.le_refl _)
  unfold zS
  omega
theorem zws_00 (C : Nat → Prop) : zws C (0 : Int).toNat 60 (0 : Int).toNat = 1 := by
  have h : ∀ j, zws C 0 j 0 = 1 := by
    intro j
    induction j with
    | zero => rfl
    | succ j ih =>
      by_cases c : C (j + 1)
      · rw [zws_t c, (zwi_at (F := zws C 0 j) (show 1 ≤ j + 1 by omega) (0 + 1 - (j + 1)) 0).1 (by omega), ih]
      · rw [zws_f c, ih]
  exact h 60
theorem zno_end {C : Nat → Prop} {sm : Int} {t : Nat} (ht : 2 ≤ t) (hs : sm = ((zcn (fun t => ¬ zpay C t) t : Nat) : Int)) (h : ¬ zgd C 60 = 1) : 0 < sm := by
  have := (zcn_lt2 (p := fun t => ¬ zpay C t) (g := 1) (s := t) (zgd_gap h)).mpr (by omega)
  omega
/-- the gap at a place -/
theorem zgap_law {C : Nat → Prop} {pl w rr : Int} (h0 : 0 ≤ pl) (hg : zgap C 3601 pl w) (hr : (pl = -1 ∧ rr = ((zcn (fun t => ¬ zpay C t) 3601 : Nat) : Int)) ∨ (¬ pl = -1 ∧ pl < ((zcn (fun t => ¬ zpay C t) 3601 : Nat) : Int) ∧ rr = w)) :
    ∃ g : Nat, rr = (g : Int) ∧ g < 3601 ∧ ¬ zpay C g ∧ ((zcn (fun t => ¬ zpay C t) g : Nat) : Int) = pl := by
  rcases hr with ⟨a, -⟩ | ⟨-, b, c⟩
  · omega
  · obtain ⟨g, g1, g2, g3⟩ := zcn_rank (p := fun t => ¬ zpay C t) (r := pl.toNat) (s := 3601) (by omega)
    exact ⟨g, c.trans (hg g g1 g2 (by omega)), g1, g2, by omega⟩
theorem zgg_law {n mm : Nat} {L : Nat → Int} {mx : Int} (h1 : zgd (zkc n) 60 = 1) (h2 : zlc n mm) (h3 : zso (zkc n) mm L) (h4 : (zfix (zkc n) mm L ∨ zcp (zkc n) mm mm L) ∧ L 0 ≤ 0) (h5 : zmx L mm mx) : zgr (zkc n) 3601 (mx - (mm : Int)) := by
  have hC : zkc n mm := by
    rcases h2.2.2 with q | q
    · exact q
    · rw [zgd_no 60 q] at h1; exact absurd h1 (by decide)
  exact zgg_main h2.1 h2.2.1 hC h1 h3 h4.1 h4.2 h5
theorem zgg_b {C : Nat → Prop} {f : Int} (h : zgr C 3601 f) : -1 ≤ f ∧ f ≤ 3600 := by
  rcases h with ⟨a, -⟩ | ⟨g, a, b, -⟩ <;> omega
theorem zgg_0 {C : Nat → Prop} {f kr : Int} (h : zgr C 3601 f) (hk : kr = ((zcn (fun t => ¬ zpay C t) 3601 : Nat) : Int)) (h0 : kr = 0) : f = -1 := zgr_un h (zgr_non (by omega))
theorem zgg_1 {C : Nat → Prop} {f kr rr : Int} (h : zgr C 3601 f) (hk : kr = ((zcn (fun t => ¬ zpay C t) 3601 : Nat) : Int)) (hg : ∃ g : Nat, rr = (g : Int) ∧ g < 3601 ∧ ¬ zpay C g ∧ ((zcn (fun t => ¬ zpay C t) g : Nat) : Int) = kr - 1) : f = rr := by
  obtain ⟨g, g1, g2, g3, g4⟩ := hg
  rw [g1]
  exact zgr_un h (zgr_last g2 g3 (by omega))
/-- gaps rise; how many lie low -/
theorem zgap_up {C : Nat → Prop} {r g : Nat} {ah v : Int} (hv : v = (r : Int)) (ha : (r = 0 ∧ ah = 0) ∨ ∃ g : Nat, ah = (g : Int) ∧ ¬ zpay C g ∧ zcn (fun t => ¬ zpay C t) g + 1 = r) (hg : ¬ zpay C g) (hr : ((zcn (fun t => ¬ zpay C t) g : Nat) : Int) = v) : ah < (g : Int) := by
  rcases ha with ⟨a, b⟩ | ⟨q, q1, q2, q3⟩
  · have : g ≠ 0 := fun z => by rw [z] at hg; exact hg (zpay_0 C)
    omega
  · have := zcn_ord (p := fun t => ¬ zpay C t) (a := q) (b := g) (by omega)
    omega
theorem zgap_low {C : Nat → Prop} {r g : Nat} {lw sm v : Int} (hv : v = (r : Int)) (hs : sm = ((zcn (fun t => ¬ zpay C t) 201 : Nat) : Int)) (hl : (lw = (r : Int) ∧ (r : Int) ≤ sm) ∨ (lw = sm ∧ sm ≤ (r : Int))) (hg : ¬ zpay C g) (hr : ((zcn (fun t => ¬ zpay C t) g : Nat) : Int) = v) :
    (¬ 200 < (g : Int) → (lw + 1 = ((r + 1 : Nat) : Int) ∧ ((r + 1 : Nat) : Int) ≤ sm) ∨ (lw + 1 = sm ∧ sm ≤ ((r + 1 : Nat) : Int))) ∧ (200 < (g : Int) → (lw + 0 = ((r + 1 : Nat) : Int) ∧ ((r + 1 : Nat) : Int) ≤ sm) ∨ (lw + 0 = sm ∧ sm ≤ ((r + 1 : Nat) : Int))) := by
  have k := zcn_lt2 (p := fun t => ¬ zpay C t) (g := g) (s := 201) hg
  constructor
  · intro q
    have := k.mpr (by omega)
    omega
  · intro q
    have : ¬ zcn (fun t => ¬ zpay C t) g < zcn (fun t => ¬ zpay C t) 201 := fun z => by have := k.mp z; omega
    omega
theorem zlow_end {C : Nat → Prop} {lw sm kr : Int} {r : Nat} (hs : sm = ((zcn (fun t => ¬ zpay C t) 201 : Nat) : Int)) (hk : kr = ((zcn (fun t => ¬ zpay C t) 3601 : Nat) : Int)) (hl : (lw = (r : Int) ∧ (r : Int) ≤ sm) ∨ (lw = sm ∧ sm ≤ (r : Int))) (hr : kr ≤ (r : Int)) : lw = sm := by
  have := zcn_mono (p := fun t => ¬ zpay C t) (a := 201) (b := 3601) (by omega)
  omega
