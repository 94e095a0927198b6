theorem wd_X5_generates_f45 : Cond.fieldLink RX5 45 "PointMillModel" "gx" "[I" ∈ wsX5_generates := by decide +kernel
theorem in_X5_generates_X5 : ∀ w ∈ wsX50, w ∈ wsX5_generates := by decide +kernel
theorem wd_X5_generates_f48 : Cond.fieldLink RX5 48 "PointMillModel" "gy" "[I" ∈ wsX5_generates := by decide +kernel
theorem wd_X5_generates_f134 : Cond.fieldLink RX5 134 "PointMillModel" "generators" "I" ∈ wsX5_generates := by decide +kernel
set_option maxHeartbeats 4000000 in
set_option maxRecDepth 100000 in
/-- the model: generates -/
theorem c_X5_generates (l : Launch) (G : zG) (sz : Nat) (h0 : Nat) (th : Int) (sh : Int) (ym : Nat) (ya : Nat) (yb : Nat) (yc : Nat) (ye : Nat) (yp : Nat) (yq : Nat) (yo : Nat) (ro : Int) (fi : Int) (la : Int) (lo : Int) (hi : Int) (co : Int) (yk : Nat) (yw : Nat) (yi : Nat) (ge : Int) (yx : Nat) (yy : Nat) (ir : Int) (GX : Nat → Int) (GY : Nat → Int) (x : Int) (y : Int) (v : Int) (w : Int) (hc : zcnm x y v w) : Met l yX5_generates wsX5_generates ({ frames := 1, cells := 0, slots := 0, locals := 24 }) (va_Pc [.ref h0, .int (zI x), .int (zI y), .int (zI v), .int (zI w)] (zPre G sz [(h0, .inr (5, [.int (zI th), .int (zI sh), .ref ym, .ref ya, .ref yb, .ref yc, .ref ye, .ref yp, .ref yq, .ref yo, .int (zI ro), .long (zL fi), .long (zL la), .long (zL lo), .long (zL hi), .int (zI co), .ref yk, .ref yw, .ref yi, .int (zI ge), .ref yx, .ref yy, .int (zI ir)])), zci G yx 900 GX, zci G yy 900 GY])) (va_Qv (fun (u : (Int) × (Int) × (Int) × (Int) × (Int) × (Int) × (Nat) × (Nat → Int) × (Nat → Int)) => (zcone x y v w u.1 u.2.1 u.2.2.1 u.2.2.2.1 u.2.2.2.2.1 u.2.2.2.2.2.1) ∧ ((-20 ≤ u.1 ∧ u.1 ≤ 20) ∧ (-20 ≤ u.2.1 ∧ u.2.1 ≤ 20) ∧ (-20 ≤ u.2.2.1 ∧ u.2.2.1 ≤ 20) ∧ (-20 ≤ u.2.2.2.1 ∧ u.2.2.2.1 ≤ 20)) ∧ (zgenA u.2.2.2.2.1 u.1 u.2.1 u.2.2.1 u.2.2.2.1 u.2.2.2.2.2.2.2.1 u.2.2.2.2.2.2.2.2 u.2.2.2.2.2.2.1) ∧ ((u.2.2.2.2.2.2.1 : Int) + 1 ≤ u.2.2.2.2.2.1)) (fun u => zW G (va_A [(h0, .inr (5, [.int (zI th), .int (zI sh), .ref ym, .ref ya, .ref yb, .ref yc, .ref ye, .ref yp, .ref yq, .ref yo, .int (zI ro), .long (zL fi), .long (zL la), .long (zL lo), .long (zL hi), .int (zI co), .ref yk, .ref yw, .ref yi, .int (zI ge), .ref yx, .ref yy, .int (zI ir)])), zci G yx 900 GX, zci G yy 900 GY] sz) ((fun (u : (Int) × (Int) × (Int) × (Int) × (Int) × (Int) × (Nat) × (Nat → Int) × (Nat → Int)) => [(h0, .inr (5, [.int (zI th), .int (zI sh), .ref ym, .ref ya, .ref yb, .ref yc, .ref ye, .ref yp, .ref yq, .ref yo, .int (zI ro), .long (zL fi), .long (zL la), .long (zL lo), .long (zL hi), .int (zI co), .ref yk, .ref yw, .ref yi, .int (zI ((u.2.2.2.2.2.2.1 : Int) + 2)), .ref yx, .ref yy, .int (zI ir)])), zci G yx 900 u.2.2.2.2.2.2.2.1, zci G yy 900 u.2.2.2.2.2.2.2.2]) u)) (va_A [(h0, .inr (5, [.int (zI th), .int (zI sh), .ref ym, .ref ya, .ref yb, .ref yc, .ref ye, .ref yp, .ref yq, .ref yo, .int (zI ro), .long (zL fi), .long (zL la), .long (zL lo), .long (zL hi), .int (zI co), .ref yk, .ref yw, .ref yi, .int (zI ge), .ref yx, .ref yy, .int (zI ir)])), zci G yx 900 GX, zci G yy 900 GY] sz)) 0 0 (va_A [(h0, .inr (5, [.int (zI th), .int (zI sh), .ref ym, .ref ya, .ref yb, .ref yc, .ref ye, .ref yp, .ref yq, .ref yo, .int (zI ro), .long (zL fi), .long (zL la), .long (zL lo), .long (zL hi), .int (zI co), .ref yk, .ref yw, .ref yi, .int (zI ge), .ref yx, .ref yy, .int (zI ir)])), zci G yx 900 GX, zci G yy 900 GY] sz) := by
  refine zM_v (post := fun (u : (Int) × (Int) × (Int) × (Int) × (Int) × (Int) × (Nat) × (Nat → Int) × (Nat → Int)) => (zcone x y v w u.1 u.2.1 u.2.2.1 u.2.2.2.1 u.2.2.2.2.1 u.2.2.2.2.2.1) ∧ ((-20 ≤ u.1 ∧ u.1 ≤ 20) ∧ (-20 ≤ u.2.1 ∧ u.2.1 ≤ 20) ∧ (-20 ≤ u.2.2.1 ∧ u.2.2.1 ≤ 20) ∧ (-20 ≤ u.2.2.2.1 ∧ u.2.2.2.1 ≤ 20)) ∧ (zgenA u.2.2.2.2.1 u.1 u.2.1 u.2.2.1 u.2.2.2.1 u.2.2.2.2.2.2.2.1 u.2.2.2.2.2.2.2.2 u.2.2.2.2.2.2.1) ∧ ((u.2.2.2.2.2.2.1 : Int) + 1 ≤ u.2.2.2.2.2.1)) (w1 := fun (u : (Int) × (Int) × (Int) × (Int) × (Int) × (Int) × (Nat) × (Nat → Int) × (Nat → Int)) => [(h0, .inr (5, [.int (zI th), .int (zI sh), .ref ym, .ref ya, .ref yb, .ref yc, .ref ye, .ref yp, .ref yq, .ref yo, .int (zI ro), .long (zL fi), .long (zL la), .long (zL lo), .long (zL hi), .int (zI co), .ref yk, .ref yw, .ref yi, .int (zI ((u.2.2.2.2.2.2.1 : Int) + 2)), .ref yx, .ref yy, .int (zI ir)])), zci G yx 900 u.2.2.2.2.2.2.2.1, zci G yy 900 u.2.2.2.2.2.2.2.2]) (plainFor_of_name (by decide)) rfl (Nat.le_of_ble_eq_true rfl) ?_
  intro p e s m below meth c A Q S hN hK hP hD hS hA hret ls hl
  have hl : lv_has ls 14 [(0, .ref h0), (1, .int (zI x)), (2, .int (zI y)), (3, .int (zI v)), (4, .int (zI w))] := hl
  have hne := hc.2.2.2.2
  have hx := hc.1
  have hy := hc.2.1
  have hv := hc.2.2.1
  have hw := hc.2.2.2.1
  have nz := zcnm_nz hc
  have m1 := zmulb (a := x) (b := w) (A := 20) (B := 20) (by omega) (by omega) (by omega) (by omega)
  have m2 := zmulb (a := y) (b := v) (A := 20) (B := 20) (by omega) (by omega) (by omega) (by omega)
  refine zv_iload_n S dX5_generates_0 rfl (lv_at hl 1 rfl) ?_
  refine zv_iload_n S dX5_generates_1 rfl (lv_at hl 2 rfl) ?_
  refine zc_Si (As := [.int (zI x), .int (zI y)]) (rest := []) (wr := [(h0, .inr (5, [.int (zI th), .int (zI sh), .ref ym, .ref ya, .ref yb, .ref yc, .ref ye, .ref yp, .ref yq, .ref yo, .int (zI ro), .long (zL fi), .long (zL la), .long (zL lo), .long (zL hi), .int (zI co), .ref yk, .ref yw, .ref yi, .int (zI ge), .ref yx, .ref yy, .int (zI ir)])), zci G yx 900 GX, zci G yy 900 GY]) (n := 2) S hN hK hP hD hS hA hl (c_X5_common l G s.heap.size x y (by omega) (by omega)) gX5_generates_X5_common rfl ⟨rfl, rfl⟩ (by decide +kernel) rfl ⟨Nat.le_of_ble_eq_true rfl, Nat.le_of_ble_eq_true rfl, Nat.le_of_ble_eq_true rfl, Nat.le_of_ble_eq_true rfl⟩ [] [0, 1, 2] rfl rfl (by decide) (by decide) (by decide) (Nat.le_of_ble_eq_true rfl) dX5_generates_2 rfl (fun r_ u_1 H1 locs1 hp_2 hP1 hD1 hS1 hz1 => ?_)
  try dsimp only at hp_2 hP1 hD1
  subst hp_2
  generalize H1 = H at hP1 hD1 hS1 hz1 ⊢
  generalize locs1 = locs at hS1 ⊢
  have hS := hS1
  have hP : va_P G.1 vwCl [(h0, .inr (5, [.int (zI th), .int (zI sh), .ref ym, .ref ya, .ref yb, .ref yc, .ref ye, .ref yp, .ref yq, .ref yo, .int (zI ro), .long (zL fi), .long (zL la), .long (zL lo), .long (zL hi), .int (zI co), .ref yk, .ref yw, .ref yi, .int (zI ge), .ref yx, .ref yy, .int (zI ir)])), zci G yx 900 GX, zci G yy 900 GY] H := hP1
  have hD : va_D A [(h0, .inr (5, [.int (zI th), .int (zI sh), .ref ym, .ref ya, .ref yb, .ref yc, .ref ye, .ref yp, .ref yq, .ref yo, .int (zI ro), .long (zL fi), .long (zL la), .long (zL lo), .long (zL hi), .int (zI co), .ref yk, .ref yw, .ref yi, .int (zI ge), .ref yx, .ref yy, .int (zI ir)])), zci G yx 900 GX, zci G yy 900 GY] := hD1
  refine zv_istore (lv' := [(5, .int (zI ((Nat.gcd x.natAbs y.natAbs : Nat) : Int))), (0, .ref h0), (1, .int (zI x)), (2, .int (zI y)), (3, .int (zI v)), (4, .int (zI w))]) S dX5_generates_5 hl (by decide) rfl (fun ls hl => ?_)
  refine zv_iload_n S dX5_generates_7 rfl (lv_at hl 4 rfl) ?_
  refine zv_iload S dX5_generates_8 (lv_at hl 5 rfl) ?_
  refine zc_Si (As := [.int (zI v), .int (zI w)]) (rest := []) (wr := [(h0, .inr (5, [.int (zI th), .int (zI sh), .ref ym, .ref ya, .ref yb, .ref yc, .ref ye, .ref yp, .ref yq, .ref yo, .int (zI ro), .long (zL fi), .long (zL la), .long (zL lo), .long (zL hi), .int (zI co), .ref yk, .ref yw, .ref yi, .int (zI ge), .ref yx, .ref yy, .int (zI ir)])), zci G yx 900 GX, zci G yy 900 GY]) (n := 2) S hN hK hP hD hS hA hl (c_X5_common l G H.size v w (by omega) (by omega)) gX5_generates_X5_common rfl ⟨rfl, rfl⟩ (by decide +kernel) rfl ⟨Nat.le_of_ble_eq_true rfl, Nat.le_of_ble_eq_true rfl, Nat.le_of_ble_eq_true rfl, Nat.le_of_ble_eq_true rfl⟩ [] [0, 1, 2] rfl rfl (by decide) (by decide) (by decide) (Nat.le_of_ble_eq_true rfl) dX5_generates_10 rfl (fun r_ u_3 H1 locs1 hp_4 hP1 hD1 hS1 hz1 => ?_)
  try dsimp only at hp_4 hP1 hD1
  subst hp_4
  generalize H1 = H at hP1 hD1 hS1 hz1 ⊢
  generalize locs1 = locs at hS1 ⊢
  have hS := hS1
  have hP : va_P G.1 vwCl [(h0, .inr (5, [.int (zI th), .int (zI sh), .ref ym, .ref ya, .ref yb, .ref yc, .ref ye, .ref yp, .ref yq, .ref yo, .int (zI ro), .long (zL fi), .long (zL la), .long (zL lo), .long (zL hi), .int (zI co), .ref yk, .ref yw, .ref yi, .int (zI ge), .ref yx, .ref yy, .int (zI ir)])), zci G yx 900 GX, zci G yy 900 GY] H := hP1
  have hD : va_D A [(h0, .inr (5, [.int (zI th), .int (zI sh), .ref ym, .ref ya, .ref yb, .ref yc, .ref ye, .ref yp, .ref yq, .ref yo, .int (zI ro), .long (zL fi), .long (zL la), .long (zL lo), .long (zL hi), .int (zI co), .ref yk, .ref yw, .ref yi, .int (zI ge), .ref yx, .ref yy, .int (zI ir)])), zci G yx 900 GX, zci G yy 900 GY] := hD1
  refine zv_istore (lv' := [(6, .int (zI ((Nat.gcd v.natAbs w.natAbs : Nat) : Int))), (5, .int (zI ((Nat.gcd x.natAbs y.natAbs : Nat) : Int))), (0, .ref h0), (1, .int (zI x)), (2, .int (zI y)), (3, .int (zI v)), (4, .int (zI w))]) S dX5_generates_13 hl (by decide) rfl (fun ls hl => ?_)
  have JN30 : ∀ (sg : Int) (hsg : sg = 1 ∧ y * v < x * w ∨ sg = -1 ∧ ¬ y * v < x * w) (H : Heap) (locs : List Loc), va_P G.1 vwCl [(h0, .inr (5, [.int (zI th), .int (zI sh), .ref ym, .ref ya, .ref yb, .ref yc, .ref ye, .ref yp, .ref yq, .ref yo, .int (zI ro), .long (zL fi), .long (zL la), .long (zL lo), .long (zL hi), .int (zI co), .ref yk, .ref yw, .ref yi, .int (zI ge), .ref yx, .ref yy, .int (zI ir)])), zci G yx 900 GX, zci G yy 900 GY] H → va_D A [(h0, .inr (5, [.int (zI th), .int (zI sh), .ref ym, .ref ya, .ref yb, .ref yc, .ref ye, .ref yp, .ref yq, .ref yo, .int (zI ro), .long (zL fi), .long (zL la), .long (zL lo), .long (zL hi), .int (zI co), .ref yk, .ref yw, .ref yi, .int (zI ge), .ref yx, .ref yy, .int (zI ir)])), zci G yx 900 GX, zci G yy 900 GY] → va_S A s.heap H locs → ∀ ls : Array Slot, lv_has ls 14 [(6, .int (zI ((Nat.gcd v.natAbs w.natAbs : Nat) : Int))), (5, .int (zI ((Nat.gcd x.natAbs y.natAbs : Nat) : Int))), (0, .ref h0), (1, .int (zI x)), (2, .int (zI y)), (3, .int (zI v)), (4, .int (zI w))] → W p l e ({ frames := 1, cells := 0, slots := 0, locals := 24 }) s m ([.ref h0, .int (zI x), .int (zI y), .int (zI v), .int (zI w)]).toArray below meth c H locs 0 0 Q (F0 m 30 ls [.int (zI sg)]) := by
    intro sg hsg H locs hP hD hS ls hl
    refine zv_istore (lv' := [(7, .int (zI sg)), (6, .int (zI ((Nat.gcd v.natAbs w.natAbs : Nat) : Int))), (5, .int (zI ((Nat.gcd x.natAbs y.natAbs : Nat) : Int))), (0, .ref h0), (1, .int (zI x)), (2, .int (zI y)), (3, .int (zI v)), (4, .int (zI w))]) S dX5_generates_30 hl (by decide) rfl (fun ls hl => ?_)
    have g1 := zg2_pos nz.1
    have g2 := zg2_pos nz.2
    have g3 := zg2_le nz.1 hx hy
    have g4 := zg2_le nz.2 hv hw
    unfold zg2 at g1 g2 g3 g4
    have hd10 := zgcd_div (x := x) (y := y) (by omega)
    have hd20 := zgcd_div (x := v) (y := w) (by omega)
    have hd1 := (⟨hd10.1, hd10.2, by omega⟩ : x = ((Nat.gcd x.natAbs y.natAbs : Nat) : Int) * x.tdiv ((Nat.gcd x.natAbs y.natAbs : Nat) : Int) ∧ y = ((Nat.gcd x.natAbs y.natAbs : Nat) : Int) * y.tdiv ((Nat.gcd x.natAbs y.natAbs : Nat) : Int) ∧ 0 < Nat.gcd x.natAbs y.natAbs)
    have hd2 := (⟨hd20.1, hd20.2, by omega⟩ : v = ((Nat.gcd v.natAbs w.natAbs : Nat) : Int) * v.tdiv ((Nat.gcd v.natAbs w.natAbs : Nat) : Int) ∧ w = ((Nat.gcd v.natAbs w.natAbs : Nat) : Int) * w.tdiv ((Nat.gcd v.natAbs w.natAbs : Nat) : Int) ∧ 0 < Nat.gcd v.natAbs w.natAbs)
    have t1 := ztdivb (x := x) (y := ((Nat.gcd x.natAbs y.natAbs : Nat) : Int)) hx.1 hx.2
    have t2 := ztdivb (x := y) (y := ((Nat.gcd x.natAbs y.natAbs : Nat) : Int)) hy.1 hy.2
    have t3 := ztdivb (x := v) (y := ((Nat.gcd v.natAbs w.natAbs : Nat) : Int)) hv.1 hv.2
    have t4 := ztdivb (x := w) (y := ((Nat.gcd v.natAbs w.natAbs : Nat) : Int)) hw.1 hw.2
    refine zv_iload_n S dX5_generates_32 rfl (lv_at hl 6 rfl) ?_
    refine zv_iload S dX5_generates_33 (lv_at hl 1 rfl) ?_
    refine zv_idiv S (by unfold zR; omega) (by unfold zR; omega) (by omega) (by omega) dX5_generates_35 ?_
    refine zv_istore (lv' := [(8, .int (zI (v.tdiv ((Nat.gcd v.natAbs w.natAbs : Nat) : Int)))), (7, .int (zI sg)), (6, .int (zI ((Nat.gcd v.natAbs w.natAbs : Nat) : Int))), (5, .int (zI ((Nat.gcd x.natAbs y.natAbs : Nat) : Int))), (0, .ref h0), (1, .int (zI x)), (2, .int (zI y)), (3, .int (zI v)), (4, .int (zI w))]) S dX5_generates_36 hl (by decide) rfl (fun ls hl => ?_)
    refine zv_iload S dX5_generates_38 (lv_at hl 8 rfl) ?_
    refine zv_iload S dX5_generates_40 (lv_at hl 2 rfl) ?_
    refine zv_idiv S (by unfold zR; omega) (by unfold zR; omega) (by omega) (by omega) dX5_generates_42 ?_
    refine zv_istore (lv' := [(9, .int (zI (w.tdiv ((Nat.gcd v.natAbs w.natAbs : Nat) : Int)))), (8, .int (zI (v.tdiv ((Nat.gcd v.natAbs w.natAbs : Nat) : Int)))), (7, .int (zI sg)), (6, .int (zI ((Nat.gcd v.natAbs w.natAbs : Nat) : Int))), (5, .int (zI ((Nat.gcd x.natAbs y.natAbs : Nat) : Int))), (0, .ref h0), (1, .int (zI x)), (2, .int (zI y)), (3, .int (zI v)), (4, .int (zI w))]) S dX5_generates_43 hl (by decide) rfl (fun ls hl => ?_)
    have JN70 : ∀ (ex : Int) (ey : Int) (fx : Int) (fy : Int) (X0 : Nat → Int) (Y0 : Nat → Int) (ge0 : Int) (hcn : zcone x y v w fx fy ex ey sg (zabs (fx * ey - fy * ex))) (hap : 0 < (zabs (fx * ey - fy * ex))) (hbfx : (-20 ≤ fx ∧ fx ≤ 20)) (hbfy : (-20 ≤ fy ∧ fy ≤ 20)) (hbex : (-20 ≤ ex ∧ ex ≤ 20)) (hbey : (-20 ≤ ey ∧ ey ≤ 20)) (hX0 : X0 0 = fx) (hY0 : Y0 0 = fy) (H : Heap) (locs : List Loc), va_P G.1 vwCl [(h0, .inr (5, [.int (zI th), .int (zI sh), .ref ym, .ref ya, .ref yb, .ref yc, .ref ye, .ref yp, .ref yq, .ref yo, .int (zI ro), .long (zL fi), .long (zL la), .long (zL lo), .long (zL hi), .int (zI co), .ref yk, .ref yw, .ref yi, .int (zI ge0), .ref yx, .ref yy, .int (zI ir)])), zci G yx 900 X0, zci G yy 900 Y0] H → va_D A [(h0, .inr (5, [.int (zI th), .int (zI sh), .ref ym, .ref ya, .ref yb, .ref yc, .ref ye, .ref yp, .ref yq, .ref yo, .int (zI ro), .long (zL fi), .long (zL la), .long (zL lo), .long (zL hi), .int (zI co), .ref yk, .ref yw, .ref yi, .int (zI ge0), .ref yx, .ref yy, .int (zI ir)])), zci G yx 900 X0, zci G yy 900 Y0] → va_S A s.heap H locs → ∀ ls : Array Slot, lv_has ls 14 [(9, .int (zI ey)), (8, .int (zI ex)), (7, .int (zI sg)), (0, .ref h0), (1, .int (zI x)), (2, .int (zI y)), (3, .int (zI v)), (4, .int (zI w))] → W p l e ({ frames := 1, cells := 0, slots := 0, locals := 24 }) s m ([.ref h0, .int (zI x), .int (zI y), .int (zI v), .int (zI w)]).toArray below meth c H locs 0 0 Q (F0 m 70 ls []) := by
      intro ex ey fx fy X0 Y0 ge0 hcn hap hbfx hbfy hbex hbey hX0 hY0 H locs hP hD hS ls hl
      refine zv_bipush (v := (-40)) S dX5_generates_70 (by decide) ?_
      refine zv_istore (lv' := [(10, .int (zI (-40))), (9, .int (zI ey)), (8, .int (zI ex)), (7, .int (zI sg)), (0, .ref h0), (1, .int (zI x)), (2, .int (zI y)), (3, .int (zI v)), (4, .int (zI w))]) S dX5_generates_72 hl (by decide) rfl (fun ls hl => ?_)
      have LP74 : ∀ (nf : Nat) (ii : Int) (X1 : Nat → Int) (Y1 : Nat → Int) (hii : -40 ≤ ii ∧ ii ≤ 41) (hX1 : X1 0 = fx) (hY1 : Y1 0 = fy) (hF1 : zsnd sg fx fy ex ey (X1 1) (Y1 1) ∨ ∀ i j, zseen (-40) (-40) 40 ii (-40) i j → ¬ zsnd sg fx fy ex ey i j), ((41 - ii).toNat) < nf → ∀ (H : Heap) (locs : List Loc), va_P G.1 vwCl [(h0, .inr (5, [.int (zI th), .int (zI sh), .ref ym, .ref ya, .ref yb, .ref yc, .ref ye, .ref yp, .ref yq, .ref yo, .int (zI ro), .long (zL fi), .long (zL la), .long (zL lo), .long (zL hi), .int (zI co), .ref yk, .ref yw, .ref yi, .int (zI ge0), .ref yx, .ref yy, .int (zI ir)])), zci G yx 900 X1, zci G yy 900 Y1] H → va_D A [(h0, .inr (5, [.int (zI th), .int (zI sh), .ref ym, .ref ya, .ref yb, .ref yc, .ref ye, .ref yp, .ref yq, .ref yo, .int (zI ro), .long (zL fi), .long (zL la), .long (zL lo), .long (zL hi), .int (zI co), .ref yk, .ref yw, .ref yi, .int (zI ge0), .ref yx, .ref yy, .int (zI ir)])), zci G yx 900 X1, zci G yy 900 Y1] → va_S A s.heap H locs → ∀ ls : Array Slot, lv_has ls 14 [(10, .int (zI ii)), (9, .int (zI ey)), (8, .int (zI ex)), (7, .int (zI sg)), (0, .ref h0), (1, .int (zI x)), (2, .int (zI y)), (3, .int (zI v)), (4, .int (zI w))] → W p l e ({ frames := 1, cells := 0, slots := 0, locals := 24 }) s m ([.ref h0, .int (zI x), .int (zI y), .int (zI v), .int (zI w)]).toArray below meth c H locs 0 0 Q (F0 m 74 ls []) := by
        intro nf
        induction nf with
        | zero =>
          intro ii X1 Y1 hii hX1 hY1 hF1 hf
          exact absurd hf (Nat.not_lt_zero _)
        | succ nf ih74 =>
          intro ii X1 Y1 hii hX1 hY1 hF1 hf H locs hP hD hS ls hl
          refine zv_iload S dX5_generates_74 (lv_at hl 0 rfl) ?_
          refine zv_bipush (v := 40) S dX5_generates_76 (by decide) ?_
          refine zv_icmp_gt (tgt := 229) S (by unfold zR; omega) (by unfold zR; omega) dX5_generates_78 (by decide) (fun c_5 => ?_) (fun c_5 => ?_)
          · have hct := zcone_t hcn
            have hs2 : zsnd sg fx fy ex ey (X1 1) (Y1 1) := by rcases hF1 with h | h; exact h; obtain ⟨i, j, z1, z2, z3⟩ := zsnd_ex hct.1 hct.2.1 hap (zcone_p1 hcn) hbfx hbfy hbex hbey; exact absurd z3 (h i j (by unfold zseen; omega))
            have har8 := zcone_ar hcn hbfx hbfy hbex hbey
            refine zv_iconst S dX5_generates_229 ?_
            refine zv_istore (lv' := [(10, .int (zI 1)), (9, .int (zI ey)), (8, .int (zI ex)), (7, .int (zI sg)), (0, .ref h0), (1, .int (zI x)), (2, .int (zI y)), (3, .int (zI v)), (4, .int (zI w))]) S dX5_generates_230 hl (by decide) rfl (fun ls hl => ?_)
            have LP232 : ∀ (nf : Nat) (k : Nat) (v10 : Int) (X3 : Nat → Int) (Y3 : Nat → Int) (hv10 : v10 = (k : Int) + 1) (hch5 : ∀ j, j ≤ k → zhj sg ex ey fx fy (X1 1) (Y1 1) j = (X3 j, Y3 j, X3 (j + 1), Y3 (j + 1))) (hch : zchn sg fx fy ex ey (zabs (fx * ey - fy * ex)) (X3 k) (Y3 k) (X3 (k + 1)) (Y3 (k + 1)) k) (hpo : zpos sg ex ey fx fy (X1 1) (Y1 1) k), (801 - k) < nf → ∀ (H : Heap) (locs : List Loc), va_P G.1 vwCl [(h0, .inr (5, [.int (zI th), .int (zI sh), .ref ym, .ref ya, .ref yb, .ref yc, .ref ye, .ref yp, .ref yq, .ref yo, .int (zI ro), .long (zL fi), .long (zL la), .long (zL lo), .long (zL hi), .int (zI co), .ref yk, .ref yw, .ref yi, .int (zI ge0), .ref yx, .ref yy, .int (zI ir)])), zci G yx 900 X3, zci G yy 900 Y3] H → va_D A [(h0, .inr (5, [.int (zI th), .int (zI sh), .ref ym, .ref ya, .ref yb, .ref yc, .ref ye, .ref yp, .ref yq, .ref yo, .int (zI ro), .long (zL fi), .long (zL la), .long (zL lo), .long (zL hi), .int (zI co), .ref yk, .ref yw, .ref yi, .int (zI ge0), .ref yx, .ref yy, .int (zI ir)])), zci G yx 900 X3, zci G yy 900 Y3] → va_S A s.heap H locs → ∀ ls : Array Slot, lv_has ls 14 [(10, .int (zI v10)), (9, .int (zI ey)), (8, .int (zI ex)), (7, .int (zI sg)), (0, .ref h0), (1, .int (zI x)), (2, .int (zI y)), (3, .int (zI v)), (4, .int (zI w))] → W p l e ({ frames := 1, cells := 0, slots := 0, locals := 24 }) s m ([.ref h0, .int (zI x), .int (zI y), .int (zI v), .int (zI w)]).toArray below meth c H locs 0 0 Q (F0 m 232 ls []) := by
              intro nf
              induction nf with
              | zero =>
                intro k v10 X3 Y3 hv10 hch5 hch hpo hf
                exact absurd hf (Nat.not_lt_zero _)
              | succ nf ih232 =>
                intro k v10 X3 Y3 hv10 hch5 hch hpo hf H locs hP hD hS ls hl
                refine zv_aload_n S dX5_generates_232 rfl (lv_at hl 4 rfl) ?_
                have JN256 : ∀ (hnl : ¬ (X3 (k + 1) = ex ∧ Y3 (k + 1) = ey)) (H : Heap) (locs : List Loc), va_P G.1 vwCl [(h0, .inr (5, [.int (zI th), .int (zI sh), .ref ym, .ref ya, .ref yb, .ref yc, .ref ye, .ref yp, .ref yq, .ref yo, .int (zI ro), .long (zL fi), .long (zL la), .long (zL lo), .long (zL hi), .int (zI co), .ref yk, .ref yw, .ref yi, .int (zI ge0), .ref yx, .ref yy, .int (zI ir)])), zci G yx 900 X3, zci G yy 900 Y3] H → va_D A [(h0, .inr (5, [.int (zI th), .int (zI sh), .ref ym, .ref ya, .ref yb, .ref yc, .ref ye, .ref yp, .ref yq, .ref yo, .int (zI ro), .long (zL fi), .long (zL la), .long (zL lo), .long (zL hi), .int (zI co), .ref yk, .ref yw, .ref yi, .int (zI ge0), .ref yx, .ref yy, .int (zI ir)])), zci G yx 900 X3, zci G yy 900 Y3] → va_S A s.heap H locs → ∀ ls : Array Slot, lv_has ls 14 [(10, .int (zI v10)), (9, .int (zI ey)), (8, .int (zI ex)), (7, .int (zI sg)), (0, .ref h0), (1, .int (zI x)), (2, .int (zI y)), (3, .int (zI v)), (4, .int (zI w))] → W p l e ({ frames := 1, cells := 0, slots := 0, locals := 24 }) s m ([.ref h0, .int (zI x), .int (zI y), .int (zI v), .int (zI w)]).toArray below meth c H locs 0 0 Q (F0 m 256 ls []) := by
                  intro hnl H locs hP hD hS ls hl
                  have hq : 0 < zFL sg ex ey (X3 (k + 1)) (Y3 (k + 1)) := (by rcases Int.lt_or_eq_of_le hch.2.2.2.1 with g | g; exact g; exact absurd (zchn_end hct.1 hct.2.1 hap (zcone_p2 hcn) hch g.symm) hnl)
                  have hp : 0 ≤ zFL sg ex ey (X3 k) (Y3 k) := (by have := hch.2.2.2.2.1; omega)
                  have hfl0 := hch.2.2.2.1
                  have hfl1 := hch.2.2.2.2.1
                  have hfl2 := hch.2.2.2.2.2.1
                  have hfl3 := hch.2.2.2.2.2.2
                  unfold zFL at hfl0 hfl1 hfl2 hfl3
                  refine zv_iload S dX5_generates_256 (lv_at hl 3 rfl) ?_
                  refine zv_aload_n S dX5_generates_258 rfl (lv_at hl 4 rfl) ?_
                  refine zv_get (C := RX5) (T := TX5) (N := 23) (ci := 5) (v := .ref yx) S in_X5_generates_X5 hK hP 0 rfl rfl 20 (by decide) wd_X5_generates_f45 rfl rfl dX5_generates_259 ?_
                  refine zv_iload S dX5_generates_262 (lv_at hl 0 rfl) ?_
                  refine zv_iconst S dX5_generates_264 ?_
                  refine zv_isub S dX5_generates_265 ?_
                  refine zv_iald S hK hP 1 0 rfl rfl k (by omega) (by omega) (by decide) dX5_generates_266 ?_
                  refine zv_iload S dX5_generates_267 (lv_at hl 1 rfl) ?_
                  refine zv_imul S dX5_generates_269 ?_
                  refine zv_aload_n S dX5_generates_270 rfl (lv_at hl 4 rfl) ?_
                  refine zv_get (C := RX5) (T := TX5) (N := 23) (ci := 5) (v := .ref yy) S in_X5_generates_X5 hK hP 0 rfl rfl 21 (by decide) wd_X5_generates_f48 rfl rfl dX5_generates_271 ?_
                  refine zv_iload S dX5_generates_274 (lv_at hl 0 rfl) ?_
                  refine zv_iconst S dX5_generates_276 ?_
                  refine zv_isub S dX5_generates_277 ?_
                  refine zv_iald S hK hP 2 0 rfl rfl k (by omega) (by omega) (by decide) dX5_generates_278 ?_
                  refine zv_iload S dX5_generates_279 (lv_at hl 2 rfl) ?_
                  refine zv_imul S dX5_generates_281 ?_
                  refine zv_isub S dX5_generates_282 ?_
                  refine zv_imul S dX5_generates_283 ?_
                  refine zv_istore (lv' := [(11, .int (zI (sg * (((X3 k) * ey) - ((Y3 k) * ex))))), (10, .int (zI v10)), (9, .int (zI ey)), (8, .int (zI ex)), (7, .int (zI sg)), (0, .ref h0), (1, .int (zI x)), (2, .int (zI y)), (3, .int (zI v)), (4, .int (zI w))]) S dX5_generates_284 hl (by decide) rfl (fun ls hl => ?_)
                  refine zv_iload S dX5_generates_286 (lv_at hl 4 rfl) ?_
                  refine zv_aload_n S dX5_generates_288 rfl (lv_at hl 5 rfl) ?_
                  refine zv_get (C := RX5) (T := TX5) (N := 23) (ci := 5) (v := .ref yx) S in_X5_generates_X5 hK hP 0 rfl rfl 20 (by decide) wd_X5_generates_f45 rfl rfl dX5_generates_289 ?_
                  refine zv_iload S dX5_generates_292 (lv_at hl 1 rfl) ?_
                  refine zv_iald S hK hP 1 0 rfl rfl (k + 1) hv10 (by omega) (by decide) dX5_generates_294 ?_
                  refine zv_iload S dX5_generates_295 (lv_at hl 2 rfl) ?_
                  refine zv_imul S dX5_generates_297 ?_
                  refine zv_aload_n S dX5_generates_298 rfl (lv_at hl 5 rfl) ?_
                  refine zv_get (C := RX5) (T := TX5) (N := 23) (ci := 5) (v := .ref yy) S in_X5_generates_X5 hK hP 0 rfl rfl 21 (by decide) wd_X5_generates_f48 rfl rfl dX5_generates_299 ?_
                  refine zv_iload S dX5_generates_302 (lv_at hl 1 rfl) ?_
                  refine zv_iald S hK hP 2 0 rfl rfl (k + 1) hv10 (by omega) (by decide) dX5_generates_304 ?_
                  refine zv_iload S dX5_generates_305 (lv_at hl 3 rfl) ?_
                  refine zv_imul S dX5_generates_307 ?_
                  refine zv_isub S dX5_generates_308 ?_
                  refine zv_imul S dX5_generates_309 ?_
                  refine zv_istore (lv' := [(12, .int (zI (sg * (((X3 (k + 1)) * ey) - ((Y3 (k + 1)) * ex))))), (11, .int (zI (sg * (((X3 k) * ey) - ((Y3 k) * ex))))), (10, .int (zI v10)), (9, .int (zI ey)), (8, .int (zI ex)), (7, .int (zI sg)), (0, .ref h0), (1, .int (zI x)), (2, .int (zI y)), (3, .int (zI v)), (4, .int (zI w))]) S dX5_generates_310 hl (by decide) rfl (fun ls hl => ?_)
                  have hqu : 0 < sg * (X3 (k + 1) * ey - Y3 (k + 1) * ex) := hq
                  refine zv_iload S dX5_generates_312 (lv_at hl 1 rfl) ?_
                  refine zv_iload S dX5_generates_314 (lv_at hl 0 rfl) ?_
                  refine zv_iadd S dX5_generates_316 ?_
                  refine zv_iconst S dX5_generates_317 ?_
                  refine zv_isub S dX5_generates_318 ?_
                  refine zv_iload S dX5_generates_319 (lv_at hl 0 rfl) ?_
                  refine zv_idiv S (by unfold zR; omega) (by unfold zR; omega) (by omega) (by omega) dX5_generates_321 ?_
                  refine zv_istore (lv' := [(13, .int (zI ((((sg * (((X3 k) * ey) - ((Y3 k) * ex))) + (sg * (((X3 (k + 1)) * ey) - ((Y3 (k + 1)) * ex)))) - 1).tdiv (sg * (((X3 (k + 1)) * ey) - ((Y3 (k + 1)) * ex)))))), (12, .int (zI (sg * (((X3 (k + 1)) * ey) - ((Y3 (k + 1)) * ex))))), (11, .int (zI (sg * (((X3 k) * ey) - ((Y3 k) * ex))))), (10, .int (zI v10)), (9, .int (zI ey)), (8, .int (zI ex)), (7, .int (zI sg)), (0, .ref h0), (1, .int (zI x)), (2, .int (zI y)), (3, .int (zI v)), (4, .int (zI w))]) S dX5_generates_322 hl (by decide) rfl (fun ls hl => ?_)
                  refine zv_aload_n S dX5_generates_324 rfl (lv_at hl 7 rfl) ?_
                  refine zv_get (C := RX5) (T := TX5) (N := 23) (ci := 5) (v := .ref yx) S in_X5_generates_X5 hK hP 0 rfl rfl 20 (by decide) wd_X5_generates_f45 rfl rfl dX5_generates_325 ?_
                  refine zv_iload S dX5_generates_328 (lv_at hl 3 rfl) ?_
                  refine zv_iconst S dX5_generates_330 ?_
                  refine zv_iadd S dX5_generates_331 ?_
                  refine zv_iload S dX5_generates_332 (lv_at hl 0 rfl) ?_
                  refine zv_aload_n S dX5_generates_334 rfl (lv_at hl 7 rfl) ?_
                  refine zv_get (C := RX5) (T := TX5) (N := 23) (ci := 5) (v := .ref yx) S in_X5_generates_X5 hK hP 0 rfl rfl 20 (by decide) wd_X5_generates_f45 rfl rfl dX5_generates_335 ?_
                  refine zv_iload S dX5_generates_338 (lv_at hl 3 rfl) ?_
                  refine zv_iald S hK hP 1 0 rfl rfl (k + 1) hv10 (by omega) (by decide) dX5_generates_340 ?_
                  refine zv_imul S dX5_generates_341 ?_
                  refine zv_aload_n S dX5_generates_342 rfl (lv_at hl 7 rfl) ?_
                  refine zv_get (C := RX5) (T := TX5) (N := 23) (ci := 5) (v := .ref yx) S in_X5_generates_X5 hK hP 0 rfl rfl 20 (by decide) wd_X5_generates_f45 rfl rfl dX5_generates_343 ?_
                  refine zv_iload S dX5_generates_346 (lv_at hl 3 rfl) ?_
                  refine zv_iconst S dX5_generates_348 ?_
                  refine zv_isub S dX5_generates_349 ?_
                  refine zv_iald S hK hP 1 0 rfl rfl k (by omega) (by omega) (by decide) dX5_generates_350 ?_
                  refine zv_isub S dX5_generates_351 ?_
                  refine zv_iast S hK hP hD hS 1 0 rfl rfl (k + 2) (by omega) (by omega) (by decide) dX5_generates_352 (fun H locs hP hD hS => ?_)
                  have hP : va_P G.1 vwCl [(h0, .inr (5, [.int (zI th), .int (zI sh), .ref ym, .ref ya, .ref yb, .ref yc, .ref ye, .ref yp, .ref yq, .ref yo, .int (zI ro), .long (zL fi), .long (zL la), .long (zL lo), .long (zL hi), .int (zI co), .ref yk, .ref yw, .ref yi, .int (zI ge0), .ref yx, .ref yy, .int (zI ir)])), zci G yx 900 (zU X3 (k + 2) ((((((sg * (((X3 k) * ey) - ((Y3 k) * ex))) + (sg * (((X3 (k + 1)) * ey) - ((Y3 (k + 1)) * ex)))) - 1).tdiv (sg * (((X3 (k + 1)) * ey) - ((Y3 (k + 1)) * ex)))) * (X3 (k + 1))) - (X3 k))), zci G yy 900 Y3] H := hP
                  have hD : va_D A [(h0, .inr (5, [.int (zI th), .int (zI sh), .ref ym, .ref ya, .ref yb, .ref yc, .ref ye, .ref yp, .ref yq, .ref yo, .int (zI ro), .long (zL fi), .long (zL la), .long (zL lo), .long (zL hi), .int (zI co), .ref yk, .ref yw, .ref yi, .int (zI ge0), .ref yx, .ref yy, .int (zI ir)])), zci G yx 900 (zU X3 (k + 2) ((((((sg * (((X3 k) * ey) - ((Y3 k) * ex))) + (sg * (((X3 (k + 1)) * ey) - ((Y3 (k + 1)) * ex)))) - 1).tdiv (sg * (((X3 (k + 1)) * ey) - ((Y3 (k + 1)) * ex)))) * (X3 (k + 1))) - (X3 k))), zci G yy 900 Y3] := hD
                  refine zv_aload_n S dX5_generates_353 rfl (lv_at hl 7 rfl) ?_
                  refine zv_get (C := RX5) (T := TX5) (N := 23) (ci := 5) (v := .ref yy) S in_X5_generates_X5 hK hP 0 rfl rfl 21 (by decide) wd_X5_generates_f48 rfl rfl dX5_generates_354 ?_
                  refine zv_iload S dX5_generates_357 (lv_at hl 3 rfl) ?_
                  refine zv_iconst S dX5_generates_359 ?_
                  refine zv_iadd S dX5_generates_360 ?_
                  refine zv_iload S dX5_generates_361 (lv_at hl 0 rfl) ?_
                  refine zv_aload_n S dX5_generates_363 rfl (lv_at hl 7 rfl) ?_
                  refine zv_get (C := RX5) (T := TX5) (N := 23) (ci := 5) (v := .ref yy) S in_X5_generates_X5 hK hP 0 rfl rfl 21 (by decide) wd_X5_generates_f48 rfl rfl dX5_generates_364 ?_
                  refine zv_iload S dX5_generates_367 (lv_at hl 3 rfl) ?_
                  refine zv_iald S hK hP 2 0 rfl rfl (k + 1) hv10 (by omega) (by decide) dX5_generates_369 ?_
                  refine zv_imul S dX5_generates_370 ?_
                  refine zv_aload_n S dX5_generates_371 rfl (lv_at hl 7 rfl) ?_
                  refine zv_get (C := RX5) (T := TX5) (N := 23) (ci := 5) (v := .ref yy) S in_X5_generates_X5 hK hP 0 rfl rfl 21 (by decide) wd_X5_generates_f48 rfl rfl dX5_generates_372 ?_
                  refine zv_iload S dX5_generates_375 (lv_at hl 3 rfl) ?_
                  refine zv_iconst S dX5_generates_377 ?_
                  refine zv_isub S dX5_generates_378 ?_
                  refine zv_iald S hK hP 2 0 rfl rfl k (by omega) (by omega) (by decide) dX5_generates_379 ?_
                  refine zv_isub S dX5_generates_380 ?_
                  refine zv_iast S hK hP hD hS 2 0 rfl rfl (k + 2) (by omega) (by omega) (by decide) dX5_generates_381 (fun H locs hP hD hS => ?_)
                  have hP : va_P G.1 vwCl [(h0, .inr (5, [.int (zI th), .int (zI sh), .ref ym, .ref ya, .ref yb, .ref yc, .ref ye, .ref yp, .ref yq, .ref yo, .int (zI ro), .long (zL fi), .long (zL la), .long (zL lo), .long (zL hi), .int (zI co), .ref yk, .ref yw, .ref yi, .int (zI ge0), .ref yx, .ref yy, .int (zI ir)])), zci G yx 900 (zU X3 (k + 2) ((((((sg * (((X3 k) * ey) - ((Y3 k) * ex))) + (sg * (((X3 (k + 1)) * ey) - ((Y3 (k + 1)) * ex)))) - 1).tdiv (sg * (((X3 (k + 1)) * ey) - ((Y3 (k + 1)) * ex)))) * (X3 (k + 1))) - (X3 k))), zci G yy 900 (zU Y3 (k + 2) ((((((sg * (((X3 k) * ey) - ((Y3 k) * ex))) + (sg * (((X3 (k + 1)) * ey) - ((Y3 (k + 1)) * ex)))) - 1).tdiv (sg * (((X3 (k + 1)) * ey) - ((Y3 (k + 1)) * ex)))) * (Y3 (k + 1))) - (Y3 k)))] H := hP
                  have hD : va_D A [(h0, .inr (5, [.int (zI th), .int (zI sh), .ref ym, .ref ya, .ref yb, .ref yc, .ref ye, .ref yp, .ref yq, .ref yo, .int (zI ro), .long (zL fi), .long (zL la), .long (zL lo), .long (zL hi), .int (zI co), .ref yk, .ref yw, .ref yi, .int (zI ge0), .ref yx, .ref yy, .int (zI ir)])), zci G yx 900 (zU X3 (k + 2) ((((((sg * (((X3 k) * ey) - ((Y3 k) * ex))) + (sg * (((X3 (k + 1)) * ey) - ((Y3 (k + 1)) * ex)))) - 1).tdiv (sg * (((X3 (k + 1)) * ey) - ((Y3 (k + 1)) * ex)))) * (X3 (k + 1))) - (X3 k))), zci G yy 900 (zU Y3 (k + 2) ((((((sg * (((X3 k) * ey) - ((Y3 k) * ex))) + (sg * (((X3 (k + 1)) * ey) - ((Y3 (k + 1)) * ex)))) - 1).tdiv (sg * (((X3 (k + 1)) * ey) - ((Y3 (k + 1)) * ex)))) * (Y3 (k + 1))) - (Y3 k)))] := hD
                  refine zv_iinc (k0 := 3) (lv' := [(10, .int (zI (v10 + 1))), (13, .int (zI ((((sg * (((X3 k) * ey) - ((Y3 k) * ex))) + (sg * (((X3 (k + 1)) * ey) - ((Y3 (k + 1)) * ex)))) - 1).tdiv (sg * (((X3 (k + 1)) * ey) - ((Y3 (k + 1)) * ex)))))), (12, .int (zI (sg * (((X3 (k + 1)) * ey) - ((Y3 (k + 1)) * ex))))), (11, .int (zI (sg * (((X3 k) * ey) - ((Y3 k) * ex))))), (9, .int (zI ey)), (8, .int (zI ex)), (7, .int (zI sg)), (0, .ref h0), (1, .int (zI x)), (2, .int (zI y)), (3, .int (zI v)), (4, .int (zI w))]) S dX5_generates_382 hl rfl (by decide) rfl (fun ls hl => ?_)
                  refine zv_goto (tgt := 232) S dX5_generates_385 (by decide) ?_
                  exact ih232 (k + 1) (v10 + 1) (zU X3 (k + 2) ((((((sg * (((X3 k) * ey) - ((Y3 k) * ex))) + (sg * (((X3 (k + 1)) * ey) - ((Y3 (k + 1)) * ex)))) - 1).tdiv (sg * (((X3 (k + 1)) * ey) - ((Y3 (k + 1)) * ex)))) * (X3 (k + 1))) - (X3 k))) (zU Y3 (k + 2) ((((((sg * (((X3 k) * ey) - ((Y3 k) * ex))) + (sg * (((X3 (k + 1)) * ey) - ((Y3 (k + 1)) * ex)))) - 1).tdiv (sg * (((X3 (k + 1)) * ey) - ((Y3 (k + 1)) * ex)))) * (Y3 (k + 1))) - (Y3 k))) (by omega) (zgn_s hch5 hq hp rfl rfl) (zgn_c hch hq rfl rfl) (zgn_p hch5 hpo hq) (by omega) _ _ hP hD hS _ (lv_sub hl [0, 4, 5, 6, 7, 8, 9, 10, 11] rfl)
                have hcb := zchn_b hct.1 hct.2.1 hap hch hbfx hbfy hbex hbey
                have hfl0 := hch.2.2.2.1
                have hfl1 := hch.2.2.2.2.1
                have hfl2 := hch.2.2.2.2.2.1
                have hfl3 := hch.2.2.2.2.2.2
                refine zv_get (C := RX5) (T := TX5) (N := 23) (ci := 5) (v := .ref yx) S in_X5_generates_X5 hK hP 0 rfl rfl 20 (by decide) wd_X5_generates_f45 rfl rfl dX5_generates_233 ?_
                refine zv_iload S dX5_generates_236 (lv_at hl 0 rfl) ?_
                refine zv_iald S hK hP 1 0 rfl rfl (k + 1) hv10 (by omega) (by decide) dX5_generates_238 ?_
                refine zv_iload S dX5_generates_239 (lv_at hl 2 rfl) ?_
                refine zv_icmp_ne (tgt := 256) S (by unfold zR; omega) (by unfold zR; omega) dX5_generates_241 (by decide) (fun c_6 => ?_) (fun c_6 => ?_)
                · exact JN256  (by omega) _ _ hP hD hS _ (lv_sub hl [0, 1, 2, 3, 4, 5, 6, 7, 8] rfl)
                · refine zv_aload_n S dX5_generates_244 rfl (lv_at hl 4 rfl) ?_
                  refine zv_get (C := RX5) (T := TX5) (N := 23) (ci := 5) (v := .ref yy) S in_X5_generates_X5 hK hP 0 rfl rfl 21 (by decide) wd_X5_generates_f48 rfl rfl dX5_generates_245 ?_
                  refine zv_iload S dX5_generates_248 (lv_at hl 0 rfl) ?_
                  refine zv_iald S hK hP 2 0 rfl rfl (k + 1) hv10 (by omega) (by decide) dX5_generates_250 ?_
                  refine zv_iload S dX5_generates_251 (lv_at hl 1 rfl) ?_
                  refine zv_icmp_eq (tgt := 388) S (by unfold zR; omega) (by unfold zR; omega) dX5_generates_253 (by decide) (fun c_7 => ?_) (fun c_7 => ?_)
                  · have hend : X3 (k + 1) = ex ∧ Y3 (k + 1) = ey := (by omega)
                    refine zv_aload_n S dX5_generates_388 rfl (lv_at hl 4 rfl) ?_
                    refine zv_iload S dX5_generates_389 (lv_at hl 0 rfl) ?_
                    refine zv_iconst S dX5_generates_391 ?_
                    refine zv_iadd S dX5_generates_392 ?_
                    refine zv_put (C := RX5) (T := TX5) (N := 23) (ci := 5) (v := .int (zI (v10 + 1))) S in_X5_generates_X5 tyX5 tyX5_ok nmX5 hK hP hD hS 0 rfl rfl 19 (by decide) wd_X5_generates_f134 rfl rfl rfl rfl (Nat.le_of_ble_eq_true rfl) dX5_generates_393 (fun H locs hP hD hS => ?_)
                    have hP : va_P G.1 vwCl [(h0, .inr (5, [.int (zI th), .int (zI sh), .ref ym, .ref ya, .ref yb, .ref yc, .ref ye, .ref yp, .ref yq, .ref yo, .int (zI ro), .long (zL fi), .long (zL la), .long (zL lo), .long (zL hi), .int (zI co), .ref yk, .ref yw, .ref yi, .int (zI (v10 + 1)), .ref yx, .ref yy, .int (zI ir)])), zci G yx 900 X3, zci G yy 900 Y3] H := hP
                    have hD : va_D A [(h0, .inr (5, [.int (zI th), .int (zI sh), .ref ym, .ref ya, .ref yb, .ref yc, .ref ye, .ref yp, .ref yq, .ref yo, .int (zI ro), .long (zL fi), .long (zL la), .long (zL lo), .long (zL hi), .int (zI co), .ref yk, .ref yw, .ref yi, .int (zI (v10 + 1)), .ref yx, .ref yy, .int (zI ir)])), zci G yx 900 X3, zci G yy 900 Y3] := hD
                    have e10 : v10 + 1 = (k : Int) + 2 := by omega
                    rw [e10] at hP hD
                    exact hret _ _ _ _ ⟨fx, fy, ex, ey, sg, (zabs (fx * ey - fy * ex)), k, X3, Y3⟩ dX5_generates_396 ⟨(show zcone x y v w fx fy ex ey sg (zabs (fx * ey - fy * ex)) from hcn), (show (-20 ≤ fx ∧ fx ≤ 20) ∧ (-20 ≤ fy ∧ fy ≤ 20) ∧ (-20 ≤ ex ∧ ex ≤ 20) ∧ (-20 ≤ ey ∧ ey ≤ 20) from ⟨hbfx, hbfy, hbex, hbey⟩), (show zgenA sg fx fy ex ey X3 Y3 k from ⟨_, _, hs2, hch5, hpo, by rw [hend.1, hend.2]; unfold zFL; grind⟩), (show (k : Int) + 1 ≤ (zabs (fx * ey - fy * ex)) from (by have := hch.2.2.2.2.2.2; have := hch.2.2.2.1; omega))⟩ (hP.sub [0, 1, 2] rfl) (hD.sub [0, 1, 2] (by decide) rfl) hS
                  · exact JN256  (by omega) _ _ hP hD hS _ (lv_sub hl [0, 1, 2, 3, 4, 5, 6, 7, 8] rfl)
            exact LP232 _ 0 1 X1 Y1 rfl (fun j hj => by rw [Nat.le_zero.mp hj, hX1, hY1]; rfl) (by rw [hX1, hY1]; exact zchn_0 hct.2.1 hs2) zpos_0 (Nat.lt_succ_self _) _ _ hP hD hS _ (lv_sub hl [0, 1, 2, 3, 4, 5, 6, 7, 8] rfl)
          · refine zv_bipush (v := (-40)) S dX5_generates_81 (by decide) ?_
            refine zv_istore (lv' := [(11, .int (zI (-40))), (10, .int (zI ii)), (9, .int (zI ey)), (8, .int (zI ex)), (7, .int (zI sg)), (0, .ref h0), (1, .int (zI x)), (2, .int (zI y)), (3, .int (zI v)), (4, .int (zI w))]) S dX5_generates_83 hl (by decide) rfl (fun ls hl => ?_)
            have LP85 : ∀ (nf : Nat) (jj : Int) (X2 : Nat → Int) (Y2 : Nat → Int) (hjj : -40 ≤ jj ∧ jj ≤ 41) (hX2 : X2 0 = fx) (hY2 : Y2 0 = fy) (hF2 : zsnd sg fx fy ex ey (X2 1) (Y2 1) ∨ ∀ i j, zseen (-40) (-40) 40 ii jj i j → ¬ zsnd sg fx fy ex ey i j), ((41 - jj).toNat) < nf → ∀ (H : Heap) (locs : List Loc), va_P G.1 vwCl [(h0, .inr (5, [.int (zI th), .int (zI sh), .ref ym, .ref ya, .ref yb, .ref yc, .ref ye, .ref yp, .ref yq, .ref yo, .int (zI ro), .long (zL fi), .long (zL la), .long (zL lo), .long (zL hi), .int (zI co), .ref yk, .ref yw, .ref yi, .int (zI ge0), .ref yx, .ref yy, .int (zI ir)])), zci G yx 900 X2, zci G yy 900 Y2] H → va_D A [(h0, .inr (5, [.int (zI th), .int (zI sh), .ref ym, .ref ya, .ref yb, .ref yc, .ref ye, .ref yp, .ref yq, .ref yo, .int (zI ro), .long (zL fi), .long (zL la), .long (zL lo), .long (zL hi), .int (zI co), .ref yk, .ref yw, .ref yi, .int (zI ge0), .ref yx, .ref yy, .int (zI ir)])), zci G yx 900 X2, zci G yy 900 Y2] → va_S A s.heap H locs → ∀ ls : Array Slot, lv_has ls 14 [(11, .int (zI jj)), (10, .int (zI ii)), (9, .int (zI ey)), (8, .int (zI ex)), (7, .int (zI sg)), (0, .ref h0), (1, .int (zI x)), (2, .int (zI y)), (3, .int (zI v)), (4, .int (zI w))] → W p l e ({ frames := 1, cells := 0, slots := 0, locals := 24 }) s m ([.ref h0, .int (zI x), .int (zI y), .int (zI v), .int (zI w)]).toArray below meth c H locs 0 0 Q (F0 m 85 ls []) := by
              intro nf
              induction nf with
              | zero =>
                intro jj X2 Y2 hjj hX2 hY2 hF2 hf
                exact absurd hf (Nat.not_lt_zero _)
              | succ nf ih85 =>
                intro jj X2 Y2 hjj hX2 hY2 hF2 hf H locs hP hD hS ls hl
                refine zv_iload S dX5_generates_85 (lv_at hl 0 rfl) ?_
                refine zv_bipush (v := 40) S dX5_generates_87 (by decide) ?_
                refine zv_icmp_gt (tgt := 223) S (by unfold zR; omega) (by unfold zR; omega) dX5_generates_89 (by decide) (fun c_8 => ?_) (fun c_8 => ?_)
                · refine zv_iinc (k0 := 1) (lv' := [(10, .int (zI (ii + 1))), (11, .int (zI jj)), (9, .int (zI ey)), (8, .int (zI ex)), (7, .int (zI sg)), (0, .ref h0), (1, .int (zI x)), (2, .int (zI y)), (3, .int (zI v)), (4, .int (zI w))]) S dX5_generates_223 hl rfl (by decide) rfl (fun ls hl => ?_)
                  refine zv_goto (tgt := 74) S dX5_generates_226 (by decide) ?_
                  exact ih74 (ii + 1) X2 Y2 (by omega) hX2 hY2 (by rcases hF2 with h | h; exact Or.inl h; exact Or.inr (fun i j z => h i j ((zseen_n hii.1 (by omega) i j).mpr z))) (by omega) _ _ hP hD hS _ (lv_sub hl [0, 2, 3, 4, 5, 6, 7, 8, 9] rfl)
                · have JN171 : ∀ (nx : Int) (hnx : nx = zb (zsnd sg fx fy ex ey ii jj)) (hnx1 : nx = 0 ∨ nx = 1) (H : Heap) (locs : List Loc), va_P G.1 vwCl [(h0, .inr (5, [.int (zI th), .int (zI sh), .ref ym, .ref ya, .ref yb, .ref yc, .ref ye, .ref yp, .ref yq, .ref yo, .int (zI ro), .long (zL fi), .long (zL la), .long (zL lo), .long (zL hi), .int (zI co), .ref yk, .ref yw, .ref yi, .int (zI ge0), .ref yx, .ref yy, .int (zI ir)])), zci G yx 900 X2, zci G yy 900 Y2] H → va_D A [(h0, .inr (5, [.int (zI th), .int (zI sh), .ref ym, .ref ya, .ref yb, .ref yc, .ref ye, .ref yp, .ref yq, .ref yo, .int (zI ro), .long (zL fi), .long (zL la), .long (zL lo), .long (zL hi), .int (zI co), .ref yk, .ref yw, .ref yi, .int (zI ge0), .ref yx, .ref yy, .int (zI ir)])), zci G yx 900 X2, zci G yy 900 Y2] → va_S A s.heap H locs → ∀ ls : Array Slot, lv_has ls 14 [(11, .int (zI jj)), (10, .int (zI ii)), (9, .int (zI ey)), (8, .int (zI ex)), (7, .int (zI sg)), (0, .ref h0), (1, .int (zI x)), (2, .int (zI y)), (3, .int (zI v)), (4, .int (zI w))] → W p l e ({ frames := 1, cells := 0, slots := 0, locals := 24 }) s m ([.ref h0, .int (zI x), .int (zI y), .int (zI v), .int (zI w)]).toArray below meth c H locs 0 0 Q (F0 m 171 ls [.int (zI nx)]) := by
                    intro nx hnx hnx1 H locs hP hD hS ls hl
                    refine zv_istore (lv' := [(12, .int (zI nx)), (11, .int (zI jj)), (10, .int (zI ii)), (9, .int (zI ey)), (8, .int (zI ex)), (7, .int (zI sg)), (0, .ref h0), (1, .int (zI x)), (2, .int (zI y)), (3, .int (zI v)), (4, .int (zI w))]) S dX5_generates_171 hl (by decide) rfl (fun ls hl => ?_)
                    have JN194 : ∀ (vx : Int) (hvx : ¬ nx = 0 ∧ vx = ii ∨ nx = 0 ∧ vx = X2 1) (H : Heap) (locs : List Loc), va_P G.1 vwCl [(h0, .inr (5, [.int (zI th), .int (zI sh), .ref ym, .ref ya, .ref yb, .ref yc, .ref ye, .ref yp, .ref yq, .ref yo, .int (zI ro), .long (zL fi), .long (zL la), .long (zL lo), .long (zL hi), .int (zI co), .ref yk, .ref yw, .ref yi, .int (zI ge0), .ref yx, .ref yy, .int (zI ir)])), zci G yx 900 X2, zci G yy 900 Y2] H → va_D A [(h0, .inr (5, [.int (zI th), .int (zI sh), .ref ym, .ref ya, .ref yb, .ref yc, .ref ye, .ref yp, .ref yq, .ref yo, .int (zI ro), .long (zL fi), .long (zL la), .long (zL lo), .long (zL hi), .int (zI co), .ref yk, .ref yw, .ref yi, .int (zI ge0), .ref yx, .ref yy, .int (zI ir)])), zci G yx 900 X2, zci G yy 900 Y2] → va_S A s.heap H locs → ∀ ls : Array Slot, lv_has ls 14 [(12, .int (zI nx)), (11, .int (zI jj)), (10, .int (zI ii)), (9, .int (zI ey)), (8, .int (zI ex)), (7, .int (zI sg)), (0, .ref h0), (1, .int (zI x)), (2, .int (zI y)), (3, .int (zI v)), (4, .int (zI w))] → W p l e ({ frames := 1, cells := 0, slots := 0, locals := 24 }) s m ([.ref h0, .int (zI x), .int (zI y), .int (zI v), .int (zI w)]).toArray below meth c H locs 0 0 Q (F0 m 194 ls [.int (zI vx), .int (zI 1), .ref yx]) := by
                      intro vx hvx H locs hP hD hS ls hl
                      refine zv_iast S hK hP hD hS 1 0 rfl rfl 1 rfl (by decide) (by decide) dX5_generates_194 (fun H locs hP hD hS => ?_)
                      have hP : va_P G.1 vwCl [(h0, .inr (5, [.int (zI th), .int (zI sh), .ref ym, .ref ya, .ref yb, .ref yc, .ref ye, .ref yp, .ref yq, .ref yo, .int (zI ro), .long (zL fi), .long (zL la), .long (zL lo), .long (zL hi), .int (zI co), .ref yk, .ref yw, .ref yi, .int (zI ge0), .ref yx, .ref yy, .int (zI ir)])), zci G yx 900 (zU X2 1 vx), zci G yy 900 Y2] H := hP
                      have hD : va_D A [(h0, .inr (5, [.int (zI th), .int (zI sh), .ref ym, .ref ya, .ref yb, .ref yc, .ref ye, .ref yp, .ref yq, .ref yo, .int (zI ro), .long (zL fi), .long (zL la), .long (zL lo), .long (zL hi), .int (zI co), .ref yk, .ref yw, .ref yi, .int (zI ge0), .ref yx, .ref yy, .int (zI ir)])), zci G yx 900 (zU X2 1 vx), zci G yy 900 Y2] := hD
                      have JN216 : ∀ (vy : Int) (hvy : ¬ nx = 0 ∧ vy = jj ∨ nx = 0 ∧ vy = Y2 1) (H : Heap) (locs : List Loc), va_P G.1 vwCl [(h0, .inr (5, [.int (zI th), .int (zI sh), .ref ym, .ref ya, .ref yb, .ref yc, .ref ye, .ref yp, .ref yq, .ref yo, .int (zI ro), .long (zL fi), .long (zL la), .long (zL lo), .long (zL hi), .int (zI co), .ref yk, .ref yw, .ref yi, .int (zI ge0), .ref yx, .ref yy, .int (zI ir)])), zci G yx 900 (zU X2 1 vx), zci G yy 900 Y2] H → va_D A [(h0, .inr (5, [.int (zI th), .int (zI sh), .ref ym, .ref ya, .ref yb, .ref yc, .ref ye, .ref yp, .ref yq, .ref yo, .int (zI ro), .long (zL fi), .long (zL la), .long (zL lo), .long (zL hi), .int (zI co), .ref yk, .ref yw, .ref yi, .int (zI ge0), .ref yx, .ref yy, .int (zI ir)])), zci G yx 900 (zU X2 1 vx), zci G yy 900 Y2] → va_S A s.heap H locs → ∀ ls : Array Slot, lv_has ls 14 [(12, .int (zI nx)), (11, .int (zI jj)), (10, .int (zI ii)), (9, .int (zI ey)), (8, .int (zI ex)), (7, .int (zI sg)), (0, .ref h0), (1, .int (zI x)), (2, .int (zI y)), (3, .int (zI v)), (4, .int (zI w))] → W p l e ({ frames := 1, cells := 0, slots := 0, locals := 24 }) s m ([.ref h0, .int (zI x), .int (zI y), .int (zI v), .int (zI w)]).toArray below meth c H locs 0 0 Q (F0 m 216 ls [.int (zI vy), .int (zI 1), .ref yy]) := by
                        intro vy hvy H locs hP hD hS ls hl
                        refine zv_iast S hK hP hD hS 2 0 rfl rfl 1 rfl (by decide) (by decide) dX5_generates_216 (fun H locs hP hD hS => ?_)
                        have hP : va_P G.1 vwCl [(h0, .inr (5, [.int (zI th), .int (zI sh), .ref ym, .ref ya, .ref yb, .ref yc, .ref ye, .ref yp, .ref yq, .ref yo, .int (zI ro), .long (zL fi), .long (zL la), .long (zL lo), .long (zL hi), .int (zI co), .ref yk, .ref yw, .ref yi, .int (zI ge0), .ref yx, .ref yy, .int (zI ir)])), zci G yx 900 (zU X2 1 vx), zci G yy 900 (zU Y2 1 vy)] H := hP
                        have hD : va_D A [(h0, .inr (5, [.int (zI th), .int (zI sh), .ref ym, .ref ya, .ref yb, .ref yc, .ref ye, .ref yp, .ref yq, .ref yo, .int (zI ro), .long (zL fi), .long (zL la), .long (zL lo), .long (zL hi), .int (zI co), .ref yk, .ref yw, .ref yi, .int (zI ge0), .ref yx, .ref yy, .int (zI ir)])), zci G yx 900 (zU X2 1 vx), zci G yy 900 (zU Y2 1 vy)] := hD
                        refine zv_iinc (k0 := 1) (lv' := [(11, .int (zI (jj + 1))), (12, .int (zI nx)), (10, .int (zI ii)), (9, .int (zI ey)), (8, .int (zI ex)), (7, .int (zI sg)), (0, .ref h0), (1, .int (zI x)), (2, .int (zI y)), (3, .int (zI v)), (4, .int (zI w))]) S dX5_generates_217 hl rfl (by decide) rfl (fun ls hl => ?_)
                        refine zv_goto (tgt := 85) S dX5_generates_220 (by decide) ?_
                        exact ih85 (jj + 1) (zU X2 1 vx) (zU Y2 1 vy) (by omega) (by rw [zU_ne (by decide)]; exact hX2) (by rw [zU_ne (by decide)]; exact hY2) (zsf_s hF2 (zseen_s hjj.1) hnx hvx hvy) (by omega) _ _ hP hD hS _ (lv_sub hl [0, 2, 3, 4, 5, 6, 7, 8, 9, 10] rfl)
                      refine zv_aload_n S dX5_generates_195 rfl (lv_at hl 6 rfl) ?_
                      refine zv_get (C := RX5) (T := TX5) (N := 23) (ci := 5) (v := .ref yy) S in_X5_generates_X5 hK hP 0 rfl rfl 21 (by decide) wd_X5_generates_f48 rfl rfl dX5_generates_196 ?_
                      refine zv_iconst S dX5_generates_199 ?_
                      refine zv_iload S dX5_generates_200 (lv_at hl 0 rfl) ?_
                      refine zv_if_eq (tgt := 210) S (by unfold zR; omega) dX5_generates_202 (by decide) (fun c_9 => ?_) (fun c_9 => ?_)
                      · refine zv_aload_n S dX5_generates_210 rfl (lv_at hl 6 rfl) ?_
                        refine zv_get (C := RX5) (T := TX5) (N := 23) (ci := 5) (v := .ref yy) S in_X5_generates_X5 hK hP 0 rfl rfl 21 (by decide) wd_X5_generates_f48 rfl rfl dX5_generates_211 ?_
                        refine zv_iconst S dX5_generates_214 ?_
                        refine zv_iald S hK hP 2 0 rfl rfl 1 rfl (by decide) (by decide) dX5_generates_215 ?_
                        exact JN216 (Y2 1) (by omega) _ _ hP hD hS _ (lv_sub hl [0, 1, 2, 3, 4, 5, 6, 7, 8, 9, 10] rfl)
                      · refine zv_iload S dX5_generates_205 (lv_at hl 1 rfl) ?_
                        refine zv_goto (tgt := 216) S dX5_generates_207 (by decide) ?_
                        exact JN216 jj (by omega) _ _ hP hD hS _ (lv_sub hl [0, 1, 2, 3, 4, 5, 6, 7, 8, 9, 10] rfl)
                    refine zv_aload_n S dX5_generates_173 rfl (lv_at hl 6 rfl) ?_
                    refine zv_get (C := RX5) (T := TX5) (N := 23) (ci := 5) (v := .ref yx) S in_X5_generates_X5 hK hP 0 rfl rfl 20 (by decide) wd_X5_generates_f45 rfl rfl dX5_generates_174 ?_
                    refine zv_iconst S dX5_generates_177 ?_
                    refine zv_iload S dX5_generates_178 (lv_at hl 0 rfl) ?_
                    refine zv_if_eq (tgt := 188) S (by unfold zR; omega) dX5_generates_180 (by decide) (fun c_10 => ?_) (fun c_10 => ?_)
                    · refine zv_aload_n S dX5_generates_188 rfl (lv_at hl 6 rfl) ?_
                      refine zv_get (C := RX5) (T := TX5) (N := 23) (ci := 5) (v := .ref yx) S in_X5_generates_X5 hK hP 0 rfl rfl 20 (by decide) wd_X5_generates_f45 rfl rfl dX5_generates_189 ?_
                      refine zv_iconst S dX5_generates_192 ?_
                      refine zv_iald S hK hP 1 0 rfl rfl 1 rfl (by decide) (by decide) dX5_generates_193 ?_
                      exact JN194 (X2 1) (by omega) _ _ hP hD hS _ (lv_sub hl [0, 1, 2, 3, 4, 5, 6, 7, 8, 9, 10] rfl)
                    · refine zv_iload S dX5_generates_183 (lv_at hl 2 rfl) ?_
                      refine zv_goto (tgt := 194) S dX5_generates_185 (by decide) ?_
                      exact JN194 ii (by omega) _ _ hP hD hS _ (lv_sub hl [0, 1, 2, 3, 4, 5, 6, 7, 8, 9, 10] rfl)
                  have xb : -20 ≤ X2 0 ∧ X2 0 ≤ 20 := by omega
                  have yb1 : -20 ≤ Y2 0 ∧ Y2 0 ≤ 20 := by omega
                  have hs1 := (zcone_t hcn).1
                  have d1 := (zdist_b (x := ii) (y := jj) hs1 xb yb1 (by omega) (by omega)).1
                  have d2 := (zdist_b (x := ii) (y := jj) hs1 hbex hbey (by omega) (by omega)).2
                  have e1 := zmulb (a := ii - X2 0) (b := ey) (A := 60) (B := 20) (by omega) (by omega) (by omega) (by omega)
                  have e2 := zmulb (a := jj - Y2 0) (b := ex) (A := 60) (B := 20) (by omega) (by omega) (by omega) (by omega)
                  have d3 : -2400 ≤ (sg * ((ii - X2 0) * ey - (jj - Y2 0) * ex)) ∧ (sg * ((ii - X2 0) * ey - (jj - Y2 0) * ex)) ≤ 2400 := by rcases hs1 with h | h <;> rw [h] <;> omega
                  unfold zFF at d1
                  unfold zFL at d2
                  refine zv_iload S dX5_generates_92 (lv_at hl 4 rfl) ?_
                  refine zv_aload_n S dX5_generates_94 rfl (lv_at hl 5 rfl) ?_
                  refine zv_get (C := RX5) (T := TX5) (N := 23) (ci := 5) (v := .ref yx) S in_X5_generates_X5 hK hP 0 rfl rfl 20 (by decide) wd_X5_generates_f45 rfl rfl dX5_generates_95 ?_
                  refine zv_iconst S dX5_generates_98 ?_
                  refine zv_iald S hK hP 1 0 rfl rfl 0 rfl (by decide) (by decide) dX5_generates_99 ?_
                  refine zv_iload S dX5_generates_100 (lv_at hl 0 rfl) ?_
                  refine zv_imul S dX5_generates_102 ?_
                  refine zv_aload_n S dX5_generates_103 rfl (lv_at hl 5 rfl) ?_
                  refine zv_get (C := RX5) (T := TX5) (N := 23) (ci := 5) (v := .ref yy) S in_X5_generates_X5 hK hP 0 rfl rfl 21 (by decide) wd_X5_generates_f48 rfl rfl dX5_generates_104 ?_
                  refine zv_iconst S dX5_generates_107 ?_
                  refine zv_iald S hK hP 2 0 rfl rfl 0 rfl (by decide) (by decide) dX5_generates_108 ?_
                  refine zv_iload S dX5_generates_109 (lv_at hl 1 rfl) ?_
                  refine zv_imul S dX5_generates_111 ?_
                  refine zv_isub S dX5_generates_112 ?_
                  refine zv_imul S dX5_generates_113 ?_
                  refine zv_iconst S dX5_generates_114 ?_
                  refine zv_icmp_ne (tgt := 170) S (by unfold zR; omega) (by unfold zR; omega) dX5_generates_115 (by decide) (fun c_11 => ?_) (fun c_11 => ?_)
                  · refine zv_iconst S dX5_generates_170 ?_
                    exact JN171 0 (zb_f (by unfold zsnd zFF zFL; rw [← hX2, ← hY2]; omega)).symm (Or.inl rfl) _ _ hP hD hS _ (lv_sub hl [0, 1, 2, 3, 4, 5, 6, 7, 8, 9] rfl)
                  · refine zv_iload S dX5_generates_118 (lv_at hl 4 rfl) ?_
                    refine zv_iload S dX5_generates_120 (lv_at hl 1 rfl) ?_
                    refine zv_iload S dX5_generates_122 (lv_at hl 2 rfl) ?_
                    refine zv_imul S dX5_generates_124 ?_
                    refine zv_iload S dX5_generates_125 (lv_at hl 0 rfl) ?_
                    refine zv_iload S dX5_generates_127 (lv_at hl 3 rfl) ?_
                    refine zv_imul S dX5_generates_129 ?_
                    refine zv_isub S dX5_generates_130 ?_
                    refine zv_imul S dX5_generates_131 ?_
                    refine zv_if_lt (tgt := 170) S (by unfold zR; omega) dX5_generates_132 (by decide) (fun c_12 => ?_) (fun c_12 => ?_)
                    · refine zv_iconst S dX5_generates_170 ?_
                      exact JN171 0 (zb_f (by unfold zsnd zFF zFL; rw [← hX2, ← hY2]; omega)).symm (Or.inl rfl) _ _ hP hD hS _ (lv_sub hl [0, 1, 2, 3, 4, 5, 6, 7, 8, 9] rfl)
                    · refine zv_iload S dX5_generates_135 (lv_at hl 4 rfl) ?_
                      refine zv_iload S dX5_generates_137 (lv_at hl 1 rfl) ?_
                      refine zv_aload_n S dX5_generates_139 rfl (lv_at hl 5 rfl) ?_
                      refine zv_get (C := RX5) (T := TX5) (N := 23) (ci := 5) (v := .ref yx) S in_X5_generates_X5 hK hP 0 rfl rfl 20 (by decide) wd_X5_generates_f45 rfl rfl dX5_generates_140 ?_
                      refine zv_iconst S dX5_generates_143 ?_
                      refine zv_iald S hK hP 1 0 rfl rfl 0 rfl (by decide) (by decide) dX5_generates_144 ?_
                      refine zv_isub S dX5_generates_145 ?_
                      refine zv_iload S dX5_generates_146 (lv_at hl 2 rfl) ?_
                      refine zv_imul S dX5_generates_148 ?_
                      refine zv_iload S dX5_generates_149 (lv_at hl 0 rfl) ?_
                      refine zv_aload_n S dX5_generates_151 rfl (lv_at hl 5 rfl) ?_
                      refine zv_get (C := RX5) (T := TX5) (N := 23) (ci := 5) (v := .ref yy) S in_X5_generates_X5 hK hP 0 rfl rfl 21 (by decide) wd_X5_generates_f48 rfl rfl dX5_generates_152 ?_
                      refine zv_iconst S dX5_generates_155 ?_
                      refine zv_iald S hK hP 2 0 rfl rfl 0 rfl (by decide) (by decide) dX5_generates_156 ?_
                      refine zv_isub S dX5_generates_157 ?_
                      refine zv_iload S dX5_generates_158 (lv_at hl 3 rfl) ?_
                      refine zv_imul S dX5_generates_160 ?_
                      refine zv_isub S dX5_generates_161 ?_
                      refine zv_imul S dX5_generates_162 ?_
                      refine zv_if_ge (tgt := 170) S (by unfold zR; omega) dX5_generates_163 (by decide) (fun c_13 => ?_) (fun c_13 => ?_)
                      · refine zv_iconst S dX5_generates_170 ?_
                        exact JN171 0 (zb_f (by unfold zsnd zFF zFL; rw [← hX2, ← hY2]; omega)).symm (Or.inl rfl) _ _ hP hD hS _ (lv_sub hl [0, 1, 2, 3, 4, 5, 6, 7, 8, 9] rfl)
                      · refine zv_iconst S dX5_generates_166 ?_
                        refine zv_goto (tgt := 171) S dX5_generates_167 (by decide) ?_
                        exact JN171 1 (zb_t (by unfold zsnd zFF zFL; rw [← hX2, ← hY2]; exact ⟨by omega, by omega, by omega⟩)).symm (Or.inr rfl) _ _ hP hD hS _ (lv_sub hl [0, 1, 2, 3, 4, 5, 6, 7, 8, 9] rfl)
            exact LP85 _ (-40) X1 Y1 (by omega) hX1 hY1 hF1 (Nat.lt_succ_self _) _ _ hP hD hS _ (lv_sub hl [0, 1, 2, 3, 4, 5, 6, 7, 8, 9] rfl)
      exact LP74 _ (-40) X0 Y0 (by omega) hX0 hY0 (Or.inr (fun i j z => absurd z (zseen_0 i j))) (Nat.lt_succ_self _) _ _ hP hD hS _ (lv_sub hl [0, 1, 2, 3, 4, 5, 6, 7, 8] rfl)
    refine zv_aload_n S dX5_generates_45 rfl (lv_at hl 5 rfl) ?_
    refine zv_get (C := RX5) (T := TX5) (N := 23) (ci := 5) (v := .ref yx) S in_X5_generates_X5 hK hP 0 rfl rfl 20 (by decide) wd_X5_generates_f45 rfl rfl dX5_generates_46 ?_
    refine zv_iconst S dX5_generates_49 ?_
    refine zv_iload_n S dX5_generates_50 rfl (lv_at hl 6 rfl) ?_
    refine zv_iload S dX5_generates_51 (lv_at hl 4 rfl) ?_
    refine zv_idiv S (by unfold zR; omega) (by unfold zR; omega) (by omega) (by omega) dX5_generates_53 ?_
    refine zv_iast S hK hP hD hS 1 0 rfl rfl 0 rfl (by decide) (by decide) dX5_generates_54 (fun H locs hP hD hS => ?_)
    have hP : va_P G.1 vwCl [(h0, .inr (5, [.int (zI th), .int (zI sh), .ref ym, .ref ya, .ref yb, .ref yc, .ref ye, .ref yp, .ref yq, .ref yo, .int (zI ro), .long (zL fi), .long (zL la), .long (zL lo), .long (zL hi), .int (zI co), .ref yk, .ref yw, .ref yi, .int (zI ge), .ref yx, .ref yy, .int (zI ir)])), zci G yx 900 (zU GX 0 (x.tdiv ((Nat.gcd x.natAbs y.natAbs : Nat) : Int))), zci G yy 900 GY] H := hP
    have hD : va_D A [(h0, .inr (5, [.int (zI th), .int (zI sh), .ref ym, .ref ya, .ref yb, .ref yc, .ref ye, .ref yp, .ref yq, .ref yo, .int (zI ro), .long (zL fi), .long (zL la), .long (zL lo), .long (zL hi), .int (zI co), .ref yk, .ref yw, .ref yi, .int (zI ge), .ref yx, .ref yy, .int (zI ir)])), zci G yx 900 (zU GX 0 (x.tdiv ((Nat.gcd x.natAbs y.natAbs : Nat) : Int))), zci G yy 900 GY] := hD
    refine zv_aload_n S dX5_generates_55 rfl (lv_at hl 5 rfl) ?_
    refine zv_get (C := RX5) (T := TX5) (N := 23) (ci := 5) (v := .ref yy) S in_X5_generates_X5 hK hP 0 rfl rfl 21 (by decide) wd_X5_generates_f48 rfl rfl dX5_generates_56 ?_
    refine zv_iconst S dX5_generates_59 ?_
    refine zv_iload_n S dX5_generates_60 rfl (lv_at hl 7 rfl) ?_
    refine zv_iload S dX5_generates_61 (lv_at hl 4 rfl) ?_
    refine zv_idiv S (by unfold zR; omega) (by unfold zR; omega) (by omega) (by omega) dX5_generates_63 ?_
    refine zv_iast S hK hP hD hS 2 0 rfl rfl 0 rfl (by decide) (by decide) dX5_generates_64 (fun H locs hP hD hS => ?_)
    have hP : va_P G.1 vwCl [(h0, .inr (5, [.int (zI th), .int (zI sh), .ref ym, .ref ya, .ref yb, .ref yc, .ref ye, .ref yp, .ref yq, .ref yo, .int (zI ro), .long (zL fi), .long (zL la), .long (zL lo), .long (zL hi), .int (zI co), .ref yk, .ref yw, .ref yi, .int (zI ge), .ref yx, .ref yy, .int (zI ir)])), zci G yx 900 (zU GX 0 (x.tdiv ((Nat.gcd x.natAbs y.natAbs : Nat) : Int))), zci G yy 900 (zU GY 0 (y.tdiv ((Nat.gcd x.natAbs y.natAbs : Nat) : Int)))] H := hP
    have hD : va_D A [(h0, .inr (5, [.int (zI th), .int (zI sh), .ref ym, .ref ya, .ref yb, .ref yc, .ref ye, .ref yp, .ref yq, .ref yo, .int (zI ro), .long (zL fi), .long (zL la), .long (zL lo), .long (zL hi), .int (zI co), .ref yk, .ref yw, .ref yi, .int (zI ge), .ref yx, .ref yy, .int (zI ir)])), zci G yx 900 (zU GX 0 (x.tdiv ((Nat.gcd x.natAbs y.natAbs : Nat) : Int))), zci G yy 900 (zU GY 0 (y.tdiv ((Nat.gcd x.natAbs y.natAbs : Nat) : Int)))] := hD
    refine zv_aload_n S dX5_generates_65 rfl (lv_at hl 5 rfl) ?_
    refine zv_iconst S dX5_generates_66 ?_
    refine zv_put (C := RX5) (T := TX5) (N := 23) (ci := 5) (v := .int (zI 1)) S in_X5_generates_X5 tyX5 tyX5_ok nmX5 hK hP hD hS 0 rfl rfl 19 (by decide) wd_X5_generates_f134 rfl rfl rfl rfl (Nat.le_of_ble_eq_true rfl) dX5_generates_67 (fun H locs hP hD hS => ?_)
    have hP : va_P G.1 vwCl [(h0, .inr (5, [.int (zI th), .int (zI sh), .ref ym, .ref ya, .ref yb, .ref yc, .ref ye, .ref yp, .ref yq, .ref yo, .int (zI ro), .long (zL fi), .long (zL la), .long (zL lo), .long (zL hi), .int (zI co), .ref yk, .ref yw, .ref yi, .int (zI 1), .ref yx, .ref yy, .int (zI ir)])), zci G yx 900 (zU GX 0 (x.tdiv ((Nat.gcd x.natAbs y.natAbs : Nat) : Int))), zci G yy 900 (zU GY 0 (y.tdiv ((Nat.gcd x.natAbs y.natAbs : Nat) : Int)))] H := hP
    have hD : va_D A [(h0, .inr (5, [.int (zI th), .int (zI sh), .ref ym, .ref ya, .ref yb, .ref yc, .ref ye, .ref yp, .ref yq, .ref yo, .int (zI ro), .long (zL fi), .long (zL la), .long (zL lo), .long (zL hi), .int (zI co), .ref yk, .ref yw, .ref yi, .int (zI 1), .ref yx, .ref yy, .int (zI ir)])), zci G yx 900 (zU GX 0 (x.tdiv ((Nat.gcd x.natAbs y.natAbs : Nat) : Int))), zci G yy 900 (zU GY 0 (y.tdiv ((Nat.gcd x.natAbs y.natAbs : Nat) : Int)))] := hD
    exact JN70 (v.tdiv ((Nat.gcd v.natAbs w.natAbs : Nat) : Int)) (w.tdiv ((Nat.gcd v.natAbs w.natAbs : Nat) : Int)) (x.tdiv ((Nat.gcd x.natAbs y.natAbs : Nat) : Int)) (y.tdiv ((Nat.gcd x.natAbs y.natAbs : Nat) : Int)) (zU GX 0 (x.tdiv ((Nat.gcd x.natAbs y.natAbs : Nat) : Int))) (zU GY 0 (y.tdiv ((Nat.gcd x.natAbs y.natAbs : Nat) : Int))) 1 (zcone_sg hd1 hd2 hne hsg).1 (zcone_sg hd1 hd2 hne hsg).2 t1 t2 t3 t4 zU_same zU_same _ _ hP hD hS _ (lv_sub hl [0, 1, 2, 5, 6, 7, 8, 9] rfl)
  refine zv_iload_n S dX5_generates_15 rfl (lv_at hl 3 rfl) ?_
  refine zv_iload S dX5_generates_16 (lv_at hl 6 rfl) ?_
  refine zv_imul S dX5_generates_18 ?_
  refine zv_iload_n S dX5_generates_19 rfl (lv_at hl 4 rfl) ?_
  refine zv_iload_n S dX5_generates_20 rfl (lv_at hl 5 rfl) ?_
  refine zv_imul S dX5_generates_21 ?_
  refine zv_icmp_le (tgt := 29) S (by unfold zR; omega) (by unfold zR; omega) dX5_generates_22 (by decide) (fun c_14 => ?_) (fun c_14 => ?_)
  · refine zv_iconst S dX5_generates_29 ?_
    exact JN30 (-1) (by omega) _ _ hP hD hS _ (lv_sub hl [0, 1, 2, 3, 4, 5, 6] rfl)
  · refine zv_iconst S dX5_generates_25 ?_
    refine zv_goto (tgt := 30) S dX5_generates_26 (by decide) ?_
    exact JN30 1 (by omega) _ _ hP hD hS _ (lv_sub hl [0, 1, 2, 3, 4, 5, 6] rfl)
