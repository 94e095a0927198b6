theorem wd_X1_span_stX4_greatestDivisor : Cond.static yX4_greatestDivisor ∈ wsX1_span := by decide +kernel
theorem wd_X1_span_inX4 : Cond.initialized RX4 ∈ wsX1_span := by decide +kernel
theorem wd_X1_span_f19 : Cond.fieldLink RX1 19 "PointMill$Cone" "firstX" "I" ∈ wsX1_span := by decide +kernel
theorem in_X1_span_X1 : ∀ w ∈ wsX10, w ∈ wsX1_span := by decide +kernel
theorem wd_X1_span_f23 : Cond.fieldLink RX1 23 "PointMill$Cone" "firstY" "I" ∈ wsX1_span := by decide +kernel
theorem wd_X1_span_f26 : Cond.fieldLink RX1 26 "PointMill$Cone" "lastX" "I" ∈ wsX1_span := by decide +kernel
theorem wd_X1_span_f29 : Cond.fieldLink RX1 29 "PointMill$Cone" "lastY" "I" ∈ wsX1_span := by decide +kernel
theorem wd_X1_span_f32 : Cond.fieldLink RX1 32 "PointMill$Cone" "turn" "I" ∈ wsX1_span := by decide +kernel
theorem wd_X1_span_m35 : Cond.methodLink RX1 35 Lib.Math.abs.name ∈ wsX1_span := by decide +kernel
theorem wd_X1_span_sabs : Cond.static Lib.Math.abs.name ∈ wsX1_span := by decide +kernel
theorem wd_X1_span_iM : Cond.initialized "java/lang/Math" ∈ wsX1_span := by decide +kernel
theorem wd_X1_span_cabs : Cond.code Lib.Math.abs.name Lib.Math.abs.code 1 (some .int) ∈ wsX1_span := by decide +kernel
theorem wd_X1_span_f41 : Cond.fieldLink RX1 41 "PointMill$Cone" "area" "I" ∈ wsX1_span := by decide +kernel
set_option maxHeartbeats 4000000 in
set_option maxRecDepth 100000 in
/-- Cone.span -/
theorem c_X1_span (l : Launch) (G : zG) (sz : Nat) (h0 : Nat) (qv : Nat) (fx : Int) (fy : Int) (lx : Int) (ly : Int) (tn : Int) (ar : Int) (wx : Int) (wy : Int) (x : Int) (y : Int) (v : Int) (w : Int) (hx : -20 ≤ x ∧ x ≤ 20) (hy : -20 ≤ y ∧ y ≤ 20) (hv : -20 ≤ v ∧ v ≤ 20) (hw : -20 ≤ w ∧ w ≤ 20) : Met l yX1_span wsX1_span ({ frames := 2, cells := 0, slots := 0, locals := 38 }) (va_Pc [.ref h0, .int (zI x), .int (zI y), .int (zI v), .int (zI w)] (zPre G sz [(h0, .inr (1, [.ref qv, .int (zI fx), .int (zI fy), .int (zI lx), .int (zI ly), .int (zI tn), .int (zI ar), .int (zI wx), .int (zI wy)]))])) (va_Qi (fun (r : Int32) (u : (Int) × (Int) × (Int) × (Int) × (Int) × (Int)) => r = zI (zb (x * w - y * v ≠ 0)) ∧ (x * w - y * v ≠ 0 → zcone x y v w u.1 u.2.1 u.2.2.1 u.2.2.2.1 u.2.2.2.2.1 u.2.2.2.2.2) ∧ (x * w - y * v ≠ 0 → ((-20 ≤ u.1 ∧ u.1 ≤ 20) ∧ (-20 ≤ u.2.1 ∧ u.2.1 ≤ 20) ∧ (-20 ≤ u.2.2.1 ∧ u.2.2.1 ≤ 20) ∧ (-20 ≤ u.2.2.2.1 ∧ u.2.2.2.1 ≤ 20)))) (fun u => zW G (va_A [(h0, .inr (1, [.ref qv, .int (zI fx), .int (zI fy), .int (zI lx), .int (zI ly), .int (zI tn), .int (zI ar), .int (zI wx), .int (zI wy)]))] sz) ((fun (u : (Int) × (Int) × (Int) × (Int) × (Int) × (Int)) => [(h0, .inr (1, [.ref qv, .int (zI u.1), .int (zI u.2.1), .int (zI u.2.2.1), .int (zI u.2.2.2.1), .int (zI u.2.2.2.2.1), .int (zI u.2.2.2.2.2), .int (zI wx), .int (zI wy)]))]) u)) (va_A [(h0, .inr (1, [.ref qv, .int (zI fx), .int (zI fy), .int (zI lx), .int (zI ly), .int (zI tn), .int (zI ar), .int (zI wx), .int (zI wy)]))] sz)) 0 0 (va_A [(h0, .inr (1, [.ref qv, .int (zI fx), .int (zI fy), .int (zI lx), .int (zI ly), .int (zI tn), .int (zI ar), .int (zI wx), .int (zI wy)]))] sz) := by
  refine zM_z (post := fun (r : Int32) (u : (Int) × (Int) × (Int) × (Int) × (Int) × (Int)) => r = zI (zb (x * w - y * v ≠ 0)) ∧ (x * w - y * v ≠ 0 → zcone x y v w u.1 u.2.1 u.2.2.1 u.2.2.2.1 u.2.2.2.2.1 u.2.2.2.2.2) ∧ (x * w - y * v ≠ 0 → ((-20 ≤ u.1 ∧ u.1 ≤ 20) ∧ (-20 ≤ u.2.1 ∧ u.2.1 ≤ 20) ∧ (-20 ≤ u.2.2.1 ∧ u.2.2.1 ≤ 20) ∧ (-20 ≤ u.2.2.2.1 ∧ u.2.2.2.1 ≤ 20)))) (w1 := fun (u : (Int) × (Int) × (Int) × (Int) × (Int) × (Int)) => [(h0, .inr (1, [.ref qv, .int (zI u.1), .int (zI u.2.1), .int (zI u.2.2.1), .int (zI u.2.2.2.1), .int (zI u.2.2.2.2.1), .int (zI u.2.2.2.2.2), .int (zI wx), .int (zI wy)]))]) (plainFor_of_name (by decide)) rfl (Nat.le_of_ble_eq_true rfl) ?_
  intro p e s m below meth c A Q S hN hK hP hD hS hA hret ls hl
  have hl : lv_has ls 8 [(0, .ref h0), (1, .int (zI x)), (2, .int (zI y)), (3, .int (zI v)), (4, .int (zI w))] := hl
  refine zv_iload_n S dX1_span_0 rfl (lv_at hl 1 rfl) ?_
  refine zv_iload_n S dX1_span_1 rfl (lv_at hl 2 rfl) ?_
  refine zc_Ni (As := [.int (zI x), .int (zI y)]) (rest := []) (wr := [(h0, .inr (1, [.ref qv, .int (zI fx), .int (zI fy), .int (zI lx), .int (zI ly), .int (zI tn), .int (zI ar), .int (zI wx), .int (zI wy)]))]) (n := 2) S hN hK hP hD hS hA hl (c_X4_greatestDivisor l G s.heap.size x y (by omega) (by omega)) ggX1_span_X4_greatestDivisor (List.mem_of_getElem? (i := 16) rfl) wd_X1_span_stX4_greatestDivisor wd_X1_span_inX4 rfl ⟨rfl, rfl⟩ (by decide +kernel) rfl ⟨Nat.le_of_ble_eq_true rfl, Nat.le_of_ble_eq_true rfl, Nat.le_of_ble_eq_true rfl, Nat.le_of_ble_eq_true rfl⟩ [] [0] rfl rfl (by decide) (by decide) (by decide) (Nat.le_of_ble_eq_true rfl) dX1_span_2 rfl (fun r_ u_1 H1 locs1 hp_2 hP1 hD1 hS1 hz1 => ?_)
  try dsimp only at hp_2 hP1 hD1
  subst hp_2
  generalize H1 = H at hP1 hD1 hS1 hz1 ⊢
  generalize locs1 = locs at hS1 ⊢
  have hS := hS1
  have hP : va_P G.1 vwCl [(h0, .inr (1, [.ref qv, .int (zI fx), .int (zI fy), .int (zI lx), .int (zI ly), .int (zI tn), .int (zI ar), .int (zI wx), .int (zI wy)]))] H := hP1
  have hD : va_D A [(h0, .inr (1, [.ref qv, .int (zI fx), .int (zI fy), .int (zI lx), .int (zI ly), .int (zI tn), .int (zI ar), .int (zI wx), .int (zI wy)]))] := hD1
  refine zv_istore (lv' := [(5, .int (zI ((Nat.gcd x.natAbs y.natAbs : Nat) : Int))), (0, .ref h0), (1, .int (zI x)), (2, .int (zI y)), (3, .int (zI v)), (4, .int (zI w))]) S dX1_span_5 hl (by decide) rfl (fun ls hl => ?_)
  refine zv_iload_n S dX1_span_7 rfl (lv_at hl 4 rfl) ?_
  refine zv_iload S dX1_span_8 (lv_at hl 5 rfl) ?_
  refine zc_Ni (As := [.int (zI v), .int (zI w)]) (rest := []) (wr := [(h0, .inr (1, [.ref qv, .int (zI fx), .int (zI fy), .int (zI lx), .int (zI ly), .int (zI tn), .int (zI ar), .int (zI wx), .int (zI wy)]))]) (n := 2) S hN hK hP hD hS hA hl (c_X4_greatestDivisor l G H.size v w (by omega) (by omega)) ggX1_span_X4_greatestDivisor (List.mem_of_getElem? (i := 16) rfl) wd_X1_span_stX4_greatestDivisor wd_X1_span_inX4 rfl ⟨rfl, rfl⟩ (by decide +kernel) rfl ⟨Nat.le_of_ble_eq_true rfl, Nat.le_of_ble_eq_true rfl, Nat.le_of_ble_eq_true rfl, Nat.le_of_ble_eq_true rfl⟩ [] [0] rfl rfl (by decide) (by decide) (by decide) (Nat.le_of_ble_eq_true rfl) dX1_span_10 rfl (fun r_ u_3 H1 locs1 hp_4 hP1 hD1 hS1 hz1 => ?_)
  try dsimp only at hp_4 hP1 hD1
  subst hp_4
  generalize H1 = H at hP1 hD1 hS1 hz1 ⊢
  generalize locs1 = locs at hS1 ⊢
  have hS := hS1
  have hP : va_P G.1 vwCl [(h0, .inr (1, [.ref qv, .int (zI fx), .int (zI fy), .int (zI lx), .int (zI ly), .int (zI tn), .int (zI ar), .int (zI wx), .int (zI wy)]))] H := hP1
  have hD : va_D A [(h0, .inr (1, [.ref qv, .int (zI fx), .int (zI fy), .int (zI lx), .int (zI ly), .int (zI tn), .int (zI ar), .int (zI wx), .int (zI wy)]))] := hD1
  refine zv_istore (lv' := [(6, .int (zI ((Nat.gcd v.natAbs w.natAbs : Nat) : Int))), (5, .int (zI ((Nat.gcd x.natAbs y.natAbs : Nat) : Int))), (0, .ref h0), (1, .int (zI x)), (2, .int (zI y)), (3, .int (zI v)), (4, .int (zI w))]) S dX1_span_13 hl (by decide) rfl (fun ls hl => ?_)
  have b1 := zgcd_60 hx hy
  have b2 := zgcd_60 hv hw
  refine zv_iload S dX1_span_15 (lv_at hl 1 rfl) ?_
  refine zv_if_eq (tgt := 25) S (by unfold zR; omega) dX1_span_17 (by decide) (fun c_5 => ?_) (fun c_5 => ?_)
  · refine zv_iconst S dX1_span_25 ?_
    exact hret _ _ _ _ _ ⟨fx, fy, lx, ly, tn, ar⟩ dX1_span_26 (by first | exact Or.inl rfl | exact Or.inr rfl) ⟨(show zI 0 = zI (zb (x * w - y * v ≠ 0)) from (congrArg zI (zb_f (fun z => z (by have hz := zgcd_zero c_5; rw [hz.1, hz.2]; rw [Int.zero_mul, Int.zero_mul]; rfl))).symm)), (show x * w - y * v ≠ 0 → zcone x y v w fx fy lx ly tn ar from (fun z => absurd z (by intro q; exact q (by have hz := zgcd_zero c_5; rw [hz.1, hz.2]; rw [Int.zero_mul, Int.zero_mul]; rfl)))), (show x * w - y * v ≠ 0 → ((-20 ≤ fx ∧ fx ≤ 20) ∧ (-20 ≤ fy ∧ fy ≤ 20) ∧ (-20 ≤ lx ∧ lx ≤ 20) ∧ (-20 ≤ ly ∧ ly ≤ 20)) from (fun z => absurd z (by intro q; exact q (by have hz := zgcd_zero c_5; rw [hz.1, hz.2]; rw [Int.zero_mul, Int.zero_mul]; rfl))))⟩ (hP.sub [0] rfl) (hD.sub [0] (by decide) rfl) hS
  · refine zv_iload S dX1_span_20 (lv_at hl 0 rfl) ?_
    refine zv_if_ne (tgt := 27) S (by unfold zR; omega) dX1_span_22 (by decide) (fun c_6 => ?_) (fun c_6 => ?_)
    · have hd1 := zgcd_div (x := x) (y := y) (by omega)
      have hd2 := zgcd_div (x := v) (y := w) (by omega)
      have t1 := ztdivb (x := x) (y := ((Nat.gcd x.natAbs y.natAbs : Nat) : Int)) hx.1 hx.2
      have t2 := ztdivb (x := y) (y := ((Nat.gcd x.natAbs y.natAbs : Nat) : Int)) hy.1 hy.2
      have t3 := ztdivb (x := v) (y := ((Nat.gcd v.natAbs w.natAbs : Nat) : Int)) hv.1 hv.2
      have t4 := ztdivb (x := w) (y := ((Nat.gcd v.natAbs w.natAbs : Nat) : Int)) hw.1 hw.2
      have m1 := zmulb t1.1 t1.2 t4.1 t4.2
      have m2 := zmulb t2.1 t2.2 t3.1 t3.2
      refine zv_aload_n S dX1_span_27 rfl (lv_at hl 2 rfl) ?_
      refine zv_iload_n S dX1_span_28 rfl (lv_at hl 3 rfl) ?_
      refine zv_iload S dX1_span_29 (lv_at hl 1 rfl) ?_
      refine zv_idiv S (by unfold zR; omega) (by unfold zR; omega) (by omega) (by omega) dX1_span_31 ?_
      refine zv_put (C := RX1) (T := TX1) (N := 9) (ci := 1) (v := .int (zI (x.tdiv ((Nat.gcd x.natAbs y.natAbs : Nat) : Int)))) S in_X1_span_X1 tyX1 tyX1_ok nmX1 hK hP hD hS 0 rfl rfl 1 (by decide) wd_X1_span_f19 rfl rfl rfl rfl (Nat.le_of_ble_eq_true rfl) dX1_span_32 (fun H locs hP hD hS => ?_)
      have hP : va_P G.1 vwCl [(h0, .inr (1, [.ref qv, .int (zI (x.tdiv ((Nat.gcd x.natAbs y.natAbs : Nat) : Int))), .int (zI fy), .int (zI lx), .int (zI ly), .int (zI tn), .int (zI ar), .int (zI wx), .int (zI wy)]))] H := hP
      have hD : va_D A [(h0, .inr (1, [.ref qv, .int (zI (x.tdiv ((Nat.gcd x.natAbs y.natAbs : Nat) : Int))), .int (zI fy), .int (zI lx), .int (zI ly), .int (zI tn), .int (zI ar), .int (zI wx), .int (zI wy)]))] := hD
      refine zv_aload_n S dX1_span_35 rfl (lv_at hl 2 rfl) ?_
      refine zv_iload_n S dX1_span_36 rfl (lv_at hl 4 rfl) ?_
      refine zv_iload S dX1_span_37 (lv_at hl 1 rfl) ?_
      refine zv_idiv S (by unfold zR; omega) (by unfold zR; omega) (by omega) (by omega) dX1_span_39 ?_
      refine zv_put (C := RX1) (T := TX1) (N := 9) (ci := 1) (v := .int (zI (y.tdiv ((Nat.gcd x.natAbs y.natAbs : Nat) : Int)))) S in_X1_span_X1 tyX1 tyX1_ok nmX1 hK hP hD hS 0 rfl rfl 2 (by decide) wd_X1_span_f23 rfl rfl rfl rfl (Nat.le_of_ble_eq_true rfl) dX1_span_40 (fun H locs hP hD hS => ?_)
      have hP : va_P G.1 vwCl [(h0, .inr (1, [.ref qv, .int (zI (x.tdiv ((Nat.gcd x.natAbs y.natAbs : Nat) : Int))), .int (zI (y.tdiv ((Nat.gcd x.natAbs y.natAbs : Nat) : Int))), .int (zI lx), .int (zI ly), .int (zI tn), .int (zI ar), .int (zI wx), .int (zI wy)]))] H := hP
      have hD : va_D A [(h0, .inr (1, [.ref qv, .int (zI (x.tdiv ((Nat.gcd x.natAbs y.natAbs : Nat) : Int))), .int (zI (y.tdiv ((Nat.gcd x.natAbs y.natAbs : Nat) : Int))), .int (zI lx), .int (zI ly), .int (zI tn), .int (zI ar), .int (zI wx), .int (zI wy)]))] := hD
      refine zv_aload_n S dX1_span_43 rfl (lv_at hl 2 rfl) ?_
      refine zv_iload_n S dX1_span_44 rfl (lv_at hl 5 rfl) ?_
      refine zv_iload S dX1_span_45 (lv_at hl 0 rfl) ?_
      refine zv_idiv S (by unfold zR; omega) (by unfold zR; omega) (by omega) (by omega) dX1_span_47 ?_
      refine zv_put (C := RX1) (T := TX1) (N := 9) (ci := 1) (v := .int (zI (v.tdiv ((Nat.gcd v.natAbs w.natAbs : Nat) : Int)))) S in_X1_span_X1 tyX1 tyX1_ok nmX1 hK hP hD hS 0 rfl rfl 3 (by decide) wd_X1_span_f26 rfl rfl rfl rfl (Nat.le_of_ble_eq_true rfl) dX1_span_48 (fun H locs hP hD hS => ?_)
      have hP : va_P G.1 vwCl [(h0, .inr (1, [.ref qv, .int (zI (x.tdiv ((Nat.gcd x.natAbs y.natAbs : Nat) : Int))), .int (zI (y.tdiv ((Nat.gcd x.natAbs y.natAbs : Nat) : Int))), .int (zI (v.tdiv ((Nat.gcd v.natAbs w.natAbs : Nat) : Int))), .int (zI ly), .int (zI tn), .int (zI ar), .int (zI wx), .int (zI wy)]))] H := hP
      have hD : va_D A [(h0, .inr (1, [.ref qv, .int (zI (x.tdiv ((Nat.gcd x.natAbs y.natAbs : Nat) : Int))), .int (zI (y.tdiv ((Nat.gcd x.natAbs y.natAbs : Nat) : Int))), .int (zI (v.tdiv ((Nat.gcd v.natAbs w.natAbs : Nat) : Int))), .int (zI ly), .int (zI tn), .int (zI ar), .int (zI wx), .int (zI wy)]))] := hD
      refine zv_aload_n S dX1_span_51 rfl (lv_at hl 2 rfl) ?_
      refine zv_iload S dX1_span_52 (lv_at hl 6 rfl) ?_
      refine zv_iload S dX1_span_54 (lv_at hl 0 rfl) ?_
      refine zv_idiv S (by unfold zR; omega) (by unfold zR; omega) (by omega) (by omega) dX1_span_56 ?_
      refine zv_put (C := RX1) (T := TX1) (N := 9) (ci := 1) (v := .int (zI (w.tdiv ((Nat.gcd v.natAbs w.natAbs : Nat) : Int)))) S in_X1_span_X1 tyX1 tyX1_ok nmX1 hK hP hD hS 0 rfl rfl 4 (by decide) wd_X1_span_f29 rfl rfl rfl rfl (Nat.le_of_ble_eq_true rfl) dX1_span_57 (fun H locs hP hD hS => ?_)
      have hP : va_P G.1 vwCl [(h0, .inr (1, [.ref qv, .int (zI (x.tdiv ((Nat.gcd x.natAbs y.natAbs : Nat) : Int))), .int (zI (y.tdiv ((Nat.gcd x.natAbs y.natAbs : Nat) : Int))), .int (zI (v.tdiv ((Nat.gcd v.natAbs w.natAbs : Nat) : Int))), .int (zI (w.tdiv ((Nat.gcd v.natAbs w.natAbs : Nat) : Int))), .int (zI tn), .int (zI ar), .int (zI wx), .int (zI wy)]))] H := hP
      have hD : va_D A [(h0, .inr (1, [.ref qv, .int (zI (x.tdiv ((Nat.gcd x.natAbs y.natAbs : Nat) : Int))), .int (zI (y.tdiv ((Nat.gcd x.natAbs y.natAbs : Nat) : Int))), .int (zI (v.tdiv ((Nat.gcd v.natAbs w.natAbs : Nat) : Int))), .int (zI (w.tdiv ((Nat.gcd v.natAbs w.natAbs : Nat) : Int))), .int (zI tn), .int (zI ar), .int (zI wx), .int (zI wy)]))] := hD
      refine zv_aload_n S dX1_span_60 rfl (lv_at hl 2 rfl) ?_
      refine zv_get (C := RX1) (T := TX1) (N := 9) (ci := 1) (v := .int (zI (x.tdiv ((Nat.gcd x.natAbs y.natAbs : Nat) : Int)))) S in_X1_span_X1 hK hP 0 rfl rfl 1 (by decide) wd_X1_span_f19 rfl rfl dX1_span_61 ?_
      refine zv_aload_n S dX1_span_64 rfl (lv_at hl 2 rfl) ?_
      refine zv_get (C := RX1) (T := TX1) (N := 9) (ci := 1) (v := .int (zI (w.tdiv ((Nat.gcd v.natAbs w.natAbs : Nat) : Int)))) S in_X1_span_X1 hK hP 0 rfl rfl 4 (by decide) wd_X1_span_f29 rfl rfl dX1_span_65 ?_
      refine zv_imul S dX1_span_68 ?_
      refine zv_aload_n S dX1_span_69 rfl (lv_at hl 2 rfl) ?_
      refine zv_get (C := RX1) (T := TX1) (N := 9) (ci := 1) (v := .int (zI (y.tdiv ((Nat.gcd x.natAbs y.natAbs : Nat) : Int)))) S in_X1_span_X1 hK hP 0 rfl rfl 2 (by decide) wd_X1_span_f23 rfl rfl dX1_span_70 ?_
      refine zv_aload_n S dX1_span_73 rfl (lv_at hl 2 rfl) ?_
      refine zv_get (C := RX1) (T := TX1) (N := 9) (ci := 1) (v := .int (zI (v.tdiv ((Nat.gcd v.natAbs w.natAbs : Nat) : Int)))) S in_X1_span_X1 hK hP 0 rfl rfl 3 (by decide) wd_X1_span_f26 rfl rfl dX1_span_74 ?_
      refine zv_imul S dX1_span_77 ?_
      refine zv_isub S dX1_span_78 ?_
      refine zv_istore (lv' := [(7, .int (zI (((x.tdiv ((Nat.gcd x.natAbs y.natAbs : Nat) : Int)) * (w.tdiv ((Nat.gcd v.natAbs w.natAbs : Nat) : Int))) - ((y.tdiv ((Nat.gcd x.natAbs y.natAbs : Nat) : Int)) * (v.tdiv ((Nat.gcd v.natAbs w.natAbs : Nat) : Int)))))), (6, .int (zI ((Nat.gcd v.natAbs w.natAbs : Nat) : Int))), (5, .int (zI ((Nat.gcd x.natAbs y.natAbs : Nat) : Int))), (0, .ref h0), (1, .int (zI x)), (2, .int (zI y)), (3, .int (zI v)), (4, .int (zI w))]) S dX1_span_79 hl (by decide) rfl (fun ls hl => ?_)
      refine zv_aload_n S dX1_span_81 rfl (lv_at hl 3 rfl) ?_
      refine zv_iload S dX1_span_82 (lv_at hl 0 rfl) ?_
      refine zv_if_ge (tgt := 91) S (by unfold zR; omega) dX1_span_84 (by decide) (fun c_7 => ?_) (fun c_7 => ?_)
      · refine zv_iconst S dX1_span_91 ?_
        refine zv_put (C := RX1) (T := TX1) (N := 9) (ci := 1) (v := .int (zI 1)) S in_X1_span_X1 tyX1 tyX1_ok nmX1 hK hP hD hS 0 rfl rfl 5 (by decide) wd_X1_span_f32 rfl rfl rfl rfl (Nat.le_of_ble_eq_true rfl) dX1_span_92 (fun H locs hP hD hS => ?_)
        have hP : va_P G.1 vwCl [(h0, .inr (1, [.ref qv, .int (zI (x.tdiv ((Nat.gcd x.natAbs y.natAbs : Nat) : Int))), .int (zI (y.tdiv ((Nat.gcd x.natAbs y.natAbs : Nat) : Int))), .int (zI (v.tdiv ((Nat.gcd v.natAbs w.natAbs : Nat) : Int))), .int (zI (w.tdiv ((Nat.gcd v.natAbs w.natAbs : Nat) : Int))), .int (zI 1), .int (zI ar), .int (zI wx), .int (zI wy)]))] H := hP
        have hD : va_D A [(h0, .inr (1, [.ref qv, .int (zI (x.tdiv ((Nat.gcd x.natAbs y.natAbs : Nat) : Int))), .int (zI (y.tdiv ((Nat.gcd x.natAbs y.natAbs : Nat) : Int))), .int (zI (v.tdiv ((Nat.gcd v.natAbs w.natAbs : Nat) : Int))), .int (zI (w.tdiv ((Nat.gcd v.natAbs w.natAbs : Nat) : Int))), .int (zI 1), .int (zI ar), .int (zI wx), .int (zI wy)]))] := hD
        refine zv_aload_n S dX1_span_95 rfl (lv_at hl 3 rfl) ?_
        refine zv_iload S dX1_span_96 (lv_at hl 0 rfl) ?_
        refine zv_abs S hl (by unfold zR; omega) wd_X1_span_m35 wd_X1_span_sabs wd_X1_span_iM wd_X1_span_cabs (by decide) (Nat.le_of_ble_eq_true rfl) (Nat.le_of_ble_eq_true rfl) (Nat.le_of_ble_eq_true rfl) dX1_span_98 ?_
        refine zv_put (C := RX1) (T := TX1) (N := 9) (ci := 1) (v := .int (zI (zabs (((x.tdiv ((Nat.gcd x.natAbs y.natAbs : Nat) : Int)) * (w.tdiv ((Nat.gcd v.natAbs w.natAbs : Nat) : Int))) - ((y.tdiv ((Nat.gcd x.natAbs y.natAbs : Nat) : Int)) * (v.tdiv ((Nat.gcd v.natAbs w.natAbs : Nat) : Int))))))) S in_X1_span_X1 tyX1 tyX1_ok nmX1 hK hP hD hS 0 rfl rfl 6 (by decide) wd_X1_span_f41 rfl rfl rfl rfl (Nat.le_of_ble_eq_true rfl) dX1_span_101 (fun H locs hP hD hS => ?_)
        have hP : va_P G.1 vwCl [(h0, .inr (1, [.ref qv, .int (zI (x.tdiv ((Nat.gcd x.natAbs y.natAbs : Nat) : Int))), .int (zI (y.tdiv ((Nat.gcd x.natAbs y.natAbs : Nat) : Int))), .int (zI (v.tdiv ((Nat.gcd v.natAbs w.natAbs : Nat) : Int))), .int (zI (w.tdiv ((Nat.gcd v.natAbs w.natAbs : Nat) : Int))), .int (zI 1), .int (zI (zabs (((x.tdiv ((Nat.gcd x.natAbs y.natAbs : Nat) : Int)) * (w.tdiv ((Nat.gcd v.natAbs w.natAbs : Nat) : Int))) - ((y.tdiv ((Nat.gcd x.natAbs y.natAbs : Nat) : Int)) * (v.tdiv ((Nat.gcd v.natAbs w.natAbs : Nat) : Int)))))), .int (zI wx), .int (zI wy)]))] H := hP
        have hD : va_D A [(h0, .inr (1, [.ref qv, .int (zI (x.tdiv ((Nat.gcd x.natAbs y.natAbs : Nat) : Int))), .int (zI (y.tdiv ((Nat.gcd x.natAbs y.natAbs : Nat) : Int))), .int (zI (v.tdiv ((Nat.gcd v.natAbs w.natAbs : Nat) : Int))), .int (zI (w.tdiv ((Nat.gcd v.natAbs w.natAbs : Nat) : Int))), .int (zI 1), .int (zI (zabs (((x.tdiv ((Nat.gcd x.natAbs y.natAbs : Nat) : Int)) * (w.tdiv ((Nat.gcd v.natAbs w.natAbs : Nat) : Int))) - ((y.tdiv ((Nat.gcd x.natAbs y.natAbs : Nat) : Int)) * (v.tdiv ((Nat.gcd v.natAbs w.natAbs : Nat) : Int)))))), .int (zI wx), .int (zI wy)]))] := hD
        refine zv_aload_n S dX1_span_104 rfl (lv_at hl 3 rfl) ?_
        refine zv_get (C := RX1) (T := TX1) (N := 9) (ci := 1) (v := .int (zI (zabs (((x.tdiv ((Nat.gcd x.natAbs y.natAbs : Nat) : Int)) * (w.tdiv ((Nat.gcd v.natAbs w.natAbs : Nat) : Int))) - ((y.tdiv ((Nat.gcd x.natAbs y.natAbs : Nat) : Int)) * (v.tdiv ((Nat.gcd v.natAbs w.natAbs : Nat) : Int))))))) S in_X1_span_X1 hK hP 0 rfl rfl 6 (by decide) wd_X1_span_f41 rfl rfl dX1_span_105 ?_
        refine zv_if_eq (tgt := 115) S (by unfold zR zabs; split <;> omega) dX1_span_108 (by decide) (fun c_8 => ?_) (fun c_8 => ?_)
        · refine zv_iconst S dX1_span_115 ?_
          exact hret _ _ _ _ _ ⟨(x.tdiv ((Nat.gcd x.natAbs y.natAbs : Nat) : Int)), (y.tdiv ((Nat.gcd x.natAbs y.natAbs : Nat) : Int)), (v.tdiv ((Nat.gcd v.natAbs w.natAbs : Nat) : Int)), (w.tdiv ((Nat.gcd v.natAbs w.natAbs : Nat) : Int)), 1, (zabs (((x.tdiv ((Nat.gcd x.natAbs y.natAbs : Nat) : Int)) * (w.tdiv ((Nat.gcd v.natAbs w.natAbs : Nat) : Int))) - ((y.tdiv ((Nat.gcd x.natAbs y.natAbs : Nat) : Int)) * (v.tdiv ((Nat.gcd v.natAbs w.natAbs : Nat) : Int)))))⟩ dX1_span_116 (by first | exact Or.inl rfl | exact Or.inr rfl) ⟨(show zI 0 = zI (zb (x * w - y * v ≠ 0)) from (congrArg zI (zb_f (fun z => ((zcone_ne hd1.1 hd1.2 hd2.1 hd2.2 (by omega) (by omega)).mp z) (by have := zabs_zero c_8; exact this))).symm)), (show x * w - y * v ≠ 0 → zcone x y v w (x.tdiv ((Nat.gcd x.natAbs y.natAbs : Nat) : Int)) (y.tdiv ((Nat.gcd x.natAbs y.natAbs : Nat) : Int)) (v.tdiv ((Nat.gcd v.natAbs w.natAbs : Nat) : Int)) (w.tdiv ((Nat.gcd v.natAbs w.natAbs : Nat) : Int)) 1 (zabs (((x.tdiv ((Nat.gcd x.natAbs y.natAbs : Nat) : Int)) * (w.tdiv ((Nat.gcd v.natAbs w.natAbs : Nat) : Int))) - ((y.tdiv ((Nat.gcd x.natAbs y.natAbs : Nat) : Int)) * (v.tdiv ((Nat.gcd v.natAbs w.natAbs : Nat) : Int))))) from (fun _ => ⟨⟨hd1.1, hd1.2, by omega⟩, ⟨hd2.1, hd2.2, by omega⟩, (if_neg (by omega)).symm, rfl⟩)), (show x * w - y * v ≠ 0 → ((-20 ≤ (x.tdiv ((Nat.gcd x.natAbs y.natAbs : Nat) : Int)) ∧ (x.tdiv ((Nat.gcd x.natAbs y.natAbs : Nat) : Int)) ≤ 20) ∧ (-20 ≤ (y.tdiv ((Nat.gcd x.natAbs y.natAbs : Nat) : Int)) ∧ (y.tdiv ((Nat.gcd x.natAbs y.natAbs : Nat) : Int)) ≤ 20) ∧ (-20 ≤ (v.tdiv ((Nat.gcd v.natAbs w.natAbs : Nat) : Int)) ∧ (v.tdiv ((Nat.gcd v.natAbs w.natAbs : Nat) : Int)) ≤ 20) ∧ (-20 ≤ (w.tdiv ((Nat.gcd v.natAbs w.natAbs : Nat) : Int)) ∧ (w.tdiv ((Nat.gcd v.natAbs w.natAbs : Nat) : Int)) ≤ 20)) from (by omega))⟩ (hP.sub [0] rfl) (hD.sub [0] (by decide) rfl) hS
        · refine zv_iconst S dX1_span_111 ?_
          refine zv_goto (tgt := 116) S dX1_span_112 (by decide) ?_
          exact hret _ _ _ _ _ ⟨(x.tdiv ((Nat.gcd x.natAbs y.natAbs : Nat) : Int)), (y.tdiv ((Nat.gcd x.natAbs y.natAbs : Nat) : Int)), (v.tdiv ((Nat.gcd v.natAbs w.natAbs : Nat) : Int)), (w.tdiv ((Nat.gcd v.natAbs w.natAbs : Nat) : Int)), 1, (zabs (((x.tdiv ((Nat.gcd x.natAbs y.natAbs : Nat) : Int)) * (w.tdiv ((Nat.gcd v.natAbs w.natAbs : Nat) : Int))) - ((y.tdiv ((Nat.gcd x.natAbs y.natAbs : Nat) : Int)) * (v.tdiv ((Nat.gcd v.natAbs w.natAbs : Nat) : Int)))))⟩ dX1_span_116 (by first | exact Or.inl rfl | exact Or.inr rfl) ⟨(show zI 1 = zI (zb (x * w - y * v ≠ 0)) from (congrArg zI (zb_t ((zcone_ne hd1.1 hd1.2 hd2.1 hd2.2 (by omega) (by omega)).mpr (fun z => c_8 (by rw [z]; rfl)))).symm)), (show x * w - y * v ≠ 0 → zcone x y v w (x.tdiv ((Nat.gcd x.natAbs y.natAbs : Nat) : Int)) (y.tdiv ((Nat.gcd x.natAbs y.natAbs : Nat) : Int)) (v.tdiv ((Nat.gcd v.natAbs w.natAbs : Nat) : Int)) (w.tdiv ((Nat.gcd v.natAbs w.natAbs : Nat) : Int)) 1 (zabs (((x.tdiv ((Nat.gcd x.natAbs y.natAbs : Nat) : Int)) * (w.tdiv ((Nat.gcd v.natAbs w.natAbs : Nat) : Int))) - ((y.tdiv ((Nat.gcd x.natAbs y.natAbs : Nat) : Int)) * (v.tdiv ((Nat.gcd v.natAbs w.natAbs : Nat) : Int))))) from (fun _ => ⟨⟨hd1.1, hd1.2, by omega⟩, ⟨hd2.1, hd2.2, by omega⟩, (if_neg (by omega)).symm, rfl⟩)), (show x * w - y * v ≠ 0 → ((-20 ≤ (x.tdiv ((Nat.gcd x.natAbs y.natAbs : Nat) : Int)) ∧ (x.tdiv ((Nat.gcd x.natAbs y.natAbs : Nat) : Int)) ≤ 20) ∧ (-20 ≤ (y.tdiv ((Nat.gcd x.natAbs y.natAbs : Nat) : Int)) ∧ (y.tdiv ((Nat.gcd x.natAbs y.natAbs : Nat) : Int)) ≤ 20) ∧ (-20 ≤ (v.tdiv ((Nat.gcd v.natAbs w.natAbs : Nat) : Int)) ∧ (v.tdiv ((Nat.gcd v.natAbs w.natAbs : Nat) : Int)) ≤ 20) ∧ (-20 ≤ (w.tdiv ((Nat.gcd v.natAbs w.natAbs : Nat) : Int)) ∧ (w.tdiv ((Nat.gcd v.natAbs w.natAbs : Nat) : Int)) ≤ 20)) from (by omega))⟩ (hP.sub [0] rfl) (hD.sub [0] (by decide) rfl) hS
      · refine zv_iconst S dX1_span_87 ?_
        refine zv_goto (tgt := 92) S dX1_span_88 (by decide) ?_
        refine zv_put (C := RX1) (T := TX1) (N := 9) (ci := 1) (v := .int (zI (-1))) S in_X1_span_X1 tyX1 tyX1_ok nmX1 hK hP hD hS 0 rfl rfl 5 (by decide) wd_X1_span_f32 rfl rfl rfl rfl (Nat.le_of_ble_eq_true rfl) dX1_span_92 (fun H locs hP hD hS => ?_)
        have hP : va_P G.1 vwCl [(h0, .inr (1, [.ref qv, .int (zI (x.tdiv ((Nat.gcd x.natAbs y.natAbs : Nat) : Int))), .int (zI (y.tdiv ((Nat.gcd x.natAbs y.natAbs : Nat) : Int))), .int (zI (v.tdiv ((Nat.gcd v.natAbs w.natAbs : Nat) : Int))), .int (zI (w.tdiv ((Nat.gcd v.natAbs w.natAbs : Nat) : Int))), .int (zI (-1)), .int (zI ar), .int (zI wx), .int (zI wy)]))] H := hP
        have hD : va_D A [(h0, .inr (1, [.ref qv, .int (zI (x.tdiv ((Nat.gcd x.natAbs y.natAbs : Nat) : Int))), .int (zI (y.tdiv ((Nat.gcd x.natAbs y.natAbs : Nat) : Int))), .int (zI (v.tdiv ((Nat.gcd v.natAbs w.natAbs : Nat) : Int))), .int (zI (w.tdiv ((Nat.gcd v.natAbs w.natAbs : Nat) : Int))), .int (zI (-1)), .int (zI ar), .int (zI wx), .int (zI wy)]))] := hD
        refine zv_aload_n S dX1_span_95 rfl (lv_at hl 3 rfl) ?_
        refine zv_iload S dX1_span_96 (lv_at hl 0 rfl) ?_
        refine zv_abs S hl (by unfold zR; omega) wd_X1_span_m35 wd_X1_span_sabs wd_X1_span_iM wd_X1_span_cabs (by decide) (Nat.le_of_ble_eq_true rfl) (Nat.le_of_ble_eq_true rfl) (Nat.le_of_ble_eq_true rfl) dX1_span_98 ?_
        refine zv_put (C := RX1) (T := TX1) (N := 9) (ci := 1) (v := .int (zI (zabs (((x.tdiv ((Nat.gcd x.natAbs y.natAbs : Nat) : Int)) * (w.tdiv ((Nat.gcd v.natAbs w.natAbs : Nat) : Int))) - ((y.tdiv ((Nat.gcd x.natAbs y.natAbs : Nat) : Int)) * (v.tdiv ((Nat.gcd v.natAbs w.natAbs : Nat) : Int))))))) S in_X1_span_X1 tyX1 tyX1_ok nmX1 hK hP hD hS 0 rfl rfl 6 (by decide) wd_X1_span_f41 rfl rfl rfl rfl (Nat.le_of_ble_eq_true rfl) dX1_span_101 (fun H locs hP hD hS => ?_)
        have hP : va_P G.1 vwCl [(h0, .inr (1, [.ref qv, .int (zI (x.tdiv ((Nat.gcd x.natAbs y.natAbs : Nat) : Int))), .int (zI (y.tdiv ((Nat.gcd x.natAbs y.natAbs : Nat) : Int))), .int (zI (v.tdiv ((Nat.gcd v.natAbs w.natAbs : Nat) : Int))), .int (zI (w.tdiv ((Nat.gcd v.natAbs w.natAbs : Nat) : Int))), .int (zI (-1)), .int (zI (zabs (((x.tdiv ((Nat.gcd x.natAbs y.natAbs : Nat) : Int)) * (w.tdiv ((Nat.gcd v.natAbs w.natAbs : Nat) : Int))) - ((y.tdiv ((Nat.gcd x.natAbs y.natAbs : Nat) : Int)) * (v.tdiv ((Nat.gcd v.natAbs w.natAbs : Nat) : Int)))))), .int (zI wx), .int (zI wy)]))] H := hP
        have hD : va_D A [(h0, .inr (1, [.ref qv, .int (zI (x.tdiv ((Nat.gcd x.natAbs y.natAbs : Nat) : Int))), .int (zI (y.tdiv ((Nat.gcd x.natAbs y.natAbs : Nat) : Int))), .int (zI (v.tdiv ((Nat.gcd v.natAbs w.natAbs : Nat) : Int))), .int (zI (w.tdiv ((Nat.gcd v.natAbs w.natAbs : Nat) : Int))), .int (zI (-1)), .int (zI (zabs (((x.tdiv ((Nat.gcd x.natAbs y.natAbs : Nat) : Int)) * (w.tdiv ((Nat.gcd v.natAbs w.natAbs : Nat) : Int))) - ((y.tdiv ((Nat.gcd x.natAbs y.natAbs : Nat) : Int)) * (v.tdiv ((Nat.gcd v.natAbs w.natAbs : Nat) : Int)))))), .int (zI wx), .int (zI wy)]))] := hD
        refine zv_aload_n S dX1_span_104 rfl (lv_at hl 3 rfl) ?_
        refine zv_get (C := RX1) (T := TX1) (N := 9) (ci := 1) (v := .int (zI (zabs (((x.tdiv ((Nat.gcd x.natAbs y.natAbs : Nat) : Int)) * (w.tdiv ((Nat.gcd v.natAbs w.natAbs : Nat) : Int))) - ((y.tdiv ((Nat.gcd x.natAbs y.natAbs : Nat) : Int)) * (v.tdiv ((Nat.gcd v.natAbs w.natAbs : Nat) : Int))))))) S in_X1_span_X1 hK hP 0 rfl rfl 6 (by decide) wd_X1_span_f41 rfl rfl dX1_span_105 ?_
        refine zv_if_eq (tgt := 115) S (by unfold zR zabs; split <;> omega) dX1_span_108 (by decide) (fun c_9 => ?_) (fun c_9 => ?_)
        · refine zv_iconst S dX1_span_115 ?_
          exact hret _ _ _ _ _ ⟨(x.tdiv ((Nat.gcd x.natAbs y.natAbs : Nat) : Int)), (y.tdiv ((Nat.gcd x.natAbs y.natAbs : Nat) : Int)), (v.tdiv ((Nat.gcd v.natAbs w.natAbs : Nat) : Int)), (w.tdiv ((Nat.gcd v.natAbs w.natAbs : Nat) : Int)), (-1), (zabs (((x.tdiv ((Nat.gcd x.natAbs y.natAbs : Nat) : Int)) * (w.tdiv ((Nat.gcd v.natAbs w.natAbs : Nat) : Int))) - ((y.tdiv ((Nat.gcd x.natAbs y.natAbs : Nat) : Int)) * (v.tdiv ((Nat.gcd v.natAbs w.natAbs : Nat) : Int)))))⟩ dX1_span_116 (by first | exact Or.inl rfl | exact Or.inr rfl) ⟨(show zI 0 = zI (zb (x * w - y * v ≠ 0)) from (congrArg zI (zb_f (fun z => ((zcone_ne hd1.1 hd1.2 hd2.1 hd2.2 (by omega) (by omega)).mp z) (by have := zabs_zero c_9; exact this))).symm)), (show x * w - y * v ≠ 0 → zcone x y v w (x.tdiv ((Nat.gcd x.natAbs y.natAbs : Nat) : Int)) (y.tdiv ((Nat.gcd x.natAbs y.natAbs : Nat) : Int)) (v.tdiv ((Nat.gcd v.natAbs w.natAbs : Nat) : Int)) (w.tdiv ((Nat.gcd v.natAbs w.natAbs : Nat) : Int)) (-1) (zabs (((x.tdiv ((Nat.gcd x.natAbs y.natAbs : Nat) : Int)) * (w.tdiv ((Nat.gcd v.natAbs w.natAbs : Nat) : Int))) - ((y.tdiv ((Nat.gcd x.natAbs y.natAbs : Nat) : Int)) * (v.tdiv ((Nat.gcd v.natAbs w.natAbs : Nat) : Int))))) from (fun _ => ⟨⟨hd1.1, hd1.2, by omega⟩, ⟨hd2.1, hd2.2, by omega⟩, (if_pos (by omega)).symm, rfl⟩)), (show x * w - y * v ≠ 0 → ((-20 ≤ (x.tdiv ((Nat.gcd x.natAbs y.natAbs : Nat) : Int)) ∧ (x.tdiv ((Nat.gcd x.natAbs y.natAbs : Nat) : Int)) ≤ 20) ∧ (-20 ≤ (y.tdiv ((Nat.gcd x.natAbs y.natAbs : Nat) : Int)) ∧ (y.tdiv ((Nat.gcd x.natAbs y.natAbs : Nat) : Int)) ≤ 20) ∧ (-20 ≤ (v.tdiv ((Nat.gcd v.natAbs w.natAbs : Nat) : Int)) ∧ (v.tdiv ((Nat.gcd v.natAbs w.natAbs : Nat) : Int)) ≤ 20) ∧ (-20 ≤ (w.tdiv ((Nat.gcd v.natAbs w.natAbs : Nat) : Int)) ∧ (w.tdiv ((Nat.gcd v.natAbs w.natAbs : Nat) : Int)) ≤ 20)) from (by omega))⟩ (hP.sub [0] rfl) (hD.sub [0] (by decide) rfl) hS
        · refine zv_iconst S dX1_span_111 ?_
          refine zv_goto (tgt := 116) S dX1_span_112 (by decide) ?_
          exact hret _ _ _ _ _ ⟨(x.tdiv ((Nat.gcd x.natAbs y.natAbs : Nat) : Int)), (y.tdiv ((Nat.gcd x.natAbs y.natAbs : Nat) : Int)), (v.tdiv ((Nat.gcd v.natAbs w.natAbs : Nat) : Int)), (w.tdiv ((Nat.gcd v.natAbs w.natAbs : Nat) : Int)), (-1), (zabs (((x.tdiv ((Nat.gcd x.natAbs y.natAbs : Nat) : Int)) * (w.tdiv ((Nat.gcd v.natAbs w.natAbs : Nat) : Int))) - ((y.tdiv ((Nat.gcd x.natAbs y.natAbs : Nat) : Int)) * (v.tdiv ((Nat.gcd v.natAbs w.natAbs : Nat) : Int)))))⟩ dX1_span_116 (by first | exact Or.inl rfl | exact Or.inr rfl) ⟨(show zI 1 = zI (zb (x * w - y * v ≠ 0)) from (congrArg zI (zb_t ((zcone_ne hd1.1 hd1.2 hd2.1 hd2.2 (by omega) (by omega)).mpr (fun z => c_9 (by rw [z]; rfl)))).symm)), (show x * w - y * v ≠ 0 → zcone x y v w (x.tdiv ((Nat.gcd x.natAbs y.natAbs : Nat) : Int)) (y.tdiv ((Nat.gcd x.natAbs y.natAbs : Nat) : Int)) (v.tdiv ((Nat.gcd v.natAbs w.natAbs : Nat) : Int)) (w.tdiv ((Nat.gcd v.natAbs w.natAbs : Nat) : Int)) (-1) (zabs (((x.tdiv ((Nat.gcd x.natAbs y.natAbs : Nat) : Int)) * (w.tdiv ((Nat.gcd v.natAbs w.natAbs : Nat) : Int))) - ((y.tdiv ((Nat.gcd x.natAbs y.natAbs : Nat) : Int)) * (v.tdiv ((Nat.gcd v.natAbs w.natAbs : Nat) : Int))))) from (fun _ => ⟨⟨hd1.1, hd1.2, by omega⟩, ⟨hd2.1, hd2.2, by omega⟩, (if_pos (by omega)).symm, rfl⟩)), (show x * w - y * v ≠ 0 → ((-20 ≤ (x.tdiv ((Nat.gcd x.natAbs y.natAbs : Nat) : Int)) ∧ (x.tdiv ((Nat.gcd x.natAbs y.natAbs : Nat) : Int)) ≤ 20) ∧ (-20 ≤ (y.tdiv ((Nat.gcd x.natAbs y.natAbs : Nat) : Int)) ∧ (y.tdiv ((Nat.gcd x.natAbs y.natAbs : Nat) : Int)) ≤ 20) ∧ (-20 ≤ (v.tdiv ((Nat.gcd v.natAbs w.natAbs : Nat) : Int)) ∧ (v.tdiv ((Nat.gcd v.natAbs w.natAbs : Nat) : Int)) ≤ 20) ∧ (-20 ≤ (w.tdiv ((Nat.gcd v.natAbs w.natAbs : Nat) : Int)) ∧ (w.tdiv ((Nat.gcd v.natAbs w.natAbs : Nat) : Int)) ≤ 20)) from (by omega))⟩ (hP.sub [0] rfl) (hD.sub [0] (by decide) rfl) hS
    · refine zv_iconst S dX1_span_25 ?_
      exact hret _ _ _ _ _ ⟨fx, fy, lx, ly, tn, ar⟩ dX1_span_26 (by first | exact Or.inl rfl | exact Or.inr rfl) ⟨(show zI 0 = zI (zb (x * w - y * v ≠ 0)) from (congrArg zI (zb_f (fun z => z (by have hz := zgcd_zero c_6; rw [hz.1, hz.2]; rw [Int.mul_zero, Int.mul_zero]; rfl))).symm)), (show x * w - y * v ≠ 0 → zcone x y v w fx fy lx ly tn ar from (fun z => absurd z (by intro q; exact q (by have hz := zgcd_zero c_6; rw [hz.1, hz.2]; rw [Int.mul_zero, Int.mul_zero]; rfl)))), (show x * w - y * v ≠ 0 → ((-20 ≤ fx ∧ fx ≤ 20) ∧ (-20 ≤ fy ∧ fy ≤ 20) ∧ (-20 ≤ lx ∧ lx ≤ 20) ∧ (-20 ≤ ly ∧ ly ≤ 20)) from (fun z => absurd z (by intro q; exact q (by have hz := zgcd_zero c_6; rw [hz.1, hz.2]; rw [Int.mul_zero, Int.mul_zero]; rfl))))⟩ (hP.sub [0] rfl) (hD.sub [0] (by decide) rfl) hS

theorem wd_X1_fromFirst_f32 : Cond.fieldLink RX1 32 "PointMill$Cone" "turn" "I" ∈ wsX1_fromFirst := by decide +kernel
theorem in_X1_fromFirst_X1 : ∀ w ∈ wsX10, w ∈ wsX1_fromFirst := by decide +kernel
theorem wd_X1_fromFirst_f19 : Cond.fieldLink RX1 19 "PointMill$Cone" "firstX" "I" ∈ wsX1_fromFirst := by decide +kernel
theorem wd_X1_fromFirst_f23 : Cond.fieldLink RX1 23 "PointMill$Cone" "firstY" "I" ∈ wsX1_fromFirst := by decide +kernel
set_option maxHeartbeats 4000000 in
set_option maxRecDepth 100000 in
/-- Cone.fromFirst -/
theorem c_X1_fromFirst (l : Launch) (G : zG) (sz : Nat) (h0 : Nat) (qv : Nat) (fx : Int) (fy : Int) (lx : Int) (ly : Int) (tn : Int) (ar : Int) (wx : Int) (wy : Int) (x : Int) (y : Int) : Met l yX1_fromFirst wsX1_fromFirst ({ frames := 0, cells := 0, slots := 0, locals := 0 }) (va_Pc [.ref h0, .int (zI x), .int (zI y)] (zPre G sz [(h0, .inr (1, [.ref qv, .int (zI fx), .int (zI fy), .int (zI lx), .int (zI ly), .int (zI tn), .int (zI ar), .int (zI wx), .int (zI wy)]))])) (va_Qi (fun (r : Int32) (u : Unit) => r = zI (zFF tn fx fy x y)) (fun u => zW G (va_A [(h0, .inr (1, [.ref qv, .int (zI fx), .int (zI fy), .int (zI lx), .int (zI ly), .int (zI tn), .int (zI ar), .int (zI wx), .int (zI wy)]))] sz) ((fun (u : Unit) => [(h0, .inr (1, [.ref qv, .int (zI fx), .int (zI fy), .int (zI lx), .int (zI ly), .int (zI tn), .int (zI ar), .int (zI wx), .int (zI wy)]))]) u)) (va_A [(h0, .inr (1, [.ref qv, .int (zI fx), .int (zI fy), .int (zI lx), .int (zI ly), .int (zI tn), .int (zI ar), .int (zI wx), .int (zI wy)]))] sz)) 0 0 (va_A [(h0, .inr (1, [.ref qv, .int (zI fx), .int (zI fy), .int (zI lx), .int (zI ly), .int (zI tn), .int (zI ar), .int (zI wx), .int (zI wy)]))] sz) := by
  refine zM_i (post := fun (r : Int32) (u : Unit) => r = zI (zFF tn fx fy x y)) (w1 := fun (u : Unit) => [(h0, .inr (1, [.ref qv, .int (zI fx), .int (zI fy), .int (zI lx), .int (zI ly), .int (zI tn), .int (zI ar), .int (zI wx), .int (zI wy)]))]) (plainFor_of_name (by decide)) rfl (Nat.le_of_ble_eq_true rfl) ?_
  intro p e s m below meth c A Q S hN hK hP hD hS hA hret ls hl
  have hl : lv_has ls 3 [(0, .ref h0), (1, .int (zI x)), (2, .int (zI y))] := hl
  refine zv_aload_n S dX1_fromFirst_0 rfl (lv_at hl 0 rfl) ?_
  refine zv_get (C := RX1) (T := TX1) (N := 9) (ci := 1) (v := .int (zI tn)) S in_X1_fromFirst_X1 hK hP 0 rfl rfl 5 (by decide) wd_X1_fromFirst_f32 rfl rfl dX1_fromFirst_1 ?_
  refine zv_aload_n S dX1_fromFirst_4 rfl (lv_at hl 0 rfl) ?_
  refine zv_get (C := RX1) (T := TX1) (N := 9) (ci := 1) (v := .int (zI fx)) S in_X1_fromFirst_X1 hK hP 0 rfl rfl 1 (by decide) wd_X1_fromFirst_f19 rfl rfl dX1_fromFirst_5 ?_
  refine zv_iload_n S dX1_fromFirst_8 rfl (lv_at hl 2 rfl) ?_
  refine zv_imul S dX1_fromFirst_9 ?_
  refine zv_aload_n S dX1_fromFirst_10 rfl (lv_at hl 0 rfl) ?_
  refine zv_get (C := RX1) (T := TX1) (N := 9) (ci := 1) (v := .int (zI fy)) S in_X1_fromFirst_X1 hK hP 0 rfl rfl 2 (by decide) wd_X1_fromFirst_f23 rfl rfl dX1_fromFirst_11 ?_
  refine zv_iload_n S dX1_fromFirst_14 rfl (lv_at hl 1 rfl) ?_
  refine zv_imul S dX1_fromFirst_15 ?_
  refine zv_isub S dX1_fromFirst_16 ?_
  refine zv_imul S dX1_fromFirst_17 ?_
  exact hret _ _ _ _ _ () dX1_fromFirst_18 rfl (hP.sub [0] rfl) (hD.sub [0] (by decide) rfl) hS

theorem wd_X1_fromLast_f32 : Cond.fieldLink RX1 32 "PointMill$Cone" "turn" "I" ∈ wsX1_fromLast := by decide +kernel
theorem in_X1_fromLast_X1 : ∀ w ∈ wsX10, w ∈ wsX1_fromLast := by decide +kernel
theorem wd_X1_fromLast_f29 : Cond.fieldLink RX1 29 "PointMill$Cone" "lastY" "I" ∈ wsX1_fromLast := by decide +kernel
theorem wd_X1_fromLast_f26 : Cond.fieldLink RX1 26 "PointMill$Cone" "lastX" "I" ∈ wsX1_fromLast := by decide +kernel
set_option maxHeartbeats 4000000 in
set_option maxRecDepth 100000 in
/-- Cone.fromLast -/
theorem c_X1_fromLast (l : Launch) (G : zG) (sz : Nat) (h0 : Nat) (qv : Nat) (fx : Int) (fy : Int) (lx : Int) (ly : Int) (tn : Int) (ar : Int) (wx : Int) (wy : Int) (x : Int) (y : Int) : Met l yX1_fromLast wsX1_fromLast ({ frames := 0, cells := 0, slots := 0, locals := 0 }) (va_Pc [.ref h0, .int (zI x), .int (zI y)] (zPre G sz [(h0, .inr (1, [.ref qv, .int (zI fx), .int (zI fy), .int (zI lx), .int (zI ly), .int (zI tn), .int (zI ar), .int (zI wx), .int (zI wy)]))])) (va_Qi (fun (r : Int32) (u : Unit) => r = zI (zFL tn lx ly x y)) (fun u => zW G (va_A [(h0, .inr (1, [.ref qv, .int (zI fx), .int (zI fy), .int (zI lx), .int (zI ly), .int (zI tn), .int (zI ar), .int (zI wx), .int (zI wy)]))] sz) ((fun (u : Unit) => [(h0, .inr (1, [.ref qv, .int (zI fx), .int (zI fy), .int (zI lx), .int (zI ly), .int (zI tn), .int (zI ar), .int (zI wx), .int (zI wy)]))]) u)) (va_A [(h0, .inr (1, [.ref qv, .int (zI fx), .int (zI fy), .int (zI lx), .int (zI ly), .int (zI tn), .int (zI ar), .int (zI wx), .int (zI wy)]))] sz)) 0 0 (va_A [(h0, .inr (1, [.ref qv, .int (zI fx), .int (zI fy), .int (zI lx), .int (zI ly), .int (zI tn), .int (zI ar), .int (zI wx), .int (zI wy)]))] sz) := by
  refine zM_i (post := fun (r : Int32) (u : Unit) => r = zI (zFL tn lx ly x y)) (w1 := fun (u : Unit) => [(h0, .inr (1, [.ref qv, .int (zI fx), .int (zI fy), .int (zI lx), .int (zI ly), .int (zI tn), .int (zI ar), .int (zI wx), .int (zI wy)]))]) (plainFor_of_name (by decide)) rfl (Nat.le_of_ble_eq_true rfl) ?_
  intro p e s m below meth c A Q S hN hK hP hD hS hA hret ls hl
  have hl : lv_has ls 3 [(0, .ref h0), (1, .int (zI x)), (2, .int (zI y))] := hl
  refine zv_aload_n S dX1_fromLast_0 rfl (lv_at hl 0 rfl) ?_
  refine zv_get (C := RX1) (T := TX1) (N := 9) (ci := 1) (v := .int (zI tn)) S in_X1_fromLast_X1 hK hP 0 rfl rfl 5 (by decide) wd_X1_fromLast_f32 rfl rfl dX1_fromLast_1 ?_
  refine zv_iload_n S dX1_fromLast_4 rfl (lv_at hl 1 rfl) ?_
  refine zv_aload_n S dX1_fromLast_5 rfl (lv_at hl 0 rfl) ?_
  refine zv_get (C := RX1) (T := TX1) (N := 9) (ci := 1) (v := .int (zI ly)) S in_X1_fromLast_X1 hK hP 0 rfl rfl 4 (by decide) wd_X1_fromLast_f29 rfl rfl dX1_fromLast_6 ?_
  refine zv_imul S dX1_fromLast_9 ?_
  refine zv_iload_n S dX1_fromLast_10 rfl (lv_at hl 2 rfl) ?_
  refine zv_aload_n S dX1_fromLast_11 rfl (lv_at hl 0 rfl) ?_
  refine zv_get (C := RX1) (T := TX1) (N := 9) (ci := 1) (v := .int (zI lx)) S in_X1_fromLast_X1 hK hP 0 rfl rfl 3 (by decide) wd_X1_fromLast_f26 rfl rfl dX1_fromLast_12 ?_
  refine zv_imul S dX1_fromLast_15 ?_
  refine zv_isub S dX1_fromLast_16 ?_
  refine zv_imul S dX1_fromLast_17 ?_
  exact hret _ _ _ _ _ () dX1_fromLast_18 rfl (hP.sub [0] rfl) (hD.sub [0] (by decide) rfl) hS

theorem wd_X1_lookAt_f41 : Cond.fieldLink RX1 41 "PointMill$Cone" "area" "I" ∈ wsX1_lookAt := by decide +kernel
theorem in_X1_lookAt_X1 : ∀ w ∈ wsX10, w ∈ wsX1_lookAt := by decide +kernel
theorem wd_X1_lookAt_f11 : Cond.fieldLink RX1 11 "PointMill$Cone" "leastFromLast" "[I" ∈ wsX1_lookAt := by decide +kernel
theorem wd_X1_lookAt_m55 : Cond.methodLink RX1 55 Lib.Math.min.name ∈ wsX1_lookAt := by decide +kernel
theorem wd_X1_lookAt_smin : Cond.static Lib.Math.min.name ∈ wsX1_lookAt := by decide +kernel
theorem wd_X1_lookAt_iM : Cond.initialized "java/lang/Math" ∈ wsX1_lookAt := by decide +kernel
theorem wd_X1_lookAt_cmin : Cond.code Lib.Math.min.name Lib.Math.min.code 2 (some .int) ∈ wsX1_lookAt := by decide +kernel
set_option maxHeartbeats 4000000 in
set_option maxRecDepth 100000 in
/-- Cone.lookAt -/
theorem c_X1_lookAt (l : Launch) (G : zG) (sz : Nat) (h0 : Nat) (qv : Nat) (fx : Int) (fy : Int) (lx : Int) (ly : Int) (tn : Int) (ar : Int) (wx : Int) (wy : Int) (L0 : Nat → Int) (ff : Int) (fl : Int) (har : 0 < ar ∧ ar ≤ 800) (hff : -2147483648 ≤ ff ∧ ff < 2147483648) (hfl : -2147483648 ≤ fl ∧ fl < 2147483648) (hL0 : ∀ d, d ≤ 800 → 0 ≤ L0 d ∧ L0 d ≤ 1000000) : Met l yX1_lookAt wsX1_lookAt ({ frames := 1, cells := 0, slots := 0, locals := 15 }) (va_Pc [.ref h0, .int (zI ff), .int (zI fl)] (zPre G sz [(h0, .inr (1, [.ref qv, .int (zI fx), .int (zI fy), .int (zI lx), .int (zI ly), .int (zI tn), .int (zI ar), .int (zI wx), .int (zI wy)])), zci G qv 801 L0])) (va_Qv (fun (u : (Nat → Int)) => (zlc1 ar ff fl → u = zU L0 ff.toNat (zmin (L0 ff.toNat) fl)) ∧ (¬ zlc1 ar ff fl → u = L0)) (fun u => zW G (va_A [(h0, .inr (1, [.ref qv, .int (zI fx), .int (zI fy), .int (zI lx), .int (zI ly), .int (zI tn), .int (zI ar), .int (zI wx), .int (zI wy)])), zci G qv 801 L0] sz) ((fun (u : (Nat → Int)) => [(h0, .inr (1, [.ref qv, .int (zI fx), .int (zI fy), .int (zI lx), .int (zI ly), .int (zI tn), .int (zI ar), .int (zI wx), .int (zI wy)])), zci G qv 801 u]) u)) (va_A [(h0, .inr (1, [.ref qv, .int (zI fx), .int (zI fy), .int (zI lx), .int (zI ly), .int (zI tn), .int (zI ar), .int (zI wx), .int (zI wy)])), zci G qv 801 L0] sz)) 0 0 (va_A [(h0, .inr (1, [.ref qv, .int (zI fx), .int (zI fy), .int (zI lx), .int (zI ly), .int (zI tn), .int (zI ar), .int (zI wx), .int (zI wy)])), zci G qv 801 L0] sz) := by
  refine zM_v (post := fun (u : (Nat → Int)) => (zlc1 ar ff fl → u = zU L0 ff.toNat (zmin (L0 ff.toNat) fl)) ∧ (¬ zlc1 ar ff fl → u = L0)) (w1 := fun (u : (Nat → Int)) => [(h0, .inr (1, [.ref qv, .int (zI fx), .int (zI fy), .int (zI lx), .int (zI ly), .int (zI tn), .int (zI ar), .int (zI wx), .int (zI wy)])), zci G qv 801 u]) (plainFor_of_name (by decide)) rfl (Nat.le_of_ble_eq_true rfl) ?_
  intro p e s m below meth c A Q S hN hK hP hD hS hA hret ls hl
  have hl : lv_has ls 5 [(0, .ref h0), (1, .int (zI ff)), (2, .int (zI fl))] := hl
  refine zv_iload_n S dX1_lookAt_0 rfl (lv_at hl 1 rfl) ?_
  refine zv_if_ne (tgt := 12) S (by unfold zR; omega) dX1_lookAt_1 (by decide) (fun c_1 => ?_) (fun c_1 => ?_)
  · refine zv_iconst S dX1_lookAt_12 ?_
    refine zv_istore_n (lv' := [(3, .int (zI 0)), (0, .ref h0), (1, .int (zI ff)), (2, .int (zI fl))]) S dX1_lookAt_13 rfl hl (by decide) rfl (fun ls hl => ?_)
    refine zv_iload_n S dX1_lookAt_14 rfl (lv_at hl 2 rfl) ?_
    refine zv_if_lt (tgt := 42) S (by unfold zR; omega) dX1_lookAt_15 (by decide) (fun c_2 => ?_) (fun c_2 => ?_)
    · refine zv_iconst S dX1_lookAt_42 ?_
      refine zv_istore (lv' := [(4, .int (zI 0)), (3, .int (zI 0)), (0, .ref h0), (1, .int (zI ff)), (2, .int (zI fl))]) S dX1_lookAt_43 hl (by decide) rfl (fun ls hl => ?_)
      refine zv_iload_n S dX1_lookAt_45 rfl (lv_at hl 1 rfl) ?_
      refine zv_if_ne (tgt := 77) S (by unfold zR; omega) dX1_lookAt_46 (by decide) (fun c_3 => ?_) (fun c_3 => ?_)
      · exact absurd c_3 (by omega)
      · refine zv_iload S dX1_lookAt_49 (lv_at hl 0 rfl) ?_
        refine zv_if_eq (tgt := 77) S (by unfold zR; omega) dX1_lookAt_51 (by decide) (fun c_4 => ?_) (fun c_4 => ?_)
        · exact hret _ _ _ _ L0 dX1_lookAt_77 ⟨(show zlc1 ar ff fl → L0 = zU L0 ff.toNat (zmin (L0 ff.toNat) fl) from (fun z => absurd z (by unfold zlc1; omega))), (show ¬ zlc1 ar ff fl → L0 = L0 from (fun _ => rfl))⟩ (hP.sub [0, 1] rfl) (hD.sub [0, 1] (by decide) rfl) hS
        · exact absurd c_4 (by omega)
    · refine zv_iload_n S dX1_lookAt_18 rfl (lv_at hl 2 rfl) ?_
      refine zv_aload_n S dX1_lookAt_19 rfl (lv_at hl 1 rfl) ?_
      refine zv_get (C := RX1) (T := TX1) (N := 9) (ci := 1) (v := .int (zI ar)) S in_X1_lookAt_X1 hK hP 0 rfl rfl 6 (by decide) wd_X1_lookAt_f41 rfl rfl dX1_lookAt_20 ?_
      refine zv_icmp_gt (tgt := 42) S (by unfold zR; omega) (by unfold zR; omega) dX1_lookAt_23 (by decide) (fun c_5 => ?_) (fun c_5 => ?_)
      · refine zv_iconst S dX1_lookAt_42 ?_
        refine zv_istore (lv' := [(4, .int (zI 0)), (3, .int (zI 0)), (0, .ref h0), (1, .int (zI ff)), (2, .int (zI fl))]) S dX1_lookAt_43 hl (by decide) rfl (fun ls hl => ?_)
        refine zv_iload_n S dX1_lookAt_45 rfl (lv_at hl 1 rfl) ?_
        refine zv_if_ne (tgt := 77) S (by unfold zR; omega) dX1_lookAt_46 (by decide) (fun c_6 => ?_) (fun c_6 => ?_)
        · exact absurd c_6 (by omega)
        · refine zv_iload S dX1_lookAt_49 (lv_at hl 0 rfl) ?_
          refine zv_if_eq (tgt := 77) S (by unfold zR; omega) dX1_lookAt_51 (by decide) (fun c_7 => ?_) (fun c_7 => ?_)
          · exact hret _ _ _ _ L0 dX1_lookAt_77 ⟨(show zlc1 ar ff fl → L0 = zU L0 ff.toNat (zmin (L0 ff.toNat) fl) from (fun z => absurd z (by unfold zlc1; omega))), (show ¬ zlc1 ar ff fl → L0 = L0 from (fun _ => rfl))⟩ (hP.sub [0, 1] rfl) (hD.sub [0, 1] (by decide) rfl) hS
          · exact absurd c_7 (by omega)
      · refine zv_iload_n S dX1_lookAt_26 rfl (lv_at hl 3 rfl) ?_
        refine zv_if_lt (tgt := 42) S (by unfold zR; omega) dX1_lookAt_27 (by decide) (fun c_8 => ?_) (fun c_8 => ?_)
        · refine zv_iconst S dX1_lookAt_42 ?_
          refine zv_istore (lv' := [(4, .int (zI 0)), (3, .int (zI 0)), (0, .ref h0), (1, .int (zI ff)), (2, .int (zI fl))]) S dX1_lookAt_43 hl (by decide) rfl (fun ls hl => ?_)
          refine zv_iload_n S dX1_lookAt_45 rfl (lv_at hl 1 rfl) ?_
          refine zv_if_ne (tgt := 77) S (by unfold zR; omega) dX1_lookAt_46 (by decide) (fun c_9 => ?_) (fun c_9 => ?_)
          · exact absurd c_9 (by omega)
          · refine zv_iload S dX1_lookAt_49 (lv_at hl 0 rfl) ?_
            refine zv_if_eq (tgt := 77) S (by unfold zR; omega) dX1_lookAt_51 (by decide) (fun c_10 => ?_) (fun c_10 => ?_)
            · exact hret _ _ _ _ L0 dX1_lookAt_77 ⟨(show zlc1 ar ff fl → L0 = zU L0 ff.toNat (zmin (L0 ff.toNat) fl) from (fun z => absurd z (by unfold zlc1; omega))), (show ¬ zlc1 ar ff fl → L0 = L0 from (fun _ => rfl))⟩ (hP.sub [0, 1] rfl) (hD.sub [0, 1] (by decide) rfl) hS
            · exact absurd c_10 (by omega)
        · refine zv_iload_n S dX1_lookAt_30 rfl (lv_at hl 3 rfl) ?_
          refine zv_aload_n S dX1_lookAt_31 rfl (lv_at hl 1 rfl) ?_
          refine zv_get (C := RX1) (T := TX1) (N := 9) (ci := 1) (v := .int (zI ar)) S in_X1_lookAt_X1 hK hP 0 rfl rfl 6 (by decide) wd_X1_lookAt_f41 rfl rfl dX1_lookAt_32 ?_
          refine zv_icmp_gt (tgt := 42) S (by unfold zR; omega) (by unfold zR; omega) dX1_lookAt_35 (by decide) (fun c_11 => ?_) (fun c_11 => ?_)
          · refine zv_iconst S dX1_lookAt_42 ?_
            refine zv_istore (lv' := [(4, .int (zI 0)), (3, .int (zI 0)), (0, .ref h0), (1, .int (zI ff)), (2, .int (zI fl))]) S dX1_lookAt_43 hl (by decide) rfl (fun ls hl => ?_)
            refine zv_iload_n S dX1_lookAt_45 rfl (lv_at hl 1 rfl) ?_
            refine zv_if_ne (tgt := 77) S (by unfold zR; omega) dX1_lookAt_46 (by decide) (fun c_12 => ?_) (fun c_12 => ?_)
            · exact absurd c_12 (by omega)
            · refine zv_iload S dX1_lookAt_49 (lv_at hl 0 rfl) ?_
              refine zv_if_eq (tgt := 77) S (by unfold zR; omega) dX1_lookAt_51 (by decide) (fun c_13 => ?_) (fun c_13 => ?_)
              · exact hret _ _ _ _ L0 dX1_lookAt_77 ⟨(show zlc1 ar ff fl → L0 = zU L0 ff.toNat (zmin (L0 ff.toNat) fl) from (fun z => absurd z (by unfold zlc1; omega))), (show ¬ zlc1 ar ff fl → L0 = L0 from (fun _ => rfl))⟩ (hP.sub [0, 1] rfl) (hD.sub [0, 1] (by decide) rfl) hS
              · exact absurd c_13 (by omega)
          · refine zv_iconst S dX1_lookAt_38 ?_
            refine zv_goto (tgt := 43) S dX1_lookAt_39 (by decide) ?_
            refine zv_istore (lv' := [(4, .int (zI 1)), (3, .int (zI 0)), (0, .ref h0), (1, .int (zI ff)), (2, .int (zI fl))]) S dX1_lookAt_43 hl (by decide) rfl (fun ls hl => ?_)
            refine zv_iload_n S dX1_lookAt_45 rfl (lv_at hl 1 rfl) ?_
            refine zv_if_ne (tgt := 77) S (by unfold zR; omega) dX1_lookAt_46 (by decide) (fun c_14 => ?_) (fun c_14 => ?_)
            · exact absurd c_14 (by omega)
            · refine zv_iload S dX1_lookAt_49 (lv_at hl 0 rfl) ?_
              refine zv_if_eq (tgt := 77) S (by unfold zR; omega) dX1_lookAt_51 (by decide) (fun c_15 => ?_) (fun c_15 => ?_)
              · exact absurd c_15 (by omega)
              · refine zv_iload_n S dX1_lookAt_54 rfl (lv_at hl 3 rfl) ?_
                refine zv_sipush (v := 800) S dX1_lookAt_55 (by decide) ?_
                refine zv_icmp_gt (tgt := 77) S (by unfold zR; omega) (by unfold zR; omega) dX1_lookAt_58 (by decide) (fun c_16 => ?_) (fun c_16 => ?_)
                · exact hret _ _ _ _ L0 dX1_lookAt_77 ⟨(show zlc1 ar ff fl → L0 = zU L0 ff.toNat (zmin (L0 ff.toNat) fl) from (fun z => absurd z (by unfold zlc1; omega))), (show ¬ zlc1 ar ff fl → L0 = L0 from (fun _ => rfl))⟩ (hP.sub [0, 1] rfl) (hD.sub [0, 1] (by decide) rfl) hS
                · refine zv_aload_n S dX1_lookAt_61 rfl (lv_at hl 2 rfl) ?_
                  refine zv_get (C := RX1) (T := TX1) (N := 9) (ci := 1) (v := .ref qv) S in_X1_lookAt_X1 hK hP 0 rfl rfl 0 (by decide) wd_X1_lookAt_f11 rfl rfl dX1_lookAt_62 ?_
                  refine zv_iload_n S dX1_lookAt_65 rfl (lv_at hl 3 rfl) ?_
                  refine zv_aload_n S dX1_lookAt_66 rfl (lv_at hl 2 rfl) ?_
                  refine zv_get (C := RX1) (T := TX1) (N := 9) (ci := 1) (v := .ref qv) S in_X1_lookAt_X1 hK hP 0 rfl rfl 0 (by decide) wd_X1_lookAt_f11 rfl rfl dX1_lookAt_67 ?_
                  refine zv_iload_n S dX1_lookAt_70 rfl (lv_at hl 3 rfl) ?_
                  refine zv_iald S hK hP 1 0 rfl rfl ff.toNat (by omega) (by omega) (by decide) dX1_lookAt_71 ?_
                  refine zv_iload_n S dX1_lookAt_72 rfl (lv_at hl 4 rfl) ?_
                  have q1 := hL0 ff.toNat (by omega)
                  refine zv_min S hl (by unfold zR; omega) (by unfold zR; omega) wd_X1_lookAt_m55 wd_X1_lookAt_smin wd_X1_lookAt_iM wd_X1_lookAt_cmin (by decide) (Nat.le_of_ble_eq_true rfl) (Nat.le_of_ble_eq_true rfl) (Nat.le_of_ble_eq_true rfl) dX1_lookAt_73 ?_
                  refine zv_iast S hK hP hD hS 1 0 rfl rfl ff.toNat (by omega) (by omega) (by decide) dX1_lookAt_76 (fun H locs hP hD hS => ?_)
                  have hP : va_P G.1 vwCl [(h0, .inr (1, [.ref qv, .int (zI fx), .int (zI fy), .int (zI lx), .int (zI ly), .int (zI tn), .int (zI ar), .int (zI wx), .int (zI wy)])), zci G qv 801 (zU L0 ff.toNat (zmin (L0 ff.toNat) fl))] H := hP
                  have hD : va_D A [(h0, .inr (1, [.ref qv, .int (zI fx), .int (zI fy), .int (zI lx), .int (zI ly), .int (zI tn), .int (zI ar), .int (zI wx), .int (zI wy)])), zci G qv 801 (zU L0 ff.toNat (zmin (L0 ff.toNat) fl))] := hD
                  exact hret _ _ _ _ (zU L0 ff.toNat (zmin (L0 ff.toNat) fl)) dX1_lookAt_77 ⟨(show zlc1 ar ff fl → (zU L0 ff.toNat (zmin (L0 ff.toNat) fl)) = zU L0 ff.toNat (zmin (L0 ff.toNat) fl) from (fun _ => rfl)), (show ¬ zlc1 ar ff fl → (zU L0 ff.toNat (zmin (L0 ff.toNat) fl)) = L0 from (fun z => absurd (by unfold zlc1; omega) z))⟩ (hP.sub [0, 1] rfl) (hD.sub [0, 1] (by decide) rfl) hS
  · refine zv_iload_n S dX1_lookAt_4 rfl (lv_at hl 2 rfl) ?_
    refine zv_if_ne (tgt := 12) S (by unfold zR; omega) dX1_lookAt_5 (by decide) (fun c_17 => ?_) (fun c_17 => ?_)
    · refine zv_iconst S dX1_lookAt_12 ?_
      refine zv_istore_n (lv' := [(3, .int (zI 0)), (0, .ref h0), (1, .int (zI ff)), (2, .int (zI fl))]) S dX1_lookAt_13 rfl hl (by decide) rfl (fun ls hl => ?_)
      refine zv_iload_n S dX1_lookAt_14 rfl (lv_at hl 2 rfl) ?_
      refine zv_if_lt (tgt := 42) S (by unfold zR; omega) dX1_lookAt_15 (by decide) (fun c_18 => ?_) (fun c_18 => ?_)
      · refine zv_iconst S dX1_lookAt_42 ?_
        refine zv_istore (lv' := [(4, .int (zI 0)), (3, .int (zI 0)), (0, .ref h0), (1, .int (zI ff)), (2, .int (zI fl))]) S dX1_lookAt_43 hl (by decide) rfl (fun ls hl => ?_)
        refine zv_iload_n S dX1_lookAt_45 rfl (lv_at hl 1 rfl) ?_
        refine zv_if_ne (tgt := 77) S (by unfold zR; omega) dX1_lookAt_46 (by decide) (fun c_19 => ?_) (fun c_19 => ?_)
        · exact absurd c_19 (by omega)
        · refine zv_iload S dX1_lookAt_49 (lv_at hl 0 rfl) ?_
          refine zv_if_eq (tgt := 77) S (by unfold zR; omega) dX1_lookAt_51 (by decide) (fun c_20 => ?_) (fun c_20 => ?_)
          · exact hret _ _ _ _ L0 dX1_lookAt_77 ⟨(show zlc1 ar ff fl → L0 = zU L0 ff.toNat (zmin (L0 ff.toNat) fl) from (fun z => absurd z (by unfold zlc1; omega))), (show ¬ zlc1 ar ff fl → L0 = L0 from (fun _ => rfl))⟩ (hP.sub [0, 1] rfl) (hD.sub [0, 1] (by decide) rfl) hS
          · exact absurd c_20 (by omega)
      · refine zv_iload_n S dX1_lookAt_18 rfl (lv_at hl 2 rfl) ?_
        refine zv_aload_n S dX1_lookAt_19 rfl (lv_at hl 1 rfl) ?_
        refine zv_get (C := RX1) (T := TX1) (N := 9) (ci := 1) (v := .int (zI ar)) S in_X1_lookAt_X1 hK hP 0 rfl rfl 6 (by decide) wd_X1_lookAt_f41 rfl rfl dX1_lookAt_20 ?_
        refine zv_icmp_gt (tgt := 42) S (by unfold zR; omega) (by unfold zR; omega) dX1_lookAt_23 (by decide) (fun c_21 => ?_) (fun c_21 => ?_)
        · refine zv_iconst S dX1_lookAt_42 ?_
          refine zv_istore (lv' := [(4, .int (zI 0)), (3, .int (zI 0)), (0, .ref h0), (1, .int (zI ff)), (2, .int (zI fl))]) S dX1_lookAt_43 hl (by decide) rfl (fun ls hl => ?_)
          refine zv_iload_n S dX1_lookAt_45 rfl (lv_at hl 1 rfl) ?_
          refine zv_if_ne (tgt := 77) S (by unfold zR; omega) dX1_lookAt_46 (by decide) (fun c_22 => ?_) (fun c_22 => ?_)
          · exact absurd c_22 (by omega)
          · refine zv_iload S dX1_lookAt_49 (lv_at hl 0 rfl) ?_
            refine zv_if_eq (tgt := 77) S (by unfold zR; omega) dX1_lookAt_51 (by decide) (fun c_23 => ?_) (fun c_23 => ?_)
            · exact hret _ _ _ _ L0 dX1_lookAt_77 ⟨(show zlc1 ar ff fl → L0 = zU L0 ff.toNat (zmin (L0 ff.toNat) fl) from (fun z => absurd z (by unfold zlc1; omega))), (show ¬ zlc1 ar ff fl → L0 = L0 from (fun _ => rfl))⟩ (hP.sub [0, 1] rfl) (hD.sub [0, 1] (by decide) rfl) hS
            · exact absurd c_23 (by omega)
        · refine zv_iload_n S dX1_lookAt_26 rfl (lv_at hl 3 rfl) ?_
          refine zv_if_lt (tgt := 42) S (by unfold zR; omega) dX1_lookAt_27 (by decide) (fun c_24 => ?_) (fun c_24 => ?_)
          · refine zv_iconst S dX1_lookAt_42 ?_
            refine zv_istore (lv' := [(4, .int (zI 0)), (3, .int (zI 0)), (0, .ref h0), (1, .int (zI ff)), (2, .int (zI fl))]) S dX1_lookAt_43 hl (by decide) rfl (fun ls hl => ?_)
            refine zv_iload_n S dX1_lookAt_45 rfl (lv_at hl 1 rfl) ?_
            refine zv_if_ne (tgt := 77) S (by unfold zR; omega) dX1_lookAt_46 (by decide) (fun c_25 => ?_) (fun c_25 => ?_)
            · exact absurd c_25 (by omega)
            · refine zv_iload S dX1_lookAt_49 (lv_at hl 0 rfl) ?_
              refine zv_if_eq (tgt := 77) S (by unfold zR; omega) dX1_lookAt_51 (by decide) (fun c_26 => ?_) (fun c_26 => ?_)
              · exact hret _ _ _ _ L0 dX1_lookAt_77 ⟨(show zlc1 ar ff fl → L0 = zU L0 ff.toNat (zmin (L0 ff.toNat) fl) from (fun z => absurd z (by unfold zlc1; omega))), (show ¬ zlc1 ar ff fl → L0 = L0 from (fun _ => rfl))⟩ (hP.sub [0, 1] rfl) (hD.sub [0, 1] (by decide) rfl) hS
              · exact absurd c_26 (by omega)
          · refine zv_iload_n S dX1_lookAt_30 rfl (lv_at hl 3 rfl) ?_
            refine zv_aload_n S dX1_lookAt_31 rfl (lv_at hl 1 rfl) ?_
            refine zv_get (C := RX1) (T := TX1) (N := 9) (ci := 1) (v := .int (zI ar)) S in_X1_lookAt_X1 hK hP 0 rfl rfl 6 (by decide) wd_X1_lookAt_f41 rfl rfl dX1_lookAt_32 ?_
            refine zv_icmp_gt (tgt := 42) S (by unfold zR; omega) (by unfold zR; omega) dX1_lookAt_35 (by decide) (fun c_27 => ?_) (fun c_27 => ?_)
            · refine zv_iconst S dX1_lookAt_42 ?_
              refine zv_istore (lv' := [(4, .int (zI 0)), (3, .int (zI 0)), (0, .ref h0), (1, .int (zI ff)), (2, .int (zI fl))]) S dX1_lookAt_43 hl (by decide) rfl (fun ls hl => ?_)
              refine zv_iload_n S dX1_lookAt_45 rfl (lv_at hl 1 rfl) ?_
              refine zv_if_ne (tgt := 77) S (by unfold zR; omega) dX1_lookAt_46 (by decide) (fun c_28 => ?_) (fun c_28 => ?_)
              · exact absurd c_28 (by omega)
              · refine zv_iload S dX1_lookAt_49 (lv_at hl 0 rfl) ?_
                refine zv_if_eq (tgt := 77) S (by unfold zR; omega) dX1_lookAt_51 (by decide) (fun c_29 => ?_) (fun c_29 => ?_)
                · exact hret _ _ _ _ L0 dX1_lookAt_77 ⟨(show zlc1 ar ff fl → L0 = zU L0 ff.toNat (zmin (L0 ff.toNat) fl) from (fun z => absurd z (by unfold zlc1; omega))), (show ¬ zlc1 ar ff fl → L0 = L0 from (fun _ => rfl))⟩ (hP.sub [0, 1] rfl) (hD.sub [0, 1] (by decide) rfl) hS
                · exact absurd c_29 (by omega)
            · refine zv_iconst S dX1_lookAt_38 ?_
              refine zv_goto (tgt := 43) S dX1_lookAt_39 (by decide) ?_
              refine zv_istore (lv' := [(4, .int (zI 1)), (3, .int (zI 0)), (0, .ref h0), (1, .int (zI ff)), (2, .int (zI fl))]) S dX1_lookAt_43 hl (by decide) rfl (fun ls hl => ?_)
              refine zv_iload_n S dX1_lookAt_45 rfl (lv_at hl 1 rfl) ?_
              refine zv_if_ne (tgt := 77) S (by unfold zR; omega) dX1_lookAt_46 (by decide) (fun c_30 => ?_) (fun c_30 => ?_)
              · exact absurd c_30 (by omega)
              · refine zv_iload S dX1_lookAt_49 (lv_at hl 0 rfl) ?_
                refine zv_if_eq (tgt := 77) S (by unfold zR; omega) dX1_lookAt_51 (by decide) (fun c_31 => ?_) (fun c_31 => ?_)
                · exact absurd c_31 (by omega)
                · refine zv_iload_n S dX1_lookAt_54 rfl (lv_at hl 3 rfl) ?_
                  refine zv_sipush (v := 800) S dX1_lookAt_55 (by decide) ?_
                  refine zv_icmp_gt (tgt := 77) S (by unfold zR; omega) (by unfold zR; omega) dX1_lookAt_58 (by decide) (fun c_32 => ?_) (fun c_32 => ?_)
                  · exact hret _ _ _ _ L0 dX1_lookAt_77 ⟨(show zlc1 ar ff fl → L0 = zU L0 ff.toNat (zmin (L0 ff.toNat) fl) from (fun z => absurd z (by unfold zlc1; omega))), (show ¬ zlc1 ar ff fl → L0 = L0 from (fun _ => rfl))⟩ (hP.sub [0, 1] rfl) (hD.sub [0, 1] (by decide) rfl) hS
                  · refine zv_aload_n S dX1_lookAt_61 rfl (lv_at hl 2 rfl) ?_
                    refine zv_get (C := RX1) (T := TX1) (N := 9) (ci := 1) (v := .ref qv) S in_X1_lookAt_X1 hK hP 0 rfl rfl 0 (by decide) wd_X1_lookAt_f11 rfl rfl dX1_lookAt_62 ?_
                    refine zv_iload_n S dX1_lookAt_65 rfl (lv_at hl 3 rfl) ?_
                    refine zv_aload_n S dX1_lookAt_66 rfl (lv_at hl 2 rfl) ?_
                    refine zv_get (C := RX1) (T := TX1) (N := 9) (ci := 1) (v := .ref qv) S in_X1_lookAt_X1 hK hP 0 rfl rfl 0 (by decide) wd_X1_lookAt_f11 rfl rfl dX1_lookAt_67 ?_
                    refine zv_iload_n S dX1_lookAt_70 rfl (lv_at hl 3 rfl) ?_
                    refine zv_iald S hK hP 1 0 rfl rfl ff.toNat (by omega) (by omega) (by decide) dX1_lookAt_71 ?_
                    refine zv_iload_n S dX1_lookAt_72 rfl (lv_at hl 4 rfl) ?_
                    have q1 := hL0 ff.toNat (by omega)
                    refine zv_min S hl (by unfold zR; omega) (by unfold zR; omega) wd_X1_lookAt_m55 wd_X1_lookAt_smin wd_X1_lookAt_iM wd_X1_lookAt_cmin (by decide) (Nat.le_of_ble_eq_true rfl) (Nat.le_of_ble_eq_true rfl) (Nat.le_of_ble_eq_true rfl) dX1_lookAt_73 ?_
                    refine zv_iast S hK hP hD hS 1 0 rfl rfl ff.toNat (by omega) (by omega) (by decide) dX1_lookAt_76 (fun H locs hP hD hS => ?_)
                    have hP : va_P G.1 vwCl [(h0, .inr (1, [.ref qv, .int (zI fx), .int (zI fy), .int (zI lx), .int (zI ly), .int (zI tn), .int (zI ar), .int (zI wx), .int (zI wy)])), zci G qv 801 (zU L0 ff.toNat (zmin (L0 ff.toNat) fl))] H := hP
                    have hD : va_D A [(h0, .inr (1, [.ref qv, .int (zI fx), .int (zI fy), .int (zI lx), .int (zI ly), .int (zI tn), .int (zI ar), .int (zI wx), .int (zI wy)])), zci G qv 801 (zU L0 ff.toNat (zmin (L0 ff.toNat) fl))] := hD
                    exact hret _ _ _ _ (zU L0 ff.toNat (zmin (L0 ff.toNat) fl)) dX1_lookAt_77 ⟨(show zlc1 ar ff fl → (zU L0 ff.toNat (zmin (L0 ff.toNat) fl)) = zU L0 ff.toNat (zmin (L0 ff.toNat) fl) from (fun _ => rfl)), (show ¬ zlc1 ar ff fl → (zU L0 ff.toNat (zmin (L0 ff.toNat) fl)) = L0 from (fun z => absurd (by unfold zlc1; omega) z))⟩ (hP.sub [0, 1] rfl) (hD.sub [0, 1] (by decide) rfl) hS
    · refine zv_iconst S dX1_lookAt_8 ?_
      refine zv_goto (tgt := 13) S dX1_lookAt_9 (by decide) ?_
      refine zv_istore_n (lv' := [(3, .int (zI 1)), (0, .ref h0), (1, .int (zI ff)), (2, .int (zI fl))]) S dX1_lookAt_13 rfl hl (by decide) rfl (fun ls hl => ?_)
      refine zv_iload_n S dX1_lookAt_14 rfl (lv_at hl 2 rfl) ?_
      refine zv_if_lt (tgt := 42) S (by unfold zR; omega) dX1_lookAt_15 (by decide) (fun c_33 => ?_) (fun c_33 => ?_)
      · refine zv_iconst S dX1_lookAt_42 ?_
        refine zv_istore (lv' := [(4, .int (zI 0)), (3, .int (zI 1)), (0, .ref h0), (1, .int (zI ff)), (2, .int (zI fl))]) S dX1_lookAt_43 hl (by decide) rfl (fun ls hl => ?_)
        refine zv_iload_n S dX1_lookAt_45 rfl (lv_at hl 1 rfl) ?_
        refine zv_if_ne (tgt := 77) S (by unfold zR; omega) dX1_lookAt_46 (by decide) (fun c_34 => ?_) (fun c_34 => ?_)
        · exact hret _ _ _ _ L0 dX1_lookAt_77 ⟨(show zlc1 ar ff fl → L0 = zU L0 ff.toNat (zmin (L0 ff.toNat) fl) from (fun z => absurd z (by unfold zlc1; omega))), (show ¬ zlc1 ar ff fl → L0 = L0 from (fun _ => rfl))⟩ (hP.sub [0, 1] rfl) (hD.sub [0, 1] (by decide) rfl) hS
        · exact absurd c_34 (by omega)
      · refine zv_iload_n S dX1_lookAt_18 rfl (lv_at hl 2 rfl) ?_
        refine zv_aload_n S dX1_lookAt_19 rfl (lv_at hl 1 rfl) ?_
        refine zv_get (C := RX1) (T := TX1) (N := 9) (ci := 1) (v := .int (zI ar)) S in_X1_lookAt_X1 hK hP 0 rfl rfl 6 (by decide) wd_X1_lookAt_f41 rfl rfl dX1_lookAt_20 ?_
        refine zv_icmp_gt (tgt := 42) S (by unfold zR; omega) (by unfold zR; omega) dX1_lookAt_23 (by decide) (fun c_35 => ?_) (fun c_35 => ?_)
        · refine zv_iconst S dX1_lookAt_42 ?_
          refine zv_istore (lv' := [(4, .int (zI 0)), (3, .int (zI 1)), (0, .ref h0), (1, .int (zI ff)), (2, .int (zI fl))]) S dX1_lookAt_43 hl (by decide) rfl (fun ls hl => ?_)
          refine zv_iload_n S dX1_lookAt_45 rfl (lv_at hl 1 rfl) ?_
          refine zv_if_ne (tgt := 77) S (by unfold zR; omega) dX1_lookAt_46 (by decide) (fun c_36 => ?_) (fun c_36 => ?_)
          · exact hret _ _ _ _ L0 dX1_lookAt_77 ⟨(show zlc1 ar ff fl → L0 = zU L0 ff.toNat (zmin (L0 ff.toNat) fl) from (fun z => absurd z (by unfold zlc1; omega))), (show ¬ zlc1 ar ff fl → L0 = L0 from (fun _ => rfl))⟩ (hP.sub [0, 1] rfl) (hD.sub [0, 1] (by decide) rfl) hS
          · exact absurd c_36 (by omega)
        · refine zv_iload_n S dX1_lookAt_26 rfl (lv_at hl 3 rfl) ?_
          refine zv_if_lt (tgt := 42) S (by unfold zR; omega) dX1_lookAt_27 (by decide) (fun c_37 => ?_) (fun c_37 => ?_)
          · refine zv_iconst S dX1_lookAt_42 ?_
            refine zv_istore (lv' := [(4, .int (zI 0)), (3, .int (zI 1)), (0, .ref h0), (1, .int (zI ff)), (2, .int (zI fl))]) S dX1_lookAt_43 hl (by decide) rfl (fun ls hl => ?_)
            refine zv_iload_n S dX1_lookAt_45 rfl (lv_at hl 1 rfl) ?_
            refine zv_if_ne (tgt := 77) S (by unfold zR; omega) dX1_lookAt_46 (by decide) (fun c_38 => ?_) (fun c_38 => ?_)
            · exact hret _ _ _ _ L0 dX1_lookAt_77 ⟨(show zlc1 ar ff fl → L0 = zU L0 ff.toNat (zmin (L0 ff.toNat) fl) from (fun z => absurd z (by unfold zlc1; omega))), (show ¬ zlc1 ar ff fl → L0 = L0 from (fun _ => rfl))⟩ (hP.sub [0, 1] rfl) (hD.sub [0, 1] (by decide) rfl) hS
            · exact absurd c_38 (by omega)
          · refine zv_iload_n S dX1_lookAt_30 rfl (lv_at hl 3 rfl) ?_
            refine zv_aload_n S dX1_lookAt_31 rfl (lv_at hl 1 rfl) ?_
            refine zv_get (C := RX1) (T := TX1) (N := 9) (ci := 1) (v := .int (zI ar)) S in_X1_lookAt_X1 hK hP 0 rfl rfl 6 (by decide) wd_X1_lookAt_f41 rfl rfl dX1_lookAt_32 ?_
            refine zv_icmp_gt (tgt := 42) S (by unfold zR; omega) (by unfold zR; omega) dX1_lookAt_35 (by decide) (fun c_39 => ?_) (fun c_39 => ?_)
            · refine zv_iconst S dX1_lookAt_42 ?_
              refine zv_istore (lv' := [(4, .int (zI 0)), (3, .int (zI 1)), (0, .ref h0), (1, .int (zI ff)), (2, .int (zI fl))]) S dX1_lookAt_43 hl (by decide) rfl (fun ls hl => ?_)
              refine zv_iload_n S dX1_lookAt_45 rfl (lv_at hl 1 rfl) ?_
              refine zv_if_ne (tgt := 77) S (by unfold zR; omega) dX1_lookAt_46 (by decide) (fun c_40 => ?_) (fun c_40 => ?_)
              · exact hret _ _ _ _ L0 dX1_lookAt_77 ⟨(show zlc1 ar ff fl → L0 = zU L0 ff.toNat (zmin (L0 ff.toNat) fl) from (fun z => absurd z (by unfold zlc1; omega))), (show ¬ zlc1 ar ff fl → L0 = L0 from (fun _ => rfl))⟩ (hP.sub [0, 1] rfl) (hD.sub [0, 1] (by decide) rfl) hS
              · exact absurd c_40 (by omega)
            · refine zv_iconst S dX1_lookAt_38 ?_
              refine zv_goto (tgt := 43) S dX1_lookAt_39 (by decide) ?_
              refine zv_istore (lv' := [(4, .int (zI 1)), (3, .int (zI 1)), (0, .ref h0), (1, .int (zI ff)), (2, .int (zI fl))]) S dX1_lookAt_43 hl (by decide) rfl (fun ls hl => ?_)
              refine zv_iload_n S dX1_lookAt_45 rfl (lv_at hl 1 rfl) ?_
              refine zv_if_ne (tgt := 77) S (by unfold zR; omega) dX1_lookAt_46 (by decide) (fun c_41 => ?_) (fun c_41 => ?_)
              · exact hret _ _ _ _ L0 dX1_lookAt_77 ⟨(show zlc1 ar ff fl → L0 = zU L0 ff.toNat (zmin (L0 ff.toNat) fl) from (fun z => absurd z (by unfold zlc1; omega))), (show ¬ zlc1 ar ff fl → L0 = L0 from (fun _ => rfl))⟩ (hP.sub [0, 1] rfl) (hD.sub [0, 1] (by decide) rfl) hS
              · exact absurd c_41 (by omega)
