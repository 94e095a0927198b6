theorem wd_X0_init_m3 : Cond.methodLink RX0 3 objectInit ∈ wsX0_init := by decide +kernel
theorem wd_X0_init_oi : Cond.instanceMethod objectInit ∈ wsX0_init := by decide +kernel
theorem wd_X0_init_oc : Cond.code objectInit ⟨#[0xb1]⟩ 1 none ∈ wsX0_init := by decide +kernel
theorem wd_X0_init_aclong : Cond.arrayClass .long ∈ wsX0_init := by decide +kernel
theorem wd_X0_init_f9 : Cond.fieldLink RX0 9 "PointMill$Coins" "waysTo" "[J" ∈ wsX0_init := by decide +kernel
theorem in_X0_init_X0 : ∀ w ∈ wsX00, w ∈ wsX0_init := by decide +kernel
theorem wd_X0_init_acint : Cond.arrayClass .int ∈ wsX0_init := by decide +kernel
theorem wd_X0_init_f15 : Cond.fieldLink RX0 15 "PointMill$Coins" "leastSum" "[I" ∈ wsX0_init := by decide +kernel
set_option maxHeartbeats 4000000 in
set_option maxRecDepth 100000 in
/-- new Coins -/
theorem c_X0_init (l : Launch) (G : zG) (sz : Nat) (h0 : Nat) : Met l yX0_init wsX0_init ({ frames := 1, cells := 2, slots := 1061, locals := 12 }) (va_Pc [.ref h0] (zPre G sz [(h0, .inr (0, [.null, .null, .long (zL 0), .int (zI 0)]))])) (va_Qv (fun (u : (Nat) × (Nat)) => True) (fun u => zW G (va_A [(h0, .inr (0, [.null, .null, .long (zL 0), .int (zI 0)]))] sz) ((fun (u : (Nat) × (Nat)) => [(h0, .inr (0, [.ref u.1, .ref u.2, .long (zL 0), .int (zI 0)])), zcl G u.1 1001 (fun _ => 0), zci G u.2 60 (fun _ => 0)]) u)) (va_A [(h0, .inr (0, [.null, .null, .long (zL 0), .int (zI 0)]))] sz)) 2 1061 (va_A [(h0, .inr (0, [.null, .null, .long (zL 0), .int (zI 0)]))] sz) := by
  refine zM_v0 (post := fun (u : (Nat) × (Nat)) => True) (w1 := fun (u : (Nat) × (Nat)) => [(h0, .inr (0, [.ref u.1, .ref u.2, .long (zL 0), .int (zI 0)])), zcl G u.1 1001 (fun _ => 0), zci G u.2 60 (fun _ => 0)]) (plainFor_of_name (by decide)) rfl (Nat.le_of_ble_eq_true rfl) rfl ?_
  intro p e s m below meth c A Q hin S hN hK hP hD hS hA hret ls hl
  have hl : lv_has ls 1 [(0, .ref h0)] := hl
  refine zv_aload_n S dX0_init_0 rfl (lv_at hl 0 rfl) ?_
  refine W.objInit S.1 S.2.1 S.2.2.2.1 (S.2.2.2.2 _ wd_X0_init_m3) (S.2.2.2.2 _ wd_X0_init_oi) (S.2.2.2.2 _ wd_X0_init_oc) rfl (by rw [S.2.2.1]; exact hl.1) rfl dX0_init_1 (Nat.le_of_ble_eq_true rfl) (Nat.le_of_ble_eq_true rfl) ?_
  refine W.eq (g2 := F0 m 4 ls []) rfl ?_
  refine zv_aload_n S dX0_init_4 rfl (lv_at hl 0 rfl) ?_
  refine zv_sipush (v := 1001) S dX0_init_5 (by decide) ?_
  refine zv_newl S wd_X0_init_aclong hK hP hD hS hA 1001 rfl (Nat.le_of_ble_eq_true rfl) (Nat.le_of_ble_eq_true rfl) (Nat.le_of_ble_eq_true rfl) dX0_init_8 (fun q_1 H hP hD hS => ?_)
  have hP : va_P G.1 vwCl [(h0, .inr (0, [.null, .null, .long (zL 0), .int (zI 0)])), zcl G q_1 1001 (fun _ => 0)] H := hP
  have hD : va_D A [(h0, .inr (0, [.null, .null, .long (zL 0), .int (zI 0)])), zcl G q_1 1001 (fun _ => 0)] := hD
  refine zv_putF (C := RX0) (T := TX0) (N := 4) (ci := 0) (v := .ref q_1) S in_X0_init_X0 tyX0 tyX0_ok nmX0 hK hP hD hS 0 rfl rfl 0 (by decide) wd_X0_init_f9 rfl rfl hin rfl rfl rfl (Nat.le_of_ble_eq_true rfl) dX0_init_10 (fun H locs hP hD hS => ?_)
  have hP : va_P G.1 vwCl [(h0, .inr (0, [.ref q_1, .null, .long (zL 0), .int (zI 0)])), zcl G q_1 1001 (fun _ => 0)] H := hP
  have hD : va_D A [(h0, .inr (0, [.ref q_1, .null, .long (zL 0), .int (zI 0)])), zcl G q_1 1001 (fun _ => 0)] := hD
  refine zv_aload_n S dX0_init_13 rfl (lv_at hl 0 rfl) ?_
  refine zv_bipush (v := 60) S dX0_init_14 (by decide) ?_
  refine zv_newi S wd_X0_init_acint hK hP hD hS hA 60 rfl (Nat.le_of_ble_eq_true rfl) (Nat.le_of_ble_eq_true rfl) (Nat.le_of_ble_eq_true rfl) dX0_init_16 (fun q_2 H hP hD hS => ?_)
  have hP : va_P G.1 vwCl [(h0, .inr (0, [.ref q_1, .null, .long (zL 0), .int (zI 0)])), zcl G q_1 1001 (fun _ => 0), zci G q_2 60 (fun _ => 0)] H := hP
  have hD : va_D A [(h0, .inr (0, [.ref q_1, .null, .long (zL 0), .int (zI 0)])), zcl G q_1 1001 (fun _ => 0), zci G q_2 60 (fun _ => 0)] := hD
  refine zv_putF (C := RX0) (T := TX0) (N := 4) (ci := 0) (v := .ref q_2) S in_X0_init_X0 tyX0 tyX0_ok nmX0 hK hP hD hS 0 rfl rfl 1 (by decide) wd_X0_init_f15 rfl rfl hin rfl rfl rfl (Nat.le_of_ble_eq_true rfl) dX0_init_18 (fun H locs hP hD hS => ?_)
  have hP : va_P G.1 vwCl [(h0, .inr (0, [.ref q_1, .ref q_2, .long (zL 0), .int (zI 0)])), zcl G q_1 1001 (fun _ => 0), zci G q_2 60 (fun _ => 0)] H := hP
  have hD : va_D A [(h0, .inr (0, [.ref q_1, .ref q_2, .long (zL 0), .int (zI 0)])), zcl G q_1 1001 (fun _ => 0), zci G q_2 60 (fun _ => 0)] := hD
  exact hret _ _ _ _ ⟨q_1, q_2⟩ dX0_init_21 trivial (hP.sub [0, 1, 2] rfl) (hD.sub [0, 1, 2] (by decide) rfl) hS

theorem wd_X1_init_m3 : Cond.methodLink RX1 3 objectInit ∈ wsX1_init := by decide +kernel
theorem wd_X1_init_oi : Cond.instanceMethod objectInit ∈ wsX1_init := by decide +kernel
theorem wd_X1_init_oc : Cond.code objectInit ⟨#[0xb1]⟩ 1 none ∈ wsX1_init := by decide +kernel
theorem wd_X1_init_acint : Cond.arrayClass .int ∈ wsX1_init := by decide +kernel
theorem wd_X1_init_f11 : Cond.fieldLink RX1 11 "PointMill$Cone" "leastFromLast" "[I" ∈ wsX1_init := by decide +kernel
theorem in_X1_init_X1 : ∀ w ∈ wsX10, w ∈ wsX1_init := by decide +kernel
set_option maxHeartbeats 4000000 in
set_option maxRecDepth 100000 in
/-- new Cone -/
theorem c_X1_init (l : Launch) (G : zG) (sz : Nat) (h0 : Nat) : Met l yX1_init wsX1_init ({ frames := 1, cells := 1, slots := 801, locals := 12 }) (va_Pc [.ref h0] (zPre G sz [(h0, .inr (1, [.null, .int (zI 0), .int (zI 0), .int (zI 0), .int (zI 0), .int (zI 0), .int (zI 0), .int (zI 0), .int (zI 0)]))])) (va_Qv (fun (u : (Nat)) => True) (fun u => zW G (va_A [(h0, .inr (1, [.null, .int (zI 0), .int (zI 0), .int (zI 0), .int (zI 0), .int (zI 0), .int (zI 0), .int (zI 0), .int (zI 0)]))] sz) ((fun (u : (Nat)) => [(h0, .inr (1, [.ref u, .int (zI 0), .int (zI 0), .int (zI 0), .int (zI 0), .int (zI 0), .int (zI 0), .int (zI 0), .int (zI 0)])), zci G u 801 (fun _ => 0)]) u)) (va_A [(h0, .inr (1, [.null, .int (zI 0), .int (zI 0), .int (zI 0), .int (zI 0), .int (zI 0), .int (zI 0), .int (zI 0), .int (zI 0)]))] sz)) 1 801 (va_A [(h0, .inr (1, [.null, .int (zI 0), .int (zI 0), .int (zI 0), .int (zI 0), .int (zI 0), .int (zI 0), .int (zI 0), .int (zI 0)]))] sz) := by
  refine zM_v0 (post := fun (u : (Nat)) => True) (w1 := fun (u : (Nat)) => [(h0, .inr (1, [.ref u, .int (zI 0), .int (zI 0), .int (zI 0), .int (zI 0), .int (zI 0), .int (zI 0), .int (zI 0), .int (zI 0)])), zci G u 801 (fun _ => 0)]) (plainFor_of_name (by decide)) rfl (Nat.le_of_ble_eq_true rfl) rfl ?_
  intro p e s m below meth c A Q hin S hN hK hP hD hS hA hret ls hl
  have hl : lv_has ls 1 [(0, .ref h0)] := hl
  refine zv_aload_n S dX1_init_0 rfl (lv_at hl 0 rfl) ?_
  refine W.objInit S.1 S.2.1 S.2.2.2.1 (S.2.2.2.2 _ wd_X1_init_m3) (S.2.2.2.2 _ wd_X1_init_oi) (S.2.2.2.2 _ wd_X1_init_oc) rfl (by rw [S.2.2.1]; exact hl.1) rfl dX1_init_1 (Nat.le_of_ble_eq_true rfl) (Nat.le_of_ble_eq_true rfl) ?_
  refine W.eq (g2 := F0 m 4 ls []) rfl ?_
  refine zv_aload_n S dX1_init_4 rfl (lv_at hl 0 rfl) ?_
  refine zv_sipush (v := 801) S dX1_init_5 (by decide) ?_
  refine zv_newi S wd_X1_init_acint hK hP hD hS hA 801 rfl (Nat.le_of_ble_eq_true rfl) (Nat.le_of_ble_eq_true rfl) (Nat.le_of_ble_eq_true rfl) dX1_init_8 (fun q_1 H hP hD hS => ?_)
  have hP : va_P G.1 vwCl [(h0, .inr (1, [.null, .int (zI 0), .int (zI 0), .int (zI 0), .int (zI 0), .int (zI 0), .int (zI 0), .int (zI 0), .int (zI 0)])), zci G q_1 801 (fun _ => 0)] H := hP
  have hD : va_D A [(h0, .inr (1, [.null, .int (zI 0), .int (zI 0), .int (zI 0), .int (zI 0), .int (zI 0), .int (zI 0), .int (zI 0), .int (zI 0)])), zci G q_1 801 (fun _ => 0)] := hD
  refine zv_putF (C := RX1) (T := TX1) (N := 9) (ci := 1) (v := .ref q_1) S in_X1_init_X1 tyX1 tyX1_ok nmX1 hK hP hD hS 0 rfl rfl 0 (by decide) wd_X1_init_f11 rfl rfl hin rfl rfl rfl (Nat.le_of_ble_eq_true rfl) dX1_init_10 (fun H locs hP hD hS => ?_)
  have hP : va_P G.1 vwCl [(h0, .inr (1, [.ref q_1, .int (zI 0), .int (zI 0), .int (zI 0), .int (zI 0), .int (zI 0), .int (zI 0), .int (zI 0), .int (zI 0)])), zci G q_1 801 (fun _ => 0)] H := hP
  have hD : va_D A [(h0, .inr (1, [.ref q_1, .int (zI 0), .int (zI 0), .int (zI 0), .int (zI 0), .int (zI 0), .int (zI 0), .int (zI 0), .int (zI 0)])), zci G q_1 801 (fun _ => 0)] := hD
  exact hret _ _ _ _ q_1 dX1_init_13 trivial (hP.sub [0, 1] rfl) (hD.sub [0, 1] (by decide) rfl) hS

theorem wd_X2_init_m3 : Cond.methodLink RX2 3 objectInit ∈ wsX2_init := by decide +kernel
theorem wd_X2_init_oi : Cond.instanceMethod objectInit ∈ wsX2_init := by decide +kernel
theorem wd_X2_init_oc : Cond.code objectInit ⟨#[0xb1]⟩ 1 none ∈ wsX2_init := by decide +kernel
theorem wd_X2_init_acint : Cond.arrayClass .int ∈ wsX2_init := by decide +kernel
theorem wd_X2_init_f9 : Cond.fieldLink RX2 9 "PointMill$Region" "across" "[I" ∈ wsX2_init := by decide +kernel
theorem in_X2_init_X2 : ∀ w ∈ wsX20, w ∈ wsX2_init := by decide +kernel
theorem wd_X2_init_f15 : Cond.fieldLink RX2 15 "PointMill$Region" "upward" "[I" ∈ wsX2_init := by decide +kernel
theorem wd_X2_init_f18 : Cond.fieldLink RX2 18 "PointMill$Region" "limit" "[I" ∈ wsX2_init := by decide +kernel
set_option maxHeartbeats 4000000 in
set_option maxRecDepth 100000 in
/-- new Region -/
theorem c_X2_init (l : Launch) (G : zG) (sz : Nat) (h0 : Nat) : Met l yX2_init wsX2_init ({ frames := 1, cells := 3, slots := 30, locals := 12 }) (va_Pc [.ref h0] (zPre G sz [(h0, .inr (2, [.null, .null, .null, .int (zI 0), .int (zI 0), .int (zI 0), .int (zI 0), .int (zI 0), .int (zI 0), .int (zI 0)]))])) (va_Qv (fun (u : (Nat) × (Nat) × (Nat)) => True) (fun u => zW G (va_A [(h0, .inr (2, [.null, .null, .null, .int (zI 0), .int (zI 0), .int (zI 0), .int (zI 0), .int (zI 0), .int (zI 0), .int (zI 0)]))] sz) ((fun (u : (Nat) × (Nat) × (Nat)) => [(h0, .inr (2, [.ref u.1, .ref u.2.1, .ref u.2.2, .int (zI 0), .int (zI 0), .int (zI 0), .int (zI 0), .int (zI 0), .int (zI 0), .int (zI 0)])), zci G u.1 10 (fun _ => 0), zci G u.2.1 10 (fun _ => 0), zci G u.2.2 10 (fun _ => 0)]) u)) (va_A [(h0, .inr (2, [.null, .null, .null, .int (zI 0), .int (zI 0), .int (zI 0), .int (zI 0), .int (zI 0), .int (zI 0), .int (zI 0)]))] sz)) 3 30 (va_A [(h0, .inr (2, [.null, .null, .null, .int (zI 0), .int (zI 0), .int (zI 0), .int (zI 0), .int (zI 0), .int (zI 0), .int (zI 0)]))] sz) := by
  refine zM_v0 (post := fun (u : (Nat) × (Nat) × (Nat)) => True) (w1 := fun (u : (Nat) × (Nat) × (Nat)) => [(h0, .inr (2, [.ref u.1, .ref u.2.1, .ref u.2.2, .int (zI 0), .int (zI 0), .int (zI 0), .int (zI 0), .int (zI 0), .int (zI 0), .int (zI 0)])), zci G u.1 10 (fun _ => 0), zci G u.2.1 10 (fun _ => 0), zci G u.2.2 10 (fun _ => 0)]) (plainFor_of_name (by decide)) rfl (Nat.le_of_ble_eq_true rfl) rfl ?_
  intro p e s m below meth c A Q hin S hN hK hP hD hS hA hret ls hl
  have hl : lv_has ls 1 [(0, .ref h0)] := hl
  refine zv_aload_n S dX2_init_0 rfl (lv_at hl 0 rfl) ?_
  refine W.objInit S.1 S.2.1 S.2.2.2.1 (S.2.2.2.2 _ wd_X2_init_m3) (S.2.2.2.2 _ wd_X2_init_oi) (S.2.2.2.2 _ wd_X2_init_oc) rfl (by rw [S.2.2.1]; exact hl.1) rfl dX2_init_1 (Nat.le_of_ble_eq_true rfl) (Nat.le_of_ble_eq_true rfl) ?_
  refine W.eq (g2 := F0 m 4 ls []) rfl ?_
  refine zv_aload_n S dX2_init_4 rfl (lv_at hl 0 rfl) ?_
  refine zv_bipush (v := 10) S dX2_init_5 (by decide) ?_
  refine zv_newi S wd_X2_init_acint hK hP hD hS hA 10 rfl (Nat.le_of_ble_eq_true rfl) (Nat.le_of_ble_eq_true rfl) (Nat.le_of_ble_eq_true rfl) dX2_init_7 (fun q_1 H hP hD hS => ?_)
  have hP : va_P G.1 vwCl [(h0, .inr (2, [.null, .null, .null, .int (zI 0), .int (zI 0), .int (zI 0), .int (zI 0), .int (zI 0), .int (zI 0), .int (zI 0)])), zci G q_1 10 (fun _ => 0)] H := hP
  have hD : va_D A [(h0, .inr (2, [.null, .null, .null, .int (zI 0), .int (zI 0), .int (zI 0), .int (zI 0), .int (zI 0), .int (zI 0), .int (zI 0)])), zci G q_1 10 (fun _ => 0)] := hD
  refine zv_putF (C := RX2) (T := TX2) (N := 10) (ci := 2) (v := .ref q_1) S in_X2_init_X2 tyX2 tyX2_ok nmX2 hK hP hD hS 0 rfl rfl 0 (by decide) wd_X2_init_f9 rfl rfl hin rfl rfl rfl (Nat.le_of_ble_eq_true rfl) dX2_init_9 (fun H locs hP hD hS => ?_)
  have hP : va_P G.1 vwCl [(h0, .inr (2, [.ref q_1, .null, .null, .int (zI 0), .int (zI 0), .int (zI 0), .int (zI 0), .int (zI 0), .int (zI 0), .int (zI 0)])), zci G q_1 10 (fun _ => 0)] H := hP
  have hD : va_D A [(h0, .inr (2, [.ref q_1, .null, .null, .int (zI 0), .int (zI 0), .int (zI 0), .int (zI 0), .int (zI 0), .int (zI 0), .int (zI 0)])), zci G q_1 10 (fun _ => 0)] := hD
  refine zv_aload_n S dX2_init_12 rfl (lv_at hl 0 rfl) ?_
  refine zv_bipush (v := 10) S dX2_init_13 (by decide) ?_
  refine zv_newi S wd_X2_init_acint hK hP hD hS hA 10 rfl (Nat.le_of_ble_eq_true rfl) (Nat.le_of_ble_eq_true rfl) (Nat.le_of_ble_eq_true rfl) dX2_init_15 (fun q_2 H hP hD hS => ?_)
  have hP : va_P G.1 vwCl [(h0, .inr (2, [.ref q_1, .null, .null, .int (zI 0), .int (zI 0), .int (zI 0), .int (zI 0), .int (zI 0), .int (zI 0), .int (zI 0)])), zci G q_1 10 (fun _ => 0), zci G q_2 10 (fun _ => 0)] H := hP
  have hD : va_D A [(h0, .inr (2, [.ref q_1, .null, .null, .int (zI 0), .int (zI 0), .int (zI 0), .int (zI 0), .int (zI 0), .int (zI 0), .int (zI 0)])), zci G q_1 10 (fun _ => 0), zci G q_2 10 (fun _ => 0)] := hD
  refine zv_putF (C := RX2) (T := TX2) (N := 10) (ci := 2) (v := .ref q_2) S in_X2_init_X2 tyX2 tyX2_ok nmX2 hK hP hD hS 0 rfl rfl 1 (by decide) wd_X2_init_f15 rfl rfl hin rfl rfl rfl (Nat.le_of_ble_eq_true rfl) dX2_init_17 (fun H locs hP hD hS => ?_)
  have hP : va_P G.1 vwCl [(h0, .inr (2, [.ref q_1, .ref q_2, .null, .int (zI 0), .int (zI 0), .int (zI 0), .int (zI 0), .int (zI 0), .int (zI 0), .int (zI 0)])), zci G q_1 10 (fun _ => 0), zci G q_2 10 (fun _ => 0)] H := hP
  have hD : va_D A [(h0, .inr (2, [.ref q_1, .ref q_2, .null, .int (zI 0), .int (zI 0), .int (zI 0), .int (zI 0), .int (zI 0), .int (zI 0), .int (zI 0)])), zci G q_1 10 (fun _ => 0), zci G q_2 10 (fun _ => 0)] := hD
  refine zv_aload_n S dX2_init_20 rfl (lv_at hl 0 rfl) ?_
  refine zv_bipush (v := 10) S dX2_init_21 (by decide) ?_
  refine zv_newi S wd_X2_init_acint hK hP hD hS hA 10 rfl (Nat.le_of_ble_eq_true rfl) (Nat.le_of_ble_eq_true rfl) (Nat.le_of_ble_eq_true rfl) dX2_init_23 (fun q_3 H hP hD hS => ?_)
  have hP : va_P G.1 vwCl [(h0, .inr (2, [.ref q_1, .ref q_2, .null, .int (zI 0), .int (zI 0), .int (zI 0), .int (zI 0), .int (zI 0), .int (zI 0), .int (zI 0)])), zci G q_1 10 (fun _ => 0), zci G q_2 10 (fun _ => 0), zci G q_3 10 (fun _ => 0)] H := hP
  have hD : va_D A [(h0, .inr (2, [.ref q_1, .ref q_2, .null, .int (zI 0), .int (zI 0), .int (zI 0), .int (zI 0), .int (zI 0), .int (zI 0), .int (zI 0)])), zci G q_1 10 (fun _ => 0), zci G q_2 10 (fun _ => 0), zci G q_3 10 (fun _ => 0)] := hD
  refine zv_putF (C := RX2) (T := TX2) (N := 10) (ci := 2) (v := .ref q_3) S in_X2_init_X2 tyX2 tyX2_ok nmX2 hK hP hD hS 0 rfl rfl 2 (by decide) wd_X2_init_f18 rfl rfl hin rfl rfl rfl (Nat.le_of_ble_eq_true rfl) dX2_init_25 (fun H locs hP hD hS => ?_)
  have hP : va_P G.1 vwCl [(h0, .inr (2, [.ref q_1, .ref q_2, .ref q_3, .int (zI 0), .int (zI 0), .int (zI 0), .int (zI 0), .int (zI 0), .int (zI 0), .int (zI 0)])), zci G q_1 10 (fun _ => 0), zci G q_2 10 (fun _ => 0), zci G q_3 10 (fun _ => 0)] H := hP
  have hD : va_D A [(h0, .inr (2, [.ref q_1, .ref q_2, .ref q_3, .int (zI 0), .int (zI 0), .int (zI 0), .int (zI 0), .int (zI 0), .int (zI 0), .int (zI 0)])), zci G q_1 10 (fun _ => 0), zci G q_2 10 (fun _ => 0), zci G q_3 10 (fun _ => 0)] := hD
  exact hret _ _ _ _ ⟨q_1, q_2, q_3⟩ dX2_init_28 trivial (hP.sub [0, 1, 2, 3] rfl) (hD.sub [0, 1, 2, 3] (by decide) rfl) hS

theorem wd_X3_init_m3 : Cond.methodLink RX3 3 objectInit ∈ wsX3_init := by decide +kernel
theorem wd_X3_init_oi : Cond.instanceMethod objectInit ∈ wsX3_init := by decide +kernel
theorem wd_X3_init_oc : Cond.code objectInit ⟨#[0xb1]⟩ 1 none ∈ wsX3_init := by decide +kernel
theorem wd_X3_init_acint : Cond.arrayClass .int ∈ wsX3_init := by decide +kernel
theorem wd_X3_init_f9 : Cond.fieldLink RX3 9 "PointMill$Shape" "a" "[I" ∈ wsX3_init := by decide +kernel
theorem in_X3_init_X3 : ∀ w ∈ wsX30, w ∈ wsX3_init := by decide +kernel
theorem wd_X3_init_f15 : Cond.fieldLink RX3 15 "PointMill$Shape" "b" "[I" ∈ wsX3_init := by decide +kernel
theorem wd_X3_init_f18 : Cond.fieldLink RX3 18 "PointMill$Shape" "c" "[I" ∈ wsX3_init := by decide +kernel
theorem wd_X3_init_f21 : Cond.fieldLink RX3 21 "PointMill$Shape" "e" "[I" ∈ wsX3_init := by decide +kernel
set_option maxHeartbeats 4000000 in
set_option maxRecDepth 100000 in
/-- new Shape -/
theorem c_X3_init (l : Launch) (G : zG) (sz : Nat) (h0 : Nat) : Met l yX3_init wsX3_init ({ frames := 1, cells := 4, slots := 40, locals := 12 }) (va_Pc [.ref h0] (zPre G sz [(h0, .inr (3, [.null, .null, .null, .null, .int (zI 0)]))])) (va_Qv (fun (u : (Nat) × (Nat) × (Nat) × (Nat)) => True) (fun u => zW G (va_A [(h0, .inr (3, [.null, .null, .null, .null, .int (zI 0)]))] sz) ((fun (u : (Nat) × (Nat) × (Nat) × (Nat)) => [(h0, .inr (3, [.ref u.1, .ref u.2.1, .ref u.2.2.1, .ref u.2.2.2, .int (zI 0)])), zci G u.1 10 (fun _ => 0), zci G u.2.1 10 (fun _ => 0), zci G u.2.2.1 10 (fun _ => 0), zci G u.2.2.2 10 (fun _ => 0)]) u)) (va_A [(h0, .inr (3, [.null, .null, .null, .null, .int (zI 0)]))] sz)) 4 40 (va_A [(h0, .inr (3, [.null, .null, .null, .null, .int (zI 0)]))] sz) := by
  refine zM_v0 (post := fun (u : (Nat) × (Nat) × (Nat) × (Nat)) => True) (w1 := fun (u : (Nat) × (Nat) × (Nat) × (Nat)) => [(h0, .inr (3, [.ref u.1, .ref u.2.1, .ref u.2.2.1, .ref u.2.2.2, .int (zI 0)])), zci G u.1 10 (fun _ => 0), zci G u.2.1 10 (fun _ => 0), zci G u.2.2.1 10 (fun _ => 0), zci G u.2.2.2 10 (fun _ => 0)]) (plainFor_of_name (by decide)) rfl (Nat.le_of_ble_eq_true rfl) rfl ?_
  intro p e s m below meth c A Q hin S hN hK hP hD hS hA hret ls hl
  have hl : lv_has ls 1 [(0, .ref h0)] := hl
  refine zv_aload_n S dX3_init_0 rfl (lv_at hl 0 rfl) ?_
  refine W.objInit S.1 S.2.1 S.2.2.2.1 (S.2.2.2.2 _ wd_X3_init_m3) (S.2.2.2.2 _ wd_X3_init_oi) (S.2.2.2.2 _ wd_X3_init_oc) rfl (by rw [S.2.2.1]; exact hl.1) rfl dX3_init_1 (Nat.le_of_ble_eq_true rfl) (Nat.le_of_ble_eq_true rfl) ?_
  refine W.eq (g2 := F0 m 4 ls []) rfl ?_
  refine zv_aload_n S dX3_init_4 rfl (lv_at hl 0 rfl) ?_
  refine zv_bipush (v := 10) S dX3_init_5 (by decide) ?_
  refine zv_newi S wd_X3_init_acint hK hP hD hS hA 10 rfl (Nat.le_of_ble_eq_true rfl) (Nat.le_of_ble_eq_true rfl) (Nat.le_of_ble_eq_true rfl) dX3_init_7 (fun q_1 H hP hD hS => ?_)
  have hP : va_P G.1 vwCl [(h0, .inr (3, [.null, .null, .null, .null, .int (zI 0)])), zci G q_1 10 (fun _ => 0)] H := hP
  have hD : va_D A [(h0, .inr (3, [.null, .null, .null, .null, .int (zI 0)])), zci G q_1 10 (fun _ => 0)] := hD
  refine zv_putF (C := RX3) (T := TX3) (N := 5) (ci := 3) (v := .ref q_1) S in_X3_init_X3 tyX3 tyX3_ok nmX3 hK hP hD hS 0 rfl rfl 0 (by decide) wd_X3_init_f9 rfl rfl hin rfl rfl rfl (Nat.le_of_ble_eq_true rfl) dX3_init_9 (fun H locs hP hD hS => ?_)
  have hP : va_P G.1 vwCl [(h0, .inr (3, [.ref q_1, .null, .null, .null, .int (zI 0)])), zci G q_1 10 (fun _ => 0)] H := hP
  have hD : va_D A [(h0, .inr (3, [.ref q_1, .null, .null, .null, .int (zI 0)])), zci G q_1 10 (fun _ => 0)] := hD
  refine zv_aload_n S dX3_init_12 rfl (lv_at hl 0 rfl) ?_
  refine zv_bipush (v := 10) S dX3_init_13 (by decide) ?_
  refine zv_newi S wd_X3_init_acint hK hP hD hS hA 10 rfl (Nat.le_of_ble_eq_true rfl) (Nat.le_of_ble_eq_true rfl) (Nat.le_of_ble_eq_true rfl) dX3_init_15 (fun q_2 H hP hD hS => ?_)
  have hP : va_P G.1 vwCl [(h0, .inr (3, [.ref q_1, .null, .null, .null, .int (zI 0)])), zci G q_1 10 (fun _ => 0), zci G q_2 10 (fun _ => 0)] H := hP
  have hD : va_D A [(h0, .inr (3, [.ref q_1, .null, .null, .null, .int (zI 0)])), zci G q_1 10 (fun _ => 0), zci G q_2 10 (fun _ => 0)] := hD
  refine zv_putF (C := RX3) (T := TX3) (N := 5) (ci := 3) (v := .ref q_2) S in_X3_init_X3 tyX3 tyX3_ok nmX3 hK hP hD hS 0 rfl rfl 1 (by decide) wd_X3_init_f15 rfl rfl hin rfl rfl rfl (Nat.le_of_ble_eq_true rfl) dX3_init_17 (fun H locs hP hD hS => ?_)
  have hP : va_P G.1 vwCl [(h0, .inr (3, [.ref q_1, .ref q_2, .null, .null, .int (zI 0)])), zci G q_1 10 (fun _ => 0), zci G q_2 10 (fun _ => 0)] H := hP
  have hD : va_D A [(h0, .inr (3, [.ref q_1, .ref q_2, .null, .null, .int (zI 0)])), zci G q_1 10 (fun _ => 0), zci G q_2 10 (fun _ => 0)] := hD
  refine zv_aload_n S dX3_init_20 rfl (lv_at hl 0 rfl) ?_
  refine zv_bipush (v := 10) S dX3_init_21 (by decide) ?_
  refine zv_newi S wd_X3_init_acint hK hP hD hS hA 10 rfl (Nat.le_of_ble_eq_true rfl) (Nat.le_of_ble_eq_true rfl) (Nat.le_of_ble_eq_true rfl) dX3_init_23 (fun q_3 H hP hD hS => ?_)
  have hP : va_P G.1 vwCl [(h0, .inr (3, [.ref q_1, .ref q_2, .null, .null, .int (zI 0)])), zci G q_1 10 (fun _ => 0), zci G q_2 10 (fun _ => 0), zci G q_3 10 (fun _ => 0)] H := hP
  have hD : va_D A [(h0, .inr (3, [.ref q_1, .ref q_2, .null, .null, .int (zI 0)])), zci G q_1 10 (fun _ => 0), zci G q_2 10 (fun _ => 0), zci G q_3 10 (fun _ => 0)] := hD
  refine zv_putF (C := RX3) (T := TX3) (N := 5) (ci := 3) (v := .ref q_3) S in_X3_init_X3 tyX3 tyX3_ok nmX3 hK hP hD hS 0 rfl rfl 2 (by decide) wd_X3_init_f18 rfl rfl hin rfl rfl rfl (Nat.le_of_ble_eq_true rfl) dX3_init_25 (fun H locs hP hD hS => ?_)
  have hP : va_P G.1 vwCl [(h0, .inr (3, [.ref q_1, .ref q_2, .ref q_3, .null, .int (zI 0)])), zci G q_1 10 (fun _ => 0), zci G q_2 10 (fun _ => 0), zci G q_3 10 (fun _ => 0)] H := hP
  have hD : va_D A [(h0, .inr (3, [.ref q_1, .ref q_2, .ref q_3, .null, .int (zI 0)])), zci G q_1 10 (fun _ => 0), zci G q_2 10 (fun _ => 0), zci G q_3 10 (fun _ => 0)] := hD
  refine zv_aload_n S dX3_init_28 rfl (lv_at hl 0 rfl) ?_
  refine zv_bipush (v := 10) S dX3_init_29 (by decide) ?_
  refine zv_newi S wd_X3_init_acint hK hP hD hS hA 10 rfl (Nat.le_of_ble_eq_true rfl) (Nat.le_of_ble_eq_true rfl) (Nat.le_of_ble_eq_true rfl) dX3_init_31 (fun q_4 H hP hD hS => ?_)
  have hP : va_P G.1 vwCl [(h0, .inr (3, [.ref q_1, .ref q_2, .ref q_3, .null, .int (zI 0)])), zci G q_1 10 (fun _ => 0), zci G q_2 10 (fun _ => 0), zci G q_3 10 (fun _ => 0), zci G q_4 10 (fun _ => 0)] H := hP
  have hD : va_D A [(h0, .inr (3, [.ref q_1, .ref q_2, .ref q_3, .null, .int (zI 0)])), zci G q_1 10 (fun _ => 0), zci G q_2 10 (fun _ => 0), zci G q_3 10 (fun _ => 0), zci G q_4 10 (fun _ => 0)] := hD
  refine zv_putF (C := RX3) (T := TX3) (N := 5) (ci := 3) (v := .ref q_4) S in_X3_init_X3 tyX3 tyX3_ok nmX3 hK hP hD hS 0 rfl rfl 3 (by decide) wd_X3_init_f21 rfl rfl hin rfl rfl rfl (Nat.le_of_ble_eq_true rfl) dX3_init_33 (fun H locs hP hD hS => ?_)
  have hP : va_P G.1 vwCl [(h0, .inr (3, [.ref q_1, .ref q_2, .ref q_3, .ref q_4, .int (zI 0)])), zci G q_1 10 (fun _ => 0), zci G q_2 10 (fun _ => 0), zci G q_3 10 (fun _ => 0), zci G q_4 10 (fun _ => 0)] H := hP
  have hD : va_D A [(h0, .inr (3, [.ref q_1, .ref q_2, .ref q_3, .ref q_4, .int (zI 0)])), zci G q_1 10 (fun _ => 0), zci G q_2 10 (fun _ => 0), zci G q_3 10 (fun _ => 0), zci G q_4 10 (fun _ => 0)] := hD
  exact hret _ _ _ _ ⟨q_1, q_2, q_3, q_4⟩ dX3_init_36 trivial (hP.sub [0, 1, 2, 3, 4] rfl) (hD.sub [0, 1, 2, 3, 4] (by decide) rfl) hS
