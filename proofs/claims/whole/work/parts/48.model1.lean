theorem wd_X5_thrown_f51 : Cond.fieldLink RX5 51 "PointMillModel" "thrown" "I" ∈ wsX5_thrown := by decide +kernel
theorem in_X5_thrown_X5 : ∀ w ∈ wsX50, w ∈ wsX5_thrown := by decide +kernel
set_option maxHeartbeats 4000000 in
set_option maxRecDepth 100000 in
/-- the model: thrown -/
theorem c_X5_thrown (l : Launch) (G : zG) (sz : Nat) (h0 : Nat) (th : Int) (sh : Int) (ym : Nat) (ya : Nat) (yb : Nat) (yc : Nat) (ye : Nat) (yp : Nat) (yq : Nat) (yo : Nat) (ro : Int) (fi : Int) (la : Int) (lo : Int) (hi : Int) (co : Int) (yk : Nat) (yw : Nat) (yi : Nat) (ge : Int) (yx : Nat) (yy : Nat) (ir : Int) : Met l yX5_thrown wsX5_thrown ({ frames := 0, cells := 0, slots := 0, locals := 0 }) (va_Pc [.ref h0] (zPre G sz [(h0, .inr (5, [.int (zI th), .int (zI sh), .ref ym, .ref ya, .ref yb, .ref yc, .ref ye, .ref yp, .ref yq, .ref yo, .int (zI ro), .long (zL fi), .long (zL la), .long (zL lo), .long (zL hi), .int (zI co), .ref yk, .ref yw, .ref yi, .int (zI ge), .ref yx, .ref yy, .int (zI ir)]))])) (va_Qi (fun (r : Int32) (u : Unit) => r = zI th) (fun u => zW G (va_A [(h0, .inr (5, [.int (zI th), .int (zI sh), .ref ym, .ref ya, .ref yb, .ref yc, .ref ye, .ref yp, .ref yq, .ref yo, .int (zI ro), .long (zL fi), .long (zL la), .long (zL lo), .long (zL hi), .int (zI co), .ref yk, .ref yw, .ref yi, .int (zI ge), .ref yx, .ref yy, .int (zI ir)]))] sz) ((fun (u : Unit) => [(h0, .inr (5, [.int (zI th), .int (zI sh), .ref ym, .ref ya, .ref yb, .ref yc, .ref ye, .ref yp, .ref yq, .ref yo, .int (zI ro), .long (zL fi), .long (zL la), .long (zL lo), .long (zL hi), .int (zI co), .ref yk, .ref yw, .ref yi, .int (zI ge), .ref yx, .ref yy, .int (zI ir)]))]) u)) (va_A [(h0, .inr (5, [.int (zI th), .int (zI sh), .ref ym, .ref ya, .ref yb, .ref yc, .ref ye, .ref yp, .ref yq, .ref yo, .int (zI ro), .long (zL fi), .long (zL la), .long (zL lo), .long (zL hi), .int (zI co), .ref yk, .ref yw, .ref yi, .int (zI ge), .ref yx, .ref yy, .int (zI ir)]))] sz)) 0 0 (va_A [(h0, .inr (5, [.int (zI th), .int (zI sh), .ref ym, .ref ya, .ref yb, .ref yc, .ref ye, .ref yp, .ref yq, .ref yo, .int (zI ro), .long (zL fi), .long (zL la), .long (zL lo), .long (zL hi), .int (zI co), .ref yk, .ref yw, .ref yi, .int (zI ge), .ref yx, .ref yy, .int (zI ir)]))] sz) := by
  refine zM_i (post := fun (r : Int32) (u : Unit) => r = zI th) (w1 := fun (u : Unit) => [(h0, .inr (5, [.int (zI th), .int (zI sh), .ref ym, .ref ya, .ref yb, .ref yc, .ref ye, .ref yp, .ref yq, .ref yo, .int (zI ro), .long (zL fi), .long (zL la), .long (zL lo), .long (zL hi), .int (zI co), .ref yk, .ref yw, .ref yi, .int (zI ge), .ref yx, .ref yy, .int (zI ir)]))]) (plainFor_of_name (by decide)) rfl (Nat.le_of_ble_eq_true rfl) ?_
  intro p e s m below meth c A Q S hN hK hP hD hS hA hret ls hl
  have hl : lv_has ls 1 [(0, .ref h0)] := hl
  refine zv_aload_n S dX5_thrown_0 rfl (lv_at hl 0 rfl) ?_
  refine zv_get (C := RX5) (T := TX5) (N := 23) (ci := 5) (v := .int (zI th)) S in_X5_thrown_X5 hK hP 0 rfl rfl 0 (by decide) wd_X5_thrown_f51 rfl rfl dX5_thrown_1 ?_
  exact hret _ _ _ _ _ () dX5_thrown_4 rfl (hP.sub [0] rfl) (hD.sub [0] (by decide) rfl) hS

theorem wd_X5_isShape_f55 : Cond.fieldLink RX5 55 "PointMillModel" "shapes" "I" ∈ wsX5_isShape := by decide +kernel
theorem in_X5_isShape_X5 : ∀ w ∈ wsX50, w ∈ wsX5_isShape := by decide +kernel
set_option maxHeartbeats 4000000 in
set_option maxRecDepth 100000 in
/-- the model: isShape -/
theorem c_X5_isShape (l : Launch) (G : zG) (sz : Nat) (h0 : Nat) (th : Int) (sh : Int) (ym : Nat) (ya : Nat) (yb : Nat) (yc : Nat) (ye : Nat) (yp : Nat) (yq : Nat) (yo : Nat) (ro : Int) (fi : Int) (la : Int) (lo : Int) (hi : Int) (co : Int) (yk : Nat) (yw : Nat) (yi : Nat) (ge : Int) (yx : Nat) (yy : Nat) (ir : Int) (v : Int) (hsh : 0 ≤ sh ∧ sh ≤ 8) (hv : -2147483648 ≤ v ∧ v < 2147483648) : Met l yX5_isShape wsX5_isShape ({ frames := 1, cells := 0, slots := 0, locals := 22 }) (va_Pc [.ref h0, .int (zI v)] (zPre G sz [(h0, .inr (5, [.int (zI th), .int (zI sh), .ref ym, .ref ya, .ref yb, .ref yc, .ref ye, .ref yp, .ref yq, .ref yo, .int (zI ro), .long (zL fi), .long (zL la), .long (zL lo), .long (zL hi), .int (zI co), .ref yk, .ref yw, .ref yi, .int (zI ge), .ref yx, .ref yy, .int (zI ir)]))])) (va_Qi (fun (r : Int32) (u : Unit) => r = zI (zb (0 ≤ v ∧ v < sh))) (fun u => zW G (va_A [(h0, .inr (5, [.int (zI th), .int (zI sh), .ref ym, .ref ya, .ref yb, .ref yc, .ref ye, .ref yp, .ref yq, .ref yo, .int (zI ro), .long (zL fi), .long (zL la), .long (zL lo), .long (zL hi), .int (zI co), .ref yk, .ref yw, .ref yi, .int (zI ge), .ref yx, .ref yy, .int (zI ir)]))] sz) ((fun (u : Unit) => [(h0, .inr (5, [.int (zI th), .int (zI sh), .ref ym, .ref ya, .ref yb, .ref yc, .ref ye, .ref yp, .ref yq, .ref yo, .int (zI ro), .long (zL fi), .long (zL la), .long (zL lo), .long (zL hi), .int (zI co), .ref yk, .ref yw, .ref yi, .int (zI ge), .ref yx, .ref yy, .int (zI ir)]))]) u)) (va_A [(h0, .inr (5, [.int (zI th), .int (zI sh), .ref ym, .ref ya, .ref yb, .ref yc, .ref ye, .ref yp, .ref yq, .ref yo, .int (zI ro), .long (zL fi), .long (zL la), .long (zL lo), .long (zL hi), .int (zI co), .ref yk, .ref yw, .ref yi, .int (zI ge), .ref yx, .ref yy, .int (zI ir)]))] sz)) 0 0 (va_A [(h0, .inr (5, [.int (zI th), .int (zI sh), .ref ym, .ref ya, .ref yb, .ref yc, .ref ye, .ref yp, .ref yq, .ref yo, .int (zI ro), .long (zL fi), .long (zL la), .long (zL lo), .long (zL hi), .int (zI co), .ref yk, .ref yw, .ref yi, .int (zI ge), .ref yx, .ref yy, .int (zI ir)]))] sz) := by
  refine zM_z (post := fun (r : Int32) (u : Unit) => r = zI (zb (0 ≤ v ∧ v < sh))) (w1 := fun (u : Unit) => [(h0, .inr (5, [.int (zI th), .int (zI sh), .ref ym, .ref ya, .ref yb, .ref yc, .ref ye, .ref yp, .ref yq, .ref yo, .int (zI ro), .long (zL fi), .long (zL la), .long (zL lo), .long (zL hi), .int (zI co), .ref yk, .ref yw, .ref yi, .int (zI ge), .ref yx, .ref yy, .int (zI ir)]))]) (plainFor_of_name (by decide)) rfl (Nat.le_of_ble_eq_true rfl) ?_
  intro p e s m below meth c A Q S hN hK hP hD hS hA hret ls hl
  have hl : lv_has ls 2 [(0, .ref h0), (1, .int (zI v))] := hl
  refine zv_iload_n S dX5_isShape_0 rfl (lv_at hl 1 rfl) ?_
  refine zv_iconst S dX5_isShape_1 ?_
  refine zv_aload_n S dX5_isShape_2 rfl (lv_at hl 0 rfl) ?_
  refine zv_get (C := RX5) (T := TX5) (N := 23) (ci := 5) (v := .int (zI sh)) S in_X5_isShape_X5 hK hP 0 rfl rfl 1 (by decide) wd_X5_isShape_f55 rfl rfl dX5_isShape_3 ?_
  refine zv_iconst S dX5_isShape_6 ?_
  refine zv_isub S dX5_isShape_7 ?_
  refine zc_Si (As := [.int (zI v), .int (zI 0), .int (zI (sh - 1))]) (rest := []) (wr := [(h0, .inr (5, [.int (zI th), .int (zI sh), .ref ym, .ref ya, .ref yb, .ref yc, .ref ye, .ref yp, .ref yq, .ref yo, .int (zI ro), .long (zL fi), .long (zL la), .long (zL lo), .long (zL hi), .int (zI co), .ref yk, .ref yw, .ref yi, .int (zI ge), .ref yx, .ref yy, .int (zI ir)]))]) (n := 3) S hN hK hP hD hS hA hl (c_X5_in l G s.heap.size v 0 (sh - 1) (by omega) (by omega) (by omega)) gX5_isShape_X5_in rfl ⟨rfl, rfl⟩ (by decide +kernel) rfl ⟨Nat.le_of_ble_eq_true rfl, Nat.le_of_ble_eq_true rfl, Nat.le_of_ble_eq_true rfl, Nat.le_of_ble_eq_true rfl⟩ [] [0] rfl rfl (by decide) (by decide) (by decide) (Nat.le_of_ble_eq_true rfl) dX5_isShape_8 rfl (fun r_ u_1 H1 locs1 hp_2 hP1 hD1 hS1 hz1 => ?_)
  try dsimp only at hp_2 hP1 hD1
  subst hp_2
  generalize H1 = H at hP1 hD1 hS1 hz1 ⊢
  generalize locs1 = locs at hS1 ⊢
  have hS := hS1
  have hP : va_P G.1 vwCl [(h0, .inr (5, [.int (zI th), .int (zI sh), .ref ym, .ref ya, .ref yb, .ref yc, .ref ye, .ref yp, .ref yq, .ref yo, .int (zI ro), .long (zL fi), .long (zL la), .long (zL lo), .long (zL hi), .int (zI co), .ref yk, .ref yw, .ref yi, .int (zI ge), .ref yx, .ref yy, .int (zI ir)]))] H := hP1
  have hD : va_D A [(h0, .inr (5, [.int (zI th), .int (zI sh), .ref ym, .ref ya, .ref yb, .ref yc, .ref ye, .ref yp, .ref yq, .ref yo, .int (zI ro), .long (zL fi), .long (zL la), .long (zL lo), .long (zL hi), .int (zI co), .ref yk, .ref yw, .ref yi, .int (zI ge), .ref yx, .ref yy, .int (zI ir)]))] := hD1
  exact hret _ _ _ _ _ () dX5_isShape_11 (zI_01 _) (congrArg zI (zb_congr (by omega))) (hP.sub [0] rfl) (hD.sub [0] (by decide) rfl) hS

theorem wd_X5_isRow_f7 : Cond.fieldLink RX5 7 "PointMillModel" "many" "[I" ∈ wsX5_isRow := by decide +kernel
theorem in_X5_isRow_X5 : ∀ w ∈ wsX50, w ∈ wsX5_isRow := by decide +kernel
set_option maxHeartbeats 4000000 in
set_option maxRecDepth 100000 in
/-- the model: isRow -/
theorem c_X5_isRow (l : Launch) (G : zG) (sz : Nat) (h0 : Nat) (th : Int) (sh : Int) (ym : Nat) (ya : Nat) (yb : Nat) (yc : Nat) (ye : Nat) (yp : Nat) (yq : Nat) (yo : Nat) (ro : Int) (fi : Int) (la : Int) (lo : Int) (hi : Int) (co : Int) (yk : Nat) (yw : Nat) (yi : Nat) (ge : Int) (yx : Nat) (yy : Nat) (ir : Int) (MN : Nat → Int) (v : Int) (rw : Int) (hsh : 0 ≤ sh ∧ sh ≤ 8) (hmn : ∀ j, j < 8 → 0 ≤ MN j ∧ MN j ≤ 10) (hv : -2147483648 ≤ v ∧ v < 2147483648) (hrw : -2147483648 ≤ rw ∧ rw < 2147483648) : Met l yX5_isRow wsX5_isRow ({ frames := 2, cells := 0, slots := 0, locals := 43 }) (va_Pc [.ref h0, .int (zI v), .int (zI rw)] (zPre G sz [(h0, .inr (5, [.int (zI th), .int (zI sh), .ref ym, .ref ya, .ref yb, .ref yc, .ref ye, .ref yp, .ref yq, .ref yo, .int (zI ro), .long (zL fi), .long (zL la), .long (zL lo), .long (zL hi), .int (zI co), .ref yk, .ref yw, .ref yi, .int (zI ge), .ref yx, .ref yy, .int (zI ir)])), zci G ym 8 MN])) (va_Qi (fun (r : Int32) (u : Unit) => r = zI (zb ((0 ≤ v ∧ v < sh) ∧ 0 ≤ rw ∧ rw < MN v.toNat))) (fun u => zW G (va_A [(h0, .inr (5, [.int (zI th), .int (zI sh), .ref ym, .ref ya, .ref yb, .ref yc, .ref ye, .ref yp, .ref yq, .ref yo, .int (zI ro), .long (zL fi), .long (zL la), .long (zL lo), .long (zL hi), .int (zI co), .ref yk, .ref yw, .ref yi, .int (zI ge), .ref yx, .ref yy, .int (zI ir)])), zci G ym 8 MN] sz) ((fun (u : Unit) => [(h0, .inr (5, [.int (zI th), .int (zI sh), .ref ym, .ref ya, .ref yb, .ref yc, .ref ye, .ref yp, .ref yq, .ref yo, .int (zI ro), .long (zL fi), .long (zL la), .long (zL lo), .long (zL hi), .int (zI co), .ref yk, .ref yw, .ref yi, .int (zI ge), .ref yx, .ref yy, .int (zI ir)])), zci G ym 8 MN]) u)) (va_A [(h0, .inr (5, [.int (zI th), .int (zI sh), .ref ym, .ref ya, .ref yb, .ref yc, .ref ye, .ref yp, .ref yq, .ref yo, .int (zI ro), .long (zL fi), .long (zL la), .long (zL lo), .long (zL hi), .int (zI co), .ref yk, .ref yw, .ref yi, .int (zI ge), .ref yx, .ref yy, .int (zI ir)])), zci G ym 8 MN] sz)) 0 0 (va_A [(h0, .inr (5, [.int (zI th), .int (zI sh), .ref ym, .ref ya, .ref yb, .ref yc, .ref ye, .ref yp, .ref yq, .ref yo, .int (zI ro), .long (zL fi), .long (zL la), .long (zL lo), .long (zL hi), .int (zI co), .ref yk, .ref yw, .ref yi, .int (zI ge), .ref yx, .ref yy, .int (zI ir)])), zci G ym 8 MN] sz) := by
  refine zM_z (post := fun (r : Int32) (u : Unit) => r = zI (zb ((0 ≤ v ∧ v < sh) ∧ 0 ≤ rw ∧ rw < MN v.toNat))) (w1 := fun (u : Unit) => [(h0, .inr (5, [.int (zI th), .int (zI sh), .ref ym, .ref ya, .ref yb, .ref yc, .ref ye, .ref yp, .ref yq, .ref yo, .int (zI ro), .long (zL fi), .long (zL la), .long (zL lo), .long (zL hi), .int (zI co), .ref yk, .ref yw, .ref yi, .int (zI ge), .ref yx, .ref yy, .int (zI ir)])), zci G ym 8 MN]) (plainFor_of_name (by decide)) rfl (Nat.le_of_ble_eq_true rfl) ?_
  intro p e s m below meth c A Q S hN hK hP hD hS hA hret ls hl
  have hl : lv_has ls 3 [(0, .ref h0), (1, .int (zI v)), (2, .int (zI rw))] := hl
  refine zv_aload_n S dX5_isRow_0 rfl (lv_at hl 0 rfl) ?_
  refine zv_iload_n S dX5_isRow_1 rfl (lv_at hl 1 rfl) ?_
  refine zc_Vi (As := [.int (zI v)]) (rest := []) (wr := [zci G ym 8 MN]) (n := 1) S hN hK hP hD hS hA hl (c_X5_isShape l G s.heap.size h0 th sh ym ya yb yc ye yp yq yo ro fi la lo hi co yk yw yi ge yx yy ir v (by omega) (by omega)) gX5_isRow_X5_isShape rfl ⟨rfl, rfl⟩ (by decide +kernel) rfl ⟨Nat.le_of_ble_eq_true rfl, Nat.le_of_ble_eq_true rfl, Nat.le_of_ble_eq_true rfl, Nat.le_of_ble_eq_true rfl⟩ [0] [1] rfl rfl (by decide) (by decide) (by decide) (ci := 5) rfl rfl rfl (Nat.le_of_ble_eq_true rfl) dX5_isRow_2 rfl (fun r_ u_1 H1 locs1 hp_2 hP1 hD1 hS1 hz1 => ?_)
  try dsimp only at hp_2 hP1 hD1
  subst hp_2
  generalize H1 = H at hP1 hD1 hS1 hz1 ⊢
  generalize locs1 = locs at hS1 ⊢
  have hS := hS1
  have hP : va_P G.1 vwCl [zci G ym 8 MN, (h0, .inr (5, [.int (zI th), .int (zI sh), .ref ym, .ref ya, .ref yb, .ref yc, .ref ye, .ref yp, .ref yq, .ref yo, .int (zI ro), .long (zL fi), .long (zL la), .long (zL lo), .long (zL hi), .int (zI co), .ref yk, .ref yw, .ref yi, .int (zI ge), .ref yx, .ref yy, .int (zI ir)]))] H := hP1
  have hD : va_D A [zci G ym 8 MN, (h0, .inr (5, [.int (zI th), .int (zI sh), .ref ym, .ref ya, .ref yb, .ref yc, .ref ye, .ref yp, .ref yq, .ref yo, .int (zI ro), .long (zL fi), .long (zL la), .long (zL lo), .long (zL hi), .int (zI co), .ref yk, .ref yw, .ref yi, .int (zI ge), .ref yx, .ref yy, .int (zI ir)]))] := hD1
  refine zv_ifb_eq (tgt := 28) S dX5_isRow_5 (by decide) (fun c_3 => ?_) (fun c_3 => ?_)
  · refine zv_iconst S dX5_isRow_28 ?_
    exact hret _ _ _ _ _ () dX5_isRow_29 (by first | exact Or.inl rfl | exact Or.inr rfl) (congrArg zI (zb_f (fun z => c_3 z.1)).symm) (hP.sub [1, 0] rfl) (hD.sub [1, 0] (by decide) rfl) hS
  · refine zv_iload_n S dX5_isRow_8 rfl (lv_at hl 2 rfl) ?_
    refine zv_iconst S dX5_isRow_9 ?_
    refine zv_aload_n S dX5_isRow_10 rfl (lv_at hl 0 rfl) ?_
    refine zv_get (C := RX5) (T := TX5) (N := 23) (ci := 5) (v := .ref ym) S in_X5_isRow_X5 hK hP 1 rfl rfl 2 (by decide) wd_X5_isRow_f7 rfl rfl dX5_isRow_11 ?_
    refine zv_iload_n S dX5_isRow_14 rfl (lv_at hl 1 rfl) ?_
    have q0 := hmn v.toNat (by omega)
    refine zv_iald S hK hP 0 0 rfl rfl v.toNat (by omega) (by omega) (by decide) dX5_isRow_15 ?_
    refine zv_iconst S dX5_isRow_16 ?_
    refine zv_isub S dX5_isRow_17 ?_
    refine zc_Si (As := [.int (zI rw), .int (zI 0), .int (zI ((MN v.toNat) - 1))]) (rest := []) (wr := [zci G ym 8 MN, (h0, .inr (5, [.int (zI th), .int (zI sh), .ref ym, .ref ya, .ref yb, .ref yc, .ref ye, .ref yp, .ref yq, .ref yo, .int (zI ro), .long (zL fi), .long (zL la), .long (zL lo), .long (zL hi), .int (zI co), .ref yk, .ref yw, .ref yi, .int (zI ge), .ref yx, .ref yy, .int (zI ir)]))]) (n := 3) S hN hK hP hD hS hA hl (c_X5_in l G H.size rw 0 ((MN v.toNat) - 1) (by omega) (by omega) (by omega)) gX5_isRow_X5_in rfl ⟨rfl, rfl⟩ (by decide +kernel) rfl ⟨Nat.le_of_ble_eq_true rfl, Nat.le_of_ble_eq_true rfl, Nat.le_of_ble_eq_true rfl, Nat.le_of_ble_eq_true rfl⟩ [] [0, 1] rfl rfl (by decide) (by decide) (by decide) (Nat.le_of_ble_eq_true rfl) dX5_isRow_18 rfl (fun r_ u_4 H1 locs1 hp_5 hP1 hD1 hS1 hz1 => ?_)
    try dsimp only at hp_5 hP1 hD1
    subst hp_5
    generalize H1 = H at hP1 hD1 hS1 hz1 ⊢
    generalize locs1 = locs at hS1 ⊢
    have hS := hS1
    have hP : va_P G.1 vwCl [zci G ym 8 MN, (h0, .inr (5, [.int (zI th), .int (zI sh), .ref ym, .ref ya, .ref yb, .ref yc, .ref ye, .ref yp, .ref yq, .ref yo, .int (zI ro), .long (zL fi), .long (zL la), .long (zL lo), .long (zL hi), .int (zI co), .ref yk, .ref yw, .ref yi, .int (zI ge), .ref yx, .ref yy, .int (zI ir)]))] H := hP1
    have hD : va_D A [zci G ym 8 MN, (h0, .inr (5, [.int (zI th), .int (zI sh), .ref ym, .ref ya, .ref yb, .ref yc, .ref ye, .ref yp, .ref yq, .ref yo, .int (zI ro), .long (zL fi), .long (zL la), .long (zL lo), .long (zL hi), .int (zI co), .ref yk, .ref yw, .ref yi, .int (zI ge), .ref yx, .ref yy, .int (zI ir)]))] := hD1
    refine zv_ifb_eq (tgt := 28) S dX5_isRow_21 (by decide) (fun c_6 => ?_) (fun c_6 => ?_)
    · refine zv_iconst S dX5_isRow_28 ?_
      exact hret _ _ _ _ _ () dX5_isRow_29 (by first | exact Or.inl rfl | exact Or.inr rfl) (congrArg zI (zb_f (fun z => c_6 (by omega))).symm) (hP.sub [1, 0] rfl) (hD.sub [1, 0] (by decide) rfl) hS
    · refine zv_iconst S dX5_isRow_24 ?_
      refine zv_goto (tgt := 29) S dX5_isRow_25 (by decide) ?_
      exact hret _ _ _ _ _ () dX5_isRow_29 (by first | exact Or.inl rfl | exact Or.inr rfl) (congrArg zI (zb_t ⟨c_3, by omega⟩).symm) (hP.sub [1, 0] rfl) (hD.sub [1, 0] (by decide) rfl) hS

theorem wd_X5_shape_f55 : Cond.fieldLink RX5 55 "PointMillModel" "shapes" "I" ∈ wsX5_shape := by decide +kernel
theorem in_X5_shape_X5 : ∀ w ∈ wsX50, w ∈ wsX5_shape := by decide +kernel
theorem wd_X5_shape_f51 : Cond.fieldLink RX5 51 "PointMillModel" "thrown" "I" ∈ wsX5_shape := by decide +kernel
set_option maxHeartbeats 4000000 in
set_option maxRecDepth 100000 in
/-- the model: shape -/
theorem c_X5_shape (l : Launch) (G : zG) (sz : Nat) (h0 : Nat) (th : Int) (sh : Int) (ym : Nat) (ya : Nat) (yb : Nat) (yc : Nat) (ye : Nat) (yp : Nat) (yq : Nat) (yo : Nat) (ro : Int) (fi : Int) (la : Int) (lo : Int) (hi : Int) (co : Int) (yk : Nat) (yw : Nat) (yi : Nat) (ge : Int) (yx : Nat) (yy : Nat) (ir : Int) (hsh : 0 ≤ sh ∧ sh ≤ 8) : Met l yX5_shape wsX5_shape ({ frames := 0, cells := 0, slots := 0, locals := 0 }) (va_Pc [.ref h0] (zPre G sz [(h0, .inr (5, [.int (zI th), .int (zI sh), .ref ym, .ref ya, .ref yb, .ref yc, .ref ye, .ref yp, .ref yq, .ref yo, .int (zI ro), .long (zL fi), .long (zL la), .long (zL lo), .long (zL hi), .int (zI co), .ref yk, .ref yw, .ref yi, .int (zI ge), .ref yx, .ref yy, .int (zI ir)]))])) (va_Qi (fun (r : Int32) (u : (Int) × (Int) × (Int)) => r = zI u.1 ∧ (sh < 8 → u.1 = sh ∧ u.2.1 = 0 ∧ u.2.2 = sh + 1) ∧ (¬ sh < 8 → u.1 = 0 ∧ u.2.1 = 1 ∧ u.2.2 = sh)) (fun u => zW G (va_A [(h0, .inr (5, [.int (zI th), .int (zI sh), .ref ym, .ref ya, .ref yb, .ref yc, .ref ye, .ref yp, .ref yq, .ref yo, .int (zI ro), .long (zL fi), .long (zL la), .long (zL lo), .long (zL hi), .int (zI co), .ref yk, .ref yw, .ref yi, .int (zI ge), .ref yx, .ref yy, .int (zI ir)]))] sz) ((fun (u : (Int) × (Int) × (Int)) => [(h0, .inr (5, [.int (zI u.2.1), .int (zI u.2.2), .ref ym, .ref ya, .ref yb, .ref yc, .ref ye, .ref yp, .ref yq, .ref yo, .int (zI ro), .long (zL fi), .long (zL la), .long (zL lo), .long (zL hi), .int (zI co), .ref yk, .ref yw, .ref yi, .int (zI ge), .ref yx, .ref yy, .int (zI ir)]))]) u)) (va_A [(h0, .inr (5, [.int (zI th), .int (zI sh), .ref ym, .ref ya, .ref yb, .ref yc, .ref ye, .ref yp, .ref yq, .ref yo, .int (zI ro), .long (zL fi), .long (zL la), .long (zL lo), .long (zL hi), .int (zI co), .ref yk, .ref yw, .ref yi, .int (zI ge), .ref yx, .ref yy, .int (zI ir)]))] sz)) 0 0 (va_A [(h0, .inr (5, [.int (zI th), .int (zI sh), .ref ym, .ref ya, .ref yb, .ref yc, .ref ye, .ref yp, .ref yq, .ref yo, .int (zI ro), .long (zL fi), .long (zL la), .long (zL lo), .long (zL hi), .int (zI co), .ref yk, .ref yw, .ref yi, .int (zI ge), .ref yx, .ref yy, .int (zI ir)]))] sz) := by
  refine zM_i (post := fun (r : Int32) (u : (Int) × (Int) × (Int)) => r = zI u.1 ∧ (sh < 8 → u.1 = sh ∧ u.2.1 = 0 ∧ u.2.2 = sh + 1) ∧ (¬ sh < 8 → u.1 = 0 ∧ u.2.1 = 1 ∧ u.2.2 = sh)) (w1 := fun (u : (Int) × (Int) × (Int)) => [(h0, .inr (5, [.int (zI u.2.1), .int (zI u.2.2), .ref ym, .ref ya, .ref yb, .ref yc, .ref ye, .ref yp, .ref yq, .ref yo, .int (zI ro), .long (zL fi), .long (zL la), .long (zL lo), .long (zL hi), .int (zI co), .ref yk, .ref yw, .ref yi, .int (zI ge), .ref yx, .ref yy, .int (zI ir)]))]) (plainFor_of_name (by decide)) rfl (Nat.le_of_ble_eq_true rfl) ?_
  intro p e s m below meth c A Q S hN hK hP hD hS hA hret ls hl
  have hl : lv_has ls 1 [(0, .ref h0)] := hl
  refine zv_aload_n S dX5_shape_0 rfl (lv_at hl 0 rfl) ?_
  refine zv_aload_n S dX5_shape_1 rfl (lv_at hl 0 rfl) ?_
  refine zv_get (C := RX5) (T := TX5) (N := 23) (ci := 5) (v := .int (zI sh)) S in_X5_shape_X5 hK hP 0 rfl rfl 1 (by decide) wd_X5_shape_f55 rfl rfl dX5_shape_2 ?_
  refine zv_bipush (v := 8) S dX5_shape_5 (by decide) ?_
  refine zv_icmp_ne (tgt := 14) S (by unfold zR; omega) (by unfold zR; omega) dX5_shape_7 (by decide) (fun c_1 => ?_) (fun c_1 => ?_)
  · refine zv_iconst S dX5_shape_14 ?_
    refine zv_put (C := RX5) (T := TX5) (N := 23) (ci := 5) (v := .int (zI 0)) S in_X5_shape_X5 tyX5 tyX5_ok nmX5 hK hP hD hS 0 rfl rfl 0 (by decide) wd_X5_shape_f51 rfl rfl rfl rfl (Nat.le_of_ble_eq_true rfl) dX5_shape_15 (fun H locs hP hD hS => ?_)
    have hP : va_P G.1 vwCl [(h0, .inr (5, [.int (zI 0), .int (zI sh), .ref ym, .ref ya, .ref yb, .ref yc, .ref ye, .ref yp, .ref yq, .ref yo, .int (zI ro), .long (zL fi), .long (zL la), .long (zL lo), .long (zL hi), .int (zI co), .ref yk, .ref yw, .ref yi, .int (zI ge), .ref yx, .ref yy, .int (zI ir)]))] H := hP
    have hD : va_D A [(h0, .inr (5, [.int (zI 0), .int (zI sh), .ref ym, .ref ya, .ref yb, .ref yc, .ref ye, .ref yp, .ref yq, .ref yo, .int (zI ro), .long (zL fi), .long (zL la), .long (zL lo), .long (zL hi), .int (zI co), .ref yk, .ref yw, .ref yi, .int (zI ge), .ref yx, .ref yy, .int (zI ir)]))] := hD
    refine zv_aload_n S dX5_shape_18 rfl (lv_at hl 0 rfl) ?_
    refine zv_get (C := RX5) (T := TX5) (N := 23) (ci := 5) (v := .int (zI 0)) S in_X5_shape_X5 hK hP 0 rfl rfl 0 (by decide) wd_X5_shape_f51 rfl rfl dX5_shape_19 ?_
    refine zv_if_eq (tgt := 27) S (by unfold zR; omega) dX5_shape_22 (by decide) (fun c_2 => ?_) (fun c_2 => ?_)
    · refine zv_aload_n S dX5_shape_27 rfl (lv_at hl 0 rfl) ?_
      refine zv_dup S dX5_shape_28 rfl ?_
      refine zv_get (C := RX5) (T := TX5) (N := 23) (ci := 5) (v := .int (zI sh)) S in_X5_shape_X5 hK hP 0 rfl rfl 1 (by decide) wd_X5_shape_f55 rfl rfl dX5_shape_29 ?_
      refine zv_iconst S dX5_shape_32 ?_
      refine zv_iadd S dX5_shape_33 ?_
      refine zv_put (C := RX5) (T := TX5) (N := 23) (ci := 5) (v := .int (zI (sh + 1))) S in_X5_shape_X5 tyX5 tyX5_ok nmX5 hK hP hD hS 0 rfl rfl 1 (by decide) wd_X5_shape_f55 rfl rfl rfl rfl (Nat.le_of_ble_eq_true rfl) dX5_shape_34 (fun H locs hP hD hS => ?_)
      have hP : va_P G.1 vwCl [(h0, .inr (5, [.int (zI 0), .int (zI (sh + 1)), .ref ym, .ref ya, .ref yb, .ref yc, .ref ye, .ref yp, .ref yq, .ref yo, .int (zI ro), .long (zL fi), .long (zL la), .long (zL lo), .long (zL hi), .int (zI co), .ref yk, .ref yw, .ref yi, .int (zI ge), .ref yx, .ref yy, .int (zI ir)]))] H := hP
      have hD : va_D A [(h0, .inr (5, [.int (zI 0), .int (zI (sh + 1)), .ref ym, .ref ya, .ref yb, .ref yc, .ref ye, .ref yp, .ref yq, .ref yo, .int (zI ro), .long (zL fi), .long (zL la), .long (zL lo), .long (zL hi), .int (zI co), .ref yk, .ref yw, .ref yi, .int (zI ge), .ref yx, .ref yy, .int (zI ir)]))] := hD
      refine zv_aload_n S dX5_shape_37 rfl (lv_at hl 0 rfl) ?_
      refine zv_get (C := RX5) (T := TX5) (N := 23) (ci := 5) (v := .int (zI (sh + 1))) S in_X5_shape_X5 hK hP 0 rfl rfl 1 (by decide) wd_X5_shape_f55 rfl rfl dX5_shape_38 ?_
      refine zv_iconst S dX5_shape_41 ?_
      refine zv_isub S dX5_shape_42 ?_
      exact hret _ _ _ _ _ ⟨sh, 0, (sh + 1)⟩ dX5_shape_43 ⟨(show zI ((sh + 1) - 1) = zI sh from (congrArg zI (by omega))), (show sh < 8 → sh = sh ∧ 0 = 0 ∧ (sh + 1) = sh + 1 from (fun _ => ⟨rfl, rfl, rfl⟩)), (show ¬ sh < 8 → sh = 0 ∧ 0 = 1 ∧ (sh + 1) = sh from (fun z => absurd (by omega) z))⟩ (hP.sub [0] rfl) (hD.sub [0] (by decide) rfl) hS
    · exact absurd c_2 (by omega)
  · refine zv_iconst S dX5_shape_10 ?_
    refine zv_goto (tgt := 15) S dX5_shape_11 (by decide) ?_
    refine zv_put (C := RX5) (T := TX5) (N := 23) (ci := 5) (v := .int (zI 1)) S in_X5_shape_X5 tyX5 tyX5_ok nmX5 hK hP hD hS 0 rfl rfl 0 (by decide) wd_X5_shape_f51 rfl rfl rfl rfl (Nat.le_of_ble_eq_true rfl) dX5_shape_15 (fun H locs hP hD hS => ?_)
    have hP : va_P G.1 vwCl [(h0, .inr (5, [.int (zI 1), .int (zI sh), .ref ym, .ref ya, .ref yb, .ref yc, .ref ye, .ref yp, .ref yq, .ref yo, .int (zI ro), .long (zL fi), .long (zL la), .long (zL lo), .long (zL hi), .int (zI co), .ref yk, .ref yw, .ref yi, .int (zI ge), .ref yx, .ref yy, .int (zI ir)]))] H := hP
    have hD : va_D A [(h0, .inr (5, [.int (zI 1), .int (zI sh), .ref ym, .ref ya, .ref yb, .ref yc, .ref ye, .ref yp, .ref yq, .ref yo, .int (zI ro), .long (zL fi), .long (zL la), .long (zL lo), .long (zL hi), .int (zI co), .ref yk, .ref yw, .ref yi, .int (zI ge), .ref yx, .ref yy, .int (zI ir)]))] := hD
    refine zv_aload_n S dX5_shape_18 rfl (lv_at hl 0 rfl) ?_
    refine zv_get (C := RX5) (T := TX5) (N := 23) (ci := 5) (v := .int (zI 1)) S in_X5_shape_X5 hK hP 0 rfl rfl 0 (by decide) wd_X5_shape_f51 rfl rfl dX5_shape_19 ?_
    refine zv_if_eq (tgt := 27) S (by unfold zR; omega) dX5_shape_22 (by decide) (fun c_3 => ?_) (fun c_3 => ?_)
    · exact absurd c_3 (by omega)
    · refine zv_iconst S dX5_shape_25 ?_
      exact hret _ _ _ _ _ ⟨0, 1, sh⟩ dX5_shape_26 ⟨rfl, (show sh < 8 → 0 = sh ∧ 1 = 0 ∧ sh = sh + 1 from (fun z => absurd z (by omega))), (show ¬ sh < 8 → 0 = 0 ∧ 1 = 1 ∧ sh = sh from (fun _ => ⟨rfl, rfl, by omega⟩))⟩ (hP.sub [0] rfl) (hD.sub [0] (by decide) rfl) hS
