/-! the model's cut -/
theorem zcut_mk {A B C E : Nat → Int} {t o q : Nat} {sm mr dv : Int} (h1 : E (10 * t + o) = 0) (h2 : E (10 * t + q) = 0) (h3 : (sm * A (10 * t + o) + mr * A (10 * t + q)).tmod dv = 0) (h4 : (sm * B (10 * t + o) + mr * B (10 * t + q)).tmod dv = 0)
    (h5 : ¬ (sm * A (10 * t + o) + mr * A (10 * t + q) = 0 ∧ sm * B (10 * t + o) + mr * B (10 * t + q) = 0)) (h6 : -60 ≤ (sm * A (10 * t + o) + mr * A (10 * t + q)).tdiv dv ∧ (sm * A (10 * t + o) + mr * A (10 * t + q)).tdiv dv ≤ 60)
    (h7 : -60 ≤ (sm * B (10 * t + o) + mr * B (10 * t + q)).tdiv dv ∧ (sm * B (10 * t + o) + mr * B (10 * t + q)).tdiv dv ≤ 60) (h8 : -999 ≤ (sm * C (10 * t + o) + mr * C (10 * t + q)) / dv ∧ (sm * C (10 * t + o) + mr * C (10 * t + q)) / dv ≤ 999) :
    zcut (zrow A t) (zrow B t) (zrow C t) (zrow E t) 0 o q sm mr dv := ⟨h1, h2, h3, h4, h5, h6, h7, h8, by omega⟩
theorem zsum18 {x y sm mr B : Int} (h1 : -B ≤ x ∧ x ≤ B) (h2 : -B ≤ y ∧ y ≤ B) (h3 : 0 ≤ sm ∧ sm ≤ 9) (h4 : 0 ≤ mr ∧ mr ≤ 9) : (-(9 * B) ≤ sm * x ∧ sm * x ≤ 9 * B) ∧ (-(9 * B) ≤ mr * y ∧ mr * y ≤ 9 * B) ∧ -(18 * B) ≤ sm * x + mr * y ∧ sm * x + mr * y ≤ 18 * B := by
  have k1 := zmulb (a := sm) (b := x) (A := 9) (B := B) (by omega) h3.2 h1.1 h1.2
  have k2 := zmulb (a := mr) (b := y) (A := 9) (B := B) (by omega) h4.2 h2.1 h2.2
  omega

theorem wd_X5_cut_f51 : Cond.fieldLink RX5 51 "PointMillModel" "thrown" "I" ∈ wsX5_cut := by decide +kernel
theorem in_X5_cut_X5 : ∀ w ∈ wsX50, w ∈ wsX5_cut := by decide +kernel
theorem wd_X5_cut_f13 : Cond.fieldLink RX5 13 "PointMillModel" "a" "[I" ∈ wsX5_cut := by decide +kernel
theorem wd_X5_cut_f16 : Cond.fieldLink RX5 16 "PointMillModel" "b" "[I" ∈ wsX5_cut := by decide +kernel
theorem wd_X5_cut_f19 : Cond.fieldLink RX5 19 "PointMillModel" "c" "[I" ∈ wsX5_cut := by decide +kernel
theorem wd_X5_cut_f7 : Cond.fieldLink RX5 7 "PointMillModel" "many" "[I" ∈ wsX5_cut := by decide +kernel
theorem wd_X5_cut_f22 : Cond.fieldLink RX5 22 "PointMillModel" "e" "[I" ∈ wsX5_cut := by decide +kernel
set_option maxHeartbeats 4000000 in
set_option maxRecDepth 100000 in
/-- the model: cut -/
theorem c_X5_cut (l : Launch) (G : zG) (sz : Nat) (h0 : Nat) (th : Int) (sh : Int) (ym : Nat) (ya : Nat) (yb : Nat) (yc : Nat) (ye : Nat) (yp : Nat) (yq : Nat) (yo : Nat) (ro : Int) (fi : Int) (la : Int) (lo : Int) (hi : Int) (co : Int) (yk : Nat) (yw : Nat) (yi : Nat) (ge : Int) (yx : Nat) (yy : Nat) (ir : Int) (MN : Nat → Int) (MA : Nat → Int) (MB : Nat → Int) (MC : Nat → Int) (ME : Nat → Int) (v : Int) (on : Int) (sm : Int) (ot : Int) (mr : Int) (dv : Int) (hsh : 0 ≤ sh ∧ sh ≤ 8) (hmn : ∀ j, j < 8 → 0 ≤ MN j ∧ MN j ≤ 10) (hRA : ∀ j, j < 80 → -60 ≤ MA j ∧ MA j ≤ 60) (hRB : ∀ j, j < 80 → -60 ≤ MB j ∧ MB j ≤ 60) (hRC : ∀ j, j < 80 → -999 ≤ MC j ∧ MC j ≤ 999) (hRE : ∀ j, j < 80 → -9 ≤ ME j ∧ ME j ≤ 9) (g0 : -2147483648 ≤ v ∧ v < 2147483648) (g1 : -2147483648 ≤ on ∧ on < 2147483648) (g2 : -2147483648 ≤ sm ∧ sm < 2147483648) (g3 : -2147483648 ≤ ot ∧ ot < 2147483648) (g4 : -2147483648 ≤ mr ∧ mr < 2147483648) (g5 : -2147483648 ≤ dv ∧ dv < 2147483648) : Met l yX5_cut wsX5_cut ({ frames := 3, cells := 0, slots := 0, locals := 65 }) (va_Pc [.ref h0, .int (zI v), .int (zI on), .int (zI sm), .int (zI ot), .int (zI mr), .int (zI dv)] (zPre G sz [(h0, .inr (5, [.int (zI th), .int (zI sh), .ref ym, .ref ya, .ref yb, .ref yc, .ref ye, .ref yp, .ref yq, .ref yo, .int (zI ro), .long (zL fi), .long (zL la), .long (zL lo), .long (zL hi), .int (zI co), .ref yk, .ref yw, .ref yi, .int (zI ge), .ref yx, .ref yy, .int (zI ir)])), zci G ym 8 MN, zci G ya 80 MA, zci G yb 80 MB, zci G yc 80 MC, zci G ye 80 ME])) (va_Qi (fun (r : Int32) (u : (Int) × (Int) × (Nat → Int) × (Nat → Int) × (Nat → Int) × (Nat → Int) × (Nat → Int)) => r = zI u.1 ∧ (zcutR sh MN MA MB MC ME v on sm ot mr dv u.1 u.2.1 u.2.2.1 u.2.2.2.1 u.2.2.2.2.1 u.2.2.2.2.2.1 u.2.2.2.2.2.2)) (fun u => zW G (va_A [(h0, .inr (5, [.int (zI th), .int (zI sh), .ref ym, .ref ya, .ref yb, .ref yc, .ref ye, .ref yp, .ref yq, .ref yo, .int (zI ro), .long (zL fi), .long (zL la), .long (zL lo), .long (zL hi), .int (zI co), .ref yk, .ref yw, .ref yi, .int (zI ge), .ref yx, .ref yy, .int (zI ir)])), zci G ym 8 MN, zci G ya 80 MA, zci G yb 80 MB, zci G yc 80 MC, zci G ye 80 ME] sz) ((fun (u : (Int) × (Int) × (Nat → Int) × (Nat → Int) × (Nat → Int) × (Nat → Int) × (Nat → Int)) => [(h0, .inr (5, [.int (zI u.2.1), .int (zI sh), .ref ym, .ref ya, .ref yb, .ref yc, .ref ye, .ref yp, .ref yq, .ref yo, .int (zI ro), .long (zL fi), .long (zL la), .long (zL lo), .long (zL hi), .int (zI co), .ref yk, .ref yw, .ref yi, .int (zI ge), .ref yx, .ref yy, .int (zI ir)])), zci G ym 8 u.2.2.1, zci G ya 80 u.2.2.2.1, zci G yb 80 u.2.2.2.2.1, zci G yc 80 u.2.2.2.2.2.1, zci G ye 80 u.2.2.2.2.2.2]) u)) (va_A [(h0, .inr (5, [.int (zI th), .int (zI sh), .ref ym, .ref ya, .ref yb, .ref yc, .ref ye, .ref yp, .ref yq, .ref yo, .int (zI ro), .long (zL fi), .long (zL la), .long (zL lo), .long (zL hi), .int (zI co), .ref yk, .ref yw, .ref yi, .int (zI ge), .ref yx, .ref yy, .int (zI ir)])), zci G ym 8 MN, zci G ya 80 MA, zci G yb 80 MB, zci G yc 80 MC, zci G ye 80 ME] sz)) 0 0 (va_A [(h0, .inr (5, [.int (zI th), .int (zI sh), .ref ym, .ref ya, .ref yb, .ref yc, .ref ye, .ref yp, .ref yq, .ref yo, .int (zI ro), .long (zL fi), .long (zL la), .long (zL lo), .long (zL hi), .int (zI co), .ref yk, .ref yw, .ref yi, .int (zI ge), .ref yx, .ref yy, .int (zI ir)])), zci G ym 8 MN, zci G ya 80 MA, zci G yb 80 MB, zci G yc 80 MC, zci G ye 80 ME] sz) := by
  refine zM_i (post := fun (r : Int32) (u : (Int) × (Int) × (Nat → Int) × (Nat → Int) × (Nat → Int) × (Nat → Int) × (Nat → Int)) => r = zI u.1 ∧ (zcutR sh MN MA MB MC ME v on sm ot mr dv u.1 u.2.1 u.2.2.1 u.2.2.2.1 u.2.2.2.2.1 u.2.2.2.2.2.1 u.2.2.2.2.2.2)) (w1 := fun (u : (Int) × (Int) × (Nat → Int) × (Nat → Int) × (Nat → Int) × (Nat → Int) × (Nat → Int)) => [(h0, .inr (5, [.int (zI u.2.1), .int (zI sh), .ref ym, .ref ya, .ref yb, .ref yc, .ref ye, .ref yp, .ref yq, .ref yo, .int (zI ro), .long (zL fi), .long (zL la), .long (zL lo), .long (zL hi), .int (zI co), .ref yk, .ref yw, .ref yi, .int (zI ge), .ref yx, .ref yy, .int (zI ir)])), zci G ym 8 u.2.2.1, zci G ya 80 u.2.2.2.1, zci G yb 80 u.2.2.2.2.1, zci G yc 80 u.2.2.2.2.2.1, zci G ye 80 u.2.2.2.2.2.2]) (plainFor_of_name (by decide)) rfl (Nat.le_of_ble_eq_true rfl) ?_
  intro p e s m below meth c A Q S hN hK hP hD hS hA hret ls hl
  have hl : lv_has ls 13 [(0, .ref h0), (1, .int (zI v)), (2, .int (zI on)), (3, .int (zI sm)), (4, .int (zI ot)), (5, .int (zI mr)), (6, .int (zI dv))] := hl
  refine zv_aload_n S dX5_cut_0 rfl (lv_at hl 0 rfl) ?_
  refine zv_iload_n S dX5_cut_1 rfl (lv_at hl 1 rfl) ?_
  refine zv_iload_n S dX5_cut_2 rfl (lv_at hl 2 rfl) ?_
  refine zc_Vi (As := [.int (zI v), .int (zI on)]) (rest := []) (wr := [zci G ya 80 MA, zci G yb 80 MB, zci G yc 80 MC, zci G ye 80 ME]) (n := 2) S hN hK hP hD hS hA hl (c_X5_isRow l G s.heap.size h0 th sh ym ya yb yc ye yp yq yo ro fi la lo hi co yk yw yi ge yx yy ir MN v on (by omega) (by omega) (by omega) (by omega)) gX5_cut_X5_isRow rfl ⟨rfl, rfl⟩ (by decide +kernel) rfl ⟨Nat.le_of_ble_eq_true rfl, Nat.le_of_ble_eq_true rfl, Nat.le_of_ble_eq_true rfl, Nat.le_of_ble_eq_true rfl⟩ [0, 1] [2, 3, 4, 5] rfl rfl (by decide) (by decide) (by decide) (ci := 5) rfl rfl rfl (Nat.le_of_ble_eq_true rfl) dX5_cut_3 rfl (fun r_ u_1 H1 locs1 hp_2 hP1 hD1 hS1 hz1 => ?_)
  try dsimp only at hp_2 hP1 hD1
  subst hp_2
  generalize H1 = H at hP1 hD1 hS1 hz1 ⊢
  generalize locs1 = locs at hS1 ⊢
  have hS := hS1
  have hP : va_P G.1 vwCl [zci G ya 80 MA, zci G yb 80 MB, zci G yc 80 MC, zci G ye 80 ME, (h0, .inr (5, [.int (zI th), .int (zI sh), .ref ym, .ref ya, .ref yb, .ref yc, .ref ye, .ref yp, .ref yq, .ref yo, .int (zI ro), .long (zL fi), .long (zL la), .long (zL lo), .long (zL hi), .int (zI co), .ref yk, .ref yw, .ref yi, .int (zI ge), .ref yx, .ref yy, .int (zI ir)])), zci G ym 8 MN] H := hP1
  have hD : va_D A [zci G ya 80 MA, zci G yb 80 MB, zci G yc 80 MC, zci G ye 80 ME, (h0, .inr (5, [.int (zI th), .int (zI sh), .ref ym, .ref ya, .ref yb, .ref yc, .ref ye, .ref yp, .ref yq, .ref yo, .int (zI ro), .long (zL fi), .long (zL la), .long (zL lo), .long (zL hi), .int (zI co), .ref yk, .ref yw, .ref yi, .int (zI ge), .ref yx, .ref yy, .int (zI ir)])), zci G ym 8 MN] := hD1
  refine zv_ifb_eq (tgt := 19) S dX5_cut_6 (by decide) (fun c_3 => ?_) (fun c_3 => ?_)
  · refine zv_aload_n S dX5_cut_19 rfl (lv_at hl 0 rfl) ?_
    refine zv_iconst S dX5_cut_20 ?_
    refine zv_put (C := RX5) (T := TX5) (N := 23) (ci := 5) (v := .int (zI 1)) S in_X5_cut_X5 tyX5 tyX5_ok nmX5 hK hP hD hS 4 rfl rfl 0 (by decide) wd_X5_cut_f51 rfl rfl rfl rfl (Nat.le_of_ble_eq_true rfl) dX5_cut_21 (fun H locs hP hD hS => ?_)
    have hP : va_P G.1 vwCl [zci G ya 80 MA, zci G yb 80 MB, zci G yc 80 MC, zci G ye 80 ME, (h0, .inr (5, [.int (zI 1), .int (zI sh), .ref ym, .ref ya, .ref yb, .ref yc, .ref ye, .ref yp, .ref yq, .ref yo, .int (zI ro), .long (zL fi), .long (zL la), .long (zL lo), .long (zL hi), .int (zI co), .ref yk, .ref yw, .ref yi, .int (zI ge), .ref yx, .ref yy, .int (zI ir)])), zci G ym 8 MN] H := hP
    have hD : va_D A [zci G ya 80 MA, zci G yb 80 MB, zci G yc 80 MC, zci G ye 80 ME, (h0, .inr (5, [.int (zI 1), .int (zI sh), .ref ym, .ref ya, .ref yb, .ref yc, .ref ye, .ref yp, .ref yq, .ref yo, .int (zI ro), .long (zL fi), .long (zL la), .long (zL lo), .long (zL hi), .int (zI co), .ref yk, .ref yw, .ref yi, .int (zI ge), .ref yx, .ref yy, .int (zI ir)])), zci G ym 8 MN] := hD
    refine zv_iconst S dX5_cut_24 ?_
    exact hret _ _ _ _ _ ⟨0, 1, MN, MA, MB, MC, ME⟩ dX5_cut_25 ⟨rfl, (show zcutR sh MN MA MB MC ME v on sm ot mr dv 0 1 MN MA MB MC ME from (Or.inl ⟨rfl, (fun z => c_3 z.1), ⟨rfl, rfl, rfl, rfl, rfl⟩⟩))⟩ (hP.sub [4, 5, 0, 1, 2, 3] rfl) (hD.sub [4, 5, 0, 1, 2, 3] (by decide) rfl) hS
  · refine zv_aload_n S dX5_cut_9 rfl (lv_at hl 0 rfl) ?_
    refine zv_iload_n S dX5_cut_10 rfl (lv_at hl 1 rfl) ?_
    refine zv_iload S dX5_cut_11 (lv_at hl 4 rfl) ?_
    refine zc_Vi (As := [.int (zI v), .int (zI ot)]) (rest := []) (wr := [zci G ya 80 MA, zci G yb 80 MB, zci G yc 80 MC, zci G ye 80 ME]) (n := 2) S hN hK hP hD hS hA hl (c_X5_isRow l G H.size h0 th sh ym ya yb yc ye yp yq yo ro fi la lo hi co yk yw yi ge yx yy ir MN v ot (by omega) (by omega) (by omega) (by omega)) gX5_cut_X5_isRow rfl ⟨rfl, rfl⟩ (by decide +kernel) rfl ⟨Nat.le_of_ble_eq_true rfl, Nat.le_of_ble_eq_true rfl, Nat.le_of_ble_eq_true rfl, Nat.le_of_ble_eq_true rfl⟩ [4, 5] [0, 1, 2, 3] rfl rfl (by decide) (by decide) (by decide) (ci := 5) rfl rfl rfl (Nat.le_of_ble_eq_true rfl) dX5_cut_13 rfl (fun r_ u_4 H1 locs1 hp_5 hP1 hD1 hS1 hz1 => ?_)
    try dsimp only at hp_5 hP1 hD1
    subst hp_5
    generalize H1 = H at hP1 hD1 hS1 hz1 ⊢
    generalize locs1 = locs at hS1 ⊢
    have hS := hS1
    have hP : va_P G.1 vwCl [zci G ya 80 MA, zci G yb 80 MB, zci G yc 80 MC, zci G ye 80 ME, (h0, .inr (5, [.int (zI th), .int (zI sh), .ref ym, .ref ya, .ref yb, .ref yc, .ref ye, .ref yp, .ref yq, .ref yo, .int (zI ro), .long (zL fi), .long (zL la), .long (zL lo), .long (zL hi), .int (zI co), .ref yk, .ref yw, .ref yi, .int (zI ge), .ref yx, .ref yy, .int (zI ir)])), zci G ym 8 MN] H := hP1
    have hD : va_D A [zci G ya 80 MA, zci G yb 80 MB, zci G yc 80 MC, zci G ye 80 ME, (h0, .inr (5, [.int (zI th), .int (zI sh), .ref ym, .ref ya, .ref yb, .ref yc, .ref ye, .ref yp, .ref yq, .ref yo, .int (zI ro), .long (zL fi), .long (zL la), .long (zL lo), .long (zL hi), .int (zI co), .ref yk, .ref yw, .ref yi, .int (zI ge), .ref yx, .ref yy, .int (zI ir)])), zci G ym 8 MN] := hD1
    refine zv_ifb_ne (tgt := 26) S dX5_cut_16 (by decide) (fun c_6 => ?_) (fun c_6 => ?_)
    · refine zv_iload_n S dX5_cut_26 rfl (lv_at hl 3 rfl) ?_
      refine zv_iconst S dX5_cut_27 ?_
      refine zv_bipush (v := 9) S dX5_cut_28 (by decide) ?_
      refine zc_Si (As := [.int (zI sm), .int (zI 0), .int (zI 9)]) (rest := []) (wr := [zci G ya 80 MA, zci G yb 80 MB, zci G yc 80 MC, zci G ye 80 ME, (h0, .inr (5, [.int (zI th), .int (zI sh), .ref ym, .ref ya, .ref yb, .ref yc, .ref ye, .ref yp, .ref yq, .ref yo, .int (zI ro), .long (zL fi), .long (zL la), .long (zL lo), .long (zL hi), .int (zI co), .ref yk, .ref yw, .ref yi, .int (zI ge), .ref yx, .ref yy, .int (zI ir)])), zci G ym 8 MN]) (n := 3) S hN hK hP hD hS hA hl (c_X5_in l G H.size sm 0 9 (by omega) (by omega) (by omega)) gX5_cut_X5_in rfl ⟨rfl, rfl⟩ (by decide +kernel) rfl ⟨Nat.le_of_ble_eq_true rfl, Nat.le_of_ble_eq_true rfl, Nat.le_of_ble_eq_true rfl, Nat.le_of_ble_eq_true rfl⟩ [] [0, 1, 2, 3, 4, 5] rfl rfl (by decide) (by decide) (by decide) (Nat.le_of_ble_eq_true rfl) dX5_cut_30 rfl (fun r_ u_7 H1 locs1 hp_8 hP1 hD1 hS1 hz1 => ?_)
      try dsimp only at hp_8 hP1 hD1
      subst hp_8
      generalize H1 = H at hP1 hD1 hS1 hz1 ⊢
      generalize locs1 = locs at hS1 ⊢
      have hS := hS1
      have hP : va_P G.1 vwCl [zci G ya 80 MA, zci G yb 80 MB, zci G yc 80 MC, zci G ye 80 ME, (h0, .inr (5, [.int (zI th), .int (zI sh), .ref ym, .ref ya, .ref yb, .ref yc, .ref ye, .ref yp, .ref yq, .ref yo, .int (zI ro), .long (zL fi), .long (zL la), .long (zL lo), .long (zL hi), .int (zI co), .ref yk, .ref yw, .ref yi, .int (zI ge), .ref yx, .ref yy, .int (zI ir)])), zci G ym 8 MN] H := hP1
      have hD : va_D A [zci G ya 80 MA, zci G yb 80 MB, zci G yc 80 MC, zci G ye 80 ME, (h0, .inr (5, [.int (zI th), .int (zI sh), .ref ym, .ref ya, .ref yb, .ref yc, .ref ye, .ref yp, .ref yq, .ref yo, .int (zI ro), .long (zL fi), .long (zL la), .long (zL lo), .long (zL hi), .int (zI co), .ref yk, .ref yw, .ref yi, .int (zI ge), .ref yx, .ref yy, .int (zI ir)])), zci G ym 8 MN] := hD1
      refine zv_ifb_eq (tgt := 58) S dX5_cut_33 (by decide) (fun c_9 => ?_) (fun c_9 => ?_)
      · refine zv_aload_n S dX5_cut_58 rfl (lv_at hl 0 rfl) ?_
        refine zv_iconst S dX5_cut_59 ?_
        refine zv_put (C := RX5) (T := TX5) (N := 23) (ci := 5) (v := .int (zI 2)) S in_X5_cut_X5 tyX5 tyX5_ok nmX5 hK hP hD hS 4 rfl rfl 0 (by decide) wd_X5_cut_f51 rfl rfl rfl rfl (Nat.le_of_ble_eq_true rfl) dX5_cut_60 (fun H locs hP hD hS => ?_)
        have hP : va_P G.1 vwCl [zci G ya 80 MA, zci G yb 80 MB, zci G yc 80 MC, zci G ye 80 ME, (h0, .inr (5, [.int (zI 2), .int (zI sh), .ref ym, .ref ya, .ref yb, .ref yc, .ref ye, .ref yp, .ref yq, .ref yo, .int (zI ro), .long (zL fi), .long (zL la), .long (zL lo), .long (zL hi), .int (zI co), .ref yk, .ref yw, .ref yi, .int (zI ge), .ref yx, .ref yy, .int (zI ir)])), zci G ym 8 MN] H := hP
        have hD : va_D A [zci G ya 80 MA, zci G yb 80 MB, zci G yc 80 MC, zci G ye 80 ME, (h0, .inr (5, [.int (zI 2), .int (zI sh), .ref ym, .ref ya, .ref yb, .ref yc, .ref ye, .ref yp, .ref yq, .ref yo, .int (zI ro), .long (zL fi), .long (zL la), .long (zL lo), .long (zL hi), .int (zI co), .ref yk, .ref yw, .ref yi, .int (zI ge), .ref yx, .ref yy, .int (zI ir)])), zci G ym 8 MN] := hD
        refine zv_iconst S dX5_cut_63 ?_
        exact hret _ _ _ _ _ ⟨0, 2, MN, MA, MB, MC, ME⟩ dX5_cut_64 ⟨rfl, (show zcutR sh MN MA MB MC ME v on sm ot mr dv 0 2 MN MA MB MC ME from (Or.inr (Or.inl ⟨rfl, ⟨c_3, c_6⟩, (fun z => c_9 z.1), ⟨rfl, rfl, rfl, rfl, rfl⟩⟩)))⟩ (hP.sub [4, 5, 0, 1, 2, 3] rfl) (hD.sub [4, 5, 0, 1, 2, 3] (by decide) rfl) hS
      · refine zv_iload S dX5_cut_36 (lv_at hl 5 rfl) ?_
        refine zv_iconst S dX5_cut_38 ?_
        refine zv_bipush (v := 9) S dX5_cut_39 (by decide) ?_
        refine zc_Si (As := [.int (zI mr), .int (zI 0), .int (zI 9)]) (rest := []) (wr := [zci G ya 80 MA, zci G yb 80 MB, zci G yc 80 MC, zci G ye 80 ME, (h0, .inr (5, [.int (zI th), .int (zI sh), .ref ym, .ref ya, .ref yb, .ref yc, .ref ye, .ref yp, .ref yq, .ref yo, .int (zI ro), .long (zL fi), .long (zL la), .long (zL lo), .long (zL hi), .int (zI co), .ref yk, .ref yw, .ref yi, .int (zI ge), .ref yx, .ref yy, .int (zI ir)])), zci G ym 8 MN]) (n := 3) S hN hK hP hD hS hA hl (c_X5_in l G H.size mr 0 9 (by omega) (by omega) (by omega)) gX5_cut_X5_in rfl ⟨rfl, rfl⟩ (by decide +kernel) rfl ⟨Nat.le_of_ble_eq_true rfl, Nat.le_of_ble_eq_true rfl, Nat.le_of_ble_eq_true rfl, Nat.le_of_ble_eq_true rfl⟩ [] [0, 1, 2, 3, 4, 5] rfl rfl (by decide) (by decide) (by decide) (Nat.le_of_ble_eq_true rfl) dX5_cut_41 rfl (fun r_ u_10 H1 locs1 hp_11 hP1 hD1 hS1 hz1 => ?_)
        try dsimp only at hp_11 hP1 hD1
        subst hp_11
        generalize H1 = H at hP1 hD1 hS1 hz1 ⊢
        generalize locs1 = locs at hS1 ⊢
        have hS := hS1
        have hP : va_P G.1 vwCl [zci G ya 80 MA, zci G yb 80 MB, zci G yc 80 MC, zci G ye 80 ME, (h0, .inr (5, [.int (zI th), .int (zI sh), .ref ym, .ref ya, .ref yb, .ref yc, .ref ye, .ref yp, .ref yq, .ref yo, .int (zI ro), .long (zL fi), .long (zL la), .long (zL lo), .long (zL hi), .int (zI co), .ref yk, .ref yw, .ref yi, .int (zI ge), .ref yx, .ref yy, .int (zI ir)])), zci G ym 8 MN] H := hP1
        have hD : va_D A [zci G ya 80 MA, zci G yb 80 MB, zci G yc 80 MC, zci G ye 80 ME, (h0, .inr (5, [.int (zI th), .int (zI sh), .ref ym, .ref ya, .ref yb, .ref yc, .ref ye, .ref yp, .ref yq, .ref yo, .int (zI ro), .long (zL fi), .long (zL la), .long (zL lo), .long (zL hi), .int (zI co), .ref yk, .ref yw, .ref yi, .int (zI ge), .ref yx, .ref yy, .int (zI ir)])), zci G ym 8 MN] := hD1
        refine zv_ifb_eq (tgt := 58) S dX5_cut_44 (by decide) (fun c_12 => ?_) (fun c_12 => ?_)
        · refine zv_aload_n S dX5_cut_58 rfl (lv_at hl 0 rfl) ?_
          refine zv_iconst S dX5_cut_59 ?_
          refine zv_put (C := RX5) (T := TX5) (N := 23) (ci := 5) (v := .int (zI 2)) S in_X5_cut_X5 tyX5 tyX5_ok nmX5 hK hP hD hS 4 rfl rfl 0 (by decide) wd_X5_cut_f51 rfl rfl rfl rfl (Nat.le_of_ble_eq_true rfl) dX5_cut_60 (fun H locs hP hD hS => ?_)
          have hP : va_P G.1 vwCl [zci G ya 80 MA, zci G yb 80 MB, zci G yc 80 MC, zci G ye 80 ME, (h0, .inr (5, [.int (zI 2), .int (zI sh), .ref ym, .ref ya, .ref yb, .ref yc, .ref ye, .ref yp, .ref yq, .ref yo, .int (zI ro), .long (zL fi), .long (zL la), .long (zL lo), .long (zL hi), .int (zI co), .ref yk, .ref yw, .ref yi, .int (zI ge), .ref yx, .ref yy, .int (zI ir)])), zci G ym 8 MN] H := hP
          have hD : va_D A [zci G ya 80 MA, zci G yb 80 MB, zci G yc 80 MC, zci G ye 80 ME, (h0, .inr (5, [.int (zI 2), .int (zI sh), .ref ym, .ref ya, .ref yb, .ref yc, .ref ye, .ref yp, .ref yq, .ref yo, .int (zI ro), .long (zL fi), .long (zL la), .long (zL lo), .long (zL hi), .int (zI co), .ref yk, .ref yw, .ref yi, .int (zI ge), .ref yx, .ref yy, .int (zI ir)])), zci G ym 8 MN] := hD
          refine zv_iconst S dX5_cut_63 ?_
          exact hret _ _ _ _ _ ⟨0, 2, MN, MA, MB, MC, ME⟩ dX5_cut_64 ⟨rfl, (show zcutR sh MN MA MB MC ME v on sm ot mr dv 0 2 MN MA MB MC ME from (Or.inr (Or.inl ⟨rfl, ⟨c_3, c_6⟩, (fun z => c_12 z.2.1), ⟨rfl, rfl, rfl, rfl, rfl⟩⟩)))⟩ (hP.sub [4, 5, 0, 1, 2, 3] rfl) (hD.sub [4, 5, 0, 1, 2, 3] (by decide) rfl) hS
        · refine zv_iload S dX5_cut_47 (lv_at hl 6 rfl) ?_
          refine zv_iconst S dX5_cut_49 ?_
          refine zv_bipush (v := 20) S dX5_cut_50 (by decide) ?_
          refine zc_Si (As := [.int (zI dv), .int (zI 1), .int (zI 20)]) (rest := []) (wr := [zci G ya 80 MA, zci G yb 80 MB, zci G yc 80 MC, zci G ye 80 ME, (h0, .inr (5, [.int (zI th), .int (zI sh), .ref ym, .ref ya, .ref yb, .ref yc, .ref ye, .ref yp, .ref yq, .ref yo, .int (zI ro), .long (zL fi), .long (zL la), .long (zL lo), .long (zL hi), .int (zI co), .ref yk, .ref yw, .ref yi, .int (zI ge), .ref yx, .ref yy, .int (zI ir)])), zci G ym 8 MN]) (n := 3) S hN hK hP hD hS hA hl (c_X5_in l G H.size dv 1 20 (by omega) (by omega) (by omega)) gX5_cut_X5_in rfl ⟨rfl, rfl⟩ (by decide +kernel) rfl ⟨Nat.le_of_ble_eq_true rfl, Nat.le_of_ble_eq_true rfl, Nat.le_of_ble_eq_true rfl, Nat.le_of_ble_eq_true rfl⟩ [] [0, 1, 2, 3, 4, 5] rfl rfl (by decide) (by decide) (by decide) (Nat.le_of_ble_eq_true rfl) dX5_cut_52 rfl (fun r_ u_13 H1 locs1 hp_14 hP1 hD1 hS1 hz1 => ?_)
          try dsimp only at hp_14 hP1 hD1
          subst hp_14
          generalize H1 = H at hP1 hD1 hS1 hz1 ⊢
          generalize locs1 = locs at hS1 ⊢
          have hS := hS1
          have hP : va_P G.1 vwCl [zci G ya 80 MA, zci G yb 80 MB, zci G yc 80 MC, zci G ye 80 ME, (h0, .inr (5, [.int (zI th), .int (zI sh), .ref ym, .ref ya, .ref yb, .ref yc, .ref ye, .ref yp, .ref yq, .ref yo, .int (zI ro), .long (zL fi), .long (zL la), .long (zL lo), .long (zL hi), .int (zI co), .ref yk, .ref yw, .ref yi, .int (zI ge), .ref yx, .ref yy, .int (zI ir)])), zci G ym 8 MN] H := hP1
          have hD : va_D A [zci G ya 80 MA, zci G yb 80 MB, zci G yc 80 MC, zci G ye 80 ME, (h0, .inr (5, [.int (zI th), .int (zI sh), .ref ym, .ref ya, .ref yb, .ref yc, .ref ye, .ref yp, .ref yq, .ref yo, .int (zI ro), .long (zL fi), .long (zL la), .long (zL lo), .long (zL hi), .int (zI co), .ref yk, .ref yw, .ref yi, .int (zI ge), .ref yx, .ref yy, .int (zI ir)])), zci G ym 8 MN] := hD1
          refine zv_ifb_ne (tgt := 65) S dX5_cut_55 (by decide) (fun c_15 => ?_) (fun c_15 => ?_)
          · have q0 := hmn v.toNat (by omega)
            have ka := zsum18 (hRA _ (show 10 * v.toNat + on.toNat < 80 by omega)) (hRA _ (show 10 * v.toNat + ot.toNat < 80 by omega)) c_9 c_12
            have kb := zsum18 (hRB _ (show 10 * v.toNat + on.toNat < 80 by omega)) (hRB _ (show 10 * v.toNat + ot.toNat < 80 by omega)) c_9 c_12
            have kc := zsum18 (hRC _ (show 10 * v.toNat + on.toNat < 80 by omega)) (hRC _ (show 10 * v.toNat + ot.toNat < 80 by omega)) c_9 c_12
            have ke1 := hRE _ (show 10 * v.toNat + on.toNat < 80 by omega)
            have ke2 := hRE _ (show 10 * v.toNat + ot.toNat < 80 by omega)
            refine zv_bipush (v := 10) S dX5_cut_65 (by decide) ?_
            refine zv_iload_n S dX5_cut_67 rfl (lv_at hl 1 rfl) ?_
            refine zv_imul S dX5_cut_68 ?_
            refine zv_iload_n S dX5_cut_69 rfl (lv_at hl 2 rfl) ?_
            refine zv_iadd S dX5_cut_70 ?_
            refine zv_istore (lv' := [(7, .int (zI ((10 * v) + on))), (0, .ref h0), (1, .int (zI v)), (2, .int (zI on)), (3, .int (zI sm)), (4, .int (zI ot)), (5, .int (zI mr)), (6, .int (zI dv))]) S dX5_cut_71 hl (by decide) rfl (fun ls hl => ?_)
            refine zv_bipush (v := 10) S dX5_cut_73 (by decide) ?_
            refine zv_iload_n S dX5_cut_75 rfl (lv_at hl 2 rfl) ?_
            refine zv_imul S dX5_cut_76 ?_
            refine zv_iload S dX5_cut_77 (lv_at hl 5 rfl) ?_
            refine zv_iadd S dX5_cut_79 ?_
            refine zv_istore (lv' := [(8, .int (zI ((10 * v) + ot))), (7, .int (zI ((10 * v) + on))), (0, .ref h0), (1, .int (zI v)), (2, .int (zI on)), (3, .int (zI sm)), (4, .int (zI ot)), (5, .int (zI mr)), (6, .int (zI dv))]) S dX5_cut_80 hl (by decide) rfl (fun ls hl => ?_)
            refine zv_iload_n S dX5_cut_82 rfl (lv_at hl 5 rfl) ?_
            refine zv_aload_n S dX5_cut_83 rfl (lv_at hl 2 rfl) ?_
            refine zv_get (C := RX5) (T := TX5) (N := 23) (ci := 5) (v := .ref ya) S in_X5_cut_X5 hK hP 4 rfl rfl 3 (by decide) wd_X5_cut_f13 rfl rfl dX5_cut_84 ?_
            refine zv_iload S dX5_cut_87 (lv_at hl 1 rfl) ?_
            refine zv_iald S hK hP 0 0 rfl rfl (10 * v.toNat + on.toNat) (by omega) (by omega) (by decide) dX5_cut_89 ?_
            refine zv_imul S dX5_cut_90 ?_
            refine zv_iload S dX5_cut_91 (lv_at hl 7 rfl) ?_
            refine zv_aload_n S dX5_cut_93 rfl (lv_at hl 2 rfl) ?_
            refine zv_get (C := RX5) (T := TX5) (N := 23) (ci := 5) (v := .ref ya) S in_X5_cut_X5 hK hP 4 rfl rfl 3 (by decide) wd_X5_cut_f13 rfl rfl dX5_cut_94 ?_
            refine zv_iload S dX5_cut_97 (lv_at hl 0 rfl) ?_
            refine zv_iald S hK hP 0 0 rfl rfl (10 * v.toNat + ot.toNat) (by omega) (by omega) (by decide) dX5_cut_99 ?_
            refine zv_imul S dX5_cut_100 ?_
            refine zv_iadd S dX5_cut_101 ?_
            refine zv_istore (lv' := [(9, .int (zI ((sm * (MA (10 * v.toNat + on.toNat))) + (mr * (MA (10 * v.toNat + ot.toNat)))))), (8, .int (zI ((10 * v) + ot))), (7, .int (zI ((10 * v) + on))), (0, .ref h0), (1, .int (zI v)), (2, .int (zI on)), (3, .int (zI sm)), (4, .int (zI ot)), (5, .int (zI mr)), (6, .int (zI dv))]) S dX5_cut_102 hl (by decide) rfl (fun ls hl => ?_)
            refine zv_iload_n S dX5_cut_104 rfl (lv_at hl 6 rfl) ?_
            refine zv_aload_n S dX5_cut_105 rfl (lv_at hl 3 rfl) ?_
            refine zv_get (C := RX5) (T := TX5) (N := 23) (ci := 5) (v := .ref yb) S in_X5_cut_X5 hK hP 4 rfl rfl 4 (by decide) wd_X5_cut_f16 rfl rfl dX5_cut_106 ?_
            refine zv_iload S dX5_cut_109 (lv_at hl 2 rfl) ?_
            refine zv_iald S hK hP 1 0 rfl rfl (10 * v.toNat + on.toNat) (by omega) (by omega) (by decide) dX5_cut_111 ?_
            refine zv_imul S dX5_cut_112 ?_
            refine zv_iload S dX5_cut_113 (lv_at hl 8 rfl) ?_
            refine zv_aload_n S dX5_cut_115 rfl (lv_at hl 3 rfl) ?_
            refine zv_get (C := RX5) (T := TX5) (N := 23) (ci := 5) (v := .ref yb) S in_X5_cut_X5 hK hP 4 rfl rfl 4 (by decide) wd_X5_cut_f16 rfl rfl dX5_cut_116 ?_
            refine zv_iload S dX5_cut_119 (lv_at hl 1 rfl) ?_
            refine zv_iald S hK hP 1 0 rfl rfl (10 * v.toNat + ot.toNat) (by omega) (by omega) (by decide) dX5_cut_121 ?_
            refine zv_imul S dX5_cut_122 ?_
            refine zv_iadd S dX5_cut_123 ?_
            refine zv_istore (lv' := [(10, .int (zI ((sm * (MB (10 * v.toNat + on.toNat))) + (mr * (MB (10 * v.toNat + ot.toNat)))))), (9, .int (zI ((sm * (MA (10 * v.toNat + on.toNat))) + (mr * (MA (10 * v.toNat + ot.toNat)))))), (8, .int (zI ((10 * v) + ot))), (7, .int (zI ((10 * v) + on))), (0, .ref h0), (1, .int (zI v)), (2, .int (zI on)), (3, .int (zI sm)), (4, .int (zI ot)), (5, .int (zI mr)), (6, .int (zI dv))]) S dX5_cut_124 hl (by decide) rfl (fun ls hl => ?_)
            refine zv_iload_n S dX5_cut_126 rfl (lv_at hl 7 rfl) ?_
            refine zv_aload_n S dX5_cut_127 rfl (lv_at hl 4 rfl) ?_
            refine zv_get (C := RX5) (T := TX5) (N := 23) (ci := 5) (v := .ref yc) S in_X5_cut_X5 hK hP 4 rfl rfl 5 (by decide) wd_X5_cut_f19 rfl rfl dX5_cut_128 ?_
            refine zv_iload S dX5_cut_131 (lv_at hl 3 rfl) ?_
            refine zv_iald S hK hP 2 0 rfl rfl (10 * v.toNat + on.toNat) (by omega) (by omega) (by decide) dX5_cut_133 ?_
            refine zv_imul S dX5_cut_134 ?_
            refine zv_iload S dX5_cut_135 (lv_at hl 9 rfl) ?_
            refine zv_aload_n S dX5_cut_137 rfl (lv_at hl 4 rfl) ?_
            refine zv_get (C := RX5) (T := TX5) (N := 23) (ci := 5) (v := .ref yc) S in_X5_cut_X5 hK hP 4 rfl rfl 5 (by decide) wd_X5_cut_f19 rfl rfl dX5_cut_138 ?_
            refine zv_iload S dX5_cut_141 (lv_at hl 2 rfl) ?_
            refine zv_iald S hK hP 2 0 rfl rfl (10 * v.toNat + ot.toNat) (by omega) (by omega) (by decide) dX5_cut_143 ?_
            refine zv_imul S dX5_cut_144 ?_
            refine zv_iadd S dX5_cut_145 ?_
            refine zv_i2l S (by unfold zR; omega) dX5_cut_146 ?_
            refine zv_iload S dX5_cut_147 (lv_at hl 10 rfl) ?_
            refine zv_i2l S (by unfold zR; omega) dX5_cut_149 ?_
            refine zc_Sl (As := [.long (zL ((sm * (MC (10 * v.toNat + on.toNat))) + (mr * (MC (10 * v.toNat + ot.toNat))))), .long (zL dv)]) (rest := []) (wr := [zci G ya 80 MA, zci G yb 80 MB, zci G yc 80 MC, zci G ye 80 ME, (h0, .inr (5, [.int (zI th), .int (zI sh), .ref ym, .ref ya, .ref yb, .ref yc, .ref ye, .ref yp, .ref yq, .ref yo, .int (zI ro), .long (zL fi), .long (zL la), .long (zL lo), .long (zL hi), .int (zI co), .ref yk, .ref yw, .ref yi, .int (zI ge), .ref yx, .ref yy, .int (zI ir)])), zci G ym 8 MN]) (n := 2) S hN hK hP hD hS hA hl (c_X5_floor l G H.size ((sm * (MC (10 * v.toNat + on.toNat))) + (mr * (MC (10 * v.toNat + ot.toNat)))) dv (by omega) (by omega)) gX5_cut_X5_floor rfl ⟨rfl, rfl⟩ (by decide +kernel) rfl ⟨Nat.le_of_ble_eq_true rfl, Nat.le_of_ble_eq_true rfl, Nat.le_of_ble_eq_true rfl, Nat.le_of_ble_eq_true rfl⟩ [] [0, 1, 2, 3, 4, 5] rfl rfl (by decide) (by decide) (by decide) (Nat.le_of_ble_eq_true rfl) dX5_cut_150 rfl (fun r_ u_16 H1 locs1 hp_17 hP1 hD1 hS1 hz1 => ?_)
            try dsimp only at hp_17 hP1 hD1
            subst hp_17
            generalize H1 = H at hP1 hD1 hS1 hz1 ⊢
            generalize locs1 = locs at hS1 ⊢
            have hS := hS1
            have hP : va_P G.1 vwCl [zci G ya 80 MA, zci G yb 80 MB, zci G yc 80 MC, zci G ye 80 ME, (h0, .inr (5, [.int (zI th), .int (zI sh), .ref ym, .ref ya, .ref yb, .ref yc, .ref ye, .ref yp, .ref yq, .ref yo, .int (zI ro), .long (zL fi), .long (zL la), .long (zL lo), .long (zL hi), .int (zI co), .ref yk, .ref yw, .ref yi, .int (zI ge), .ref yx, .ref yy, .int (zI ir)])), zci G ym 8 MN] H := hP1
            have hD : va_D A [zci G ya 80 MA, zci G yb 80 MB, zci G yc 80 MC, zci G ye 80 ME, (h0, .inr (5, [.int (zI th), .int (zI sh), .ref ym, .ref ya, .ref yb, .ref yc, .ref ye, .ref yp, .ref yq, .ref yo, .int (zI ro), .long (zL fi), .long (zL la), .long (zL lo), .long (zL hi), .int (zI co), .ref yk, .ref yw, .ref yi, .int (zI ge), .ref yx, .ref yy, .int (zI ir)])), zci G ym 8 MN] := hD1
            refine zv_l2i S dX5_cut_153 ?_
            refine zv_istore (lv' := [(11, .int (zI (((sm * (MC (10 * v.toNat + on.toNat))) + (mr * (MC (10 * v.toNat + ot.toNat)))) / dv))), (10, .int (zI ((sm * (MB (10 * v.toNat + on.toNat))) + (mr * (MB (10 * v.toNat + ot.toNat)))))), (9, .int (zI ((sm * (MA (10 * v.toNat + on.toNat))) + (mr * (MA (10 * v.toNat + ot.toNat)))))), (8, .int (zI ((10 * v) + ot))), (7, .int (zI ((10 * v) + on))), (0, .ref h0), (1, .int (zI v)), (2, .int (zI on)), (3, .int (zI sm)), (4, .int (zI ot)), (5, .int (zI mr)), (6, .int (zI dv))]) S dX5_cut_154 hl (by decide) rfl (fun ls hl => ?_)
            have JN251 : ∀ (is : Int) (his : is = zb (zcut (zrow MA v.toNat) (zrow MB v.toNat) (zrow MC v.toNat) (zrow ME v.toNat) 0 on.toNat ot.toNat sm mr dv)) (his1 : is = 0 ∨ is = 1) (H : Heap) (locs : List Loc), va_P G.1 vwCl [zci G ya 80 MA, zci G yb 80 MB, zci G yc 80 MC, zci G ye 80 ME, (h0, .inr (5, [.int (zI th), .int (zI sh), .ref ym, .ref ya, .ref yb, .ref yc, .ref ye, .ref yp, .ref yq, .ref yo, .int (zI ro), .long (zL fi), .long (zL la), .long (zL lo), .long (zL hi), .int (zI co), .ref yk, .ref yw, .ref yi, .int (zI ge), .ref yx, .ref yy, .int (zI ir)])), zci G ym 8 MN] H → va_D A [zci G ya 80 MA, zci G yb 80 MB, zci G yc 80 MC, zci G ye 80 ME, (h0, .inr (5, [.int (zI th), .int (zI sh), .ref ym, .ref ya, .ref yb, .ref yc, .ref ye, .ref yp, .ref yq, .ref yo, .int (zI ro), .long (zL fi), .long (zL la), .long (zL lo), .long (zL hi), .int (zI co), .ref yk, .ref yw, .ref yi, .int (zI ge), .ref yx, .ref yy, .int (zI ir)])), zci G ym 8 MN] → va_S A s.heap H locs → ∀ ls : Array Slot, lv_has ls 13 [(11, .int (zI (((sm * (MC (10 * v.toNat + on.toNat))) + (mr * (MC (10 * v.toNat + ot.toNat)))) / dv))), (10, .int (zI ((sm * (MB (10 * v.toNat + on.toNat))) + (mr * (MB (10 * v.toNat + ot.toNat)))))), (9, .int (zI ((sm * (MA (10 * v.toNat + on.toNat))) + (mr * (MA (10 * v.toNat + ot.toNat)))))), (8, .int (zI ((10 * v) + ot))), (7, .int (zI ((10 * v) + on))), (0, .ref h0), (1, .int (zI v)), (2, .int (zI on)), (3, .int (zI sm)), (4, .int (zI ot)), (5, .int (zI mr)), (6, .int (zI dv))] → W p l e ({ frames := 3, cells := 0, slots := 0, locals := 65 }) s m ([.ref h0, .int (zI v), .int (zI on), .int (zI sm), .int (zI ot), .int (zI mr), .int (zI dv)]).toArray below meth c H locs 0 0 Q (F0 m 251 ls [.int (zI is)]) := by
              intro is his his1 H locs hP hD hS ls hl
              refine zv_istore (lv' := [(12, .int (zI is)), (11, .int (zI (((sm * (MC (10 * v.toNat + on.toNat))) + (mr * (MC (10 * v.toNat + ot.toNat)))) / dv))), (10, .int (zI ((sm * (MB (10 * v.toNat + on.toNat))) + (mr * (MB (10 * v.toNat + ot.toNat)))))), (9, .int (zI ((sm * (MA (10 * v.toNat + on.toNat))) + (mr * (MA (10 * v.toNat + ot.toNat)))))), (8, .int (zI ((10 * v) + ot))), (7, .int (zI ((10 * v) + on))), (0, .ref h0), (1, .int (zI v)), (2, .int (zI on)), (3, .int (zI sm)), (4, .int (zI ot)), (5, .int (zI mr)), (6, .int (zI dv))]) S dX5_cut_251 hl (by decide) rfl (fun ls hl => ?_)
              have JN275 : ∀ (tn : Int) (htn : tn = 3 ∧ ¬ zcut (zrow MA v.toNat) (zrow MB v.toNat) (zrow MC v.toNat) (zrow ME v.toNat)  (MN v.toNat).toNat on.toNat ot.toNat sm mr dv ∨ tn = 0 ∧ zcut (zrow MA v.toNat) (zrow MB v.toNat) (zrow MC v.toNat) (zrow ME v.toNat)  (MN v.toNat).toNat on.toNat ot.toNat sm mr dv) (htn0 : tn = 0 ∨ tn = 3) (H : Heap) (locs : List Loc), va_P G.1 vwCl [zci G ya 80 MA, zci G yb 80 MB, zci G yc 80 MC, zci G ye 80 ME, (h0, .inr (5, [.int (zI th), .int (zI sh), .ref ym, .ref ya, .ref yb, .ref yc, .ref ye, .ref yp, .ref yq, .ref yo, .int (zI ro), .long (zL fi), .long (zL la), .long (zL lo), .long (zL hi), .int (zI co), .ref yk, .ref yw, .ref yi, .int (zI ge), .ref yx, .ref yy, .int (zI ir)])), zci G ym 8 MN] H → va_D A [zci G ya 80 MA, zci G yb 80 MB, zci G yc 80 MC, zci G ye 80 ME, (h0, .inr (5, [.int (zI th), .int (zI sh), .ref ym, .ref ya, .ref yb, .ref yc, .ref ye, .ref yp, .ref yq, .ref yo, .int (zI ro), .long (zL fi), .long (zL la), .long (zL lo), .long (zL hi), .int (zI co), .ref yk, .ref yw, .ref yi, .int (zI ge), .ref yx, .ref yy, .int (zI ir)])), zci G ym 8 MN] → va_S A s.heap H locs → ∀ ls : Array Slot, lv_has ls 13 [(12, .int (zI is)), (11, .int (zI (((sm * (MC (10 * v.toNat + on.toNat))) + (mr * (MC (10 * v.toNat + ot.toNat)))) / dv))), (10, .int (zI ((sm * (MB (10 * v.toNat + on.toNat))) + (mr * (MB (10 * v.toNat + ot.toNat)))))), (9, .int (zI ((sm * (MA (10 * v.toNat + on.toNat))) + (mr * (MA (10 * v.toNat + ot.toNat)))))), (8, .int (zI ((10 * v) + ot))), (7, .int (zI ((10 * v) + on))), (0, .ref h0), (1, .int (zI v)), (2, .int (zI on)), (3, .int (zI sm)), (4, .int (zI ot)), (5, .int (zI mr)), (6, .int (zI dv))] → W p l e ({ frames := 3, cells := 0, slots := 0, locals := 65 }) s m ([.ref h0, .int (zI v), .int (zI on), .int (zI sm), .int (zI ot), .int (zI mr), .int (zI dv)]).toArray below meth c H locs 0 0 Q (F0 m 275 ls [.int (zI tn), .ref h0]) := by
                intro tn htn htn0 H locs hP hD hS ls hl
                refine zv_put (C := RX5) (T := TX5) (N := 23) (ci := 5) (v := .int (zI tn)) S in_X5_cut_X5 tyX5 tyX5_ok nmX5 hK hP hD hS 4 rfl rfl 0 (by decide) wd_X5_cut_f51 rfl rfl rfl rfl (Nat.le_of_ble_eq_true rfl) dX5_cut_275 (fun H locs hP hD hS => ?_)
                have hP : va_P G.1 vwCl [zci G ya 80 MA, zci G yb 80 MB, zci G yc 80 MC, zci G ye 80 ME, (h0, .inr (5, [.int (zI tn), .int (zI sh), .ref ym, .ref ya, .ref yb, .ref yc, .ref ye, .ref yp, .ref yq, .ref yo, .int (zI ro), .long (zL fi), .long (zL la), .long (zL lo), .long (zL hi), .int (zI co), .ref yk, .ref yw, .ref yi, .int (zI ge), .ref yx, .ref yy, .int (zI ir)])), zci G ym 8 MN] H := hP
                have hD : va_D A [zci G ya 80 MA, zci G yb 80 MB, zci G yc 80 MC, zci G ye 80 ME, (h0, .inr (5, [.int (zI tn), .int (zI sh), .ref ym, .ref ya, .ref yb, .ref yc, .ref ye, .ref yp, .ref yq, .ref yo, .int (zI ro), .long (zL fi), .long (zL la), .long (zL lo), .long (zL hi), .int (zI co), .ref yk, .ref yw, .ref yi, .int (zI ge), .ref yx, .ref yy, .int (zI ir)])), zci G ym 8 MN] := hD
                refine zv_aload_n S dX5_cut_278 rfl (lv_at hl 6 rfl) ?_
                refine zv_get (C := RX5) (T := TX5) (N := 23) (ci := 5) (v := .int (zI tn)) S in_X5_cut_X5 hK hP 4 rfl rfl 0 (by decide) wd_X5_cut_f51 rfl rfl dX5_cut_279 ?_
                refine zv_if_eq (tgt := 289) S (by unfold zR; omega) dX5_cut_282 (by decide) (fun c_18 => ?_) (fun c_18 => ?_)
                · have hcu : zcut (zrow MA v.toNat) (zrow MB v.toNat) (zrow MC v.toNat) (zrow ME v.toNat)  (MN v.toNat).toNat on.toNat ot.toNat sm mr dv := (by rcases htn with h | h; exact absurd h.1 (by omega); exact h.2)
                  have hcu2 := (zcut_k.mp hcu).2
                  refine zv_aload_n S dX5_cut_289 rfl (lv_at hl 6 rfl) ?_
                  refine zv_iload_n S dX5_cut_290 rfl (lv_at hl 7 rfl) ?_
                  refine zv_iload S dX5_cut_291 (lv_at hl 3 rfl) ?_
                  refine zv_iload S dX5_cut_293 (lv_at hl 12 rfl) ?_
                  refine zv_idiv S (by unfold zR; omega) (by unfold zR; omega) (by omega) (by omega) dX5_cut_295 ?_
                  refine zv_iload S dX5_cut_296 (lv_at hl 2 rfl) ?_
                  refine zv_iload S dX5_cut_298 (lv_at hl 12 rfl) ?_
                  refine zv_idiv S (by unfold zR; omega) (by unfold zR; omega) (by omega) (by omega) dX5_cut_300 ?_
                  refine zv_iload S dX5_cut_301 (lv_at hl 1 rfl) ?_
                  refine zv_iconst S dX5_cut_303 ?_
                  refine zc_Vi (As := [.int (zI v), .int (zI (((sm * (MA (10 * v.toNat + on.toNat))) + (mr * (MA (10 * v.toNat + ot.toNat)))).tdiv dv)), .int (zI (((sm * (MB (10 * v.toNat + on.toNat))) + (mr * (MB (10 * v.toNat + ot.toNat)))).tdiv dv)), .int (zI (((sm * (MC (10 * v.toNat + on.toNat))) + (mr * (MC (10 * v.toNat + ot.toNat)))) / dv)), .int (zI 0)]) (rest := []) (wr := []) (n := 5) S hN hK hP hD hS hA hl (c_X5_puts l G H.size h0 tn sh ym ya yb yc ye yp yq yo ro fi la lo hi co yk yw yi ge yx yy ir MN MA MB MC ME v v.toNat ((MN v.toNat).toNat) (((sm * (MA (10 * v.toNat + on.toNat))) + (mr * (MA (10 * v.toNat + ot.toNat)))).tdiv dv) (((sm * (MB (10 * v.toNat + on.toNat))) + (mr * (MB (10 * v.toNat + ot.toNat)))).tdiv dv) (((sm * (MC (10 * v.toNat + on.toNat))) + (mr * (MC (10 * v.toNat + ot.toNat)))) / dv) 0 (by omega) (by omega) (by omega) (by omega)) gX5_cut_X5_puts rfl ⟨rfl, rfl⟩ (by decide +kernel) rfl ⟨Nat.le_of_ble_eq_true rfl, Nat.le_of_ble_eq_true rfl, Nat.le_of_ble_eq_true rfl, Nat.le_of_ble_eq_true rfl⟩ [4, 5, 0, 1, 2, 3] [] rfl rfl (by decide) (by decide) (by decide) (ci := 5) rfl rfl rfl (Nat.le_of_ble_eq_true rfl) dX5_cut_304 rfl (fun r_ u_19 H1 locs1 hp_20 hP1 hD1 hS1 hz1 => ?_)
                  try dsimp only at hp_20 hP1 hD1
                  subst hp_20
                  generalize H1 = H at hP1 hD1 hS1 hz1 ⊢
                  generalize locs1 = locs at hS1 ⊢
                  have hS := hS1
                  have hP : va_P G.1 vwCl [(h0, .inr (5, [.int (zI tn), .int (zI sh), .ref ym, .ref ya, .ref yb, .ref yc, .ref ye, .ref yp, .ref yq, .ref yo, .int (zI ro), .long (zL fi), .long (zL la), .long (zL lo), .long (zL hi), .int (zI co), .ref yk, .ref yw, .ref yi, .int (zI ge), .ref yx, .ref yy, .int (zI ir)])), zci G ym 8 (zU MN v.toNat (MN v.toNat + 1)), zci G ya 80 (zU MA (10 * v.toNat + ((MN v.toNat).toNat)) (((sm * (MA (10 * v.toNat + on.toNat))) + (mr * (MA (10 * v.toNat + ot.toNat)))).tdiv dv)), zci G yb 80 (zU MB (10 * v.toNat + ((MN v.toNat).toNat)) (((sm * (MB (10 * v.toNat + on.toNat))) + (mr * (MB (10 * v.toNat + ot.toNat)))).tdiv dv)), zci G yc 80 (zU MC (10 * v.toNat + ((MN v.toNat).toNat)) (((sm * (MC (10 * v.toNat + on.toNat))) + (mr * (MC (10 * v.toNat + ot.toNat)))) / dv)), zci G ye 80 (zU ME (10 * v.toNat + ((MN v.toNat).toNat)) 0)] H := hP1
                  have hD : va_D A [(h0, .inr (5, [.int (zI tn), .int (zI sh), .ref ym, .ref ya, .ref yb, .ref yc, .ref ye, .ref yp, .ref yq, .ref yo, .int (zI ro), .long (zL fi), .long (zL la), .long (zL lo), .long (zL hi), .int (zI co), .ref yk, .ref yw, .ref yi, .int (zI ge), .ref yx, .ref yy, .int (zI ir)])), zci G ym 8 (zU MN v.toNat (MN v.toNat + 1)), zci G ya 80 (zU MA (10 * v.toNat + ((MN v.toNat).toNat)) (((sm * (MA (10 * v.toNat + on.toNat))) + (mr * (MA (10 * v.toNat + ot.toNat)))).tdiv dv)), zci G yb 80 (zU MB (10 * v.toNat + ((MN v.toNat).toNat)) (((sm * (MB (10 * v.toNat + on.toNat))) + (mr * (MB (10 * v.toNat + ot.toNat)))).tdiv dv)), zci G yc 80 (zU MC (10 * v.toNat + ((MN v.toNat).toNat)) (((sm * (MC (10 * v.toNat + on.toNat))) + (mr * (MC (10 * v.toNat + ot.toNat)))) / dv)), zci G ye 80 (zU ME (10 * v.toNat + ((MN v.toNat).toNat)) 0)] := hD1
                  exact hret _ _ _ _ _ ⟨(MN v.toNat), tn, (zU MN v.toNat (MN v.toNat + 1)), (zU MA (10 * v.toNat + ((MN v.toNat).toNat)) (((sm * (MA (10 * v.toNat + on.toNat))) + (mr * (MA (10 * v.toNat + ot.toNat)))).tdiv dv)), (zU MB (10 * v.toNat + ((MN v.toNat).toNat)) (((sm * (MB (10 * v.toNat + on.toNat))) + (mr * (MB (10 * v.toNat + ot.toNat)))).tdiv dv)), (zU MC (10 * v.toNat + ((MN v.toNat).toNat)) (((sm * (MC (10 * v.toNat + on.toNat))) + (mr * (MC (10 * v.toNat + ot.toNat)))) / dv)), (zU ME (10 * v.toNat + ((MN v.toNat).toNat)) 0)⟩ dX5_cut_307 ⟨rfl, (show zcutR sh MN MA MB MC ME v on sm ot mr dv (MN v.toNat) tn (zU MN v.toNat (MN v.toNat + 1)) (zU MA (10 * v.toNat + ((MN v.toNat).toNat)) (((sm * (MA (10 * v.toNat + on.toNat))) + (mr * (MA (10 * v.toNat + ot.toNat)))).tdiv dv)) (zU MB (10 * v.toNat + ((MN v.toNat).toNat)) (((sm * (MB (10 * v.toNat + on.toNat))) + (mr * (MB (10 * v.toNat + ot.toNat)))).tdiv dv)) (zU MC (10 * v.toNat + ((MN v.toNat).toNat)) (((sm * (MC (10 * v.toNat + on.toNat))) + (mr * (MC (10 * v.toNat + ot.toNat)))) / dv)) (zU ME (10 * v.toNat + ((MN v.toNat).toNat)) 0) from (Or.inr (Or.inr (Or.inr ⟨by omega, ⟨c_3, c_6⟩, ⟨c_9, c_12, c_15⟩, hcu, rfl, rfl, rfl, rfl, rfl, rfl⟩))))⟩ (hP.sub [0, 1, 2, 3, 4, 5] rfl) (hD.sub [0, 1, 2, 3, 4, 5] (by decide) rfl) hS
                · refine zv_iconst S dX5_cut_285 ?_
                  refine zv_goto (tgt := 307) S dX5_cut_286 (by decide) ?_
                  exact hret _ _ _ _ _ ⟨0, tn, MN, MA, MB, MC, ME⟩ dX5_cut_307 ⟨rfl, (show zcutR sh MN MA MB MC ME v on sm ot mr dv 0 tn MN MA MB MC ME from (by rcases htn with h | h; exact Or.inr (Or.inr (Or.inl ⟨h.1, ⟨c_3, c_6⟩, ⟨c_9, c_12, c_15⟩, h.2, ⟨rfl, rfl, rfl, rfl, rfl⟩⟩)); exact absurd h.1 (by omega)))⟩ (hP.sub [4, 5, 0, 1, 2, 3] rfl) (hD.sub [4, 5, 0, 1, 2, 3] (by decide) rfl) hS
              refine zv_aload_n S dX5_cut_253 rfl (lv_at hl 6 rfl) ?_
              refine zv_iload S dX5_cut_254 (lv_at hl 0 rfl) ?_
              refine zv_if_eq (tgt := 274) S (by unfold zR; omega) dX5_cut_256 (by decide) (fun c_21 => ?_) (fun c_21 => ?_)
              · refine zv_iconst S dX5_cut_274 ?_
                exact JN275 3 (Or.inl ⟨rfl, fun z => absurd (his.trans (zb_t (zcut_k.mp z).1)) (by omega)⟩) (Or.inr rfl) _ _ hP hD hS _ (lv_sub hl [0, 1, 2, 3, 4, 5, 6, 7, 8, 9, 10, 11, 12] rfl)
              · refine zv_aload_n S dX5_cut_259 rfl (lv_at hl 6 rfl) ?_
                refine zv_get (C := RX5) (T := TX5) (N := 23) (ci := 5) (v := .ref ym) S in_X5_cut_X5 hK hP 4 rfl rfl 2 (by decide) wd_X5_cut_f7 rfl rfl dX5_cut_260 ?_
                refine zv_iload_n S dX5_cut_263 rfl (lv_at hl 7 rfl) ?_
                refine zv_iald S hK hP 5 0 rfl rfl v.toNat (by omega) (by omega) (by decide) dX5_cut_264 ?_
                refine zv_bipush (v := 10) S dX5_cut_265 (by decide) ?_
                refine zv_icmp_ge (tgt := 274) S (by unfold zR; omega) (by unfold zR; omega) dX5_cut_267 (by decide) (fun c_22 => ?_) (fun c_22 => ?_)
                · refine zv_iconst S dX5_cut_274 ?_
                  exact JN275 3 (Or.inl ⟨rfl, fun z => absurd (zcut_k.mp z).2 (by omega)⟩) (Or.inr rfl) _ _ hP hD hS _ (lv_sub hl [0, 1, 2, 3, 4, 5, 6, 7, 8, 9, 10, 11, 12] rfl)
                · refine zv_iconst S dX5_cut_270 ?_
                  refine zv_goto (tgt := 275) S dX5_cut_271 (by decide) ?_
                  exact JN275 0 (Or.inr ⟨rfl, zcut_k.mpr ⟨zb_iff1.mp (his.symm.trans (by omega)), by omega⟩⟩) (Or.inl rfl) _ _ hP hD hS _ (lv_sub hl [0, 1, 2, 3, 4, 5, 6, 7, 8, 9, 10, 11, 12] rfl)
            have kd := zdivb (show 0 < dv by omega) kc.2.2.1 kc.2.2.2
            have l1 := ztdivb (y := dv) ka.2.2.1 ka.2.2.2
            have l2 := ztdivb (y := dv) kb.2.2.1 kb.2.2.2
            have m1 := ztd (x := (sm * MA (10 * v.toNat + on.toNat) + mr * MA (10 * v.toNat + ot.toNat))) (show 0 < dv by omega)
            have m2 := ztd (x := (sm * MB (10 * v.toNat + on.toNat) + mr * MB (10 * v.toNat + ot.toNat))) (show 0 < dv by omega)
            refine zv_aload_n S dX5_cut_156 rfl (lv_at hl 5 rfl) ?_
            refine zv_get (C := RX5) (T := TX5) (N := 23) (ci := 5) (v := .ref ye) S in_X5_cut_X5 hK hP 4 rfl rfl 6 (by decide) wd_X5_cut_f22 rfl rfl dX5_cut_157 ?_
            refine zv_iload S dX5_cut_160 (lv_at hl 4 rfl) ?_
            refine zv_iald S hK hP 3 0 rfl rfl (10 * v.toNat + on.toNat) (by omega) (by omega) (by decide) dX5_cut_162 ?_
            refine zv_if_ne (tgt := 250) S (by unfold zR; omega) dX5_cut_163 (by decide) (fun c_23 => ?_) (fun c_23 => ?_)
            · refine zv_iconst S dX5_cut_250 ?_
              exact JN251 0 (zb_f (fun z => absurd z.1 c_23)).symm (Or.inl rfl) _ _ hP hD hS _ (lv_sub hl [0, 1, 2, 3, 4, 5, 6, 7, 8, 9, 10, 11] rfl)
            · refine zv_aload_n S dX5_cut_166 rfl (lv_at hl 5 rfl) ?_
              refine zv_get (C := RX5) (T := TX5) (N := 23) (ci := 5) (v := .ref ye) S in_X5_cut_X5 hK hP 4 rfl rfl 6 (by decide) wd_X5_cut_f22 rfl rfl dX5_cut_167 ?_
              refine zv_iload S dX5_cut_170 (lv_at hl 3 rfl) ?_
              refine zv_iald S hK hP 3 0 rfl rfl (10 * v.toNat + ot.toNat) (by omega) (by omega) (by decide) dX5_cut_172 ?_
              refine zv_if_ne (tgt := 250) S (by unfold zR; omega) dX5_cut_173 (by decide) (fun c_24 => ?_) (fun c_24 => ?_)
              · refine zv_iconst S dX5_cut_250 ?_
                exact JN251 0 (zb_f (fun z => absurd z.2.1 c_24)).symm (Or.inl rfl) _ _ hP hD hS _ (lv_sub hl [0, 1, 2, 3, 4, 5, 6, 7, 8, 9, 10, 11] rfl)
              · refine zv_iload S dX5_cut_176 (lv_at hl 2 rfl) ?_
                refine zv_iload S dX5_cut_178 (lv_at hl 11 rfl) ?_
                refine zv_irem S (by unfold zR; omega) (by unfold zR; omega) (by omega) (by omega) dX5_cut_180 ?_
                refine zv_if_ne (tgt := 250) S (by unfold zR; omega) dX5_cut_181 (by decide) (fun c_25 => ?_) (fun c_25 => ?_)
                · refine zv_iconst S dX5_cut_250 ?_
                  exact JN251 0 (zb_f (fun z => absurd z.2.2.1 c_25)).symm (Or.inl rfl) _ _ hP hD hS _ (lv_sub hl [0, 1, 2, 3, 4, 5, 6, 7, 8, 9, 10, 11] rfl)
                · refine zv_iload S dX5_cut_184 (lv_at hl 1 rfl) ?_
                  refine zv_iload S dX5_cut_186 (lv_at hl 11 rfl) ?_
                  refine zv_irem S (by unfold zR; omega) (by unfold zR; omega) (by omega) (by omega) dX5_cut_188 ?_
                  refine zv_if_ne (tgt := 250) S (by unfold zR; omega) dX5_cut_189 (by decide) (fun c_26 => ?_) (fun c_26 => ?_)
                  · refine zv_iconst S dX5_cut_250 ?_
                    exact JN251 0 (zb_f (fun z => absurd z.2.2.2.1 c_26)).symm (Or.inl rfl) _ _ hP hD hS _ (lv_sub hl [0, 1, 2, 3, 4, 5, 6, 7, 8, 9, 10, 11] rfl)
                  · refine zv_iload S dX5_cut_192 (lv_at hl 2 rfl) ?_
                    refine zv_if_ne (tgt := 202) S (by unfold zR; omega) dX5_cut_194 (by decide) (fun c_27 => ?_) (fun c_27 => ?_)
                    · refine zv_iload S dX5_cut_202 (lv_at hl 2 rfl) ?_
                      refine zv_iload S dX5_cut_204 (lv_at hl 11 rfl) ?_
                      refine zv_idiv S (by unfold zR; omega) (by unfold zR; omega) (by omega) (by omega) dX5_cut_206 ?_
                      refine zv_bipush (v := (-60)) S dX5_cut_207 (by decide) ?_
                      refine zv_bipush (v := 60) S dX5_cut_209 (by decide) ?_
                      refine zc_Si (As := [.int (zI (((sm * (MA (10 * v.toNat + on.toNat))) + (mr * (MA (10 * v.toNat + ot.toNat)))).tdiv dv)), .int (zI (-60)), .int (zI 60)]) (rest := []) (wr := [zci G ya 80 MA, zci G yb 80 MB, zci G yc 80 MC, zci G ye 80 ME, (h0, .inr (5, [.int (zI th), .int (zI sh), .ref ym, .ref ya, .ref yb, .ref yc, .ref ye, .ref yp, .ref yq, .ref yo, .int (zI ro), .long (zL fi), .long (zL la), .long (zL lo), .long (zL hi), .int (zI co), .ref yk, .ref yw, .ref yi, .int (zI ge), .ref yx, .ref yy, .int (zI ir)])), zci G ym 8 MN]) (n := 3) S hN hK hP hD hS hA hl (c_X5_in l G H.size (((sm * (MA (10 * v.toNat + on.toNat))) + (mr * (MA (10 * v.toNat + ot.toNat)))).tdiv dv) (-60) 60 (by omega) (by omega) (by omega)) gX5_cut_X5_in rfl ⟨rfl, rfl⟩ (by decide +kernel) rfl ⟨Nat.le_of_ble_eq_true rfl, Nat.le_of_ble_eq_true rfl, Nat.le_of_ble_eq_true rfl, Nat.le_of_ble_eq_true rfl⟩ [] [0, 1, 2, 3, 4, 5] rfl rfl (by decide) (by decide) (by decide) (Nat.le_of_ble_eq_true rfl) dX5_cut_211 rfl (fun r_ u_28 H1 locs1 hp_29 hP1 hD1 hS1 hz1 => ?_)
                      try dsimp only at hp_29 hP1 hD1
                      subst hp_29
                      generalize H1 = H at hP1 hD1 hS1 hz1 ⊢
                      generalize locs1 = locs at hS1 ⊢
                      have hS := hS1
                      have hP : va_P G.1 vwCl [zci G ya 80 MA, zci G yb 80 MB, zci G yc 80 MC, zci G ye 80 ME, (h0, .inr (5, [.int (zI th), .int (zI sh), .ref ym, .ref ya, .ref yb, .ref yc, .ref ye, .ref yp, .ref yq, .ref yo, .int (zI ro), .long (zL fi), .long (zL la), .long (zL lo), .long (zL hi), .int (zI co), .ref yk, .ref yw, .ref yi, .int (zI ge), .ref yx, .ref yy, .int (zI ir)])), zci G ym 8 MN] H := hP1
                      have hD : va_D A [zci G ya 80 MA, zci G yb 80 MB, zci G yc 80 MC, zci G ye 80 ME, (h0, .inr (5, [.int (zI th), .int (zI sh), .ref ym, .ref ya, .ref yb, .ref yc, .ref ye, .ref yp, .ref yq, .ref yo, .int (zI ro), .long (zL fi), .long (zL la), .long (zL lo), .long (zL hi), .int (zI co), .ref yk, .ref yw, .ref yi, .int (zI ge), .ref yx, .ref yy, .int (zI ir)])), zci G ym 8 MN] := hD1
                      refine zv_ifb_eq (tgt := 250) S dX5_cut_214 (by decide) (fun c_30 => ?_) (fun c_30 => ?_)
                      · refine zv_iconst S dX5_cut_250 ?_
                        exact JN251 0 (zb_f (fun z => absurd z.2.2.2.2.2.1 c_30)).symm (Or.inl rfl) _ _ hP hD hS _ (lv_sub hl [0, 1, 2, 3, 4, 5, 6, 7, 8, 9, 10, 11] rfl)
                      · refine zv_iload S dX5_cut_217 (lv_at hl 1 rfl) ?_
                        refine zv_iload S dX5_cut_219 (lv_at hl 11 rfl) ?_
                        refine zv_idiv S (by unfold zR; omega) (by unfold zR; omega) (by omega) (by omega) dX5_cut_221 ?_
                        refine zv_bipush (v := (-60)) S dX5_cut_222 (by decide) ?_
                        refine zv_bipush (v := 60) S dX5_cut_224 (by decide) ?_
                        refine zc_Si (As := [.int (zI (((sm * (MB (10 * v.toNat + on.toNat))) + (mr * (MB (10 * v.toNat + ot.toNat)))).tdiv dv)), .int (zI (-60)), .int (zI 60)]) (rest := []) (wr := [zci G ya 80 MA, zci G yb 80 MB, zci G yc 80 MC, zci G ye 80 ME, (h0, .inr (5, [.int (zI th), .int (zI sh), .ref ym, .ref ya, .ref yb, .ref yc, .ref ye, .ref yp, .ref yq, .ref yo, .int (zI ro), .long (zL fi), .long (zL la), .long (zL lo), .long (zL hi), .int (zI co), .ref yk, .ref yw, .ref yi, .int (zI ge), .ref yx, .ref yy, .int (zI ir)])), zci G ym 8 MN]) (n := 3) S hN hK hP hD hS hA hl (c_X5_in l G H.size (((sm * (MB (10 * v.toNat + on.toNat))) + (mr * (MB (10 * v.toNat + ot.toNat)))).tdiv dv) (-60) 60 (by omega) (by omega) (by omega)) gX5_cut_X5_in rfl ⟨rfl, rfl⟩ (by decide +kernel) rfl ⟨Nat.le_of_ble_eq_true rfl, Nat.le_of_ble_eq_true rfl, Nat.le_of_ble_eq_true rfl, Nat.le_of_ble_eq_true rfl⟩ [] [0, 1, 2, 3, 4, 5] rfl rfl (by decide) (by decide) (by decide) (Nat.le_of_ble_eq_true rfl) dX5_cut_226 rfl (fun r_ u_31 H1 locs1 hp_32 hP1 hD1 hS1 hz1 => ?_)
                        try dsimp only at hp_32 hP1 hD1
                        subst hp_32
                        generalize H1 = H at hP1 hD1 hS1 hz1 ⊢
                        generalize locs1 = locs at hS1 ⊢
                        have hS := hS1
                        have hP : va_P G.1 vwCl [zci G ya 80 MA, zci G yb 80 MB, zci G yc 80 MC, zci G ye 80 ME, (h0, .inr (5, [.int (zI th), .int (zI sh), .ref ym, .ref ya, .ref yb, .ref yc, .ref ye, .ref yp, .ref yq, .ref yo, .int (zI ro), .long (zL fi), .long (zL la), .long (zL lo), .long (zL hi), .int (zI co), .ref yk, .ref yw, .ref yi, .int (zI ge), .ref yx, .ref yy, .int (zI ir)])), zci G ym 8 MN] H := hP1
                        have hD : va_D A [zci G ya 80 MA, zci G yb 80 MB, zci G yc 80 MC, zci G ye 80 ME, (h0, .inr (5, [.int (zI th), .int (zI sh), .ref ym, .ref ya, .ref yb, .ref yc, .ref ye, .ref yp, .ref yq, .ref yo, .int (zI ro), .long (zL fi), .long (zL la), .long (zL lo), .long (zL hi), .int (zI co), .ref yk, .ref yw, .ref yi, .int (zI ge), .ref yx, .ref yy, .int (zI ir)])), zci G ym 8 MN] := hD1
                        refine zv_ifb_eq (tgt := 250) S dX5_cut_229 (by decide) (fun c_33 => ?_) (fun c_33 => ?_)
                        · refine zv_iconst S dX5_cut_250 ?_
                          exact JN251 0 (zb_f (fun z => absurd z.2.2.2.2.2.2.1 c_33)).symm (Or.inl rfl) _ _ hP hD hS _ (lv_sub hl [0, 1, 2, 3, 4, 5, 6, 7, 8, 9, 10, 11] rfl)
                        · refine zv_iload S dX5_cut_232 (lv_at hl 0 rfl) ?_
                          refine zv_sipush (v := (-999)) S dX5_cut_234 (by decide) ?_
                          refine zv_sipush (v := 999) S dX5_cut_237 (by decide) ?_
                          refine zc_Si (As := [.int (zI (((sm * (MC (10 * v.toNat + on.toNat))) + (mr * (MC (10 * v.toNat + ot.toNat)))) / dv)), .int (zI (-999)), .int (zI 999)]) (rest := []) (wr := [zci G ya 80 MA, zci G yb 80 MB, zci G yc 80 MC, zci G ye 80 ME, (h0, .inr (5, [.int (zI th), .int (zI sh), .ref ym, .ref ya, .ref yb, .ref yc, .ref ye, .ref yp, .ref yq, .ref yo, .int (zI ro), .long (zL fi), .long (zL la), .long (zL lo), .long (zL hi), .int (zI co), .ref yk, .ref yw, .ref yi, .int (zI ge), .ref yx, .ref yy, .int (zI ir)])), zci G ym 8 MN]) (n := 3) S hN hK hP hD hS hA hl (c_X5_in l G H.size (((sm * (MC (10 * v.toNat + on.toNat))) + (mr * (MC (10 * v.toNat + ot.toNat)))) / dv) (-999) 999 (by omega) (by omega) (by omega)) gX5_cut_X5_in rfl ⟨rfl, rfl⟩ (by decide +kernel) rfl ⟨Nat.le_of_ble_eq_true rfl, Nat.le_of_ble_eq_true rfl, Nat.le_of_ble_eq_true rfl, Nat.le_of_ble_eq_true rfl⟩ [] [0, 1, 2, 3, 4, 5] rfl rfl (by decide) (by decide) (by decide) (Nat.le_of_ble_eq_true rfl) dX5_cut_240 rfl (fun r_ u_34 H1 locs1 hp_35 hP1 hD1 hS1 hz1 => ?_)
                          try dsimp only at hp_35 hP1 hD1
                          subst hp_35
                          generalize H1 = H at hP1 hD1 hS1 hz1 ⊢
                          generalize locs1 = locs at hS1 ⊢
                          have hS := hS1
                          have hP : va_P G.1 vwCl [zci G ya 80 MA, zci G yb 80 MB, zci G yc 80 MC, zci G ye 80 ME, (h0, .inr (5, [.int (zI th), .int (zI sh), .ref ym, .ref ya, .ref yb, .ref yc, .ref ye, .ref yp, .ref yq, .ref yo, .int (zI ro), .long (zL fi), .long (zL la), .long (zL lo), .long (zL hi), .int (zI co), .ref yk, .ref yw, .ref yi, .int (zI ge), .ref yx, .ref yy, .int (zI ir)])), zci G ym 8 MN] H := hP1
                          have hD : va_D A [zci G ya 80 MA, zci G yb 80 MB, zci G yc 80 MC, zci G ye 80 ME, (h0, .inr (5, [.int (zI th), .int (zI sh), .ref ym, .ref ya, .ref yb, .ref yc, .ref ye, .ref yp, .ref yq, .ref yo, .int (zI ro), .long (zL fi), .long (zL la), .long (zL lo), .long (zL hi), .int (zI co), .ref yk, .ref yw, .ref yi, .int (zI ge), .ref yx, .ref yy, .int (zI ir)])), zci G ym 8 MN] := hD1
                          refine zv_ifb_eq (tgt := 250) S dX5_cut_243 (by decide) (fun c_36 => ?_) (fun c_36 => ?_)
                          · refine zv_iconst S dX5_cut_250 ?_
                            exact JN251 0 (zb_f (fun z => absurd z.2.2.2.2.2.2.2.1 c_36)).symm (Or.inl rfl) _ _ hP hD hS _ (lv_sub hl [0, 1, 2, 3, 4, 5, 6, 7, 8, 9, 10, 11] rfl)
                          · refine zv_iconst S dX5_cut_246 ?_
                            refine zv_goto (tgt := 251) S dX5_cut_247 (by decide) ?_
                            exact JN251 1 (zb_t (zcut_mk (by omega) (by omega) (by omega) (by omega) (by omega) (by omega) (by omega) (by omega))).symm (Or.inr rfl) _ _ hP hD hS _ (lv_sub hl [0, 1, 2, 3, 4, 5, 6, 7, 8, 9, 10, 11] rfl)
                    · refine zv_iload S dX5_cut_197 (lv_at hl 1 rfl) ?_
                      refine zv_if_eq (tgt := 250) S (by unfold zR; omega) dX5_cut_199 (by decide) (fun c_37 => ?_) (fun c_37 => ?_)
                      · refine zv_iconst S dX5_cut_250 ?_
                        exact JN251 0 (zb_f (fun z => z.2.2.2.2.1 ⟨by unfold zcs zrow; omega, by unfold zcs zrow; omega⟩)).symm (Or.inl rfl) _ _ hP hD hS _ (lv_sub hl [0, 1, 2, 3, 4, 5, 6, 7, 8, 9, 10, 11] rfl)
                      · refine zv_iload S dX5_cut_202 (lv_at hl 2 rfl) ?_
                        refine zv_iload S dX5_cut_204 (lv_at hl 11 rfl) ?_
                        refine zv_idiv S (by unfold zR; omega) (by unfold zR; omega) (by omega) (by omega) dX5_cut_206 ?_
                        refine zv_bipush (v := (-60)) S dX5_cut_207 (by decide) ?_
                        refine zv_bipush (v := 60) S dX5_cut_209 (by decide) ?_
                        refine zc_Si (As := [.int (zI (((sm * (MA (10 * v.toNat + on.toNat))) + (mr * (MA (10 * v.toNat + ot.toNat)))).tdiv dv)), .int (zI (-60)), .int (zI 60)]) (rest := []) (wr := [zci G ya 80 MA, zci G yb 80 MB, zci G yc 80 MC, zci G ye 80 ME, (h0, .inr (5, [.int (zI th), .int (zI sh), .ref ym, .ref ya, .ref yb, .ref yc, .ref ye, .ref yp, .ref yq, .ref yo, .int (zI ro), .long (zL fi), .long (zL la), .long (zL lo), .long (zL hi), .int (zI co), .ref yk, .ref yw, .ref yi, .int (zI ge), .ref yx, .ref yy, .int (zI ir)])), zci G ym 8 MN]) (n := 3) S hN hK hP hD hS hA hl (c_X5_in l G H.size (((sm * (MA (10 * v.toNat + on.toNat))) + (mr * (MA (10 * v.toNat + ot.toNat)))).tdiv dv) (-60) 60 (by omega) (by omega) (by omega)) gX5_cut_X5_in rfl ⟨rfl, rfl⟩ (by decide +kernel) rfl ⟨Nat.le_of_ble_eq_true rfl, Nat.le_of_ble_eq_true rfl, Nat.le_of_ble_eq_true rfl, Nat.le_of_ble_eq_true rfl⟩ [] [0, 1, 2, 3, 4, 5] rfl rfl (by decide) (by decide) (by decide) (Nat.le_of_ble_eq_true rfl) dX5_cut_211 rfl (fun r_ u_38 H1 locs1 hp_39 hP1 hD1 hS1 hz1 => ?_)
                        try dsimp only at hp_39 hP1 hD1
                        subst hp_39
                        generalize H1 = H at hP1 hD1 hS1 hz1 ⊢
                        generalize locs1 = locs at hS1 ⊢
                        have hS := hS1
                        have hP : va_P G.1 vwCl [zci G ya 80 MA, zci G yb 80 MB, zci G yc 80 MC, zci G ye 80 ME, (h0, .inr (5, [.int (zI th), .int (zI sh), .ref ym, .ref ya, .ref yb, .ref yc, .ref ye, .ref yp, .ref yq, .ref yo, .int (zI ro), .long (zL fi), .long (zL la), .long (zL lo), .long (zL hi), .int (zI co), .ref yk, .ref yw, .ref yi, .int (zI ge), .ref yx, .ref yy, .int (zI ir)])), zci G ym 8 MN] H := hP1
                        have hD : va_D A [zci G ya 80 MA, zci G yb 80 MB, zci G yc 80 MC, zci G ye 80 ME, (h0, .inr (5, [.int (zI th), .int (zI sh), .ref ym, .ref ya, .ref yb, .ref yc, .ref ye, .ref yp, .ref yq, .ref yo, .int (zI ro), .long (zL fi), .long (zL la), .long (zL lo), .long (zL hi), .int (zI co), .ref yk, .ref yw, .ref yi, .int (zI ge), .ref yx, .ref yy, .int (zI ir)])), zci G ym 8 MN] := hD1
                        refine zv_ifb_eq (tgt := 250) S dX5_cut_214 (by decide) (fun c_40 => ?_) (fun c_40 => ?_)
                        · refine zv_iconst S dX5_cut_250 ?_
                          exact JN251 0 (zb_f (fun z => absurd z.2.2.2.2.2.1 c_40)).symm (Or.inl rfl) _ _ hP hD hS _ (lv_sub hl [0, 1, 2, 3, 4, 5, 6, 7, 8, 9, 10, 11] rfl)
                        · refine zv_iload S dX5_cut_217 (lv_at hl 1 rfl) ?_
                          refine zv_iload S dX5_cut_219 (lv_at hl 11 rfl) ?_
                          refine zv_idiv S (by unfold zR; omega) (by unfold zR; omega) (by omega) (by omega) dX5_cut_221 ?_
                          refine zv_bipush (v := (-60)) S dX5_cut_222 (by decide) ?_
                          refine zv_bipush (v := 60) S dX5_cut_224 (by decide) ?_
                          refine zc_Si (As := [.int (zI (((sm * (MB (10 * v.toNat + on.toNat))) + (mr * (MB (10 * v.toNat + ot.toNat)))).tdiv dv)), .int (zI (-60)), .int (zI 60)]) (rest := []) (wr := [zci G ya 80 MA, zci G yb 80 MB, zci G yc 80 MC, zci G ye 80 ME, (h0, .inr (5, [.int (zI th), .int (zI sh), .ref ym, .ref ya, .ref yb, .ref yc, .ref ye, .ref yp, .ref yq, .ref yo, .int (zI ro), .long (zL fi), .long (zL la), .long (zL lo), .long (zL hi), .int (zI co), .ref yk, .ref yw, .ref yi, .int (zI ge), .ref yx, .ref yy, .int (zI ir)])), zci G ym 8 MN]) (n := 3) S hN hK hP hD hS hA hl (c_X5_in l G H.size (((sm * (MB (10 * v.toNat + on.toNat))) + (mr * (MB (10 * v.toNat + ot.toNat)))).tdiv dv) (-60) 60 (by omega) (by omega) (by omega)) gX5_cut_X5_in rfl ⟨rfl, rfl⟩ (by decide +kernel) rfl ⟨Nat.le_of_ble_eq_true rfl, Nat.le_of_ble_eq_true rfl, Nat.le_of_ble_eq_true rfl, Nat.le_of_ble_eq_true rfl⟩ [] [0, 1, 2, 3, 4, 5] rfl rfl (by decide) (by decide) (by decide) (Nat.le_of_ble_eq_true rfl) dX5_cut_226 rfl (fun r_ u_41 H1 locs1 hp_42 hP1 hD1 hS1 hz1 => ?_)
                          try dsimp only at hp_42 hP1 hD1
                          subst hp_42
                          generalize H1 = H at hP1 hD1 hS1 hz1 ⊢
                          generalize locs1 = locs at hS1 ⊢
                          have hS := hS1
                          have hP : va_P G.1 vwCl [zci G ya 80 MA, zci G yb 80 MB, zci G yc 80 MC, zci G ye 80 ME, (h0, .inr (5, [.int (zI th), .int (zI sh), .ref ym, .ref ya, .ref yb, .ref yc, .ref ye, .ref yp, .ref yq, .ref yo, .int (zI ro), .long (zL fi), .long (zL la), .long (zL lo), .long (zL hi), .int (zI co), .ref yk, .ref yw, .ref yi, .int (zI ge), .ref yx, .ref yy, .int (zI ir)])), zci G ym 8 MN] H := hP1
                          have hD : va_D A [zci G ya 80 MA, zci G yb 80 MB, zci G yc 80 MC, zci G ye 80 ME, (h0, .inr (5, [.int (zI th), .int (zI sh), .ref ym, .ref ya, .ref yb, .ref yc, .ref ye, .ref yp, .ref yq, .ref yo, .int (zI ro), .long (zL fi), .long (zL la), .long (zL lo), .long (zL hi), .int (zI co), .ref yk, .ref yw, .ref yi, .int (zI ge), .ref yx, .ref yy, .int (zI ir)])), zci G ym 8 MN] := hD1
                          refine zv_ifb_eq (tgt := 250) S dX5_cut_229 (by decide) (fun c_43 => ?_) (fun c_43 => ?_)
                          · refine zv_iconst S dX5_cut_250 ?_
                            exact JN251 0 (zb_f (fun z => absurd z.2.2.2.2.2.2.1 c_43)).symm (Or.inl rfl) _ _ hP hD hS _ (lv_sub hl [0, 1, 2, 3, 4, 5, 6, 7, 8, 9, 10, 11] rfl)
                          · refine zv_iload S dX5_cut_232 (lv_at hl 0 rfl) ?_
                            refine zv_sipush (v := (-999)) S dX5_cut_234 (by decide) ?_
                            refine zv_sipush (v := 999) S dX5_cut_237 (by decide) ?_
                            refine zc_Si (As := [.int (zI (((sm * (MC (10 * v.toNat + on.toNat))) + (mr * (MC (10 * v.toNat + ot.toNat)))) / dv)), .int (zI (-999)), .int (zI 999)]) (rest := []) (wr := [zci G ya 80 MA, zci G yb 80 MB, zci G yc 80 MC, zci G ye 80 ME, (h0, .inr (5, [.int (zI th), .int (zI sh), .ref ym, .ref ya, .ref yb, .ref yc, .ref ye, .ref yp, .ref yq, .ref yo, .int (zI ro), .long (zL fi), .long (zL la), .long (zL lo), .long (zL hi), .int (zI co), .ref yk, .ref yw, .ref yi, .int (zI ge), .ref yx, .ref yy, .int (zI ir)])), zci G ym 8 MN]) (n := 3) S hN hK hP hD hS hA hl (c_X5_in l G H.size (((sm * (MC (10 * v.toNat + on.toNat))) + (mr * (MC (10 * v.toNat + ot.toNat)))) / dv) (-999) 999 (by omega) (by omega) (by omega)) gX5_cut_X5_in rfl ⟨rfl, rfl⟩ (by decide +kernel) rfl ⟨Nat.le_of_ble_eq_true rfl, Nat.le_of_ble_eq_true rfl, Nat.le_of_ble_eq_true rfl, Nat.le_of_ble_eq_true rfl⟩ [] [0, 1, 2, 3, 4, 5] rfl rfl (by decide) (by decide) (by decide) (Nat.le_of_ble_eq_true rfl) dX5_cut_240 rfl (fun r_ u_44 H1 locs1 hp_45 hP1 hD1 hS1 hz1 => ?_)
                            try dsimp only at hp_45 hP1 hD1
                            subst hp_45
                            generalize H1 = H at hP1 hD1 hS1 hz1 ⊢
                            generalize locs1 = locs at hS1 ⊢
                            have hS := hS1
                            have hP : va_P G.1 vwCl [zci G ya 80 MA, zci G yb 80 MB, zci G yc 80 MC, zci G ye 80 ME, (h0, .inr (5, [.int (zI th), .int (zI sh), .ref ym, .ref ya, .ref yb, .ref yc, .ref ye, .ref yp, .ref yq, .ref yo, .int (zI ro), .long (zL fi), .long (zL la), .long (zL lo), .long (zL hi), .int (zI co), .ref yk, .ref yw, .ref yi, .int (zI ge), .ref yx, .ref yy, .int (zI ir)])), zci G ym 8 MN] H := hP1
                            have hD : va_D A [zci G ya 80 MA, zci G yb 80 MB, zci G yc 80 MC, zci G ye 80 ME, (h0, .inr (5, [.int (zI th), .int (zI sh), .ref ym, .ref ya, .ref yb, .ref yc, .ref ye, .ref yp, .ref yq, .ref yo, .int (zI ro), .long (zL fi), .long (zL la), .long (zL lo), .long (zL hi), .int (zI co), .ref yk, .ref yw, .ref yi, .int (zI ge), .ref yx, .ref yy, .int (zI ir)])), zci G ym 8 MN] := hD1
                            refine zv_ifb_eq (tgt := 250) S dX5_cut_243 (by decide) (fun c_46 => ?_) (fun c_46 => ?_)
                            · refine zv_iconst S dX5_cut_250 ?_
                              exact JN251 0 (zb_f (fun z => absurd z.2.2.2.2.2.2.2.1 c_46)).symm (Or.inl rfl) _ _ hP hD hS _ (lv_sub hl [0, 1, 2, 3, 4, 5, 6, 7, 8, 9, 10, 11] rfl)
                            · refine zv_iconst S dX5_cut_246 ?_
                              refine zv_goto (tgt := 251) S dX5_cut_247 (by decide) ?_
                              exact JN251 1 (zb_t (zcut_mk (by omega) (by omega) (by omega) (by omega) (by omega) (by omega) (by omega) (by omega))).symm (Or.inr rfl) _ _ hP hD hS _ (lv_sub hl [0, 1, 2, 3, 4, 5, 6, 7, 8, 9, 10, 11] rfl)
          · refine zv_aload_n S dX5_cut_58 rfl (lv_at hl 0 rfl) ?_
            refine zv_iconst S dX5_cut_59 ?_
            refine zv_put (C := RX5) (T := TX5) (N := 23) (ci := 5) (v := .int (zI 2)) S in_X5_cut_X5 tyX5 tyX5_ok nmX5 hK hP hD hS 4 rfl rfl 0 (by decide) wd_X5_cut_f51 rfl rfl rfl rfl (Nat.le_of_ble_eq_true rfl) dX5_cut_60 (fun H locs hP hD hS => ?_)
            have hP : va_P G.1 vwCl [zci G ya 80 MA, zci G yb 80 MB, zci G yc 80 MC, zci G ye 80 ME, (h0, .inr (5, [.int (zI 2), .int (zI sh), .ref ym, .ref ya, .ref yb, .ref yc, .ref ye, .ref yp, .ref yq, .ref yo, .int (zI ro), .long (zL fi), .long (zL la), .long (zL lo), .long (zL hi), .int (zI co), .ref yk, .ref yw, .ref yi, .int (zI ge), .ref yx, .ref yy, .int (zI ir)])), zci G ym 8 MN] H := hP
            have hD : va_D A [zci G ya 80 MA, zci G yb 80 MB, zci G yc 80 MC, zci G ye 80 ME, (h0, .inr (5, [.int (zI 2), .int (zI sh), .ref ym, .ref ya, .ref yb, .ref yc, .ref ye, .ref yp, .ref yq, .ref yo, .int (zI ro), .long (zL fi), .long (zL la), .long (zL lo), .long (zL hi), .int (zI co), .ref yk, .ref yw, .ref yi, .int (zI ge), .ref yx, .ref yy, .int (zI ir)])), zci G ym 8 MN] := hD
            refine zv_iconst S dX5_cut_63 ?_
            exact hret _ _ _ _ _ ⟨0, 2, MN, MA, MB, MC, ME⟩ dX5_cut_64 ⟨rfl, (show zcutR sh MN MA MB MC ME v on sm ot mr dv 0 2 MN MA MB MC ME from (Or.inr (Or.inl ⟨rfl, ⟨c_3, c_6⟩, (fun z => c_15 z.2.2), ⟨rfl, rfl, rfl, rfl, rfl⟩⟩)))⟩ (hP.sub [4, 5, 0, 1, 2, 3] rfl) (hD.sub [4, 5, 0, 1, 2, 3] (by decide) rfl) hS
    · refine zv_aload_n S dX5_cut_19 rfl (lv_at hl 0 rfl) ?_
      refine zv_iconst S dX5_cut_20 ?_
      refine zv_put (C := RX5) (T := TX5) (N := 23) (ci := 5) (v := .int (zI 1)) S in_X5_cut_X5 tyX5 tyX5_ok nmX5 hK hP hD hS 4 rfl rfl 0 (by decide) wd_X5_cut_f51 rfl rfl rfl rfl (Nat.le_of_ble_eq_true rfl) dX5_cut_21 (fun H locs hP hD hS => ?_)
      have hP : va_P G.1 vwCl [zci G ya 80 MA, zci G yb 80 MB, zci G yc 80 MC, zci G ye 80 ME, (h0, .inr (5, [.int (zI 1), .int (zI sh), .ref ym, .ref ya, .ref yb, .ref yc, .ref ye, .ref yp, .ref yq, .ref yo, .int (zI ro), .long (zL fi), .long (zL la), .long (zL lo), .long (zL hi), .int (zI co), .ref yk, .ref yw, .ref yi, .int (zI ge), .ref yx, .ref yy, .int (zI ir)])), zci G ym 8 MN] H := hP
      have hD : va_D A [zci G ya 80 MA, zci G yb 80 MB, zci G yc 80 MC, zci G ye 80 ME, (h0, .inr (5, [.int (zI 1), .int (zI sh), .ref ym, .ref ya, .ref yb, .ref yc, .ref ye, .ref yp, .ref yq, .ref yo, .int (zI ro), .long (zL fi), .long (zL la), .long (zL lo), .long (zL hi), .int (zI co), .ref yk, .ref yw, .ref yi, .int (zI ge), .ref yx, .ref yy, .int (zI ir)])), zci G ym 8 MN] := hD
      refine zv_iconst S dX5_cut_24 ?_
      exact hret _ _ _ _ _ ⟨0, 1, MN, MA, MB, MC, ME⟩ dX5_cut_25 ⟨rfl, (show zcutR sh MN MA MB MC ME v on sm ot mr dv 0 1 MN MA MB MC ME from (Or.inl ⟨rfl, (fun z => c_6 z.2), ⟨rfl, rfl, rfl, rfl, rfl⟩⟩))⟩ (hP.sub [4, 5, 0, 1, 2, 3] rfl) (hD.sub [4, 5, 0, 1, 2, 3] (by decide) rfl) hS
