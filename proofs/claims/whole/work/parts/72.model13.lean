theorem wd_X5_generated_f51 : Cond.fieldLink RX5 51 "PointMillModel" "thrown" "I" ∈ wsX5_generated := by decide +kernel
theorem in_X5_generated_X5 : ∀ w ∈ wsX50, w ∈ wsX5_generated := by decide +kernel
theorem wd_X5_generated_f48 : Cond.fieldLink RX5 48 "PointMillModel" "gy" "[I" ∈ wsX5_generated := by decide +kernel
theorem wd_X5_generated_f45 : Cond.fieldLink RX5 45 "PointMillModel" "gx" "[I" ∈ wsX5_generated := by decide +kernel
theorem wd_X5_generated_f134 : Cond.fieldLink RX5 134 "PointMillModel" "generators" "I" ∈ wsX5_generated := by decide +kernel
set_option maxHeartbeats 4000000 in
set_option maxRecDepth 100000 in
/-- the model: generated -/
theorem c_X5_generated (l : Launch) (G : zG) (sz : Nat) (h0 : Nat) (th : Int) (sh : Int) (ym : Nat) (ya : Nat) (yb : Nat) (yc : Nat) (ye : Nat) (yp : Nat) (yq : Nat) (yo : Nat) (ro : Int) (fi : Int) (la : Int) (lo : Int) (hi : Int) (co : Int) (yk : Nat) (yw : Nat) (yi : Nat) (ge : Int) (yx : Nat) (yy : Nat) (ir : Int) (GX : Nat → Int) (GY : Nat → Int) (x : Int) (y : Int) (v : Int) (w : Int) (pl : Int) (fs : Int) (h1 : -2147483648 ≤ x ∧ x < 2147483648) (h2 : -2147483648 ≤ y ∧ y < 2147483648) (h3 : -2147483648 ≤ v ∧ v < 2147483648) (h4 : -2147483648 ≤ w ∧ w < 2147483648) (hpl : -2147483648 ≤ pl ∧ pl < 2147483648) (hfs : fs = 0 ∨ fs = 1) : Met l yX5_generated wsX5_generated ({ frames := 2, cells := 0, slots := 0, locals := 57 }) (va_Pc [.ref h0, .int (zI x), .int (zI y), .int (zI v), .int (zI w), .int (zI pl), .int (zI fs)] (zPre G sz [(h0, .inr (5, [.int (zI th), .int (zI sh), .ref ym, .ref ya, .ref yb, .ref yc, .ref ye, .ref yp, .ref yq, .ref yo, .int (zI ro), .long (zL fi), .long (zL la), .long (zL lo), .long (zL hi), .int (zI co), .ref yk, .ref yw, .ref yi, .int (zI ge), .ref yx, .ref yy, .int (zI ir)])), zci G yx 900 GX, zci G yy 900 GY])) (va_Qi (fun (r : Int32) (u : (Int) × (Int) × (Int) × (Nat → Int) × (Nat → Int)) => r = zI u.1 ∧ (zgenR x y v w pl fs u.1 u.2.1)) (fun u => zW G (va_A [(h0, .inr (5, [.int (zI th), .int (zI sh), .ref ym, .ref ya, .ref yb, .ref yc, .ref ye, .ref yp, .ref yq, .ref yo, .int (zI ro), .long (zL fi), .long (zL la), .long (zL lo), .long (zL hi), .int (zI co), .ref yk, .ref yw, .ref yi, .int (zI ge), .ref yx, .ref yy, .int (zI ir)])), zci G yx 900 GX, zci G yy 900 GY] sz) ((fun (u : (Int) × (Int) × (Int) × (Nat → Int) × (Nat → Int)) => [(h0, .inr (5, [.int (zI u.2.1), .int (zI sh), .ref ym, .ref ya, .ref yb, .ref yc, .ref ye, .ref yp, .ref yq, .ref yo, .int (zI ro), .long (zL fi), .long (zL la), .long (zL lo), .long (zL hi), .int (zI co), .ref yk, .ref yw, .ref yi, .int (zI u.2.2.1), .ref yx, .ref yy, .int (zI ir)])), zci G yx 900 u.2.2.2.1, zci G yy 900 u.2.2.2.2]) u)) (va_A [(h0, .inr (5, [.int (zI th), .int (zI sh), .ref ym, .ref ya, .ref yb, .ref yc, .ref ye, .ref yp, .ref yq, .ref yo, .int (zI ro), .long (zL fi), .long (zL la), .long (zL lo), .long (zL hi), .int (zI co), .ref yk, .ref yw, .ref yi, .int (zI ge), .ref yx, .ref yy, .int (zI ir)])), zci G yx 900 GX, zci G yy 900 GY] sz)) 0 0 (va_A [(h0, .inr (5, [.int (zI th), .int (zI sh), .ref ym, .ref ya, .ref yb, .ref yc, .ref ye, .ref yp, .ref yq, .ref yo, .int (zI ro), .long (zL fi), .long (zL la), .long (zL lo), .long (zL hi), .int (zI co), .ref yk, .ref yw, .ref yi, .int (zI ge), .ref yx, .ref yy, .int (zI ir)])), zci G yx 900 GX, zci G yy 900 GY] sz) := by
  refine zM_i (post := fun (r : Int32) (u : (Int) × (Int) × (Int) × (Nat → Int) × (Nat → Int)) => r = zI u.1 ∧ (zgenR x y v w pl fs u.1 u.2.1)) (w1 := fun (u : (Int) × (Int) × (Int) × (Nat → Int) × (Nat → Int)) => [(h0, .inr (5, [.int (zI u.2.1), .int (zI sh), .ref ym, .ref ya, .ref yb, .ref yc, .ref ye, .ref yp, .ref yq, .ref yo, .int (zI ro), .long (zL fi), .long (zL la), .long (zL lo), .long (zL hi), .int (zI co), .ref yk, .ref yw, .ref yi, .int (zI u.2.2.1), .ref yx, .ref yy, .int (zI ir)])), zci G yx 900 u.2.2.2.1, zci G yy 900 u.2.2.2.2]) (plainFor_of_name (by decide)) rfl (Nat.le_of_ble_eq_true rfl) ?_
  intro p e s m below meth c A Q S hN hK hP hD hS hA hret ls hl
  have hl : lv_has ls 8 [(0, .ref h0), (1, .int (zI x)), (2, .int (zI y)), (3, .int (zI v)), (4, .int (zI w)), (5, .int (zI pl)), (6, .int (zI fs))] := hl
  refine zv_iload_n S dX5_generated_0 rfl (lv_at hl 1 rfl) ?_
  refine zv_iload_n S dX5_generated_1 rfl (lv_at hl 2 rfl) ?_
  refine zv_iload_n S dX5_generated_2 rfl (lv_at hl 3 rfl) ?_
  refine zv_iload S dX5_generated_3 (lv_at hl 4 rfl) ?_
  refine zc_Si (As := [.int (zI x), .int (zI y), .int (zI v), .int (zI w)]) (rest := []) (wr := [(h0, .inr (5, [.int (zI th), .int (zI sh), .ref ym, .ref ya, .ref yb, .ref yc, .ref ye, .ref yp, .ref yq, .ref yo, .int (zI ro), .long (zL fi), .long (zL la), .long (zL lo), .long (zL hi), .int (zI co), .ref yk, .ref yw, .ref yi, .int (zI ge), .ref yx, .ref yy, .int (zI ir)])), zci G yx 900 GX, zci G yy 900 GY]) (n := 4) S hN hK hP hD hS hA hl (c_X5_isCone l G s.heap.size x y v w (by omega) (by omega) (by omega) (by omega)) gX5_generated_X5_isCone rfl ⟨rfl, rfl⟩ (by decide +kernel) rfl ⟨Nat.le_of_ble_eq_true rfl, Nat.le_of_ble_eq_true rfl, Nat.le_of_ble_eq_true rfl, Nat.le_of_ble_eq_true rfl⟩ [] [0, 1, 2] rfl rfl (by decide) (by decide) (by decide) (Nat.le_of_ble_eq_true rfl) dX5_generated_5 rfl (fun r_ u_1 H1 locs1 hp_2 hP1 hD1 hS1 hz1 => ?_)
  try dsimp only at hp_2 hP1 hD1
  subst hp_2
  generalize H1 = H at hP1 hD1 hS1 hz1 ⊢
  generalize locs1 = locs at hS1 ⊢
  have hS := hS1
  have hP : va_P G.1 vwCl [(h0, .inr (5, [.int (zI th), .int (zI sh), .ref ym, .ref ya, .ref yb, .ref yc, .ref ye, .ref yp, .ref yq, .ref yo, .int (zI ro), .long (zL fi), .long (zL la), .long (zL lo), .long (zL hi), .int (zI co), .ref yk, .ref yw, .ref yi, .int (zI ge), .ref yx, .ref yy, .int (zI ir)])), zci G yx 900 GX, zci G yy 900 GY] H := hP1
  have hD : va_D A [(h0, .inr (5, [.int (zI th), .int (zI sh), .ref ym, .ref ya, .ref yb, .ref yc, .ref ye, .ref yp, .ref yq, .ref yo, .int (zI ro), .long (zL fi), .long (zL la), .long (zL lo), .long (zL hi), .int (zI co), .ref yk, .ref yw, .ref yi, .int (zI ge), .ref yx, .ref yy, .int (zI ir)])), zci G yx 900 GX, zci G yy 900 GY] := hD1
  refine zv_istore (lv' := [(7, .int (zI (zb (zcnm x y v w)))), (0, .ref h0), (1, .int (zI x)), (2, .int (zI y)), (3, .int (zI v)), (4, .int (zI w)), (5, .int (zI pl)), (6, .int (zI fs))]) S dX5_generated_8 hl (by decide) rfl (fun ls hl => ?_)
  refine zv_iload S dX5_generated_10 (lv_at hl 0 rfl) ?_
  refine zv_ifb_eq (tgt := 24) S dX5_generated_12 (by decide) (fun c_3 => ?_) (fun c_3 => ?_)
  · have hnz := c_3
    rw [zb_f hnz] at hl
    have JN59 : ∀ (tn : Int) (htn : tn = 1 ∧ pl < -1 ∨ tn = 2 ∧ -1 ≤ pl) (H : Heap) (locs : List Loc), va_P G.1 vwCl [(h0, .inr (5, [.int (zI th), .int (zI sh), .ref ym, .ref ya, .ref yb, .ref yc, .ref ye, .ref yp, .ref yq, .ref yo, .int (zI ro), .long (zL fi), .long (zL la), .long (zL lo), .long (zL hi), .int (zI co), .ref yk, .ref yw, .ref yi, .int (zI ge), .ref yx, .ref yy, .int (zI ir)])), zci G yx 900 GX, zci G yy 900 GY] H → va_D A [(h0, .inr (5, [.int (zI th), .int (zI sh), .ref ym, .ref ya, .ref yb, .ref yc, .ref ye, .ref yp, .ref yq, .ref yo, .int (zI ro), .long (zL fi), .long (zL la), .long (zL lo), .long (zL hi), .int (zI co), .ref yk, .ref yw, .ref yi, .int (zI ge), .ref yx, .ref yy, .int (zI ir)])), zci G yx 900 GX, zci G yy 900 GY] → va_S A s.heap H locs → ∀ ls : Array Slot, lv_has ls 8 [(7, .int (zI 0)), (0, .ref h0), (1, .int (zI x)), (2, .int (zI y)), (3, .int (zI v)), (4, .int (zI w)), (5, .int (zI pl)), (6, .int (zI fs))] → W p l e ({ frames := 2, cells := 0, slots := 0, locals := 57 }) s m ([.ref h0, .int (zI x), .int (zI y), .int (zI v), .int (zI w), .int (zI pl), .int (zI fs)]).toArray below meth c H locs 0 0 Q (F0 m 59 ls [.int (zI tn), .ref h0]) := by
      intro tn htn H locs hP hD hS ls hl
      refine zv_put (C := RX5) (T := TX5) (N := 23) (ci := 5) (v := .int (zI tn)) S in_X5_generated_X5 tyX5 tyX5_ok nmX5 hK hP hD hS 0 rfl rfl 0 (by decide) wd_X5_generated_f51 rfl rfl rfl rfl (Nat.le_of_ble_eq_true rfl) dX5_generated_59 (fun H locs hP hD hS => ?_)
      have hP : va_P G.1 vwCl [(h0, .inr (5, [.int (zI tn), .int (zI sh), .ref ym, .ref ya, .ref yb, .ref yc, .ref ye, .ref yp, .ref yq, .ref yo, .int (zI ro), .long (zL fi), .long (zL la), .long (zL lo), .long (zL hi), .int (zI co), .ref yk, .ref yw, .ref yi, .int (zI ge), .ref yx, .ref yy, .int (zI ir)])), zci G yx 900 GX, zci G yy 900 GY] H := hP
      have hD : va_D A [(h0, .inr (5, [.int (zI tn), .int (zI sh), .ref ym, .ref ya, .ref yb, .ref yc, .ref ye, .ref yp, .ref yq, .ref yo, .int (zI ro), .long (zL fi), .long (zL la), .long (zL lo), .long (zL hi), .int (zI co), .ref yk, .ref yw, .ref yi, .int (zI ge), .ref yx, .ref yy, .int (zI ir)])), zci G yx 900 GX, zci G yy 900 GY] := hD
      refine zv_aload_n S dX5_generated_62 rfl (lv_at hl 1 rfl) ?_
      refine zv_get (C := RX5) (T := TX5) (N := 23) (ci := 5) (v := .int (zI tn)) S in_X5_generated_X5 hK hP 0 rfl rfl 0 (by decide) wd_X5_generated_f51 rfl rfl dX5_generated_63 ?_
      refine zv_if_eq (tgt := 71) S (by unfold zR; omega) dX5_generated_66 (by decide) (fun c_4 => ?_) (fun c_4 => ?_)
      · exact absurd c_4 (by omega)
      · refine zv_iconst S dX5_generated_69 ?_
        exact hret _ _ _ _ _ ⟨0, tn, ge, GX, GY⟩ dX5_generated_70 ⟨rfl, (show zgenR x y v w pl fs 0 tn from (by rcases htn with h | h; exact Or.inl h; exact Or.inr (Or.inl ⟨h.1, h.2, hnz⟩)))⟩ (hP.sub [0, 1, 2] rfl) (hD.sub [0, 1, 2] (by decide) rfl) hS
    refine zv_aload_n S dX5_generated_24 rfl (lv_at hl 1 rfl) ?_
    refine zv_iload S dX5_generated_25 (lv_at hl 6 rfl) ?_
    refine zv_iconst S dX5_generated_27 ?_
    refine zv_icmp_lt (tgt := 45) S (by unfold zR; omega) (by unfold zR; omega) dX5_generated_28 (by decide) (fun c_5 => ?_) (fun c_5 => ?_)
    · refine zv_iconst S dX5_generated_45 ?_
      refine zv_goto (tgt := 59) S dX5_generated_46 (by decide) ?_
      exact JN59 1 (by omega) _ _ hP hD hS _ (lv_sub hl [0, 1, 2, 3, 4, 5, 6, 7] rfl)
    · refine zv_iload S dX5_generated_31 (lv_at hl 0 rfl) ?_
      refine zv_if_eq (tgt := 49) S (by unfold zR; omega) dX5_generated_33 (by decide) (fun c_6 => ?_) (fun c_6 => ?_)
      · refine zv_iload S dX5_generated_49 (lv_at hl 0 rfl) ?_
        refine zv_if_ne (tgt := 58) S (by unfold zR; omega) dX5_generated_51 (by decide) (fun c_7 => ?_) (fun c_7 => ?_)
        · exact absurd c_7 (by omega)
        · refine zv_iconst S dX5_generated_54 ?_
          refine zv_goto (tgt := 59) S dX5_generated_55 (by decide) ?_
          exact JN59 2 (by omega) _ _ hP hD hS _ (lv_sub hl [0, 1, 2, 3, 4, 5, 6, 7] rfl)
      · exact absurd c_6 (by omega)
  · have hzc := c_3
    rw [zb_t hzc] at hl
    refine zv_aload_n S dX5_generated_15 rfl (lv_at hl 1 rfl) ?_
    refine zv_iload_n S dX5_generated_16 rfl (lv_at hl 2 rfl) ?_
    refine zv_iload_n S dX5_generated_17 rfl (lv_at hl 3 rfl) ?_
    refine zv_iload_n S dX5_generated_18 rfl (lv_at hl 4 rfl) ?_
    refine zv_iload S dX5_generated_19 (lv_at hl 5 rfl) ?_
    refine zc_Vv (As := [.int (zI x), .int (zI y), .int (zI v), .int (zI w)]) (rest := []) (wr := []) (n := 4) S hN hK hP hD hS hA hl (c_X5_generates l G H.size h0 th sh ym ya yb yc ye yp yq yo ro fi la lo hi co yk yw yi ge yx yy ir GX GY x y v w hzc) gX5_generated_X5_generates rfl ⟨rfl, rfl⟩ (by decide +kernel) rfl ⟨Nat.le_of_ble_eq_true rfl, Nat.le_of_ble_eq_true rfl, Nat.le_of_ble_eq_true rfl, Nat.le_of_ble_eq_true rfl⟩ [0, 1, 2] [] rfl rfl (by decide) (by decide) (by decide) (ci := 5) rfl rfl rfl (Nat.le_of_ble_eq_true rfl) dX5_generated_21 rfl (fun u_8 H1 locs1 hp_9 hP1 hD1 hS1 hz1 => ?_)
    obtain ⟨fx_10, fy_11, ex_12, ey_13, sg_14, ar_15, k_16, X3_17, Y3_18⟩ := u_8
    try dsimp only at hp_9 hP1 hD1
    obtain ⟨hcn_19, hbb_20, hga_21, hkk_22⟩ := hp_9
    generalize H1 = H at hP1 hD1 hS1 hz1 ⊢
    generalize locs1 = locs at hS1 ⊢
    have hS := hS1
    have hP : va_P G.1 vwCl [(h0, .inr (5, [.int (zI th), .int (zI sh), .ref ym, .ref ya, .ref yb, .ref yc, .ref ye, .ref yp, .ref yq, .ref yo, .int (zI ro), .long (zL fi), .long (zL la), .long (zL lo), .long (zL hi), .int (zI co), .ref yk, .ref yw, .ref yi, .int (zI ((k_16 : Int) + 2)), .ref yx, .ref yy, .int (zI ir)])), zci G yx 900 X3_17, zci G yy 900 Y3_18] H := hP1
    have hD : va_D A [(h0, .inr (5, [.int (zI th), .int (zI sh), .ref ym, .ref ya, .ref yb, .ref yc, .ref ye, .ref yp, .ref yq, .ref yo, .int (zI ro), .long (zL fi), .long (zL la), .long (zL lo), .long (zL hi), .int (zI co), .ref yk, .ref yw, .ref yi, .int (zI ((k_16 : Int) + 2)), .ref yx, .ref yy, .int (zI ir)])), zci G yx 900 X3_17, zci G yy 900 Y3_18] := hD1
    have kkb := zgenk_b hcn_19 hbb_20 hkk_22
    have JN59 : ∀ (tn : Int) (htn : tn = 1 ∧ pl < -1 ∨ tn = 1 ∧ -1 ≤ pl ∧ (k_16 : Int) + 2 ≤ pl ∨ tn = 0 ∧ -1 ≤ pl ∧ pl < (k_16 : Int) + 2) (H : Heap) (locs : List Loc), va_P G.1 vwCl [(h0, .inr (5, [.int (zI th), .int (zI sh), .ref ym, .ref ya, .ref yb, .ref yc, .ref ye, .ref yp, .ref yq, .ref yo, .int (zI ro), .long (zL fi), .long (zL la), .long (zL lo), .long (zL hi), .int (zI co), .ref yk, .ref yw, .ref yi, .int (zI ((k_16 : Int) + 2)), .ref yx, .ref yy, .int (zI ir)])), zci G yx 900 X3_17, zci G yy 900 Y3_18] H → va_D A [(h0, .inr (5, [.int (zI th), .int (zI sh), .ref ym, .ref ya, .ref yb, .ref yc, .ref ye, .ref yp, .ref yq, .ref yo, .int (zI ro), .long (zL fi), .long (zL la), .long (zL lo), .long (zL hi), .int (zI co), .ref yk, .ref yw, .ref yi, .int (zI ((k_16 : Int) + 2)), .ref yx, .ref yy, .int (zI ir)])), zci G yx 900 X3_17, zci G yy 900 Y3_18] → va_S A s.heap H locs → ∀ ls : Array Slot, lv_has ls 8 [(7, .int (zI 1)), (0, .ref h0), (1, .int (zI x)), (2, .int (zI y)), (3, .int (zI v)), (4, .int (zI w)), (5, .int (zI pl)), (6, .int (zI fs))] → W p l e ({ frames := 2, cells := 0, slots := 0, locals := 57 }) s m ([.ref h0, .int (zI x), .int (zI y), .int (zI v), .int (zI w), .int (zI pl), .int (zI fs)]).toArray below meth c H locs 0 0 Q (F0 m 59 ls [.int (zI tn), .ref h0]) := by
      intro tn htn H locs hP hD hS ls hl
      refine zv_put (C := RX5) (T := TX5) (N := 23) (ci := 5) (v := .int (zI tn)) S in_X5_generated_X5 tyX5 tyX5_ok nmX5 hK hP hD hS 0 rfl rfl 0 (by decide) wd_X5_generated_f51 rfl rfl rfl rfl (Nat.le_of_ble_eq_true rfl) dX5_generated_59 (fun H locs hP hD hS => ?_)
      have hP : va_P G.1 vwCl [(h0, .inr (5, [.int (zI tn), .int (zI sh), .ref ym, .ref ya, .ref yb, .ref yc, .ref ye, .ref yp, .ref yq, .ref yo, .int (zI ro), .long (zL fi), .long (zL la), .long (zL lo), .long (zL hi), .int (zI co), .ref yk, .ref yw, .ref yi, .int (zI ((k_16 : Int) + 2)), .ref yx, .ref yy, .int (zI ir)])), zci G yx 900 X3_17, zci G yy 900 Y3_18] H := hP
      have hD : va_D A [(h0, .inr (5, [.int (zI tn), .int (zI sh), .ref ym, .ref ya, .ref yb, .ref yc, .ref ye, .ref yp, .ref yq, .ref yo, .int (zI ro), .long (zL fi), .long (zL la), .long (zL lo), .long (zL hi), .int (zI co), .ref yk, .ref yw, .ref yi, .int (zI ((k_16 : Int) + 2)), .ref yx, .ref yy, .int (zI ir)])), zci G yx 900 X3_17, zci G yy 900 Y3_18] := hD
      refine zv_aload_n S dX5_generated_62 rfl (lv_at hl 1 rfl) ?_
      refine zv_get (C := RX5) (T := TX5) (N := 23) (ci := 5) (v := .int (zI tn)) S in_X5_generated_X5 hK hP 0 rfl rfl 0 (by decide) wd_X5_generated_f51 rfl rfl dX5_generated_63 ?_
      refine zv_if_eq (tgt := 71) S (by unfold zR; omega) dX5_generated_66 (by decide) (fun c_23 => ?_) (fun c_23 => ?_)
      · refine zv_iload S dX5_generated_71 (lv_at hl 6 rfl) ?_
        refine zv_iconst S dX5_generated_73 ?_
        refine zv_icmp_ne (tgt := 84) S (by unfold zR; omega) (by unfold zR; omega) dX5_generated_74 (by decide) (fun c_24 => ?_) (fun c_24 => ?_)
        · refine zv_iload S dX5_generated_84 (lv_at hl 7 rfl) ?_
          refine zv_if_eq (tgt := 99) S (by unfold zR; omega) dX5_generated_86 (by decide) (fun c_25 => ?_) (fun c_25 => ?_)
          · refine zv_aload_n S dX5_generated_99 rfl (lv_at hl 1 rfl) ?_
            refine zv_get (C := RX5) (T := TX5) (N := 23) (ci := 5) (v := .ref yy) S in_X5_generated_X5 hK hP 0 rfl rfl 21 (by decide) wd_X5_generated_f48 rfl rfl dX5_generated_100 ?_
            refine zv_iload S dX5_generated_103 (lv_at hl 6 rfl) ?_
            refine zv_iald S hK hP 2 0 rfl rfl pl.toNat (by omega) (by omega) (by decide) dX5_generated_105 ?_
            exact hret _ _ _ _ _ ⟨(Y3_18 pl.toNat), tn, ((k_16 : Int) + 2), X3_17, Y3_18⟩ dX5_generated_106 ⟨rfl, (show zgenR x y v w pl fs (Y3_18 pl.toNat) tn from (Or.inr (Or.inr ⟨by omega, hzc, ⟨_, _, k_16, ⟨_, _, _, _, _, _, hcn_19, hbb_20, hga_21, hkk_22⟩, Or.inr (Or.inr ⟨by omega, by omega, by omega, (if_pos (by omega)).symm⟩)⟩⟩)))⟩ (hP.sub [0, 1, 2] rfl) (hD.sub [0, 1, 2] (by decide) rfl) hS
          · refine zv_aload_n S dX5_generated_89 rfl (lv_at hl 1 rfl) ?_
            refine zv_get (C := RX5) (T := TX5) (N := 23) (ci := 5) (v := .ref yx) S in_X5_generated_X5 hK hP 0 rfl rfl 20 (by decide) wd_X5_generated_f45 rfl rfl dX5_generated_90 ?_
            refine zv_iload S dX5_generated_93 (lv_at hl 6 rfl) ?_
            refine zv_iald S hK hP 1 0 rfl rfl pl.toNat (by omega) (by omega) (by decide) dX5_generated_95 ?_
            refine zv_goto (tgt := 106) S dX5_generated_96 (by decide) ?_
            exact hret _ _ _ _ _ ⟨(X3_17 pl.toNat), tn, ((k_16 : Int) + 2), X3_17, Y3_18⟩ dX5_generated_106 ⟨rfl, (show zgenR x y v w pl fs (X3_17 pl.toNat) tn from (Or.inr (Or.inr ⟨by omega, hzc, ⟨_, _, k_16, ⟨_, _, _, _, _, _, hcn_19, hbb_20, hga_21, hkk_22⟩, Or.inr (Or.inr ⟨by omega, by omega, by omega, (if_neg (by omega)).symm⟩)⟩⟩)))⟩ (hP.sub [0, 1, 2] rfl) (hD.sub [0, 1, 2] (by decide) rfl) hS
        · refine zv_aload_n S dX5_generated_77 rfl (lv_at hl 1 rfl) ?_
          refine zv_get (C := RX5) (T := TX5) (N := 23) (ci := 5) (v := .int (zI ((k_16 : Int) + 2))) S in_X5_generated_X5 hK hP 0 rfl rfl 19 (by decide) wd_X5_generated_f134 rfl rfl dX5_generated_78 ?_
          refine zv_goto (tgt := 106) S dX5_generated_81 (by decide) ?_
          exact hret _ _ _ _ _ ⟨((k_16 : Int) + 2), tn, ((k_16 : Int) + 2), X3_17, Y3_18⟩ dX5_generated_106 ⟨rfl, (show zgenR x y v w pl fs ((k_16 : Int) + 2) tn from (Or.inr (Or.inr ⟨by omega, hzc, ⟨_, _, k_16, ⟨_, _, _, _, _, _, hcn_19, hbb_20, hga_21, hkk_22⟩, Or.inr (Or.inl ⟨by omega, by omega, rfl⟩)⟩⟩)))⟩ (hP.sub [0, 1, 2] rfl) (hD.sub [0, 1, 2] (by decide) rfl) hS
      · refine zv_iconst S dX5_generated_69 ?_
        exact hret _ _ _ _ _ ⟨0, tn, ((k_16 : Int) + 2), X3_17, Y3_18⟩ dX5_generated_70 ⟨rfl, (show zgenR x y v w pl fs 0 tn from (by rcases htn with h | h | h; exact Or.inl h; exact Or.inr (Or.inr ⟨h.2.1, hzc, ⟨_, _, k_16, ⟨_, _, _, _, _, _, hcn_19, hbb_20, hga_21, hkk_22⟩, Or.inl ⟨h.1, h.2.2⟩⟩⟩); exact absurd h.1 c_23))⟩ (hP.sub [0, 1, 2] rfl) (hD.sub [0, 1, 2] (by decide) rfl) hS
    refine zv_aload_n S dX5_generated_24 rfl (lv_at hl 1 rfl) ?_
    refine zv_iload S dX5_generated_25 (lv_at hl 6 rfl) ?_
    refine zv_iconst S dX5_generated_27 ?_
    refine zv_icmp_lt (tgt := 45) S (by unfold zR; omega) (by unfold zR; omega) dX5_generated_28 (by decide) (fun c_26 => ?_) (fun c_26 => ?_)
    · refine zv_iconst S dX5_generated_45 ?_
      refine zv_goto (tgt := 59) S dX5_generated_46 (by decide) ?_
      exact JN59 1 (by omega) _ _ hP hD hS _ (lv_sub hl [0, 1, 2, 3, 4, 5, 6, 7] rfl)
    · refine zv_iload S dX5_generated_31 (lv_at hl 0 rfl) ?_
      refine zv_if_eq (tgt := 49) S (by unfold zR; omega) dX5_generated_33 (by decide) (fun c_27 => ?_) (fun c_27 => ?_)
      · exact absurd c_27 (by omega)
      · refine zv_iload S dX5_generated_36 (lv_at hl 6 rfl) ?_
        refine zv_aload_n S dX5_generated_38 rfl (lv_at hl 1 rfl) ?_
        refine zv_get (C := RX5) (T := TX5) (N := 23) (ci := 5) (v := .int (zI ((k_16 : Int) + 2))) S in_X5_generated_X5 hK hP 0 rfl rfl 19 (by decide) wd_X5_generated_f134 rfl rfl dX5_generated_39 ?_
        refine zv_icmp_lt (tgt := 49) S (by unfold zR; omega) (by unfold zR; omega) dX5_generated_42 (by decide) (fun c_28 => ?_) (fun c_28 => ?_)
        · refine zv_iload S dX5_generated_49 (lv_at hl 0 rfl) ?_
          refine zv_if_ne (tgt := 58) S (by unfold zR; omega) dX5_generated_51 (by decide) (fun c_29 => ?_) (fun c_29 => ?_)
          · refine zv_iconst S dX5_generated_58 ?_
            exact JN59 0 (by omega) _ _ hP hD hS _ (lv_sub hl [0, 1, 2, 3, 4, 5, 6, 7] rfl)
          · exact absurd c_29 (by omega)
        · refine zv_iconst S dX5_generated_45 ?_
          refine zv_goto (tgt := 59) S dX5_generated_46 (by decide) ?_
          exact JN59 1 (by omega) _ _ hP hD hS _ (lv_sub hl [0, 1, 2, 3, 4, 5, 6, 7] rfl)

set_option maxHeartbeats 4000000 in
set_option maxRecDepth 100000 in
/-- the model: generator -/
theorem c_X5_generator (l : Launch) (G : zG) (sz : Nat) (h0 : Nat) (th : Int) (sh : Int) (ym : Nat) (ya : Nat) (yb : Nat) (yc : Nat) (ye : Nat) (yp : Nat) (yq : Nat) (yo : Nat) (ro : Int) (fi : Int) (la : Int) (lo : Int) (hi : Int) (co : Int) (yk : Nat) (yw : Nat) (yi : Nat) (ge : Int) (yx : Nat) (yy : Nat) (ir : Int) (GX : Nat → Int) (GY : Nat → Int) (x : Int) (y : Int) (v : Int) (w : Int) (pl : Int) (fs : Int) (h1 : -2147483648 ≤ x ∧ x < 2147483648) (h2 : -2147483648 ≤ y ∧ y < 2147483648) (h3 : -2147483648 ≤ v ∧ v < 2147483648) (h4 : -2147483648 ≤ w ∧ w < 2147483648) (hpl : -2147483648 ≤ pl ∧ pl < 2147483648) (hfs : fs = 0 ∨ fs = 1) : Met l yX5_generator wsX5_generator ({ frames := 3, cells := 0, slots := 0, locals := 84 }) (va_Pc [.ref h0, .int (zI x), .int (zI y), .int (zI v), .int (zI w), .int (zI pl), .int (zI fs)] (zPre G sz [(h0, .inr (5, [.int (zI th), .int (zI sh), .ref ym, .ref ya, .ref yb, .ref yc, .ref ye, .ref yp, .ref yq, .ref yo, .int (zI ro), .long (zL fi), .long (zL la), .long (zL lo), .long (zL hi), .int (zI co), .ref yk, .ref yw, .ref yi, .int (zI ge), .ref yx, .ref yy, .int (zI ir)])), zci G yx 900 GX, zci G yy 900 GY])) (va_Qi (fun (r : Int32) (u : (Int) × (Int) × (Int) × (Nat → Int) × (Nat → Int)) => r = zI u.1 ∧ (zgenR x y v w pl fs u.1 u.2.1)) (fun u => zW G (va_A [(h0, .inr (5, [.int (zI th), .int (zI sh), .ref ym, .ref ya, .ref yb, .ref yc, .ref ye, .ref yp, .ref yq, .ref yo, .int (zI ro), .long (zL fi), .long (zL la), .long (zL lo), .long (zL hi), .int (zI co), .ref yk, .ref yw, .ref yi, .int (zI ge), .ref yx, .ref yy, .int (zI ir)])), zci G yx 900 GX, zci G yy 900 GY] sz) ((fun (u : (Int) × (Int) × (Int) × (Nat → Int) × (Nat → Int)) => [(h0, .inr (5, [.int (zI u.2.1), .int (zI sh), .ref ym, .ref ya, .ref yb, .ref yc, .ref ye, .ref yp, .ref yq, .ref yo, .int (zI ro), .long (zL fi), .long (zL la), .long (zL lo), .long (zL hi), .int (zI co), .ref yk, .ref yw, .ref yi, .int (zI u.2.2.1), .ref yx, .ref yy, .int (zI ir)])), zci G yx 900 u.2.2.2.1, zci G yy 900 u.2.2.2.2]) u)) (va_A [(h0, .inr (5, [.int (zI th), .int (zI sh), .ref ym, .ref ya, .ref yb, .ref yc, .ref ye, .ref yp, .ref yq, .ref yo, .int (zI ro), .long (zL fi), .long (zL la), .long (zL lo), .long (zL hi), .int (zI co), .ref yk, .ref yw, .ref yi, .int (zI ge), .ref yx, .ref yy, .int (zI ir)])), zci G yx 900 GX, zci G yy 900 GY] sz)) 0 0 (va_A [(h0, .inr (5, [.int (zI th), .int (zI sh), .ref ym, .ref ya, .ref yb, .ref yc, .ref ye, .ref yp, .ref yq, .ref yo, .int (zI ro), .long (zL fi), .long (zL la), .long (zL lo), .long (zL hi), .int (zI co), .ref yk, .ref yw, .ref yi, .int (zI ge), .ref yx, .ref yy, .int (zI ir)])), zci G yx 900 GX, zci G yy 900 GY] sz) := by
  refine zM_i (post := fun (r : Int32) (u : (Int) × (Int) × (Int) × (Nat → Int) × (Nat → Int)) => r = zI u.1 ∧ (zgenR x y v w pl fs u.1 u.2.1)) (w1 := fun (u : (Int) × (Int) × (Int) × (Nat → Int) × (Nat → Int)) => [(h0, .inr (5, [.int (zI u.2.1), .int (zI sh), .ref ym, .ref ya, .ref yb, .ref yc, .ref ye, .ref yp, .ref yq, .ref yo, .int (zI ro), .long (zL fi), .long (zL la), .long (zL lo), .long (zL hi), .int (zI co), .ref yk, .ref yw, .ref yi, .int (zI u.2.2.1), .ref yx, .ref yy, .int (zI ir)])), zci G yx 900 u.2.2.2.1, zci G yy 900 u.2.2.2.2]) (plainFor_of_name (by decide)) rfl (Nat.le_of_ble_eq_true rfl) ?_
  intro p e s m below meth c A Q S hN hK hP hD hS hA hret ls hl
  have hl : lv_has ls 7 [(0, .ref h0), (1, .int (zI x)), (2, .int (zI y)), (3, .int (zI v)), (4, .int (zI w)), (5, .int (zI pl)), (6, .int (zI fs))] := hl
  refine zv_aload_n S dX5_generator_0 rfl (lv_at hl 0 rfl) ?_
  refine zv_iload_n S dX5_generator_1 rfl (lv_at hl 1 rfl) ?_
  refine zv_iload_n S dX5_generator_2 rfl (lv_at hl 2 rfl) ?_
  refine zv_iload_n S dX5_generator_3 rfl (lv_at hl 3 rfl) ?_
  refine zv_iload S dX5_generator_4 (lv_at hl 4 rfl) ?_
  refine zv_iload S dX5_generator_6 (lv_at hl 5 rfl) ?_
  refine zv_iload S dX5_generator_8 (lv_at hl 6 rfl) ?_
  refine zc_Vi (As := [.int (zI x), .int (zI y), .int (zI v), .int (zI w), .int (zI pl), .int (zI fs)]) (rest := []) (wr := []) (n := 6) S hN hK hP hD hS hA hl (c_X5_generated l G s.heap.size h0 th sh ym ya yb yc ye yp yq yo ro fi la lo hi co yk yw yi ge yx yy ir GX GY x y v w pl fs h1 h2 h3 h4 hpl hfs) gX5_generator_X5_generated rfl ⟨rfl, rfl⟩ (by decide +kernel) rfl ⟨Nat.le_of_ble_eq_true rfl, Nat.le_of_ble_eq_true rfl, Nat.le_of_ble_eq_true rfl, Nat.le_of_ble_eq_true rfl⟩ [0, 1, 2] [] rfl rfl (by decide) (by decide) (by decide) (ci := 5) rfl rfl rfl (Nat.le_of_ble_eq_true rfl) dX5_generator_10 rfl (fun r_ u_1 H1 locs1 hp_2 hP1 hD1 hS1 hz1 => ?_)
  obtain ⟨rr_3, t1_4, g1_5, X1_6, Y1_7⟩ := u_1
  try dsimp only at hp_2 hP1 hD1
  obtain ⟨rfl, hgn_8⟩ := hp_2
  generalize H1 = H at hP1 hD1 hS1 hz1 ⊢
  generalize locs1 = locs at hS1 ⊢
  have hS := hS1
  have hP : va_P G.1 vwCl [(h0, .inr (5, [.int (zI t1_4), .int (zI sh), .ref ym, .ref ya, .ref yb, .ref yc, .ref ye, .ref yp, .ref yq, .ref yo, .int (zI ro), .long (zL fi), .long (zL la), .long (zL lo), .long (zL hi), .int (zI co), .ref yk, .ref yw, .ref yi, .int (zI g1_5), .ref yx, .ref yy, .int (zI ir)])), zci G yx 900 X1_6, zci G yy 900 Y1_7] H := hP1
  have hD : va_D A [(h0, .inr (5, [.int (zI t1_4), .int (zI sh), .ref ym, .ref ya, .ref yb, .ref yc, .ref ye, .ref yp, .ref yq, .ref yo, .int (zI ro), .long (zL fi), .long (zL la), .long (zL lo), .long (zL hi), .int (zI co), .ref yk, .ref yw, .ref yi, .int (zI g1_5), .ref yx, .ref yy, .int (zI ir)])), zci G yx 900 X1_6, zci G yy 900 Y1_7] := hD1
  exact hret _ _ _ _ _ ⟨rr_3, t1_4, g1_5, X1_6, Y1_7⟩ dX5_generator_13 ⟨rfl, (show zgenR x y v w pl fs rr_3 t1_4 from hgn_8)⟩ (hP.sub [0, 1, 2] rfl) (hD.sub [0, 1, 2] (by decide) rfl) hS

set_option maxHeartbeats 4000000 in
set_option maxRecDepth 100000 in
/-- the model: generatorAnew -/
theorem c_X5_generatorAnew (l : Launch) (G : zG) (sz : Nat) (h0 : Nat) (th : Int) (sh : Int) (ym : Nat) (ya : Nat) (yb : Nat) (yc : Nat) (ye : Nat) (yp : Nat) (yq : Nat) (yo : Nat) (ro : Int) (fi : Int) (la : Int) (lo : Int) (hi : Int) (co : Int) (yk : Nat) (yw : Nat) (yi : Nat) (ge : Int) (yx : Nat) (yy : Nat) (ir : Int) (GX : Nat → Int) (GY : Nat → Int) (x : Int) (y : Int) (v : Int) (w : Int) (pl : Int) (fs : Int) (h1 : -2147483648 ≤ x ∧ x < 2147483648) (h2 : -2147483648 ≤ y ∧ y < 2147483648) (h3 : -2147483648 ≤ v ∧ v < 2147483648) (h4 : -2147483648 ≤ w ∧ w < 2147483648) (hpl : -2147483648 ≤ pl ∧ pl < 2147483648) (hfs : fs = 0 ∨ fs = 1) : Met l yX5_generatorAnew wsX5_generatorAnew ({ frames := 3, cells := 0, slots := 0, locals := 84 }) (va_Pc [.ref h0, .int (zI x), .int (zI y), .int (zI v), .int (zI w), .int (zI pl), .int (zI fs)] (zPre G sz [(h0, .inr (5, [.int (zI th), .int (zI sh), .ref ym, .ref ya, .ref yb, .ref yc, .ref ye, .ref yp, .ref yq, .ref yo, .int (zI ro), .long (zL fi), .long (zL la), .long (zL lo), .long (zL hi), .int (zI co), .ref yk, .ref yw, .ref yi, .int (zI ge), .ref yx, .ref yy, .int (zI ir)])), zci G yx 900 GX, zci G yy 900 GY])) (va_Qi (fun (r : Int32) (u : (Int) × (Int) × (Int) × (Nat → Int) × (Nat → Int)) => r = zI u.1 ∧ (zgenR x y v w pl fs u.1 u.2.1)) (fun u => zW G (va_A [(h0, .inr (5, [.int (zI th), .int (zI sh), .ref ym, .ref ya, .ref yb, .ref yc, .ref ye, .ref yp, .ref yq, .ref yo, .int (zI ro), .long (zL fi), .long (zL la), .long (zL lo), .long (zL hi), .int (zI co), .ref yk, .ref yw, .ref yi, .int (zI ge), .ref yx, .ref yy, .int (zI ir)])), zci G yx 900 GX, zci G yy 900 GY] sz) ((fun (u : (Int) × (Int) × (Int) × (Nat → Int) × (Nat → Int)) => [(h0, .inr (5, [.int (zI u.2.1), .int (zI sh), .ref ym, .ref ya, .ref yb, .ref yc, .ref ye, .ref yp, .ref yq, .ref yo, .int (zI ro), .long (zL fi), .long (zL la), .long (zL lo), .long (zL hi), .int (zI co), .ref yk, .ref yw, .ref yi, .int (zI u.2.2.1), .ref yx, .ref yy, .int (zI ir)])), zci G yx 900 u.2.2.2.1, zci G yy 900 u.2.2.2.2]) u)) (va_A [(h0, .inr (5, [.int (zI th), .int (zI sh), .ref ym, .ref ya, .ref yb, .ref yc, .ref ye, .ref yp, .ref yq, .ref yo, .int (zI ro), .long (zL fi), .long (zL la), .long (zL lo), .long (zL hi), .int (zI co), .ref yk, .ref yw, .ref yi, .int (zI ge), .ref yx, .ref yy, .int (zI ir)])), zci G yx 900 GX, zci G yy 900 GY] sz)) 0 0 (va_A [(h0, .inr (5, [.int (zI th), .int (zI sh), .ref ym, .ref ya, .ref yb, .ref yc, .ref ye, .ref yp, .ref yq, .ref yo, .int (zI ro), .long (zL fi), .long (zL la), .long (zL lo), .long (zL hi), .int (zI co), .ref yk, .ref yw, .ref yi, .int (zI ge), .ref yx, .ref yy, .int (zI ir)])), zci G yx 900 GX, zci G yy 900 GY] sz) := by
  refine zM_i (post := fun (r : Int32) (u : (Int) × (Int) × (Int) × (Nat → Int) × (Nat → Int)) => r = zI u.1 ∧ (zgenR x y v w pl fs u.1 u.2.1)) (w1 := fun (u : (Int) × (Int) × (Int) × (Nat → Int) × (Nat → Int)) => [(h0, .inr (5, [.int (zI u.2.1), .int (zI sh), .ref ym, .ref ya, .ref yb, .ref yc, .ref ye, .ref yp, .ref yq, .ref yo, .int (zI ro), .long (zL fi), .long (zL la), .long (zL lo), .long (zL hi), .int (zI co), .ref yk, .ref yw, .ref yi, .int (zI u.2.2.1), .ref yx, .ref yy, .int (zI ir)])), zci G yx 900 u.2.2.2.1, zci G yy 900 u.2.2.2.2]) (plainFor_of_name (by decide)) rfl (Nat.le_of_ble_eq_true rfl) ?_
  intro p e s m below meth c A Q S hN hK hP hD hS hA hret ls hl
  have hl : lv_has ls 7 [(0, .ref h0), (1, .int (zI x)), (2, .int (zI y)), (3, .int (zI v)), (4, .int (zI w)), (5, .int (zI pl)), (6, .int (zI fs))] := hl
  refine zv_aload_n S dX5_generatorAnew_0 rfl (lv_at hl 0 rfl) ?_
  refine zv_iload_n S dX5_generatorAnew_1 rfl (lv_at hl 1 rfl) ?_
  refine zv_iload_n S dX5_generatorAnew_2 rfl (lv_at hl 2 rfl) ?_
  refine zv_iload_n S dX5_generatorAnew_3 rfl (lv_at hl 3 rfl) ?_
  refine zv_iload S dX5_generatorAnew_4 (lv_at hl 4 rfl) ?_
  refine zv_iload S dX5_generatorAnew_6 (lv_at hl 5 rfl) ?_
  refine zv_iload S dX5_generatorAnew_8 (lv_at hl 6 rfl) ?_
  refine zc_Vi (As := [.int (zI x), .int (zI y), .int (zI v), .int (zI w), .int (zI pl), .int (zI fs)]) (rest := []) (wr := []) (n := 6) S hN hK hP hD hS hA hl (c_X5_generated l G s.heap.size h0 th sh ym ya yb yc ye yp yq yo ro fi la lo hi co yk yw yi ge yx yy ir GX GY x y v w pl fs h1 h2 h3 h4 hpl hfs) gX5_generatorAnew_X5_generated rfl ⟨rfl, rfl⟩ (by decide +kernel) rfl ⟨Nat.le_of_ble_eq_true rfl, Nat.le_of_ble_eq_true rfl, Nat.le_of_ble_eq_true rfl, Nat.le_of_ble_eq_true rfl⟩ [0, 1, 2] [] rfl rfl (by decide) (by decide) (by decide) (ci := 5) rfl rfl rfl (Nat.le_of_ble_eq_true rfl) dX5_generatorAnew_10 rfl (fun r_ u_1 H1 locs1 hp_2 hP1 hD1 hS1 hz1 => ?_)
  obtain ⟨rr_3, t1_4, g1_5, X1_6, Y1_7⟩ := u_1
  try dsimp only at hp_2 hP1 hD1
  obtain ⟨rfl, hgn_8⟩ := hp_2
  generalize H1 = H at hP1 hD1 hS1 hz1 ⊢
  generalize locs1 = locs at hS1 ⊢
  have hS := hS1
  have hP : va_P G.1 vwCl [(h0, .inr (5, [.int (zI t1_4), .int (zI sh), .ref ym, .ref ya, .ref yb, .ref yc, .ref ye, .ref yp, .ref yq, .ref yo, .int (zI ro), .long (zL fi), .long (zL la), .long (zL lo), .long (zL hi), .int (zI co), .ref yk, .ref yw, .ref yi, .int (zI g1_5), .ref yx, .ref yy, .int (zI ir)])), zci G yx 900 X1_6, zci G yy 900 Y1_7] H := hP1
  have hD : va_D A [(h0, .inr (5, [.int (zI t1_4), .int (zI sh), .ref ym, .ref ya, .ref yb, .ref yc, .ref ye, .ref yp, .ref yq, .ref yo, .int (zI ro), .long (zL fi), .long (zL la), .long (zL lo), .long (zL hi), .int (zI co), .ref yk, .ref yw, .ref yi, .int (zI g1_5), .ref yx, .ref yy, .int (zI ir)])), zci G yx 900 X1_6, zci G yy 900 Y1_7] := hD1
  exact hret _ _ _ _ _ ⟨rr_3, t1_4, g1_5, X1_6, Y1_7⟩ dX5_generatorAnew_13 ⟨rfl, (show zgenR x y v w pl fs rr_3 t1_4 from hgn_8)⟩ (hP.sub [0, 1, 2] rfl) (hD.sub [0, 1, 2] (by decide) rfl) hS
