theorem wd_X1_followGenerators_f19 : Cond.fieldLink RX1 19 "PointMill$Cone" "firstX" "I" ∈ wsX1_followGenerators := by decide +kernel
theorem in_X1_followGenerators_X1 : ∀ w ∈ wsX10, w ∈ wsX1_followGenerators := by decide +kernel
theorem wd_X1_followGenerators_f23 : Cond.fieldLink RX1 23 "PointMill$Cone" "firstY" "I" ∈ wsX1_followGenerators := by decide +kernel
theorem wd_X1_followGenerators_f41 : Cond.fieldLink RX1 41 "PointMill$Cone" "area" "I" ∈ wsX1_followGenerators := by decide +kernel
theorem wd_X1_followGenerators_f67 : Cond.fieldLink RX1 67 "PointMill$Cone" "wantedX" "I" ∈ wsX1_followGenerators := by decide +kernel
theorem wd_X1_followGenerators_f70 : Cond.fieldLink RX1 70 "PointMill$Cone" "wantedY" "I" ∈ wsX1_followGenerators := by decide +kernel
set_option maxHeartbeats 4000000 in
set_option maxRecDepth 100000 in
/-- Cone.followGenerators -/
theorem c_X1_followGenerators (l : Launch) (G : zG) (sz : Nat) (h0 : Nat) (qv : Nat) (fx : Int) (fy : Int) (lx : Int) (ly : Int) (tn : Int) (ar : Int) (wx : Int) (wy : Int) (pl : Int) (hfx : -20 ≤ fx ∧ fx ≤ 20) (hfy : -20 ≤ fy ∧ fy ≤ 20) (hlx : -20 ≤ lx ∧ lx ≤ 20) (hly : -20 ≤ ly ∧ ly ≤ 20) (htn : tn = -1 ∨ tn = 1) (har : 0 < ar ∧ ar ≤ 800) (har2 : ar = tn * (fx * ly - fy * lx)) (hpl : -2147483648 ≤ pl ∧ pl < 2147483648) : Met l yX1_followGenerators wsX1_followGenerators ({ frames := 2, cells := 0, slots := 0, locals := 35 }) (va_Pc [.ref h0, .int (zI pl)] (zPre G sz [(h0, .inr (1, [.ref qv, .int (zI fx), .int (zI fy), .int (zI lx), .int (zI ly), .int (zI tn), .int (zI ar), .int (zI wx), .int (zI wy)]))])) (va_Qi (fun (r : Int32) (u : (Int) × (Int) × (Nat) × (Int) × (Int)) => r = zI ((u.2.2.1 : Int) + 1) ∧ (zsec fx fy tn u.1) ∧ (0 ≤ zFL tn lx ly (u.1 - u.2.1 * fx) (zsecY fx fy tn u.1 - u.2.1 * fy) ∧ zFL tn lx ly (u.1 - u.2.1 * fx) (zsecY fx fy tn u.1 - u.2.1 * fy) < ar) ∧ (zpos tn lx ly fx fy (u.1 - u.2.1 * fx) (zsecY fx fy tn u.1 - u.2.1 * fy) (u.2.2.1 - 1)) ∧ (1 ≤ u.2.2.1 ∧ zFL tn lx ly (zhj tn lx ly fx fy (u.1 - u.2.1 * fx) (zsecY fx fy tn u.1 - u.2.1 * fy) (u.2.2.1 - 1)).2.2.1 (zhj tn lx ly fx fy (u.1 - u.2.1 * fx) (zsecY fx fy tn u.1 - u.2.1 * fy) (u.2.2.1 - 1)).2.2.2 = 0) ∧ (zwj tn lx ly fx fy (u.1 - u.2.1 * fx) (zsecY fx fy tn u.1 - u.2.1 * fy) u.2.2.1 pl u.2.2.2.1 u.2.2.2.2)) (fun u => zW G (va_A [(h0, .inr (1, [.ref qv, .int (zI fx), .int (zI fy), .int (zI lx), .int (zI ly), .int (zI tn), .int (zI ar), .int (zI wx), .int (zI wy)]))] sz) ((fun (u : (Int) × (Int) × (Nat) × (Int) × (Int)) => [(h0, .inr (1, [.ref qv, .int (zI fx), .int (zI fy), .int (zI lx), .int (zI ly), .int (zI tn), .int (zI ar), .int (zI u.2.2.2.1), .int (zI u.2.2.2.2)]))]) u)) (va_A [(h0, .inr (1, [.ref qv, .int (zI fx), .int (zI fy), .int (zI lx), .int (zI ly), .int (zI tn), .int (zI ar), .int (zI wx), .int (zI wy)]))] sz)) 0 0 (va_A [(h0, .inr (1, [.ref qv, .int (zI fx), .int (zI fy), .int (zI lx), .int (zI ly), .int (zI tn), .int (zI ar), .int (zI wx), .int (zI wy)]))] sz) := by
  refine zM_i (post := fun (r : Int32) (u : (Int) × (Int) × (Nat) × (Int) × (Int)) => r = zI ((u.2.2.1 : Int) + 1) ∧ (zsec fx fy tn u.1) ∧ (0 ≤ zFL tn lx ly (u.1 - u.2.1 * fx) (zsecY fx fy tn u.1 - u.2.1 * fy) ∧ zFL tn lx ly (u.1 - u.2.1 * fx) (zsecY fx fy tn u.1 - u.2.1 * fy) < ar) ∧ (zpos tn lx ly fx fy (u.1 - u.2.1 * fx) (zsecY fx fy tn u.1 - u.2.1 * fy) (u.2.2.1 - 1)) ∧ (1 ≤ u.2.2.1 ∧ zFL tn lx ly (zhj tn lx ly fx fy (u.1 - u.2.1 * fx) (zsecY fx fy tn u.1 - u.2.1 * fy) (u.2.2.1 - 1)).2.2.1 (zhj tn lx ly fx fy (u.1 - u.2.1 * fx) (zsecY fx fy tn u.1 - u.2.1 * fy) (u.2.2.1 - 1)).2.2.2 = 0) ∧ (zwj tn lx ly fx fy (u.1 - u.2.1 * fx) (zsecY fx fy tn u.1 - u.2.1 * fy) u.2.2.1 pl u.2.2.2.1 u.2.2.2.2)) (w1 := fun (u : (Int) × (Int) × (Nat) × (Int) × (Int)) => [(h0, .inr (1, [.ref qv, .int (zI fx), .int (zI fy), .int (zI lx), .int (zI ly), .int (zI tn), .int (zI ar), .int (zI u.2.2.2.1), .int (zI u.2.2.2.2)]))]) (plainFor_of_name (by decide)) rfl (Nat.le_of_ble_eq_true rfl) ?_
  intro p e s m below meth c A Q S hN hK hP hD hS hA hret ls hl
  have hl : lv_has ls 12 [(0, .ref h0), (1, .int (zI pl))] := hl
  refine zv_aload_n S dX1_followGenerators_0 rfl (lv_at hl 0 rfl) ?_
  refine zv_get (C := RX1) (T := TX1) (N := 9) (ci := 1) (v := .int (zI fx)) S in_X1_followGenerators_X1 hK hP 0 rfl rfl 1 (by decide) wd_X1_followGenerators_f19 rfl rfl dX1_followGenerators_1 ?_
  refine zv_istore_n (lv' := [(2, .int (zI fx)), (0, .ref h0), (1, .int (zI pl))]) S dX1_followGenerators_4 rfl hl (by decide) rfl (fun ls hl => ?_)
  refine zv_aload_n S dX1_followGenerators_5 rfl (lv_at hl 1 rfl) ?_
  refine zv_get (C := RX1) (T := TX1) (N := 9) (ci := 1) (v := .int (zI fy)) S in_X1_followGenerators_X1 hK hP 0 rfl rfl 2 (by decide) wd_X1_followGenerators_f23 rfl rfl dX1_followGenerators_6 ?_
  refine zv_istore_n (lv' := [(3, .int (zI fy)), (2, .int (zI fx)), (0, .ref h0), (1, .int (zI pl))]) S dX1_followGenerators_9 rfl hl (by decide) rfl (fun ls hl => ?_)
  refine zv_aload_n S dX1_followGenerators_10 rfl (lv_at hl 2 rfl) ?_
  refine zc_Vi (As := []) (rest := []) (wr := []) (n := 0) S hN hK hP hD hS hA hl (c_X1_secondX l G s.heap.size h0 qv fx fy lx ly tn ar wx wy hfx hfy hlx hly htn har) gX1_followGenerators_X1_secondX rfl ⟨rfl, rfl⟩ (by decide +kernel) rfl ⟨Nat.le_of_ble_eq_true rfl, Nat.le_of_ble_eq_true rfl, Nat.le_of_ble_eq_true rfl, Nat.le_of_ble_eq_true rfl⟩ [0] [] rfl rfl (by decide) (by decide) (by decide) (ci := 1) rfl rfl rfl (Nat.le_of_ble_eq_true rfl) dX1_followGenerators_11 rfl (fun r_ u_1 H1 locs1 hp_2 hP1 hD1 hS1 hz1 => ?_)
  obtain ⟨X_3, rfl⟩ : ∃ z, z = u_1 := ⟨_, rfl⟩
  try dsimp only at hp_2 hP1 hD1
  obtain ⟨rfl, hsx_4⟩ := hp_2
  generalize H1 = H at hP1 hD1 hS1 hz1 ⊢
  generalize locs1 = locs at hS1 ⊢
  have hS := hS1
  have hP : va_P G.1 vwCl [(h0, .inr (1, [.ref qv, .int (zI fx), .int (zI fy), .int (zI lx), .int (zI ly), .int (zI tn), .int (zI ar), .int (zI wx), .int (zI wy)]))] H := hP1
  have hD : va_D A [(h0, .inr (1, [.ref qv, .int (zI fx), .int (zI fy), .int (zI lx), .int (zI ly), .int (zI tn), .int (zI ar), .int (zI wx), .int (zI wy)]))] := hD1
  refine zv_istore (lv' := [(4, .int (zI X_3)), (3, .int (zI fy)), (2, .int (zI fx)), (0, .ref h0), (1, .int (zI pl))]) S dX1_followGenerators_14 hl (by decide) rfl (fun ls hl => ?_)
  refine zv_aload_n S dX1_followGenerators_16 rfl (lv_at hl 3 rfl) ?_
  refine zv_iload S dX1_followGenerators_17 (lv_at hl 0 rfl) ?_
  refine zc_Vi (As := [.int (zI X_3)]) (rest := []) (wr := []) (n := 1) S hN hK hP hD hS hA hl (c_X1_secondY l G H.size h0 qv fx fy lx ly tn ar wx wy X_3 hfx hfy hlx hly htn har hsx_4.1) gX1_followGenerators_X1_secondY rfl ⟨rfl, rfl⟩ (by decide +kernel) rfl ⟨Nat.le_of_ble_eq_true rfl, Nat.le_of_ble_eq_true rfl, Nat.le_of_ble_eq_true rfl, Nat.le_of_ble_eq_true rfl⟩ [0] [] rfl rfl (by decide) (by decide) (by decide) (ci := 1) rfl rfl rfl (Nat.le_of_ble_eq_true rfl) dX1_followGenerators_19 rfl (fun r_ u_5 H1 locs1 hp_6 hP1 hD1 hS1 hz1 => ?_)
  try dsimp only at hp_6 hP1 hD1
  subst hp_6
  generalize H1 = H at hP1 hD1 hS1 hz1 ⊢
  generalize locs1 = locs at hS1 ⊢
  have hS := hS1
  have hP : va_P G.1 vwCl [(h0, .inr (1, [.ref qv, .int (zI fx), .int (zI fy), .int (zI lx), .int (zI ly), .int (zI tn), .int (zI ar), .int (zI wx), .int (zI wy)]))] H := hP1
  have hD : va_D A [(h0, .inr (1, [.ref qv, .int (zI fx), .int (zI fy), .int (zI lx), .int (zI ly), .int (zI tn), .int (zI ar), .int (zI wx), .int (zI wy)]))] := hD1
  refine zv_istore (lv' := [(5, .int (zI (zsecY fx fy tn X_3))), (4, .int (zI X_3)), (3, .int (zI fy)), (2, .int (zI fx)), (0, .ref h0), (1, .int (zI pl))]) S dX1_followGenerators_22 hl (by decide) rfl (fun ls hl => ?_)
  refine zv_aload_n S dX1_followGenerators_24 rfl (lv_at hl 4 rfl) ?_
  refine zv_get (C := RX1) (T := TX1) (N := 9) (ci := 1) (v := .int (zI ar)) S in_X1_followGenerators_X1 hK hP 0 rfl rfl 6 (by decide) wd_X1_followGenerators_f41 rfl rfl dX1_followGenerators_25 ?_
  refine zv_if_ne (tgt := 35) S (by unfold zR; omega) dX1_followGenerators_28 (by decide) (fun c_7 => ?_) (fun c_7 => ?_)
  · refine zv_aload_n S dX1_followGenerators_35 rfl (lv_at hl 4 rfl) ?_
    refine zv_iload S dX1_followGenerators_36 (lv_at hl 1 rfl) ?_
    refine zv_iload S dX1_followGenerators_38 (lv_at hl 0 rfl) ?_
    refine zc_Vi (As := [.int (zI X_3), .int (zI (zsecY fx fy tn X_3))]) (rest := []) (wr := []) (n := 2) S hN hK hP hD hS hA hl (c_X1_fromLast l G H.size h0 qv fx fy lx ly tn ar wx wy X_3 (zsecY fx fy tn X_3)) gX1_followGenerators_X1_fromLast rfl ⟨rfl, rfl⟩ (by decide +kernel) rfl ⟨Nat.le_of_ble_eq_true rfl, Nat.le_of_ble_eq_true rfl, Nat.le_of_ble_eq_true rfl, Nat.le_of_ble_eq_true rfl⟩ [0] [] rfl rfl (by decide) (by decide) (by decide) (ci := 1) rfl rfl rfl (Nat.le_of_ble_eq_true rfl) dX1_followGenerators_40 rfl (fun r_ u_8 H1 locs1 hp_9 hP1 hD1 hS1 hz1 => ?_)
    try dsimp only at hp_9 hP1 hD1
    subst hp_9
    generalize H1 = H at hP1 hD1 hS1 hz1 ⊢
    generalize locs1 = locs at hS1 ⊢
    have hS := hS1
    have hP : va_P G.1 vwCl [(h0, .inr (1, [.ref qv, .int (zI fx), .int (zI fy), .int (zI lx), .int (zI ly), .int (zI tn), .int (zI ar), .int (zI wx), .int (zI wy)]))] H := hP1
    have hD : va_D A [(h0, .inr (1, [.ref qv, .int (zI fx), .int (zI fy), .int (zI lx), .int (zI ly), .int (zI tn), .int (zI ar), .int (zI wx), .int (zI wy)]))] := hD1
    have hsb := zsecY_b htn hfx hfy hsx_4.1
    have hb2 := zFL_b htn hlx hly hsx_4.1 hsb
    refine zv_aload_n S dX1_followGenerators_43 rfl (lv_at hl 4 rfl) ?_
    refine zv_get (C := RX1) (T := TX1) (N := 9) (ci := 1) (v := .int (zI ar)) S in_X1_followGenerators_X1 hK hP 0 rfl rfl 6 (by decide) wd_X1_followGenerators_f41 rfl rfl dX1_followGenerators_44 ?_
    refine zc_Si (As := [.int (zI (zFL tn lx ly X_3 (zsecY fx fy tn X_3))), .int (zI ar)]) (rest := []) (wr := [(h0, .inr (1, [.ref qv, .int (zI fx), .int (zI fy), .int (zI lx), .int (zI ly), .int (zI tn), .int (zI ar), .int (zI wx), .int (zI wy)]))]) (n := 2) S hN hK hP hD hS hA hl (c_J9_floorDiv_7cf53 l G H.size (zFL tn lx ly X_3 (zsecY fx fy tn X_3)) ar (by omega) (by omega)) gX1_followGenerators_J9_floorDiv_7cf53 rfl ⟨rfl, rfl⟩ (by decide +kernel) rfl ⟨Nat.le_of_ble_eq_true rfl, Nat.le_of_ble_eq_true rfl, Nat.le_of_ble_eq_true rfl, Nat.le_of_ble_eq_true rfl⟩ [] [0] rfl rfl (by decide) (by decide) (by decide) (Nat.le_of_ble_eq_true rfl) dX1_followGenerators_47 rfl (fun r_ u_10 H1 locs1 hp_11 hP1 hD1 hS1 hz1 => ?_)
    try dsimp only at hp_11 hP1 hD1
    subst hp_11
    generalize H1 = H at hP1 hD1 hS1 hz1 ⊢
    generalize locs1 = locs at hS1 ⊢
    have hS := hS1
    have hP : va_P G.1 vwCl [(h0, .inr (1, [.ref qv, .int (zI fx), .int (zI fy), .int (zI lx), .int (zI ly), .int (zI tn), .int (zI ar), .int (zI wx), .int (zI wy)]))] H := hP1
    have hD : va_D A [(h0, .inr (1, [.ref qv, .int (zI fx), .int (zI fy), .int (zI lx), .int (zI ly), .int (zI tn), .int (zI ar), .int (zI wx), .int (zI wy)]))] := hD1
    refine zv_istore (lv' := [(6, .int (zI ((zFL tn lx ly X_3 (zsecY fx fy tn X_3)) / ar))), (5, .int (zI (zsecY fx fy tn X_3))), (4, .int (zI X_3)), (3, .int (zI fy)), (2, .int (zI fx)), (0, .ref h0), (1, .int (zI pl))]) S dX1_followGenerators_50 hl (by decide) rfl (fun ls hl => ?_)
    refine zv_iload S dX1_followGenerators_52 (lv_at hl 2 rfl) ?_
    refine zv_iload S dX1_followGenerators_54 (lv_at hl 0 rfl) ?_
    refine zv_aload_n S dX1_followGenerators_56 rfl (lv_at hl 5 rfl) ?_
    refine zv_get (C := RX1) (T := TX1) (N := 9) (ci := 1) (v := .int (zI fx)) S in_X1_followGenerators_X1 hK hP 0 rfl rfl 1 (by decide) wd_X1_followGenerators_f19 rfl rfl dX1_followGenerators_57 ?_
    refine zv_imul S dX1_followGenerators_60 ?_
    refine zv_isub S dX1_followGenerators_61 ?_
    refine zv_istore (lv' := [(4, .int (zI (X_3 - (((zFL tn lx ly X_3 (zsecY fx fy tn X_3)) / ar) * fx)))), (6, .int (zI ((zFL tn lx ly X_3 (zsecY fx fy tn X_3)) / ar))), (5, .int (zI (zsecY fx fy tn X_3))), (3, .int (zI fy)), (2, .int (zI fx)), (0, .ref h0), (1, .int (zI pl))]) S dX1_followGenerators_62 hl (by decide) rfl (fun ls hl => ?_)
    refine zv_iload S dX1_followGenerators_64 (lv_at hl 2 rfl) ?_
    refine zv_iload S dX1_followGenerators_66 (lv_at hl 1 rfl) ?_
    refine zv_aload_n S dX1_followGenerators_68 rfl (lv_at hl 5 rfl) ?_
    refine zv_get (C := RX1) (T := TX1) (N := 9) (ci := 1) (v := .int (zI fy)) S in_X1_followGenerators_X1 hK hP 0 rfl rfl 2 (by decide) wd_X1_followGenerators_f23 rfl rfl dX1_followGenerators_69 ?_
    refine zv_imul S dX1_followGenerators_72 ?_
    refine zv_isub S dX1_followGenerators_73 ?_
    refine zv_istore (lv' := [(5, .int (zI ((zsecY fx fy tn X_3) - (((zFL tn lx ly X_3 (zsecY fx fy tn X_3)) / ar) * fy)))), (4, .int (zI (X_3 - (((zFL tn lx ly X_3 (zsecY fx fy tn X_3)) / ar) * fx)))), (6, .int (zI ((zFL tn lx ly X_3 (zsecY fx fy tn X_3)) / ar))), (3, .int (zI fy)), (2, .int (zI fx)), (0, .ref h0), (1, .int (zI pl))]) S dX1_followGenerators_74 hl (by decide) rfl (fun ls hl => ?_)
    refine zv_aload_n S dX1_followGenerators_76 rfl (lv_at hl 5 rfl) ?_
    refine zv_aload_n S dX1_followGenerators_77 rfl (lv_at hl 5 rfl) ?_
    refine zv_get (C := RX1) (T := TX1) (N := 9) (ci := 1) (v := .int (zI fx)) S in_X1_followGenerators_X1 hK hP 0 rfl rfl 1 (by decide) wd_X1_followGenerators_f19 rfl rfl dX1_followGenerators_78 ?_
    refine zv_put (C := RX1) (T := TX1) (N := 9) (ci := 1) (v := .int (zI fx)) S in_X1_followGenerators_X1 tyX1 tyX1_ok nmX1 hK hP hD hS 0 rfl rfl 7 (by decide) wd_X1_followGenerators_f67 rfl rfl rfl rfl (Nat.le_of_ble_eq_true rfl) dX1_followGenerators_81 (fun H locs hP hD hS => ?_)
    have hP : va_P G.1 vwCl [(h0, .inr (1, [.ref qv, .int (zI fx), .int (zI fy), .int (zI lx), .int (zI ly), .int (zI tn), .int (zI ar), .int (zI fx), .int (zI wy)]))] H := hP
    have hD : va_D A [(h0, .inr (1, [.ref qv, .int (zI fx), .int (zI fy), .int (zI lx), .int (zI ly), .int (zI tn), .int (zI ar), .int (zI fx), .int (zI wy)]))] := hD
    refine zv_aload_n S dX1_followGenerators_84 rfl (lv_at hl 5 rfl) ?_
    refine zv_aload_n S dX1_followGenerators_85 rfl (lv_at hl 5 rfl) ?_
    refine zv_get (C := RX1) (T := TX1) (N := 9) (ci := 1) (v := .int (zI fy)) S in_X1_followGenerators_X1 hK hP 0 rfl rfl 2 (by decide) wd_X1_followGenerators_f23 rfl rfl dX1_followGenerators_86 ?_
    refine zv_put (C := RX1) (T := TX1) (N := 9) (ci := 1) (v := .int (zI fy)) S in_X1_followGenerators_X1 tyX1 tyX1_ok nmX1 hK hP hD hS 0 rfl rfl 8 (by decide) wd_X1_followGenerators_f70 rfl rfl rfl rfl (Nat.le_of_ble_eq_true rfl) dX1_followGenerators_89 (fun H locs hP hD hS => ?_)
    have hP : va_P G.1 vwCl [(h0, .inr (1, [.ref qv, .int (zI fx), .int (zI fy), .int (zI lx), .int (zI ly), .int (zI tn), .int (zI ar), .int (zI fx), .int (zI fy)]))] H := hP
    have hD : va_D A [(h0, .inr (1, [.ref qv, .int (zI fx), .int (zI fy), .int (zI lx), .int (zI ly), .int (zI tn), .int (zI ar), .int (zI fx), .int (zI fy)]))] := hD
    have hfl := zmodT (zFL tn lx ly X_3 (zsecY fx fy tn X_3)) har.1
    have hfl2 : 0 ≤ zFL tn lx ly (X_3 - (((zFL tn lx ly X_3 (zsecY fx fy tn X_3)) / ar) * fx)) ((zsecY fx fy tn X_3) - (((zFL tn lx ly X_3 (zsecY fx fy tn X_3)) / ar) * fy)) ∧ zFL tn lx ly (X_3 - (((zFL tn lx ly X_3 (zsecY fx fy tn X_3)) / ar) * fx)) ((zsecY fx fy tn X_3) - (((zFL tn lx ly X_3 (zsecY fx fy tn X_3)) / ar) * fy)) ≤ ar - (((0 : Nat) : Int) + 1) := by rw [zFL_sub, zarea_b har2]; omega
    have hfl3 : zFL tn lx ly (X_3 - (((zFL tn lx ly X_3 (zsecY fx fy tn X_3)) / ar) * fx)) ((zsecY fx fy tn X_3) - (((zFL tn lx ly X_3 (zsecY fx fy tn X_3)) / ar) * fy)) < zFL tn lx ly fx fy ∧ zFL tn lx ly fx fy ≤ ar := by rw [zFL_sub, zarea_b har2]; omega
    refine zv_iconst S dX1_followGenerators_92 ?_
    refine zv_istore (lv' := [(7, .int (zI 1)), (5, .int (zI ((zsecY fx fy tn X_3) - (((zFL tn lx ly X_3 (zsecY fx fy tn X_3)) / ar) * fy)))), (4, .int (zI (X_3 - (((zFL tn lx ly X_3 (zsecY fx fy tn X_3)) / ar) * fx)))), (6, .int (zI ((zFL tn lx ly X_3 (zsecY fx fy tn X_3)) / ar))), (3, .int (zI fy)), (2, .int (zI fx)), (0, .ref h0), (1, .int (zI pl))]) S dX1_followGenerators_93 hl (by decide) rfl (fun ls hl => ?_)
    have LP95 : ∀ (nf : Nat) (k : Nat) (v7 : Int) (a1 : Int) (a2 : Int) (v4 : Int) (v5 : Int) (g1 : Int) (g2 : Int) (hv7 : v7 = (k : Int) + 1) (hst : zhj tn lx ly fx fy (X_3 - (((zFL tn lx ly X_3 (zsecY fx fy tn X_3)) / ar) * fx)) ((zsecY fx fy tn X_3) - (((zFL tn lx ly X_3 (zsecY fx fy tn X_3)) / ar) * fy)) k = (a1, a2, v4, v5)) (h1 : 0 ≤ zFL tn lx ly v4 v5 ∧ zFL tn lx ly v4 v5 ≤ ar - ((k : Int) + 1)) (h2 : zFL tn lx ly v4 v5 < zFL tn lx ly a1 a2 ∧ zFL tn lx ly a1 a2 ≤ ar) (h3 : zpos tn lx ly fx fy (X_3 - (((zFL tn lx ly X_3 (zsecY fx fy tn X_3)) / ar) * fx)) ((zsecY fx fy tn X_3) - (((zFL tn lx ly X_3 (zsecY fx fy tn X_3)) / ar) * fy)) k) (h4 : zwj tn lx ly fx fy (X_3 - (((zFL tn lx ly X_3 (zsecY fx fy tn X_3)) / ar) * fx)) ((zsecY fx fy tn X_3) - (((zFL tn lx ly X_3 (zsecY fx fy tn X_3)) / ar) * fy)) k pl g1 g2), ((ar - (k : Int)).toNat) < nf → ∀ (H : Heap) (locs : List Loc), va_P G.1 vwCl [(h0, .inr (1, [.ref qv, .int (zI fx), .int (zI fy), .int (zI lx), .int (zI ly), .int (zI tn), .int (zI ar), .int (zI g1), .int (zI g2)]))] H → va_D A [(h0, .inr (1, [.ref qv, .int (zI fx), .int (zI fy), .int (zI lx), .int (zI ly), .int (zI tn), .int (zI ar), .int (zI g1), .int (zI g2)]))] → va_S A s.heap H locs → ∀ ls : Array Slot, lv_has ls 12 [(7, .int (zI v7)), (5, .int (zI v5)), (4, .int (zI v4)), (3, .int (zI a2)), (2, .int (zI a1)), (0, .ref h0), (1, .int (zI pl))] → W p l e ({ frames := 2, cells := 0, slots := 0, locals := 35 }) s m ([.ref h0, .int (zI pl)]).toArray below meth c H locs 0 0 Q (F0 m 95 ls []) := by
      intro nf
      induction nf with
      | zero =>
        intro k v7 a1 a2 v4 v5 g1 g2 hv7 hst h1 h2 h3 h4 hf
        exact absurd hf (Nat.not_lt_zero _)
      | succ nf ih95 =>
        intro k v7 a1 a2 v4 v5 g1 g2 hv7 hst h1 h2 h3 h4 hf H locs hP hD hS ls hl
        refine zv_iload S dX1_followGenerators_95 (lv_at hl 0 rfl) ?_
        refine zv_aload_n S dX1_followGenerators_97 rfl (lv_at hl 5 rfl) ?_
        refine zv_get (C := RX1) (T := TX1) (N := 9) (ci := 1) (v := .int (zI ar)) S in_X1_followGenerators_X1 hK hP 0 rfl rfl 6 (by decide) wd_X1_followGenerators_f41 rfl rfl dX1_followGenerators_98 ?_
        refine zv_icmp_gt (tgt := 195) S (by unfold zR; omega) (by unfold zR; omega) dX1_followGenerators_101 (by decide) (fun c_12 => ?_) (fun c_12 => ?_)
        · exact absurd c_12 (by omega)
        · refine zv_iload S dX1_followGenerators_104 (lv_at hl 0 rfl) ?_
          refine zv_iload_n S dX1_followGenerators_106 rfl (lv_at hl 6 rfl) ?_
          refine zv_icmp_ne (tgt := 122) S (by unfold zR; omega) (by unfold zR; omega) dX1_followGenerators_107 (by decide) (fun c_13 => ?_) (fun c_13 => ?_)
          · refine zv_aload_n S dX1_followGenerators_122 rfl (lv_at hl 5 rfl) ?_
            refine zv_iload S dX1_followGenerators_123 (lv_at hl 2 rfl) ?_
            refine zv_iload S dX1_followGenerators_125 (lv_at hl 1 rfl) ?_
            refine zc_Vi (As := [.int (zI v4), .int (zI v5)]) (rest := []) (wr := []) (n := 2) S hN hK hP hD hS hA hl (c_X1_fromLast l G H.size h0 qv fx fy lx ly tn ar g1 g2 v4 v5) gX1_followGenerators_X1_fromLast rfl ⟨rfl, rfl⟩ (by decide +kernel) rfl ⟨Nat.le_of_ble_eq_true rfl, Nat.le_of_ble_eq_true rfl, Nat.le_of_ble_eq_true rfl, Nat.le_of_ble_eq_true rfl⟩ [0] [] rfl rfl (by decide) (by decide) (by decide) (ci := 1) rfl rfl rfl (Nat.le_of_ble_eq_true rfl) dX1_followGenerators_127 rfl (fun r_ u_14 H1 locs1 hp_15 hP1 hD1 hS1 hz1 => ?_)
            try dsimp only at hp_15 hP1 hD1
            subst hp_15
            generalize H1 = H at hP1 hD1 hS1 hz1 ⊢
            generalize locs1 = locs at hS1 ⊢
            have hS := hS1
            have hP : va_P G.1 vwCl [(h0, .inr (1, [.ref qv, .int (zI fx), .int (zI fy), .int (zI lx), .int (zI ly), .int (zI tn), .int (zI ar), .int (zI g1), .int (zI g2)]))] H := hP1
            have hD : va_D A [(h0, .inr (1, [.ref qv, .int (zI fx), .int (zI fy), .int (zI lx), .int (zI ly), .int (zI tn), .int (zI ar), .int (zI g1), .int (zI g2)]))] := hD1
            refine zv_istore (lv' := [(8, .int (zI (zFL tn lx ly v4 v5))), (7, .int (zI v7)), (5, .int (zI v5)), (4, .int (zI v4)), (3, .int (zI a2)), (2, .int (zI a1)), (0, .ref h0), (1, .int (zI pl))]) S dX1_followGenerators_130 hl (by decide) rfl (fun ls hl => ?_)
            refine zv_iload S dX1_followGenerators_132 (lv_at hl 0 rfl) ?_
            refine zv_if_gt (tgt := 142) S (by unfold zR; omega) dX1_followGenerators_134 (by decide) (fun c_16 => ?_) (fun c_16 => ?_)
            · have hpo : 0 < zFL tn lx ly v4 v5 := c_16
              refine zv_aload_n S dX1_followGenerators_142 rfl (lv_at hl 6 rfl) ?_
              refine zv_iload_n S dX1_followGenerators_143 rfl (lv_at hl 5 rfl) ?_
              refine zv_iload_n S dX1_followGenerators_144 rfl (lv_at hl 4 rfl) ?_
              refine zc_Vi (As := [.int (zI a1), .int (zI a2)]) (rest := []) (wr := []) (n := 2) S hN hK hP hD hS hA hl (c_X1_fromLast l G H.size h0 qv fx fy lx ly tn ar g1 g2 a1 a2) gX1_followGenerators_X1_fromLast rfl ⟨rfl, rfl⟩ (by decide +kernel) rfl ⟨Nat.le_of_ble_eq_true rfl, Nat.le_of_ble_eq_true rfl, Nat.le_of_ble_eq_true rfl, Nat.le_of_ble_eq_true rfl⟩ [0] [] rfl rfl (by decide) (by decide) (by decide) (ci := 1) rfl rfl rfl (Nat.le_of_ble_eq_true rfl) dX1_followGenerators_145 rfl (fun r_ u_17 H1 locs1 hp_18 hP1 hD1 hS1 hz1 => ?_)
              try dsimp only at hp_18 hP1 hD1
              subst hp_18
              generalize H1 = H at hP1 hD1 hS1 hz1 ⊢
              generalize locs1 = locs at hS1 ⊢
              have hS := hS1
              have hP : va_P G.1 vwCl [(h0, .inr (1, [.ref qv, .int (zI fx), .int (zI fy), .int (zI lx), .int (zI ly), .int (zI tn), .int (zI ar), .int (zI g1), .int (zI g2)]))] H := hP1
              have hD : va_D A [(h0, .inr (1, [.ref qv, .int (zI fx), .int (zI fy), .int (zI lx), .int (zI ly), .int (zI tn), .int (zI ar), .int (zI g1), .int (zI g2)]))] := hD1
              refine zv_ineg S dX1_followGenerators_148 ?_
              refine zv_iload S dX1_followGenerators_149 (lv_at hl 0 rfl) ?_
              refine zc_Si (As := [.int (zI (-(zFL tn lx ly a1 a2))), .int (zI (zFL tn lx ly v4 v5))]) (rest := []) (wr := [(h0, .inr (1, [.ref qv, .int (zI fx), .int (zI fy), .int (zI lx), .int (zI ly), .int (zI tn), .int (zI ar), .int (zI g1), .int (zI g2)]))]) (n := 2) S hN hK hP hD hS hA hl (c_J9_floorDiv_7cf53 l G H.size (-(zFL tn lx ly a1 a2)) (zFL tn lx ly v4 v5) (by omega) (by omega)) gX1_followGenerators_J9_floorDiv_7cf53 rfl ⟨rfl, rfl⟩ (by decide +kernel) rfl ⟨Nat.le_of_ble_eq_true rfl, Nat.le_of_ble_eq_true rfl, Nat.le_of_ble_eq_true rfl, Nat.le_of_ble_eq_true rfl⟩ [] [0] rfl rfl (by decide) (by decide) (by decide) (Nat.le_of_ble_eq_true rfl) dX1_followGenerators_151 rfl (fun r_ u_19 H1 locs1 hp_20 hP1 hD1 hS1 hz1 => ?_)
              try dsimp only at hp_20 hP1 hD1
              subst hp_20
              generalize H1 = H at hP1 hD1 hS1 hz1 ⊢
              generalize locs1 = locs at hS1 ⊢
              have hS := hS1
              have hP : va_P G.1 vwCl [(h0, .inr (1, [.ref qv, .int (zI fx), .int (zI fy), .int (zI lx), .int (zI ly), .int (zI tn), .int (zI ar), .int (zI g1), .int (zI g2)]))] H := hP1
              have hD : va_D A [(h0, .inr (1, [.ref qv, .int (zI fx), .int (zI fy), .int (zI lx), .int (zI ly), .int (zI tn), .int (zI ar), .int (zI g1), .int (zI g2)]))] := hD1
              refine zv_ineg S dX1_followGenerators_154 ?_
              refine zv_istore (lv' := [(9, .int (zI (-((-(zFL tn lx ly a1 a2)) / (zFL tn lx ly v4 v5))))), (8, .int (zI (zFL tn lx ly v4 v5))), (7, .int (zI v7)), (5, .int (zI v5)), (4, .int (zI v4)), (3, .int (zI a2)), (2, .int (zI a1)), (0, .ref h0), (1, .int (zI pl))]) S dX1_followGenerators_155 hl (by decide) rfl (fun ls hl => ?_)
              have hce := zceil (p := zFL tn lx ly a1 a2) hpo
              refine zv_iload S dX1_followGenerators_157 (lv_at hl 0 rfl) ?_
              refine zv_iload S dX1_followGenerators_159 (lv_at hl 4 rfl) ?_
              refine zv_imul S dX1_followGenerators_161 ?_
              refine zv_iload_n S dX1_followGenerators_162 rfl (lv_at hl 6 rfl) ?_
              refine zv_isub S dX1_followGenerators_163 ?_
              refine zv_istore (lv' := [(10, .int (zI (((-((-(zFL tn lx ly a1 a2)) / (zFL tn lx ly v4 v5))) * v4) - a1))), (9, .int (zI (-((-(zFL tn lx ly a1 a2)) / (zFL tn lx ly v4 v5))))), (8, .int (zI (zFL tn lx ly v4 v5))), (7, .int (zI v7)), (5, .int (zI v5)), (4, .int (zI v4)), (3, .int (zI a2)), (2, .int (zI a1)), (0, .ref h0), (1, .int (zI pl))]) S dX1_followGenerators_164 hl (by decide) rfl (fun ls hl => ?_)
              refine zv_iload S dX1_followGenerators_166 (lv_at hl 1 rfl) ?_
              refine zv_iload S dX1_followGenerators_168 (lv_at hl 4 rfl) ?_
              refine zv_imul S dX1_followGenerators_170 ?_
              refine zv_iload_n S dX1_followGenerators_171 rfl (lv_at hl 6 rfl) ?_
              refine zv_isub S dX1_followGenerators_172 ?_
              refine zv_istore (lv' := [(11, .int (zI (((-((-(zFL tn lx ly a1 a2)) / (zFL tn lx ly v4 v5))) * v5) - a2))), (10, .int (zI (((-((-(zFL tn lx ly a1 a2)) / (zFL tn lx ly v4 v5))) * v4) - a1))), (9, .int (zI (-((-(zFL tn lx ly a1 a2)) / (zFL tn lx ly v4 v5))))), (8, .int (zI (zFL tn lx ly v4 v5))), (7, .int (zI v7)), (5, .int (zI v5)), (4, .int (zI v4)), (3, .int (zI a2)), (2, .int (zI a1)), (0, .ref h0), (1, .int (zI pl))]) S dX1_followGenerators_173 hl (by decide) rfl (fun ls hl => ?_)
              refine zv_iload S dX1_followGenerators_175 (lv_at hl 6 rfl) ?_
              refine zv_istore_n (lv' := [(2, .int (zI v4)), (11, .int (zI (((-((-(zFL tn lx ly a1 a2)) / (zFL tn lx ly v4 v5))) * v5) - a2))), (10, .int (zI (((-((-(zFL tn lx ly a1 a2)) / (zFL tn lx ly v4 v5))) * v4) - a1))), (9, .int (zI (-((-(zFL tn lx ly a1 a2)) / (zFL tn lx ly v4 v5))))), (8, .int (zI (zFL tn lx ly v4 v5))), (7, .int (zI v7)), (5, .int (zI v5)), (4, .int (zI v4)), (3, .int (zI a2)), (0, .ref h0), (1, .int (zI pl))]) S dX1_followGenerators_177 rfl hl (by decide) rfl (fun ls hl => ?_)
              refine zv_iload S dX1_followGenerators_178 (lv_at hl 6 rfl) ?_
              refine zv_istore_n (lv' := [(3, .int (zI v5)), (2, .int (zI v4)), (11, .int (zI (((-((-(zFL tn lx ly a1 a2)) / (zFL tn lx ly v4 v5))) * v5) - a2))), (10, .int (zI (((-((-(zFL tn lx ly a1 a2)) / (zFL tn lx ly v4 v5))) * v4) - a1))), (9, .int (zI (-((-(zFL tn lx ly a1 a2)) / (zFL tn lx ly v4 v5))))), (8, .int (zI (zFL tn lx ly v4 v5))), (7, .int (zI v7)), (5, .int (zI v5)), (4, .int (zI v4)), (0, .ref h0), (1, .int (zI pl))]) S dX1_followGenerators_180 rfl hl (by decide) rfl (fun ls hl => ?_)
              refine zv_iload S dX1_followGenerators_181 (lv_at hl 3 rfl) ?_
              refine zv_istore (lv' := [(4, .int (zI (((-((-(zFL tn lx ly a1 a2)) / (zFL tn lx ly v4 v5))) * v4) - a1))), (3, .int (zI v5)), (2, .int (zI v4)), (11, .int (zI (((-((-(zFL tn lx ly a1 a2)) / (zFL tn lx ly v4 v5))) * v5) - a2))), (10, .int (zI (((-((-(zFL tn lx ly a1 a2)) / (zFL tn lx ly v4 v5))) * v4) - a1))), (9, .int (zI (-((-(zFL tn lx ly a1 a2)) / (zFL tn lx ly v4 v5))))), (8, .int (zI (zFL tn lx ly v4 v5))), (7, .int (zI v7)), (5, .int (zI v5)), (0, .ref h0), (1, .int (zI pl))]) S dX1_followGenerators_183 hl (by decide) rfl (fun ls hl => ?_)
              refine zv_iload S dX1_followGenerators_185 (lv_at hl 3 rfl) ?_
              refine zv_istore (lv' := [(5, .int (zI (((-((-(zFL tn lx ly a1 a2)) / (zFL tn lx ly v4 v5))) * v5) - a2))), (4, .int (zI (((-((-(zFL tn lx ly a1 a2)) / (zFL tn lx ly v4 v5))) * v4) - a1))), (3, .int (zI v5)), (2, .int (zI v4)), (11, .int (zI (((-((-(zFL tn lx ly a1 a2)) / (zFL tn lx ly v4 v5))) * v5) - a2))), (10, .int (zI (((-((-(zFL tn lx ly a1 a2)) / (zFL tn lx ly v4 v5))) * v4) - a1))), (9, .int (zI (-((-(zFL tn lx ly a1 a2)) / (zFL tn lx ly v4 v5))))), (8, .int (zI (zFL tn lx ly v4 v5))), (7, .int (zI v7)), (0, .ref h0), (1, .int (zI pl))]) S dX1_followGenerators_187 hl (by decide) rfl (fun ls hl => ?_)
              refine zv_iinc (k0 := 8) (lv' := [(7, .int (zI (v7 + 1))), (5, .int (zI (((-((-(zFL tn lx ly a1 a2)) / (zFL tn lx ly v4 v5))) * v5) - a2))), (4, .int (zI (((-((-(zFL tn lx ly a1 a2)) / (zFL tn lx ly v4 v5))) * v4) - a1))), (3, .int (zI v5)), (2, .int (zI v4)), (11, .int (zI (((-((-(zFL tn lx ly a1 a2)) / (zFL tn lx ly v4 v5))) * v5) - a2))), (10, .int (zI (((-((-(zFL tn lx ly a1 a2)) / (zFL tn lx ly v4 v5))) * v4) - a1))), (9, .int (zI (-((-(zFL tn lx ly a1 a2)) / (zFL tn lx ly v4 v5))))), (8, .int (zI (zFL tn lx ly v4 v5))), (0, .ref h0), (1, .int (zI pl))]) S dX1_followGenerators_189 hl rfl (by decide) rfl (fun ls hl => ?_)
              refine zv_goto (tgt := 95) S dX1_followGenerators_192 (by decide) ?_
              exact ih95 (k + 1) (v7 + 1) v4 v5 (((-((-(zFL tn lx ly a1 a2)) / (zFL tn lx ly v4 v5))) * v4) - a1) (((-((-(zFL tn lx ly a1 a2)) / (zFL tn lx ly v4 v5))) * v5) - a2) g1 g2 (by omega) (by show zhs tn lx ly (zhj tn lx ly fx fy (X_3 - (((zFL tn lx ly X_3 (zsecY fx fy tn X_3)) / ar) * fx)) ((zsecY fx fy tn X_3) - (((zFL tn lx ly X_3 (zsecY fx fy tn X_3)) / ar) * fy)) k) = _; rw [hst]; rfl) (by rw [zFL_lin]; omega) (by rw [zFL_lin]; omega) (zpos_s h3 (by rw [hst]; exact hpo)) (zwj_n h4 (by rw [← hv7]; exact c_13)) (by omega) _ _ hP hD hS _ (lv_sub hl [0, 1, 2, 3, 4, 9, 10] rfl)
            · refine zv_iload S dX1_followGenerators_137 (lv_at hl 1 rfl) ?_
              refine zv_iconst S dX1_followGenerators_139 ?_
              refine zv_iadd S dX1_followGenerators_140 ?_
              exact hret _ _ _ _ _ ⟨X_3, (zFL tn lx ly X_3 (zsecY fx fy tn X_3) / ar), (k + 1), g1, g2⟩ dX1_followGenerators_141 ⟨(show zI (v7 + 1) = zI (((k + 1) : Int) + 1) from (congrArg zI (by omega))), (show zsec fx fy tn X_3 from hsx_4), (show 0 ≤ zFL tn lx ly (X_3 - (zFL tn lx ly X_3 (zsecY fx fy tn X_3) / ar) * fx) (zsecY fx fy tn X_3 - (zFL tn lx ly X_3 (zsecY fx fy tn X_3) / ar) * fy) ∧ zFL tn lx ly (X_3 - (zFL tn lx ly X_3 (zsecY fx fy tn X_3) / ar) * fx) (zsecY fx fy tn X_3 - (zFL tn lx ly X_3 (zsecY fx fy tn X_3) / ar) * fy) < ar from (by rw [zFL_sub, zarea_b har2]; exact hfl)), (show zpos tn lx ly fx fy (X_3 - (zFL tn lx ly X_3 (zsecY fx fy tn X_3) / ar) * fx) (zsecY fx fy tn X_3 - (zFL tn lx ly X_3 (zsecY fx fy tn X_3) / ar) * fy) ((k + 1) - 1) from h3), (show 1 ≤ (k + 1) ∧ zFL tn lx ly (zhj tn lx ly fx fy (X_3 - (zFL tn lx ly X_3 (zsecY fx fy tn X_3) / ar) * fx) (zsecY fx fy tn X_3 - (zFL tn lx ly X_3 (zsecY fx fy tn X_3) / ar) * fy) ((k + 1) - 1)).2.2.1 (zhj tn lx ly fx fy (X_3 - (zFL tn lx ly X_3 (zsecY fx fy tn X_3) / ar) * fx) (zsecY fx fy tn X_3 - (zFL tn lx ly X_3 (zsecY fx fy tn X_3) / ar) * fy) ((k + 1) - 1)).2.2.2 = 0 from ⟨by omega, by rw [show k + 1 - 1 = k from rfl, hst]; show zFL tn lx ly v4 v5 = 0; omega⟩), (show zwj tn lx ly fx fy (X_3 - (zFL tn lx ly X_3 (zsecY fx fy tn X_3) / ar) * fx) (zsecY fx fy tn X_3 - (zFL tn lx ly X_3 (zsecY fx fy tn X_3) / ar) * fy) (k + 1) pl g1 g2 from (zwj_n h4 (by rw [← hv7]; exact c_13)))⟩ (hP.sub [0] rfl) (hD.sub [0] (by decide) rfl) hS
          · refine zv_aload_n S dX1_followGenerators_110 rfl (lv_at hl 5 rfl) ?_
            refine zv_iload S dX1_followGenerators_111 (lv_at hl 2 rfl) ?_
            refine zv_put (C := RX1) (T := TX1) (N := 9) (ci := 1) (v := .int (zI v4)) S in_X1_followGenerators_X1 tyX1 tyX1_ok nmX1 hK hP hD hS 0 rfl rfl 7 (by decide) wd_X1_followGenerators_f67 rfl rfl rfl rfl (Nat.le_of_ble_eq_true rfl) dX1_followGenerators_113 (fun H locs hP hD hS => ?_)
            have hP : va_P G.1 vwCl [(h0, .inr (1, [.ref qv, .int (zI fx), .int (zI fy), .int (zI lx), .int (zI ly), .int (zI tn), .int (zI ar), .int (zI v4), .int (zI g2)]))] H := hP
            have hD : va_D A [(h0, .inr (1, [.ref qv, .int (zI fx), .int (zI fy), .int (zI lx), .int (zI ly), .int (zI tn), .int (zI ar), .int (zI v4), .int (zI g2)]))] := hD
            refine zv_aload_n S dX1_followGenerators_116 rfl (lv_at hl 5 rfl) ?_
            refine zv_iload S dX1_followGenerators_117 (lv_at hl 1 rfl) ?_
            refine zv_put (C := RX1) (T := TX1) (N := 9) (ci := 1) (v := .int (zI v5)) S in_X1_followGenerators_X1 tyX1 tyX1_ok nmX1 hK hP hD hS 0 rfl rfl 8 (by decide) wd_X1_followGenerators_f70 rfl rfl rfl rfl (Nat.le_of_ble_eq_true rfl) dX1_followGenerators_119 (fun H locs hP hD hS => ?_)
            have hP : va_P G.1 vwCl [(h0, .inr (1, [.ref qv, .int (zI fx), .int (zI fy), .int (zI lx), .int (zI ly), .int (zI tn), .int (zI ar), .int (zI v4), .int (zI v5)]))] H := hP
            have hD : va_D A [(h0, .inr (1, [.ref qv, .int (zI fx), .int (zI fy), .int (zI lx), .int (zI ly), .int (zI tn), .int (zI ar), .int (zI v4), .int (zI v5)]))] := hD
            refine zv_aload_n S dX1_followGenerators_122 rfl (lv_at hl 5 rfl) ?_
            refine zv_iload S dX1_followGenerators_123 (lv_at hl 2 rfl) ?_
            refine zv_iload S dX1_followGenerators_125 (lv_at hl 1 rfl) ?_
            refine zc_Vi (As := [.int (zI v4), .int (zI v5)]) (rest := []) (wr := []) (n := 2) S hN hK hP hD hS hA hl (c_X1_fromLast l G H.size h0 qv fx fy lx ly tn ar v4 v5 v4 v5) gX1_followGenerators_X1_fromLast rfl ⟨rfl, rfl⟩ (by decide +kernel) rfl ⟨Nat.le_of_ble_eq_true rfl, Nat.le_of_ble_eq_true rfl, Nat.le_of_ble_eq_true rfl, Nat.le_of_ble_eq_true rfl⟩ [0] [] rfl rfl (by decide) (by decide) (by decide) (ci := 1) rfl rfl rfl (Nat.le_of_ble_eq_true rfl) dX1_followGenerators_127 rfl (fun r_ u_21 H1 locs1 hp_22 hP1 hD1 hS1 hz1 => ?_)
            try dsimp only at hp_22 hP1 hD1
            subst hp_22
            generalize H1 = H at hP1 hD1 hS1 hz1 ⊢
            generalize locs1 = locs at hS1 ⊢
            have hS := hS1
            have hP : va_P G.1 vwCl [(h0, .inr (1, [.ref qv, .int (zI fx), .int (zI fy), .int (zI lx), .int (zI ly), .int (zI tn), .int (zI ar), .int (zI v4), .int (zI v5)]))] H := hP1
            have hD : va_D A [(h0, .inr (1, [.ref qv, .int (zI fx), .int (zI fy), .int (zI lx), .int (zI ly), .int (zI tn), .int (zI ar), .int (zI v4), .int (zI v5)]))] := hD1
            refine zv_istore (lv' := [(8, .int (zI (zFL tn lx ly v4 v5))), (7, .int (zI v7)), (5, .int (zI v5)), (4, .int (zI v4)), (3, .int (zI a2)), (2, .int (zI a1)), (0, .ref h0), (1, .int (zI pl))]) S dX1_followGenerators_130 hl (by decide) rfl (fun ls hl => ?_)
            refine zv_iload S dX1_followGenerators_132 (lv_at hl 0 rfl) ?_
            refine zv_if_gt (tgt := 142) S (by unfold zR; omega) dX1_followGenerators_134 (by decide) (fun c_23 => ?_) (fun c_23 => ?_)
            · have hpo : 0 < zFL tn lx ly v4 v5 := c_23
              refine zv_aload_n S dX1_followGenerators_142 rfl (lv_at hl 6 rfl) ?_
              refine zv_iload_n S dX1_followGenerators_143 rfl (lv_at hl 5 rfl) ?_
              refine zv_iload_n S dX1_followGenerators_144 rfl (lv_at hl 4 rfl) ?_
              refine zc_Vi (As := [.int (zI a1), .int (zI a2)]) (rest := []) (wr := []) (n := 2) S hN hK hP hD hS hA hl (c_X1_fromLast l G H.size h0 qv fx fy lx ly tn ar v4 v5 a1 a2) gX1_followGenerators_X1_fromLast rfl ⟨rfl, rfl⟩ (by decide +kernel) rfl ⟨Nat.le_of_ble_eq_true rfl, Nat.le_of_ble_eq_true rfl, Nat.le_of_ble_eq_true rfl, Nat.le_of_ble_eq_true rfl⟩ [0] [] rfl rfl (by decide) (by decide) (by decide) (ci := 1) rfl rfl rfl (Nat.le_of_ble_eq_true rfl) dX1_followGenerators_145 rfl (fun r_ u_24 H1 locs1 hp_25 hP1 hD1 hS1 hz1 => ?_)
              try dsimp only at hp_25 hP1 hD1
              subst hp_25
              generalize H1 = H at hP1 hD1 hS1 hz1 ⊢
              generalize locs1 = locs at hS1 ⊢
              have hS := hS1
              have hP : va_P G.1 vwCl [(h0, .inr (1, [.ref qv, .int (zI fx), .int (zI fy), .int (zI lx), .int (zI ly), .int (zI tn), .int (zI ar), .int (zI v4), .int (zI v5)]))] H := hP1
              have hD : va_D A [(h0, .inr (1, [.ref qv, .int (zI fx), .int (zI fy), .int (zI lx), .int (zI ly), .int (zI tn), .int (zI ar), .int (zI v4), .int (zI v5)]))] := hD1
              refine zv_ineg S dX1_followGenerators_148 ?_
              refine zv_iload S dX1_followGenerators_149 (lv_at hl 0 rfl) ?_
              refine zc_Si (As := [.int (zI (-(zFL tn lx ly a1 a2))), .int (zI (zFL tn lx ly v4 v5))]) (rest := []) (wr := [(h0, .inr (1, [.ref qv, .int (zI fx), .int (zI fy), .int (zI lx), .int (zI ly), .int (zI tn), .int (zI ar), .int (zI v4), .int (zI v5)]))]) (n := 2) S hN hK hP hD hS hA hl (c_J9_floorDiv_7cf53 l G H.size (-(zFL tn lx ly a1 a2)) (zFL tn lx ly v4 v5) (by omega) (by omega)) gX1_followGenerators_J9_floorDiv_7cf53 rfl ⟨rfl, rfl⟩ (by decide +kernel) rfl ⟨Nat.le_of_ble_eq_true rfl, Nat.le_of_ble_eq_true rfl, Nat.le_of_ble_eq_true rfl, Nat.le_of_ble_eq_true rfl⟩ [] [0] rfl rfl (by decide) (by decide) (by decide) (Nat.le_of_ble_eq_true rfl) dX1_followGenerators_151 rfl (fun r_ u_26 H1 locs1 hp_27 hP1 hD1 hS1 hz1 => ?_)
              try dsimp only at hp_27 hP1 hD1
              subst hp_27
              generalize H1 = H at hP1 hD1 hS1 hz1 ⊢
              generalize locs1 = locs at hS1 ⊢
              have hS := hS1
              have hP : va_P G.1 vwCl [(h0, .inr (1, [.ref qv, .int (zI fx), .int (zI fy), .int (zI lx), .int (zI ly), .int (zI tn), .int (zI ar), .int (zI v4), .int (zI v5)]))] H := hP1
              have hD : va_D A [(h0, .inr (1, [.ref qv, .int (zI fx), .int (zI fy), .int (zI lx), .int (zI ly), .int (zI tn), .int (zI ar), .int (zI v4), .int (zI v5)]))] := hD1
              refine zv_ineg S dX1_followGenerators_154 ?_
              refine zv_istore (lv' := [(9, .int (zI (-((-(zFL tn lx ly a1 a2)) / (zFL tn lx ly v4 v5))))), (8, .int (zI (zFL tn lx ly v4 v5))), (7, .int (zI v7)), (5, .int (zI v5)), (4, .int (zI v4)), (3, .int (zI a2)), (2, .int (zI a1)), (0, .ref h0), (1, .int (zI pl))]) S dX1_followGenerators_155 hl (by decide) rfl (fun ls hl => ?_)
              have hce := zceil (p := zFL tn lx ly a1 a2) hpo
              refine zv_iload S dX1_followGenerators_157 (lv_at hl 0 rfl) ?_
              refine zv_iload S dX1_followGenerators_159 (lv_at hl 4 rfl) ?_
              refine zv_imul S dX1_followGenerators_161 ?_
              refine zv_iload_n S dX1_followGenerators_162 rfl (lv_at hl 6 rfl) ?_
              refine zv_isub S dX1_followGenerators_163 ?_
              refine zv_istore (lv' := [(10, .int (zI (((-((-(zFL tn lx ly a1 a2)) / (zFL tn lx ly v4 v5))) * v4) - a1))), (9, .int (zI (-((-(zFL tn lx ly a1 a2)) / (zFL tn lx ly v4 v5))))), (8, .int (zI (zFL tn lx ly v4 v5))), (7, .int (zI v7)), (5, .int (zI v5)), (4, .int (zI v4)), (3, .int (zI a2)), (2, .int (zI a1)), (0, .ref h0), (1, .int (zI pl))]) S dX1_followGenerators_164 hl (by decide) rfl (fun ls hl => ?_)
              refine zv_iload S dX1_followGenerators_166 (lv_at hl 1 rfl) ?_
              refine zv_iload S dX1_followGenerators_168 (lv_at hl 4 rfl) ?_
              refine zv_imul S dX1_followGenerators_170 ?_
              refine zv_iload_n S dX1_followGenerators_171 rfl (lv_at hl 6 rfl) ?_
              refine zv_isub S dX1_followGenerators_172 ?_
              refine zv_istore (lv' := [(11, .int (zI (((-((-(zFL tn lx ly a1 a2)) / (zFL tn lx ly v4 v5))) * v5) - a2))), (10, .int (zI (((-((-(zFL tn lx ly a1 a2)) / (zFL tn lx ly v4 v5))) * v4) - a1))), (9, .int (zI (-((-(zFL tn lx ly a1 a2)) / (zFL tn lx ly v4 v5))))), (8, .int (zI (zFL tn lx ly v4 v5))), (7, .int (zI v7)), (5, .int (zI v5)), (4, .int (zI v4)), (3, .int (zI a2)), (2, .int (zI a1)), (0, .ref h0), (1, .int (zI pl))]) S dX1_followGenerators_173 hl (by decide) rfl (fun ls hl => ?_)
              refine zv_iload S dX1_followGenerators_175 (lv_at hl 6 rfl) ?_
              refine zv_istore_n (lv' := [(2, .int (zI v4)), (11, .int (zI (((-((-(zFL tn lx ly a1 a2)) / (zFL tn lx ly v4 v5))) * v5) - a2))), (10, .int (zI (((-((-(zFL tn lx ly a1 a2)) / (zFL tn lx ly v4 v5))) * v4) - a1))), (9, .int (zI (-((-(zFL tn lx ly a1 a2)) / (zFL tn lx ly v4 v5))))), (8, .int (zI (zFL tn lx ly v4 v5))), (7, .int (zI v7)), (5, .int (zI v5)), (4, .int (zI v4)), (3, .int (zI a2)), (0, .ref h0), (1, .int (zI pl))]) S dX1_followGenerators_177 rfl hl (by decide) rfl (fun ls hl => ?_)
              refine zv_iload S dX1_followGenerators_178 (lv_at hl 6 rfl) ?_
              refine zv_istore_n (lv' := [(3, .int (zI v5)), (2, .int (zI v4)), (11, .int (zI (((-((-(zFL tn lx ly a1 a2)) / (zFL tn lx ly v4 v5))) * v5) - a2))), (10, .int (zI (((-((-(zFL tn lx ly a1 a2)) / (zFL tn lx ly v4 v5))) * v4) - a1))), (9, .int (zI (-((-(zFL tn lx ly a1 a2)) / (zFL tn lx ly v4 v5))))), (8, .int (zI (zFL tn lx ly v4 v5))), (7, .int (zI v7)), (5, .int (zI v5)), (4, .int (zI v4)), (0, .ref h0), (1, .int (zI pl))]) S dX1_followGenerators_180 rfl hl (by decide) rfl (fun ls hl => ?_)
              refine zv_iload S dX1_followGenerators_181 (lv_at hl 3 rfl) ?_
              refine zv_istore (lv' := [(4, .int (zI (((-((-(zFL tn lx ly a1 a2)) / (zFL tn lx ly v4 v5))) * v4) - a1))), (3, .int (zI v5)), (2, .int (zI v4)), (11, .int (zI (((-((-(zFL tn lx ly a1 a2)) / (zFL tn lx ly v4 v5))) * v5) - a2))), (10, .int (zI (((-((-(zFL tn lx ly a1 a2)) / (zFL tn lx ly v4 v5))) * v4) - a1))), (9, .int (zI (-((-(zFL tn lx ly a1 a2)) / (zFL tn lx ly v4 v5))))), (8, .int (zI (zFL tn lx ly v4 v5))), (7, .int (zI v7)), (5, .int (zI v5)), (0, .ref h0), (1, .int (zI pl))]) S dX1_followGenerators_183 hl (by decide) rfl (fun ls hl => ?_)
              refine zv_iload S dX1_followGenerators_185 (lv_at hl 3 rfl) ?_
              refine zv_istore (lv' := [(5, .int (zI (((-((-(zFL tn lx ly a1 a2)) / (zFL tn lx ly v4 v5))) * v5) - a2))), (4, .int (zI (((-((-(zFL tn lx ly a1 a2)) / (zFL tn lx ly v4 v5))) * v4) - a1))), (3, .int (zI v5)), (2, .int (zI v4)), (11, .int (zI (((-((-(zFL tn lx ly a1 a2)) / (zFL tn lx ly v4 v5))) * v5) - a2))), (10, .int (zI (((-((-(zFL tn lx ly a1 a2)) / (zFL tn lx ly v4 v5))) * v4) - a1))), (9, .int (zI (-((-(zFL tn lx ly a1 a2)) / (zFL tn lx ly v4 v5))))), (8, .int (zI (zFL tn lx ly v4 v5))), (7, .int (zI v7)), (0, .ref h0), (1, .int (zI pl))]) S dX1_followGenerators_187 hl (by decide) rfl (fun ls hl => ?_)
              refine zv_iinc (k0 := 8) (lv' := [(7, .int (zI (v7 + 1))), (5, .int (zI (((-((-(zFL tn lx ly a1 a2)) / (zFL tn lx ly v4 v5))) * v5) - a2))), (4, .int (zI (((-((-(zFL tn lx ly a1 a2)) / (zFL tn lx ly v4 v5))) * v4) - a1))), (3, .int (zI v5)), (2, .int (zI v4)), (11, .int (zI (((-((-(zFL tn lx ly a1 a2)) / (zFL tn lx ly v4 v5))) * v5) - a2))), (10, .int (zI (((-((-(zFL tn lx ly a1 a2)) / (zFL tn lx ly v4 v5))) * v4) - a1))), (9, .int (zI (-((-(zFL tn lx ly a1 a2)) / (zFL tn lx ly v4 v5))))), (8, .int (zI (zFL tn lx ly v4 v5))), (0, .ref h0), (1, .int (zI pl))]) S dX1_followGenerators_189 hl rfl (by decide) rfl (fun ls hl => ?_)
              refine zv_goto (tgt := 95) S dX1_followGenerators_192 (by decide) ?_
              exact ih95 (k + 1) (v7 + 1) v4 v5 (((-((-(zFL tn lx ly a1 a2)) / (zFL tn lx ly v4 v5))) * v4) - a1) (((-((-(zFL tn lx ly a1 a2)) / (zFL tn lx ly v4 v5))) * v5) - a2) v4 v5 (by omega) (by show zhs tn lx ly (zhj tn lx ly fx fy (X_3 - (((zFL tn lx ly X_3 (zsecY fx fy tn X_3)) / ar) * fx)) ((zsecY fx fy tn X_3) - (((zFL tn lx ly X_3 (zsecY fx fy tn X_3)) / ar) * fy)) k) = _; rw [hst]; rfl) (by rw [zFL_lin]; omega) (by rw [zFL_lin]; omega) (zpos_s h3 (by rw [hst]; exact hpo)) (zwj_y (by rw [← hv7]; exact c_13) (by rw [hst]) (by rw [hst])) (by omega) _ _ hP hD hS _ (lv_sub hl [0, 1, 2, 3, 4, 9, 10] rfl)
            · refine zv_iload S dX1_followGenerators_137 (lv_at hl 1 rfl) ?_
              refine zv_iconst S dX1_followGenerators_139 ?_
              refine zv_iadd S dX1_followGenerators_140 ?_
              exact hret _ _ _ _ _ ⟨X_3, (zFL tn lx ly X_3 (zsecY fx fy tn X_3) / ar), (k + 1), v4, v5⟩ dX1_followGenerators_141 ⟨(show zI (v7 + 1) = zI (((k + 1) : Int) + 1) from (congrArg zI (by omega))), (show zsec fx fy tn X_3 from hsx_4), (show 0 ≤ zFL tn lx ly (X_3 - (zFL tn lx ly X_3 (zsecY fx fy tn X_3) / ar) * fx) (zsecY fx fy tn X_3 - (zFL tn lx ly X_3 (zsecY fx fy tn X_3) / ar) * fy) ∧ zFL tn lx ly (X_3 - (zFL tn lx ly X_3 (zsecY fx fy tn X_3) / ar) * fx) (zsecY fx fy tn X_3 - (zFL tn lx ly X_3 (zsecY fx fy tn X_3) / ar) * fy) < ar from (by rw [zFL_sub, zarea_b har2]; exact hfl)), (show zpos tn lx ly fx fy (X_3 - (zFL tn lx ly X_3 (zsecY fx fy tn X_3) / ar) * fx) (zsecY fx fy tn X_3 - (zFL tn lx ly X_3 (zsecY fx fy tn X_3) / ar) * fy) ((k + 1) - 1) from h3), (show 1 ≤ (k + 1) ∧ zFL tn lx ly (zhj tn lx ly fx fy (X_3 - (zFL tn lx ly X_3 (zsecY fx fy tn X_3) / ar) * fx) (zsecY fx fy tn X_3 - (zFL tn lx ly X_3 (zsecY fx fy tn X_3) / ar) * fy) ((k + 1) - 1)).2.2.1 (zhj tn lx ly fx fy (X_3 - (zFL tn lx ly X_3 (zsecY fx fy tn X_3) / ar) * fx) (zsecY fx fy tn X_3 - (zFL tn lx ly X_3 (zsecY fx fy tn X_3) / ar) * fy) ((k + 1) - 1)).2.2.2 = 0 from ⟨by omega, by rw [show k + 1 - 1 = k from rfl, hst]; show zFL tn lx ly v4 v5 = 0; omega⟩), (show zwj tn lx ly fx fy (X_3 - (zFL tn lx ly X_3 (zsecY fx fy tn X_3) / ar) * fx) (zsecY fx fy tn X_3 - (zFL tn lx ly X_3 (zsecY fx fy tn X_3) / ar) * fy) (k + 1) pl v4 v5 from (zwj_y (by rw [← hv7]; exact c_13) (by rw [hst]) (by rw [hst])))⟩ (hP.sub [0] rfl) (hD.sub [0] (by decide) rfl) hS
    exact LP95 _ 0 1 fx fy (X_3 - (((zFL tn lx ly X_3 (zsecY fx fy tn X_3)) / ar) * fx)) ((zsecY fx fy tn X_3) - (((zFL tn lx ly X_3 (zsecY fx fy tn X_3)) / ar) * fy)) fx fy rfl rfl hfl2 hfl3 zpos_0 zwj_0 (Nat.lt_succ_self _) _ _ hP hD hS _ (lv_sub hl [0, 1, 2, 4, 5, 6, 7] rfl)
  · exact absurd c_7 (by omega)
