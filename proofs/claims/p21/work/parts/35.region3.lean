theorem wd_X2_points_f43 : Cond.fieldLink RX2 43 "PointMill$Region" "firstColumn" "I" ∈ wsX2_points := by decide +kernel
theorem in_X2_points_X2 : ∀ w ∈ wsX20, w ∈ wsX2_points := by decide +kernel
theorem wd_X2_points_f46 : Cond.fieldLink RX2 46 "PointMill$Region" "lastColumn" "I" ∈ wsX2_points := by decide +kernel
theorem wd_X2_points_f53 : Cond.fieldLink RX2 53 "PointMill$Region" "top" "I" ∈ wsX2_points := by decide +kernel
theorem wd_X2_points_f56 : Cond.fieldLink RX2 56 "PointMill$Region" "bottom" "I" ∈ wsX2_points := by decide +kernel
theorem wd_X2_points_m59 : Cond.methodLink RX2 59 Lib.Math.max.name ∈ wsX2_points := by decide +kernel
theorem wd_X2_points_smax : Cond.static Lib.Math.max.name ∈ wsX2_points := by decide +kernel
theorem wd_X2_points_iM : Cond.initialized "java/lang/Math" ∈ wsX2_points := by decide +kernel
theorem wd_X2_points_cmax : Cond.code Lib.Math.max.name Lib.Math.max.code 2 (some .int) ∈ wsX2_points := by decide +kernel
set_option maxHeartbeats 4000000 in
set_option maxRecDepth 100000 in
/-- Region.points -/
theorem c_X2_points (l : Launch) (G : zG) (sz : Nat) (h0 : Nat) (ra : Nat) (rb : Nat) (rc : Nat) (P : Nat → Int) (Qu : Nat → Int) (M : Nat → Int) (k : Nat) (f0 : Int) (l0 : Int) (b0 : Int) (t0 : Int) (x0 : Int) (y0 : Int) (hk : k ≤ 10) (hP0 : ∀ j, j < k → -60 ≤ P j ∧ P j ≤ 60) (hQ0 : ∀ j, j < k → -60 ≤ Qu j ∧ Qu j ≤ 60) (hM0 : ∀ j, j < k → -9999 ≤ M j ∧ M j ≤ 9999) (hz : ∀ i, i < k → ¬ (P i = 0 ∧ Qu i = 0)) : Met l yX2_points wsX2_points ({ frames := 3, cells := 0, slots := 0, locals := 66 }) (va_Pc [.ref h0] (zPre G sz [(h0, .inr (2, [.ref ra, .ref rb, .ref rc, .int (zI (k : Int)), .int (zI f0), .int (zI l0), .int (zI b0), .int (zI t0), .int (zI x0), .int (zI y0)])), zci G ra 10 P, zci G rb 10 Qu, zci G rc 10 M])) (va_Ql (fun (r : Int64) (u : (Int) × (Int) × (Int) × (Int)) => r = zL (zpts P Qu M k : Int)) (fun u => zW G (va_A [(h0, .inr (2, [.ref ra, .ref rb, .ref rc, .int (zI (k : Int)), .int (zI f0), .int (zI l0), .int (zI b0), .int (zI t0), .int (zI x0), .int (zI y0)])), zci G ra 10 P, zci G rb 10 Qu, zci G rc 10 M] sz) ((fun (u : (Int) × (Int) × (Int) × (Int)) => [(h0, .inr (2, [.ref ra, .ref rb, .ref rc, .int (zI (k : Int)), .int (zI u.1), .int (zI u.2.1), .int (zI u.2.2.1), .int (zI u.2.2.2), .int (zI x0), .int (zI y0)])), zci G ra 10 P, zci G rb 10 Qu, zci G rc 10 M]) u)) (va_A [(h0, .inr (2, [.ref ra, .ref rb, .ref rc, .int (zI (k : Int)), .int (zI f0), .int (zI l0), .int (zI b0), .int (zI t0), .int (zI x0), .int (zI y0)])), zci G ra 10 P, zci G rb 10 Qu, zci G rc 10 M] sz)) 0 0 (va_A [(h0, .inr (2, [.ref ra, .ref rb, .ref rc, .int (zI (k : Int)), .int (zI f0), .int (zI l0), .int (zI b0), .int (zI t0), .int (zI x0), .int (zI y0)])), zci G ra 10 P, zci G rb 10 Qu, zci G rc 10 M] sz) := by
  refine zM_l (post := fun (r : Int64) (u : (Int) × (Int) × (Int) × (Int)) => r = zL (zpts P Qu M k : Int)) (w1 := fun (u : (Int) × (Int) × (Int) × (Int)) => [(h0, .inr (2, [.ref ra, .ref rb, .ref rc, .int (zI (k : Int)), .int (zI u.1), .int (zI u.2.1), .int (zI u.2.2.1), .int (zI u.2.2.2), .int (zI x0), .int (zI y0)])), zci G ra 10 P, zci G rb 10 Qu, zci G rc 10 M]) (plainFor_of_name (by decide)) rfl (Nat.le_of_ble_eq_true rfl) ?_
  intro p e s m below meth c A Q S hN hK hP hD hS hA hret ls hl
  have hl : lv_has ls 4 [(0, .ref h0)] := hl
  refine zv_lconst (v := 0) S dX2_points_0 (by decide) ?_
  refine zv_lstore_n (lv' := [(1, .long (zL 0)), (0, .ref h0)]) S dX2_points_1 rfl hl (by decide) rfl (fun ls hl => ?_)
  refine zv_aload_n S dX2_points_2 rfl (lv_at hl 1 rfl) ?_
  refine zc_Vv (As := []) (rest := []) (wr := []) (n := 0) S hN hK hP hD hS hA hl (c_X2_findColumns l G s.heap.size h0 ra rb rc P Qu M k f0 l0 b0 t0 x0 y0 (by omega) (by omega) (by omega) (by omega)) gX2_points_X2_findColumns rfl ⟨rfl, rfl⟩ (by decide +kernel) rfl ⟨Nat.le_of_ble_eq_true rfl, Nat.le_of_ble_eq_true rfl, Nat.le_of_ble_eq_true rfl, Nat.le_of_ble_eq_true rfl⟩ [0, 1, 2, 3] [] rfl rfl (by decide) (by decide) (by decide) (ci := 2) rfl rfl rfl (Nat.le_of_ble_eq_true rfl) dX2_points_3 rfl (fun u_1 H1 locs1 hp_2 hP1 hD1 hS1 hz1 => ?_)
  obtain ⟨ff_3, ll_4⟩ := u_1
  try dsimp only at hp_2 hP1 hD1
  obtain ⟨hff_5, hll_6, hcc_7⟩ := hp_2
  generalize H1 = H at hP1 hD1 hS1 hz1 ⊢
  generalize locs1 = locs at hS1 ⊢
  have hS := hS1
  have hP : va_P G.1 vwCl [(h0, .inr (2, [.ref ra, .ref rb, .ref rc, .int (zI (k : Int)), .int (zI ff_3), .int (zI ll_4), .int (zI b0), .int (zI t0), .int (zI x0), .int (zI y0)])), zci G ra 10 P, zci G rb 10 Qu, zci G rc 10 M] H := hP1
  have hD : va_D A [(h0, .inr (2, [.ref ra, .ref rb, .ref rc, .int (zI (k : Int)), .int (zI ff_3), .int (zI ll_4), .int (zI b0), .int (zI t0), .int (zI x0), .int (zI y0)])), zci G ra 10 P, zci G rb 10 Qu, zci G rc 10 M] := hD1
  refine zv_aload_n S dX2_points_6 rfl (lv_at hl 1 rfl) ?_
  refine zv_get (C := RX2) (T := TX2) (N := 10) (ci := 2) (v := .int (zI ff_3)) S in_X2_points_X2 hK hP 0 rfl rfl 4 (by decide) wd_X2_points_f43 rfl rfl dX2_points_7 ?_
  refine zv_istore_n (lv' := [(3, .int (zI ff_3)), (1, .long (zL 0)), (0, .ref h0)]) S dX2_points_10 rfl hl (by decide) rfl (fun ls hl => ?_)
  have LP11 : ∀ (nf : Nat) (x1 : Int) (ac : Int) (b1 : Int) (t1 : Int) (hx1 : ff_3 ≤ x1 ∧ x1 ≤ 2000001) (hac : ac = (zsm (fun x => zcol P Qu M k x) (-2000000) (x1 + 2000000).toNat : Int)), ((2000001 - x1).toNat) < nf → ∀ (H : Heap) (locs : List Loc), va_P G.1 vwCl [(h0, .inr (2, [.ref ra, .ref rb, .ref rc, .int (zI (k : Int)), .int (zI ff_3), .int (zI ll_4), .int (zI b1), .int (zI t1), .int (zI x0), .int (zI y0)])), zci G ra 10 P, zci G rb 10 Qu, zci G rc 10 M] H → va_D A [(h0, .inr (2, [.ref ra, .ref rb, .ref rc, .int (zI (k : Int)), .int (zI ff_3), .int (zI ll_4), .int (zI b1), .int (zI t1), .int (zI x0), .int (zI y0)])), zci G ra 10 P, zci G rb 10 Qu, zci G rc 10 M] → va_S A s.heap H locs → ∀ ls : Array Slot, lv_has ls 4 [(3, .int (zI x1)), (1, .long (zL ac)), (0, .ref h0)] → W p l e ({ frames := 3, cells := 0, slots := 0, locals := 66 }) s m ([.ref h0]).toArray below meth c H locs 0 0 Q (F0 m 11 ls []) := by
    intro nf
    induction nf with
    | zero =>
      intro x1 ac b1 t1 hx1 hac hf
      exact absurd hf (Nat.not_lt_zero _)
    | succ nf ih11 =>
      intro x1 ac b1 t1 hx1 hac hf H locs hP hD hS ls hl
      refine zv_iload_n S dX2_points_11 rfl (lv_at hl 0 rfl) ?_
      refine zv_aload_n S dX2_points_12 rfl (lv_at hl 2 rfl) ?_
      refine zv_get (C := RX2) (T := TX2) (N := 10) (ci := 2) (v := .int (zI ll_4)) S in_X2_points_X2 hK hP 0 rfl rfl 5 (by decide) wd_X2_points_f46 rfl rfl dX2_points_13 ?_
      refine zv_icmp_gt (tgt := 49) S (by unfold zR; omega) (by unfold zR; omega) dX2_points_16 (by decide) (fun c_8 => ?_) (fun c_8 => ?_)
      · refine zv_lload_n S dX2_points_49 rfl (lv_at hl 1 rfl) ?_
        exact hret _ _ _ _ _ ⟨ff_3, ll_4, b1, t1⟩ dX2_points_50 (show zL ac = zL (zpts P Qu M k : Int) from (congrArg zL (zpts_end hcc_7 hx1.1 hff_5.1 hx1.2 (by omega) hac))) (hP.sub [0, 1, 2, 3] rfl) (hD.sub [0, 1, 2, 3] (by decide) rfl) hS
      · refine zv_aload_n S dX2_points_19 rfl (lv_at hl 2 rfl) ?_
        refine zv_iload_n S dX2_points_20 rfl (lv_at hl 0 rfl) ?_
        refine zc_Vv (As := [.int (zI x1)]) (rest := []) (wr := []) (n := 1) S hN hK hP hD hS hA hl (c_X2_findEnds l G H.size h0 ra rb rc P Qu M k ff_3 ll_4 b1 t1 x0 y0 x1 hk hP0 hQ0 hM0 (by omega)) gX2_points_X2_findEnds rfl ⟨rfl, rfl⟩ (by decide +kernel) rfl ⟨Nat.le_of_ble_eq_true rfl, Nat.le_of_ble_eq_true rfl, Nat.le_of_ble_eq_true rfl, Nat.le_of_ble_eq_true rfl⟩ [0, 1, 2, 3] [] rfl rfl (by decide) (by decide) (by decide) (ci := 2) rfl rfl rfl (Nat.le_of_ble_eq_true rfl) dX2_points_21 rfl (fun u_9 H1 locs1 hp_10 hP1 hD1 hS1 hz1 => ?_)
        obtain ⟨bt_11, tp_12⟩ := u_9
        try dsimp only at hp_10 hP1 hD1
        obtain ⟨hbt_13, htp_14, hen_15⟩ := hp_10
        generalize H1 = H at hP1 hD1 hS1 hz1 ⊢
        generalize locs1 = locs at hS1 ⊢
        have hS := hS1
        have hP : va_P G.1 vwCl [(h0, .inr (2, [.ref ra, .ref rb, .ref rc, .int (zI (k : Int)), .int (zI ff_3), .int (zI ll_4), .int (zI bt_11), .int (zI tp_12), .int (zI x0), .int (zI y0)])), zci G ra 10 P, zci G rb 10 Qu, zci G rc 10 M] H := hP1
        have hD : va_D A [(h0, .inr (2, [.ref ra, .ref rb, .ref rc, .int (zI (k : Int)), .int (zI ff_3), .int (zI ll_4), .int (zI bt_11), .int (zI tp_12), .int (zI x0), .int (zI y0)])), zci G ra 10 P, zci G rb 10 Qu, zci G rc 10 M] := hD1
        refine zv_lload_n S dX2_points_24 rfl (lv_at hl 1 rfl) ?_
        refine zv_iconst S dX2_points_25 ?_
        refine zv_aload_n S dX2_points_26 rfl (lv_at hl 2 rfl) ?_
        refine zv_get (C := RX2) (T := TX2) (N := 10) (ci := 2) (v := .int (zI tp_12)) S in_X2_points_X2 hK hP 0 rfl rfl 7 (by decide) wd_X2_points_f53 rfl rfl dX2_points_27 ?_
        refine zv_aload_n S dX2_points_30 rfl (lv_at hl 2 rfl) ?_
        refine zv_get (C := RX2) (T := TX2) (N := 10) (ci := 2) (v := .int (zI bt_11)) S in_X2_points_X2 hK hP 0 rfl rfl 6 (by decide) wd_X2_points_f56 rfl rfl dX2_points_31 ?_
        refine zv_isub S dX2_points_34 ?_
        refine zv_iconst S dX2_points_35 ?_
        refine zv_iadd S dX2_points_36 ?_
        refine zv_max S hl (by unfold zR; omega) (by unfold zR; omega) wd_X2_points_m59 wd_X2_points_smax wd_X2_points_iM wd_X2_points_cmax (by decide) (Nat.le_of_ble_eq_true rfl) (Nat.le_of_ble_eq_true rfl) (Nat.le_of_ble_eq_true rfl) dX2_points_37 ?_
        refine zv_i2l S (by unfold zR zmax; split <;> omega) dX2_points_40 ?_
        refine zv_ladd S dX2_points_41 ?_
        refine zv_lstore_n (lv' := [(1, .long (zL (ac + (zmax 0 ((tp_12 - bt_11) + 1))))), (3, .int (zI x1)), (0, .ref h0)]) S dX2_points_42 rfl hl (by decide) rfl (fun ls hl => ?_)
        refine zv_iinc (k0 := 1) (lv' := [(3, .int (zI (x1 + 1))), (1, .long (zL (ac + (zmax 0 ((tp_12 - bt_11) + 1))))), (0, .ref h0)]) S dX2_points_43 hl rfl (by decide) rfl (fun ls hl => ?_)
        refine zv_goto (tgt := 11) S dX2_points_46 (by decide) ?_
        exact ih11 (x1 + 1) (ac + (zmax 0 ((tp_12 - bt_11) + 1))) bt_11 tp_12 (by omega) (zpts_step (by omega) hac (zcol_ends hz ((hcc_7 x1).mp (by omega)).2.2 hbt_13.1 htp_14.2 hen_15)) (by omega) _ _ hP hD hS _ (lv_sub hl [0, 1, 2] rfl)
  exact LP11 _ ff_3 0 b0 t0 (by omega) (zpts_start hcc_7 hff_5.2) (Nat.lt_succ_self _) _ _ hP hD hS _ (lv_sub hl [0, 1, 2] rfl)

theorem wd_X2_findBest_f43 : Cond.fieldLink RX2 43 "PointMill$Region" "firstColumn" "I" ∈ wsX2_findBest := by decide +kernel
theorem in_X2_findBest_X2 : ∀ w ∈ wsX20, w ∈ wsX2_findBest := by decide +kernel
theorem wd_X2_findBest_f46 : Cond.fieldLink RX2 46 "PointMill$Region" "lastColumn" "I" ∈ wsX2_findBest := by decide +kernel
theorem wd_X2_findBest_f56 : Cond.fieldLink RX2 56 "PointMill$Region" "bottom" "I" ∈ wsX2_findBest := by decide +kernel
theorem wd_X2_findBest_f53 : Cond.fieldLink RX2 53 "PointMill$Region" "top" "I" ∈ wsX2_findBest := by decide +kernel
theorem wd_X2_findBest_f65 : Cond.fieldLink RX2 65 "PointMill$Region" "bestX" "I" ∈ wsX2_findBest := by decide +kernel
theorem wd_X2_findBest_f68 : Cond.fieldLink RX2 68 "PointMill$Region" "bestY" "I" ∈ wsX2_findBest := by decide +kernel
set_option maxHeartbeats 4000000 in
set_option maxRecDepth 100000 in
/-- Region.findBest -/
theorem c_X2_findBest (l : Launch) (G : zG) (sz : Nat) (h0 : Nat) (ra : Nat) (rb : Nat) (rc : Nat) (P : Nat → Int) (Qu : Nat → Int) (M : Nat → Int) (k : Nat) (f0 : Int) (l0 : Int) (b0 : Int) (t0 : Int) (x0 : Int) (y0 : Int) (pp : Int) (qq : Int) (hk : k ≤ 10) (hP0 : ∀ j, j < k → -60 ≤ P j ∧ P j ≤ 60) (hQ0 : ∀ j, j < k → -60 ≤ Qu j ∧ Qu j ≤ 60) (hM0 : ∀ j, j < k → -9999 ≤ M j ∧ M j ≤ 9999) (hz : ∀ i, i < k → ¬ (P i = 0 ∧ Qu i = 0)) (hp : -99 ≤ pp ∧ pp ≤ 99) (hq : -99 ≤ qq ∧ qq ≤ 99) : Met l yX2_findBest wsX2_findBest ({ frames := 3, cells := 0, slots := 0, locals := 66 }) (va_Pc [.ref h0, .int (zI pp), .int (zI qq)] (zPre G sz [(h0, .inr (2, [.ref ra, .ref rb, .ref rc, .int (zI (k : Int)), .int (zI f0), .int (zI l0), .int (zI b0), .int (zI t0), .int (zI x0), .int (zI y0)])), zci G ra 10 P, zci G rb 10 Qu, zci G rc 10 M])) (va_Qi (fun (r : Int32) (u : (Int) × (Int) × (Int) × (Int) × (Int) × (Int) × (Int)) => r = zI u.2.2.2.2.2.2 ∧ ((u.2.2.2.2.2.2 = 0 ∧ znone P Qu M k 2000001) ∨ (u.2.2.2.2.2.2 = 1 ∧ zbestc P Qu M k pp qq 2000001 u.2.2.2.2.1 u.2.2.2.2.2.1))) (fun u => zW G (va_A [(h0, .inr (2, [.ref ra, .ref rb, .ref rc, .int (zI (k : Int)), .int (zI f0), .int (zI l0), .int (zI b0), .int (zI t0), .int (zI x0), .int (zI y0)])), zci G ra 10 P, zci G rb 10 Qu, zci G rc 10 M] sz) ((fun (u : (Int) × (Int) × (Int) × (Int) × (Int) × (Int) × (Int)) => [(h0, .inr (2, [.ref ra, .ref rb, .ref rc, .int (zI (k : Int)), .int (zI u.1), .int (zI u.2.1), .int (zI u.2.2.1), .int (zI u.2.2.2.1), .int (zI u.2.2.2.2.1), .int (zI u.2.2.2.2.2.1)])), zci G ra 10 P, zci G rb 10 Qu, zci G rc 10 M]) u)) (va_A [(h0, .inr (2, [.ref ra, .ref rb, .ref rc, .int (zI (k : Int)), .int (zI f0), .int (zI l0), .int (zI b0), .int (zI t0), .int (zI x0), .int (zI y0)])), zci G ra 10 P, zci G rb 10 Qu, zci G rc 10 M] sz)) 0 0 (va_A [(h0, .inr (2, [.ref ra, .ref rb, .ref rc, .int (zI (k : Int)), .int (zI f0), .int (zI l0), .int (zI b0), .int (zI t0), .int (zI x0), .int (zI y0)])), zci G ra 10 P, zci G rb 10 Qu, zci G rc 10 M] sz) := by
  refine zM_z (post := fun (r : Int32) (u : (Int) × (Int) × (Int) × (Int) × (Int) × (Int) × (Int)) => r = zI u.2.2.2.2.2.2 ∧ ((u.2.2.2.2.2.2 = 0 ∧ znone P Qu M k 2000001) ∨ (u.2.2.2.2.2.2 = 1 ∧ zbestc P Qu M k pp qq 2000001 u.2.2.2.2.1 u.2.2.2.2.2.1))) (w1 := fun (u : (Int) × (Int) × (Int) × (Int) × (Int) × (Int) × (Int)) => [(h0, .inr (2, [.ref ra, .ref rb, .ref rc, .int (zI (k : Int)), .int (zI u.1), .int (zI u.2.1), .int (zI u.2.2.1), .int (zI u.2.2.2.1), .int (zI u.2.2.2.2.1), .int (zI u.2.2.2.2.2.1)])), zci G ra 10 P, zci G rb 10 Qu, zci G rc 10 M]) (plainFor_of_name (by decide)) rfl (Nat.le_of_ble_eq_true rfl) ?_
  intro p e s m below meth c A Q S hN hK hP hD hS hA hret ls hl
  have hl : lv_has ls 6 [(0, .ref h0), (1, .int (zI pp)), (2, .int (zI qq))] := hl
  refine zv_iconst S dX2_findBest_0 ?_
  refine zv_istore_n (lv' := [(3, .int (zI 0)), (0, .ref h0), (1, .int (zI pp)), (2, .int (zI qq))]) S dX2_findBest_1 rfl hl (by decide) rfl (fun ls hl => ?_)
  refine zv_aload_n S dX2_findBest_2 rfl (lv_at hl 1 rfl) ?_
  refine zc_Vv (As := []) (rest := []) (wr := []) (n := 0) S hN hK hP hD hS hA hl (c_X2_findColumns l G s.heap.size h0 ra rb rc P Qu M k f0 l0 b0 t0 x0 y0 (by omega) (by omega) (by omega) (by omega)) gX2_findBest_X2_findColumns rfl ⟨rfl, rfl⟩ (by decide +kernel) rfl ⟨Nat.le_of_ble_eq_true rfl, Nat.le_of_ble_eq_true rfl, Nat.le_of_ble_eq_true rfl, Nat.le_of_ble_eq_true rfl⟩ [0, 1, 2, 3] [] rfl rfl (by decide) (by decide) (by decide) (ci := 2) rfl rfl rfl (Nat.le_of_ble_eq_true rfl) dX2_findBest_3 rfl (fun u_1 H1 locs1 hp_2 hP1 hD1 hS1 hz1 => ?_)
  obtain ⟨ff_3, ll_4⟩ := u_1
  try dsimp only at hp_2 hP1 hD1
  obtain ⟨hff_5, hll_6, hcc_7⟩ := hp_2
  generalize H1 = H at hP1 hD1 hS1 hz1 ⊢
  generalize locs1 = locs at hS1 ⊢
  have hS := hS1
  have hP : va_P G.1 vwCl [(h0, .inr (2, [.ref ra, .ref rb, .ref rc, .int (zI (k : Int)), .int (zI ff_3), .int (zI ll_4), .int (zI b0), .int (zI t0), .int (zI x0), .int (zI y0)])), zci G ra 10 P, zci G rb 10 Qu, zci G rc 10 M] H := hP1
  have hD : va_D A [(h0, .inr (2, [.ref ra, .ref rb, .ref rc, .int (zI (k : Int)), .int (zI ff_3), .int (zI ll_4), .int (zI b0), .int (zI t0), .int (zI x0), .int (zI y0)])), zci G ra 10 P, zci G rb 10 Qu, zci G rc 10 M] := hD1
  refine zv_aload_n S dX2_findBest_6 rfl (lv_at hl 1 rfl) ?_
  refine zv_get (C := RX2) (T := TX2) (N := 10) (ci := 2) (v := .int (zI ff_3)) S in_X2_findBest_X2 hK hP 0 rfl rfl 4 (by decide) wd_X2_findBest_f43 rfl rfl dX2_findBest_7 ?_
  refine zv_istore (lv' := [(4, .int (zI ff_3)), (3, .int (zI 0)), (0, .ref h0), (1, .int (zI pp)), (2, .int (zI qq))]) S dX2_findBest_10 hl (by decide) rfl (fun ls hl => ?_)
  have LP12 : ∀ (nf : Nat) (x1 : Int) (fl : Int) (b1 : Int) (t1 : Int) (u1 : Int) (u2 : Int) (hx1 : ff_3 ≤ x1 ∧ x1 ≤ 2000001) (hst : zbst P Qu M k pp qq x1 fl u1 u2), ((2000001 - x1).toNat) < nf → ∀ (H : Heap) (locs : List Loc), va_P G.1 vwCl [(h0, .inr (2, [.ref ra, .ref rb, .ref rc, .int (zI (k : Int)), .int (zI ff_3), .int (zI ll_4), .int (zI b1), .int (zI t1), .int (zI u1), .int (zI u2)])), zci G ra 10 P, zci G rb 10 Qu, zci G rc 10 M] H → va_D A [(h0, .inr (2, [.ref ra, .ref rb, .ref rc, .int (zI (k : Int)), .int (zI ff_3), .int (zI ll_4), .int (zI b1), .int (zI t1), .int (zI u1), .int (zI u2)])), zci G ra 10 P, zci G rb 10 Qu, zci G rc 10 M] → va_S A s.heap H locs → ∀ ls : Array Slot, lv_has ls 6 [(4, .int (zI x1)), (3, .int (zI fl)), (0, .ref h0), (1, .int (zI pp)), (2, .int (zI qq))] → W p l e ({ frames := 3, cells := 0, slots := 0, locals := 66 }) s m ([.ref h0, .int (zI pp), .int (zI qq)]).toArray below meth c H locs 0 0 Q (F0 m 12 ls []) := by
    intro nf
    induction nf with
    | zero =>
      intro x1 fl b1 t1 u1 u2 hx1 hst hf
      exact absurd hf (Nat.not_lt_zero _)
    | succ nf ih12 =>
      intro x1 fl b1 t1 u1 u2 hx1 hst hf H locs hP hD hS ls hl
      refine zv_iload S dX2_findBest_12 (lv_at hl 0 rfl) ?_
      refine zv_aload_n S dX2_findBest_14 rfl (lv_at hl 2 rfl) ?_
      refine zv_get (C := RX2) (T := TX2) (N := 10) (ci := 2) (v := .int (zI ll_4)) S in_X2_findBest_X2 hK hP 0 rfl rfl 5 (by decide) wd_X2_findBest_f46 rfl rfl dX2_findBest_15 ?_
      refine zv_icmp_gt (tgt := 104) S (by unfold zR; omega) (by unfold zR; omega) dX2_findBest_18 (by decide) (fun c_8 => ?_) (fun c_8 => ?_)
      · refine zv_iload_n S dX2_findBest_104 rfl (lv_at hl 1 rfl) ?_
        exact hret _ _ _ _ _ ⟨ff_3, ll_4, b1, t1, u1, u2, fl⟩ dX2_findBest_105 (by rcases hst with h | h; exact Or.inl (congrArg zI h.1); exact Or.inr (congrArg zI h.1)) ⟨rfl, (show (fl = 0 ∧ znone P Qu M k 2000001) ∨ (fl = 1 ∧ zbestc P Qu M k pp qq 2000001 u1 u2) from (zbs_end hcc_7 (by omega) hx1.2 hst))⟩ (hP.sub [0, 1, 2, 3] rfl) (hD.sub [0, 1, 2, 3] (by decide) rfl) hS
      · refine zv_aload_n S dX2_findBest_21 rfl (lv_at hl 2 rfl) ?_
        refine zv_iload S dX2_findBest_22 (lv_at hl 0 rfl) ?_
        refine zc_Vv (As := [.int (zI x1)]) (rest := []) (wr := []) (n := 1) S hN hK hP hD hS hA hl (c_X2_findEnds l G H.size h0 ra rb rc P Qu M k ff_3 ll_4 b1 t1 u1 u2 x1 hk hP0 hQ0 hM0 (by omega)) gX2_findBest_X2_findEnds rfl ⟨rfl, rfl⟩ (by decide +kernel) rfl ⟨Nat.le_of_ble_eq_true rfl, Nat.le_of_ble_eq_true rfl, Nat.le_of_ble_eq_true rfl, Nat.le_of_ble_eq_true rfl⟩ [0, 1, 2, 3] [] rfl rfl (by decide) (by decide) (by decide) (ci := 2) rfl rfl rfl (Nat.le_of_ble_eq_true rfl) dX2_findBest_24 rfl (fun u_9 H1 locs1 hp_10 hP1 hD1 hS1 hz1 => ?_)
        obtain ⟨bt_11, tp_12⟩ := u_9
        try dsimp only at hp_10 hP1 hD1
        obtain ⟨hbt_13, htp_14, hen_15⟩ := hp_10
        generalize H1 = H at hP1 hD1 hS1 hz1 ⊢
        generalize locs1 = locs at hS1 ⊢
        have hS := hS1
        have hP : va_P G.1 vwCl [(h0, .inr (2, [.ref ra, .ref rb, .ref rc, .int (zI (k : Int)), .int (zI ff_3), .int (zI ll_4), .int (zI bt_11), .int (zI tp_12), .int (zI u1), .int (zI u2)])), zci G ra 10 P, zci G rb 10 Qu, zci G rc 10 M] H := hP1
        have hD : va_D A [(h0, .inr (2, [.ref ra, .ref rb, .ref rc, .int (zI (k : Int)), .int (zI ff_3), .int (zI ll_4), .int (zI bt_11), .int (zI tp_12), .int (zI u1), .int (zI u2)])), zci G ra 10 P, zci G rb 10 Qu, zci G rc 10 M] := hD1
        refine zv_iload_n S dX2_findBest_27 rfl (lv_at hl 4 rfl) ?_
        refine zv_if_le (tgt := 38) S (by unfold zR; omega) dX2_findBest_28 (by decide) (fun c_16 => ?_) (fun c_16 => ?_)
        · refine zv_aload_n S dX2_findBest_38 rfl (lv_at hl 2 rfl) ?_
          refine zv_get (C := RX2) (T := TX2) (N := 10) (ci := 2) (v := .int (zI bt_11)) S in_X2_findBest_X2 hK hP 0 rfl rfl 6 (by decide) wd_X2_findBest_f56 rfl rfl dX2_findBest_39 ?_
          refine zv_istore (lv' := [(5, .int (zI bt_11)), (4, .int (zI x1)), (3, .int (zI fl)), (0, .ref h0), (1, .int (zI pp)), (2, .int (zI qq))]) S dX2_findBest_42 hl (by decide) rfl (fun ls hl => ?_)
          refine zv_aload_n S dX2_findBest_44 rfl (lv_at hl 3 rfl) ?_
          refine zv_get (C := RX2) (T := TX2) (N := 10) (ci := 2) (v := .int (zI bt_11)) S in_X2_findBest_X2 hK hP 0 rfl rfl 6 (by decide) wd_X2_findBest_f56 rfl rfl dX2_findBest_45 ?_
          refine zv_aload_n S dX2_findBest_48 rfl (lv_at hl 3 rfl) ?_
          refine zv_get (C := RX2) (T := TX2) (N := 10) (ci := 2) (v := .int (zI tp_12)) S in_X2_findBest_X2 hK hP 0 rfl rfl 7 (by decide) wd_X2_findBest_f53 rfl rfl dX2_findBest_49 ?_
          refine zv_icmp_gt (tgt := 98) S (by unfold zR; omega) (by unfold zR; omega) dX2_findBest_52 (by decide) (fun c_17 => ?_) (fun c_17 => ?_)
          · refine zv_iinc (k0 := 1) (lv' := [(4, .int (zI (x1 + 1))), (5, .int (zI bt_11)), (3, .int (zI fl)), (0, .ref h0), (1, .int (zI pp)), (2, .int (zI qq))]) S dX2_findBest_98 hl rfl (by decide) rfl (fun ls hl => ?_)
            refine zv_goto (tgt := 12) S dX2_findBest_101 (by decide) ?_
            exact ih12 (x1 + 1) fl bt_11 tp_12 u1 u2 (by omega) (zbs_no hst (zcol_none hen_15 (by omega))) (by omega) _ _ hP hD hS _ (lv_sub hl [0, 2, 3, 4, 5] rfl)
          · refine zv_iload_n S dX2_findBest_55 rfl (lv_at hl 2 rfl) ?_
            refine zv_if_eq (tgt := 84) S (by unfold zR; rcases hst with h | h <;> omega) dX2_findBest_56 (by decide) (fun c_18 => ?_) (fun c_18 => ?_)
            · refine zv_iconst S dX2_findBest_84 ?_
              refine zv_istore_n (lv' := [(3, .int (zI 1)), (5, .int (zI bt_11)), (4, .int (zI x1)), (0, .ref h0), (1, .int (zI pp)), (2, .int (zI qq))]) S dX2_findBest_85 rfl hl (by decide) rfl (fun ls hl => ?_)
              refine zv_aload_n S dX2_findBest_86 rfl (lv_at hl 3 rfl) ?_
              refine zv_iload S dX2_findBest_87 (lv_at hl 2 rfl) ?_
              refine zv_put (C := RX2) (T := TX2) (N := 10) (ci := 2) (v := .int (zI x1)) S in_X2_findBest_X2 tyX2 tyX2_ok nmX2 hK hP hD hS 0 rfl rfl 8 (by decide) wd_X2_findBest_f65 rfl rfl rfl rfl (Nat.le_of_ble_eq_true rfl) dX2_findBest_89 (fun H locs hP hD hS => ?_)
              have hP : va_P G.1 vwCl [(h0, .inr (2, [.ref ra, .ref rb, .ref rc, .int (zI (k : Int)), .int (zI ff_3), .int (zI ll_4), .int (zI bt_11), .int (zI tp_12), .int (zI x1), .int (zI u2)])), zci G ra 10 P, zci G rb 10 Qu, zci G rc 10 M] H := hP
              have hD : va_D A [(h0, .inr (2, [.ref ra, .ref rb, .ref rc, .int (zI (k : Int)), .int (zI ff_3), .int (zI ll_4), .int (zI bt_11), .int (zI tp_12), .int (zI x1), .int (zI u2)])), zci G ra 10 P, zci G rb 10 Qu, zci G rc 10 M] := hD
              refine zv_aload_n S dX2_findBest_92 rfl (lv_at hl 3 rfl) ?_
              refine zv_iload S dX2_findBest_93 (lv_at hl 1 rfl) ?_
              refine zv_put (C := RX2) (T := TX2) (N := 10) (ci := 2) (v := .int (zI bt_11)) S in_X2_findBest_X2 tyX2 tyX2_ok nmX2 hK hP hD hS 0 rfl rfl 9 (by decide) wd_X2_findBest_f68 rfl rfl rfl rfl (Nat.le_of_ble_eq_true rfl) dX2_findBest_95 (fun H locs hP hD hS => ?_)
              have hP : va_P G.1 vwCl [(h0, .inr (2, [.ref ra, .ref rb, .ref rc, .int (zI (k : Int)), .int (zI ff_3), .int (zI ll_4), .int (zI bt_11), .int (zI tp_12), .int (zI x1), .int (zI bt_11)])), zci G ra 10 P, zci G rb 10 Qu, zci G rc 10 M] H := hP
              have hD : va_D A [(h0, .inr (2, [.ref ra, .ref rb, .ref rc, .int (zI (k : Int)), .int (zI ff_3), .int (zI ll_4), .int (zI bt_11), .int (zI tp_12), .int (zI x1), .int (zI bt_11)])), zci G ra 10 P, zci G rb 10 Qu, zci G rc 10 M] := hD
              refine zv_iinc (k0 := 2) (lv' := [(4, .int (zI (x1 + 1))), (3, .int (zI 1)), (5, .int (zI bt_11)), (0, .ref h0), (1, .int (zI pp)), (2, .int (zI qq))]) S dX2_findBest_98 hl rfl (by decide) rfl (fun ls hl => ?_)
              refine zv_goto (tgt := 12) S dX2_findBest_101 (by decide) ?_
              exact ih12 (x1 + 1) 1 bt_11 tp_12 x1 bt_11 (by omega) (zbs_first hst (by omega) (by omega) (zendb_bot hz (((hcc_7 x1).mp (by omega)).2.2) hen_15 (by omega) (by omega))) (by omega) _ _ hP hD hS _ (lv_sub hl [0, 1, 3, 4, 5] rfl)
            · have hbb : -2000000 ≤ u1 ∧ u1 ≤ 2000000 ∧ -2000000 ≤ u2 ∧ u2 ≤ 2000000 := zbs_bounds hst (by omega) (by omega)
              refine zv_iload_n S dX2_findBest_59 rfl (lv_at hl 4 rfl) ?_
              refine zv_iload S dX2_findBest_60 (lv_at hl 1 rfl) ?_
              refine zv_imul S dX2_findBest_62 ?_
              refine zv_iload_n S dX2_findBest_63 rfl (lv_at hl 5 rfl) ?_
              refine zv_iload S dX2_findBest_64 (lv_at hl 0 rfl) ?_
              refine zv_imul S dX2_findBest_66 ?_
              refine zv_iadd S dX2_findBest_67 ?_
              refine zv_iload_n S dX2_findBest_68 rfl (lv_at hl 4 rfl) ?_
              refine zv_aload_n S dX2_findBest_69 rfl (lv_at hl 3 rfl) ?_
              refine zv_get (C := RX2) (T := TX2) (N := 10) (ci := 2) (v := .int (zI u1)) S in_X2_findBest_X2 hK hP 0 rfl rfl 8 (by decide) wd_X2_findBest_f65 rfl rfl dX2_findBest_70 ?_
              refine zv_imul S dX2_findBest_73 ?_
              refine zv_iload_n S dX2_findBest_74 rfl (lv_at hl 5 rfl) ?_
              refine zv_aload_n S dX2_findBest_75 rfl (lv_at hl 3 rfl) ?_
              refine zv_get (C := RX2) (T := TX2) (N := 10) (ci := 2) (v := .int (zI u2)) S in_X2_findBest_X2 hK hP 0 rfl rfl 9 (by decide) wd_X2_findBest_f68 rfl rfl dX2_findBest_76 ?_
              refine zv_imul S dX2_findBest_79 ?_
              refine zv_iadd S dX2_findBest_80 ?_
              have e1 := zmulb (a := pp) (b := x1) (A := 99) (B := 2000000) (by omega) (by omega) (by omega) (by omega)
              have e2 := zmulb (a := qq) (b := bt_11) (A := 99) (B := 2000000) (by omega) (by omega) (by omega) (by omega)
              have e3 := zmulb (a := pp) (b := u1) (A := 99) (B := 2000000) (by omega) (by omega) (by omega) (by omega)
              have e4 := zmulb (a := qq) (b := u2) (A := 99) (B := 2000000) (by omega) (by omega) (by omega) (by omega)
              refine zv_icmp_le (tgt := 98) S (by unfold zR; omega) (by unfold zR; omega) dX2_findBest_81 (by decide) (fun c_19 => ?_) (fun c_19 => ?_)
              · refine zv_iinc (k0 := 1) (lv' := [(4, .int (zI (x1 + 1))), (5, .int (zI bt_11)), (3, .int (zI fl)), (0, .ref h0), (1, .int (zI pp)), (2, .int (zI qq))]) S dX2_findBest_98 hl rfl (by decide) rfl (fun ls hl => ?_)
                refine zv_goto (tgt := 12) S dX2_findBest_101 (by decide) ?_
                exact ih12 (x1 + 1) fl bt_11 tp_12 u1 u2 (by omega) (zbs_keep hst (by omega) (zendb_bot hz (((hcc_7 x1).mp (by omega)).2.2) hen_15 (by omega) (by omega)) (by omega)) (by omega) _ _ hP hD hS _ (lv_sub hl [0, 2, 3, 4, 5] rfl)
              · refine zv_iconst S dX2_findBest_84 ?_
                refine zv_istore_n (lv' := [(3, .int (zI 1)), (5, .int (zI bt_11)), (4, .int (zI x1)), (0, .ref h0), (1, .int (zI pp)), (2, .int (zI qq))]) S dX2_findBest_85 rfl hl (by decide) rfl (fun ls hl => ?_)
                refine zv_aload_n S dX2_findBest_86 rfl (lv_at hl 3 rfl) ?_
                refine zv_iload S dX2_findBest_87 (lv_at hl 2 rfl) ?_
                refine zv_put (C := RX2) (T := TX2) (N := 10) (ci := 2) (v := .int (zI x1)) S in_X2_findBest_X2 tyX2 tyX2_ok nmX2 hK hP hD hS 0 rfl rfl 8 (by decide) wd_X2_findBest_f65 rfl rfl rfl rfl (Nat.le_of_ble_eq_true rfl) dX2_findBest_89 (fun H locs hP hD hS => ?_)
                have hP : va_P G.1 vwCl [(h0, .inr (2, [.ref ra, .ref rb, .ref rc, .int (zI (k : Int)), .int (zI ff_3), .int (zI ll_4), .int (zI bt_11), .int (zI tp_12), .int (zI x1), .int (zI u2)])), zci G ra 10 P, zci G rb 10 Qu, zci G rc 10 M] H := hP
                have hD : va_D A [(h0, .inr (2, [.ref ra, .ref rb, .ref rc, .int (zI (k : Int)), .int (zI ff_3), .int (zI ll_4), .int (zI bt_11), .int (zI tp_12), .int (zI x1), .int (zI u2)])), zci G ra 10 P, zci G rb 10 Qu, zci G rc 10 M] := hD
                refine zv_aload_n S dX2_findBest_92 rfl (lv_at hl 3 rfl) ?_
                refine zv_iload S dX2_findBest_93 (lv_at hl 1 rfl) ?_
                refine zv_put (C := RX2) (T := TX2) (N := 10) (ci := 2) (v := .int (zI bt_11)) S in_X2_findBest_X2 tyX2 tyX2_ok nmX2 hK hP hD hS 0 rfl rfl 9 (by decide) wd_X2_findBest_f68 rfl rfl rfl rfl (Nat.le_of_ble_eq_true rfl) dX2_findBest_95 (fun H locs hP hD hS => ?_)
                have hP : va_P G.1 vwCl [(h0, .inr (2, [.ref ra, .ref rb, .ref rc, .int (zI (k : Int)), .int (zI ff_3), .int (zI ll_4), .int (zI bt_11), .int (zI tp_12), .int (zI x1), .int (zI bt_11)])), zci G ra 10 P, zci G rb 10 Qu, zci G rc 10 M] H := hP
                have hD : va_D A [(h0, .inr (2, [.ref ra, .ref rb, .ref rc, .int (zI (k : Int)), .int (zI ff_3), .int (zI ll_4), .int (zI bt_11), .int (zI tp_12), .int (zI x1), .int (zI bt_11)])), zci G ra 10 P, zci G rb 10 Qu, zci G rc 10 M] := hD
                refine zv_iinc (k0 := 2) (lv' := [(4, .int (zI (x1 + 1))), (3, .int (zI 1)), (5, .int (zI bt_11)), (0, .ref h0), (1, .int (zI pp)), (2, .int (zI qq))]) S dX2_findBest_98 hl rfl (by decide) rfl (fun ls hl => ?_)
                refine zv_goto (tgt := 12) S dX2_findBest_101 (by decide) ?_
                exact ih12 (x1 + 1) 1 bt_11 tp_12 x1 bt_11 (by omega) (zbs_better hst (by omega) (by omega) (zendb_bot hz (((hcc_7 x1).mp (by omega)).2.2) hen_15 (by omega) (by omega)) (by omega)) (by omega) _ _ hP hD hS _ (lv_sub hl [0, 1, 3, 4, 5] rfl)
        · refine zv_aload_n S dX2_findBest_31 rfl (lv_at hl 2 rfl) ?_
          refine zv_get (C := RX2) (T := TX2) (N := 10) (ci := 2) (v := .int (zI tp_12)) S in_X2_findBest_X2 hK hP 0 rfl rfl 7 (by decide) wd_X2_findBest_f53 rfl rfl dX2_findBest_32 ?_
          refine zv_goto (tgt := 42) S dX2_findBest_35 (by decide) ?_
          refine zv_istore (lv' := [(5, .int (zI tp_12)), (4, .int (zI x1)), (3, .int (zI fl)), (0, .ref h0), (1, .int (zI pp)), (2, .int (zI qq))]) S dX2_findBest_42 hl (by decide) rfl (fun ls hl => ?_)
          refine zv_aload_n S dX2_findBest_44 rfl (lv_at hl 3 rfl) ?_
          refine zv_get (C := RX2) (T := TX2) (N := 10) (ci := 2) (v := .int (zI bt_11)) S in_X2_findBest_X2 hK hP 0 rfl rfl 6 (by decide) wd_X2_findBest_f56 rfl rfl dX2_findBest_45 ?_
          refine zv_aload_n S dX2_findBest_48 rfl (lv_at hl 3 rfl) ?_
          refine zv_get (C := RX2) (T := TX2) (N := 10) (ci := 2) (v := .int (zI tp_12)) S in_X2_findBest_X2 hK hP 0 rfl rfl 7 (by decide) wd_X2_findBest_f53 rfl rfl dX2_findBest_49 ?_
          refine zv_icmp_gt (tgt := 98) S (by unfold zR; omega) (by unfold zR; omega) dX2_findBest_52 (by decide) (fun c_20 => ?_) (fun c_20 => ?_)
          · refine zv_iinc (k0 := 1) (lv' := [(4, .int (zI (x1 + 1))), (5, .int (zI tp_12)), (3, .int (zI fl)), (0, .ref h0), (1, .int (zI pp)), (2, .int (zI qq))]) S dX2_findBest_98 hl rfl (by decide) rfl (fun ls hl => ?_)
            refine zv_goto (tgt := 12) S dX2_findBest_101 (by decide) ?_
            exact ih12 (x1 + 1) fl bt_11 tp_12 u1 u2 (by omega) (zbs_no hst (zcol_none hen_15 (by omega))) (by omega) _ _ hP hD hS _ (lv_sub hl [0, 2, 3, 4, 5] rfl)
          · refine zv_iload_n S dX2_findBest_55 rfl (lv_at hl 2 rfl) ?_
            refine zv_if_eq (tgt := 84) S (by unfold zR; rcases hst with h | h <;> omega) dX2_findBest_56 (by decide) (fun c_21 => ?_) (fun c_21 => ?_)
            · refine zv_iconst S dX2_findBest_84 ?_
              refine zv_istore_n (lv' := [(3, .int (zI 1)), (5, .int (zI tp_12)), (4, .int (zI x1)), (0, .ref h0), (1, .int (zI pp)), (2, .int (zI qq))]) S dX2_findBest_85 rfl hl (by decide) rfl (fun ls hl => ?_)
              refine zv_aload_n S dX2_findBest_86 rfl (lv_at hl 3 rfl) ?_
              refine zv_iload S dX2_findBest_87 (lv_at hl 2 rfl) ?_
              refine zv_put (C := RX2) (T := TX2) (N := 10) (ci := 2) (v := .int (zI x1)) S in_X2_findBest_X2 tyX2 tyX2_ok nmX2 hK hP hD hS 0 rfl rfl 8 (by decide) wd_X2_findBest_f65 rfl rfl rfl rfl (Nat.le_of_ble_eq_true rfl) dX2_findBest_89 (fun H locs hP hD hS => ?_)
              have hP : va_P G.1 vwCl [(h0, .inr (2, [.ref ra, .ref rb, .ref rc, .int (zI (k : Int)), .int (zI ff_3), .int (zI ll_4), .int (zI bt_11), .int (zI tp_12), .int (zI x1), .int (zI u2)])), zci G ra 10 P, zci G rb 10 Qu, zci G rc 10 M] H := hP
              have hD : va_D A [(h0, .inr (2, [.ref ra, .ref rb, .ref rc, .int (zI (k : Int)), .int (zI ff_3), .int (zI ll_4), .int (zI bt_11), .int (zI tp_12), .int (zI x1), .int (zI u2)])), zci G ra 10 P, zci G rb 10 Qu, zci G rc 10 M] := hD
              refine zv_aload_n S dX2_findBest_92 rfl (lv_at hl 3 rfl) ?_
              refine zv_iload S dX2_findBest_93 (lv_at hl 1 rfl) ?_
              refine zv_put (C := RX2) (T := TX2) (N := 10) (ci := 2) (v := .int (zI tp_12)) S in_X2_findBest_X2 tyX2 tyX2_ok nmX2 hK hP hD hS 0 rfl rfl 9 (by decide) wd_X2_findBest_f68 rfl rfl rfl rfl (Nat.le_of_ble_eq_true rfl) dX2_findBest_95 (fun H locs hP hD hS => ?_)
              have hP : va_P G.1 vwCl [(h0, .inr (2, [.ref ra, .ref rb, .ref rc, .int (zI (k : Int)), .int (zI ff_3), .int (zI ll_4), .int (zI bt_11), .int (zI tp_12), .int (zI x1), .int (zI tp_12)])), zci G ra 10 P, zci G rb 10 Qu, zci G rc 10 M] H := hP
              have hD : va_D A [(h0, .inr (2, [.ref ra, .ref rb, .ref rc, .int (zI (k : Int)), .int (zI ff_3), .int (zI ll_4), .int (zI bt_11), .int (zI tp_12), .int (zI x1), .int (zI tp_12)])), zci G ra 10 P, zci G rb 10 Qu, zci G rc 10 M] := hD
              refine zv_iinc (k0 := 2) (lv' := [(4, .int (zI (x1 + 1))), (3, .int (zI 1)), (5, .int (zI tp_12)), (0, .ref h0), (1, .int (zI pp)), (2, .int (zI qq))]) S dX2_findBest_98 hl rfl (by decide) rfl (fun ls hl => ?_)
              refine zv_goto (tgt := 12) S dX2_findBest_101 (by decide) ?_
              exact ih12 (x1 + 1) 1 bt_11 tp_12 x1 tp_12 (by omega) (zbs_first hst (by omega) (by omega) (zendb_top hz (((hcc_7 x1).mp (by omega)).2.2) hen_15 (by omega) (by omega))) (by omega) _ _ hP hD hS _ (lv_sub hl [0, 1, 3, 4, 5] rfl)
            · have hbb : -2000000 ≤ u1 ∧ u1 ≤ 2000000 ∧ -2000000 ≤ u2 ∧ u2 ≤ 2000000 := zbs_bounds hst (by omega) (by omega)
              refine zv_iload_n S dX2_findBest_59 rfl (lv_at hl 4 rfl) ?_
              refine zv_iload S dX2_findBest_60 (lv_at hl 1 rfl) ?_
              refine zv_imul S dX2_findBest_62 ?_
              refine zv_iload_n S dX2_findBest_63 rfl (lv_at hl 5 rfl) ?_
              refine zv_iload S dX2_findBest_64 (lv_at hl 0 rfl) ?_
              refine zv_imul S dX2_findBest_66 ?_
              refine zv_iadd S dX2_findBest_67 ?_
              refine zv_iload_n S dX2_findBest_68 rfl (lv_at hl 4 rfl) ?_
              refine zv_aload_n S dX2_findBest_69 rfl (lv_at hl 3 rfl) ?_
              refine zv_get (C := RX2) (T := TX2) (N := 10) (ci := 2) (v := .int (zI u1)) S in_X2_findBest_X2 hK hP 0 rfl rfl 8 (by decide) wd_X2_findBest_f65 rfl rfl dX2_findBest_70 ?_
              refine zv_imul S dX2_findBest_73 ?_
              refine zv_iload_n S dX2_findBest_74 rfl (lv_at hl 5 rfl) ?_
              refine zv_aload_n S dX2_findBest_75 rfl (lv_at hl 3 rfl) ?_
              refine zv_get (C := RX2) (T := TX2) (N := 10) (ci := 2) (v := .int (zI u2)) S in_X2_findBest_X2 hK hP 0 rfl rfl 9 (by decide) wd_X2_findBest_f68 rfl rfl dX2_findBest_76 ?_
              refine zv_imul S dX2_findBest_79 ?_
              refine zv_iadd S dX2_findBest_80 ?_
              have e1 := zmulb (a := pp) (b := x1) (A := 99) (B := 2000000) (by omega) (by omega) (by omega) (by omega)
              have e2 := zmulb (a := qq) (b := tp_12) (A := 99) (B := 2000000) (by omega) (by omega) (by omega) (by omega)
              have e3 := zmulb (a := pp) (b := u1) (A := 99) (B := 2000000) (by omega) (by omega) (by omega) (by omega)
              have e4 := zmulb (a := qq) (b := u2) (A := 99) (B := 2000000) (by omega) (by omega) (by omega) (by omega)
              refine zv_icmp_le (tgt := 98) S (by unfold zR; omega) (by unfold zR; omega) dX2_findBest_81 (by decide) (fun c_22 => ?_) (fun c_22 => ?_)
              · refine zv_iinc (k0 := 1) (lv' := [(4, .int (zI (x1 + 1))), (5, .int (zI tp_12)), (3, .int (zI fl)), (0, .ref h0), (1, .int (zI pp)), (2, .int (zI qq))]) S dX2_findBest_98 hl rfl (by decide) rfl (fun ls hl => ?_)
                refine zv_goto (tgt := 12) S dX2_findBest_101 (by decide) ?_
                exact ih12 (x1 + 1) fl bt_11 tp_12 u1 u2 (by omega) (zbs_keep hst (by omega) (zendb_top hz (((hcc_7 x1).mp (by omega)).2.2) hen_15 (by omega) (by omega)) (by omega)) (by omega) _ _ hP hD hS _ (lv_sub hl [0, 2, 3, 4, 5] rfl)
              · refine zv_iconst S dX2_findBest_84 ?_
                refine zv_istore_n (lv' := [(3, .int (zI 1)), (5, .int (zI tp_12)), (4, .int (zI x1)), (0, .ref h0), (1, .int (zI pp)), (2, .int (zI qq))]) S dX2_findBest_85 rfl hl (by decide) rfl (fun ls hl => ?_)
                refine zv_aload_n S dX2_findBest_86 rfl (lv_at hl 3 rfl) ?_
                refine zv_iload S dX2_findBest_87 (lv_at hl 2 rfl) ?_
                refine zv_put (C := RX2) (T := TX2) (N := 10) (ci := 2) (v := .int (zI x1)) S in_X2_findBest_X2 tyX2 tyX2_ok nmX2 hK hP hD hS 0 rfl rfl 8 (by decide) wd_X2_findBest_f65 rfl rfl rfl rfl (Nat.le_of_ble_eq_true rfl) dX2_findBest_89 (fun H locs hP hD hS => ?_)
                have hP : va_P G.1 vwCl [(h0, .inr (2, [.ref ra, .ref rb, .ref rc, .int (zI (k : Int)), .int (zI ff_3), .int (zI ll_4), .int (zI bt_11), .int (zI tp_12), .int (zI x1), .int (zI u2)])), zci G ra 10 P, zci G rb 10 Qu, zci G rc 10 M] H := hP
                have hD : va_D A [(h0, .inr (2, [.ref ra, .ref rb, .ref rc, .int (zI (k : Int)), .int (zI ff_3), .int (zI ll_4), .int (zI bt_11), .int (zI tp_12), .int (zI x1), .int (zI u2)])), zci G ra 10 P, zci G rb 10 Qu, zci G rc 10 M] := hD
                refine zv_aload_n S dX2_findBest_92 rfl (lv_at hl 3 rfl) ?_
                refine zv_iload S dX2_findBest_93 (lv_at hl 1 rfl) ?_
                refine zv_put (C := RX2) (T := TX2) (N := 10) (ci := 2) (v := .int (zI tp_12)) S in_X2_findBest_X2 tyX2 tyX2_ok nmX2 hK hP hD hS 0 rfl rfl 9 (by decide) wd_X2_findBest_f68 rfl rfl rfl rfl (Nat.le_of_ble_eq_true rfl) dX2_findBest_95 (fun H locs hP hD hS => ?_)
                have hP : va_P G.1 vwCl [(h0, .inr (2, [.ref ra, .ref rb, .ref rc, .int (zI (k : Int)), .int (zI ff_3), .int (zI ll_4), .int (zI bt_11), .int (zI tp_12), .int (zI x1), .int (zI tp_12)])), zci G ra 10 P, zci G rb 10 Qu, zci G rc 10 M] H := hP
                have hD : va_D A [(h0, .inr (2, [.ref ra, .ref rb, .ref rc, .int (zI (k : Int)), .int (zI ff_3), .int (zI ll_4), .int (zI bt_11), .int (zI tp_12), .int (zI x1), .int (zI tp_12)])), zci G ra 10 P, zci G rb 10 Qu, zci G rc 10 M] := hD
                refine zv_iinc (k0 := 2) (lv' := [(4, .int (zI (x1 + 1))), (3, .int (zI 1)), (5, .int (zI tp_12)), (0, .ref h0), (1, .int (zI pp)), (2, .int (zI qq))]) S dX2_findBest_98 hl rfl (by decide) rfl (fun ls hl => ?_)
                refine zv_goto (tgt := 12) S dX2_findBest_101 (by decide) ?_
                exact ih12 (x1 + 1) 1 bt_11 tp_12 x1 tp_12 (by omega) (zbs_better hst (by omega) (by omega) (zendb_top hz (((hcc_7 x1).mp (by omega)).2.2) hen_15 (by omega) (by omega)) (by omega)) (by omega) _ _ hP hD hS _ (lv_sub hl [0, 1, 3, 4, 5] rfl)
  exact LP12 _ ff_3 0 b0 t0 x0 y0 (by omega) (zbs_0 hcc_7 hff_5.2) (Nat.lt_succ_self _) _ _ hP hD hS _ (lv_sub hl [0, 1, 2, 3, 4] rfl)
