theorem wd_L_index_ct21 : Cond.classLink RL 21 zIA ∈ wsL_index := by decide +kernel
set_option maxHeartbeats 4000000 in
set_option maxRecDepth 100000 in
/-- the law: index -/
theorem c_L_index (l : Launch) (hl0 : l.stackTraces = false) (G : zG) (sz : Nat) (oo : Nat) (OF : Nat → Int) (h0 : Nat) (qs : Nat) (sc : Int) (hr : Nat) (hc : Nat) (hk : Nat) (qv : Nat) (fx : Int) (fy : Int) (lx : Int) (ly : Int) (tn : Int) (ar : Int) (wx : Int) (wy : Int) (x : Int) (y : Int) (v : Int) (w : Int) (h1 : -2147483648 ≤ x ∧ x < 2147483648) (h2 : -2147483648 ≤ y ∧ y < 2147483648) (h3 : -2147483648 ≤ v ∧ v < 2147483648) (h4 : -2147483648 ≤ w ∧ w < 2147483648) : Met l yL_index wsL_index ({ frames := 9, cells := 5, slots := 30, locals := 160 }) (va_Pc [.ref h0, .int (zI x), .int (zI y), .int (zI v), .int (zI w), .ref oo] (zPx G sz [zcl G oo 1 OF, (h0, .inr (4, [.ref qs, .int (zI sc), .ref hr, .ref hc, .ref hk])), (hc, .inr (1, [.ref qv, .int (zI fx), .int (zI fy), .int (zI lx), .int (zI ly), .int (zI tn), .int (zI ar), .int (zI wx), .int (zI wy)]))])) (va_Qi (fun (r : Int32) (u : (Int) × (Nat → Int) × (Int) × (Int) × (Int) × (Int) × (Int) × (Int)) => r = zI u.1 ∧ ((u.1 = 0 ∧ u.2.1 = zU OF 0 (zT32 u.2.2.2.2.2.2.2) ∧ (zcnm x y v w) ∧ (zcone x y v w u.2.2.1 u.2.2.2.1 u.2.2.2.2.1 u.2.2.2.2.2.1 u.2.2.2.2.2.2.1 u.2.2.2.2.2.2.2)) ∨ (u.1 = 1 ∧ u.2.1 = OF ∧ (¬ zcnm x y v w)))) (fun u => zW G (va_A [zcl G oo 1 OF, (h0, .inr (4, [.ref qs, .int (zI sc), .ref hr, .ref hc, .ref hk])), (hc, .inr (1, [.ref qv, .int (zI fx), .int (zI fy), .int (zI lx), .int (zI ly), .int (zI tn), .int (zI ar), .int (zI wx), .int (zI wy)]))] sz) ((fun (u : (Int) × (Nat → Int) × (Int) × (Int) × (Int) × (Int) × (Int) × (Int)) => [zcl G oo 1 u.2.1, (h0, .inr (4, [.ref qs, .int (zI sc), .ref hr, .ref hc, .ref hk])), (hc, .inr (1, [.ref qv, .int (zI u.2.2.1), .int (zI u.2.2.2.1), .int (zI u.2.2.2.2.1), .int (zI u.2.2.2.2.2.1), .int (zI u.2.2.2.2.2.2.1), .int (zI u.2.2.2.2.2.2.2), .int (zI wx), .int (zI wy)]))]) u)) (va_A [zcl G oo 1 OF, (h0, .inr (4, [.ref qs, .int (zI sc), .ref hr, .ref hc, .ref hk])), (hc, .inr (1, [.ref qv, .int (zI fx), .int (zI fy), .int (zI lx), .int (zI ly), .int (zI tn), .int (zI ar), .int (zI wx), .int (zI wy)]))] sz)) 5 30 (va_A [zcl G oo 1 OF, (h0, .inr (4, [.ref qs, .int (zI sc), .ref hr, .ref hc, .ref hk])), (hc, .inr (1, [.ref qv, .int (zI fx), .int (zI fy), .int (zI lx), .int (zI ly), .int (zI tn), .int (zI ar), .int (zI wx), .int (zI wy)]))] sz) := by
  refine zMh_i (post := fun (r : Int32) (u : (Int) × (Nat → Int) × (Int) × (Int) × (Int) × (Int) × (Int) × (Int)) => r = zI u.1 ∧ ((u.1 = 0 ∧ u.2.1 = zU OF 0 (zT32 u.2.2.2.2.2.2.2) ∧ (zcnm x y v w) ∧ (zcone x y v w u.2.2.1 u.2.2.2.1 u.2.2.2.2.1 u.2.2.2.2.2.1 u.2.2.2.2.2.2.1 u.2.2.2.2.2.2.2)) ∨ (u.1 = 1 ∧ u.2.1 = OF ∧ (¬ zcnm x y v w)))) (w1 := fun (u : (Int) × (Nat → Int) × (Int) × (Int) × (Int) × (Int) × (Int) × (Int)) => [zcl G oo 1 u.2.1, (h0, .inr (4, [.ref qs, .int (zI sc), .ref hr, .ref hc, .ref hk])), (hc, .inr (1, [.ref qv, .int (zI u.2.2.1), .int (zI u.2.2.2.1), .int (zI u.2.2.2.2.1), .int (zI u.2.2.2.2.2.1), .int (zI u.2.2.2.2.2.2.1), .int (zI u.2.2.2.2.2.2.2), .int (zI wx), .int (zI wy)]))]) (by decide) rfl (Nat.le_of_ble_eq_true rfl) ?_
  intro p e s m below meth c A Q S hN hK hP hD hS hA hE0 htab hret ls hl
  have hl : lv_has ls 7 [(0, .ref h0), (1, .int (zI x)), (2, .int (zI y)), (3, .int (zI v)), (4, .int (zI w)), (5, .ref oo)] := hl
  refine zv_aload S dL_index_0 (lv_at hl 5 rfl) ?_
  refine zv_iconst S dL_index_2 ?_
  refine zv_aload_n S dL_index_3 rfl (lv_at hl 0 rfl) ?_
  refine zv_iload_n S dL_index_4 rfl (lv_at hl 1 rfl) ?_
  refine zv_iload_n S dL_index_5 rfl (lv_at hl 2 rfl) ?_
  refine zv_iload_n S dL_index_6 rfl (lv_at hl 3 rfl) ?_
  refine zv_iload S dL_index_7 (lv_at hl 4 rfl) ?_
  refine zcx_Vi (As := [.int (zI x), .int (zI y), .int (zI v), .int (zI w)]) (rest := [.int (zI 0), .ref oo]) (wr := [zcl G oo 1 OF]) (n := 4) S hN hK (hE0.kept hS.2.1) hP hD hS hA hl (c_X4_index l hl0 G s.heap.size h0 qs sc hr hc hk qv fx fy lx ly tn ar wx wy x y v w h1 h2 h3 h4) gL_index_X4_index rfl ⟨rfl, rfl⟩ (by decide +kernel) rfl ⟨Nat.le_of_ble_eq_true rfl, Nat.le_of_ble_eq_true rfl, Nat.le_of_ble_eq_true rfl, Nat.le_of_ble_eq_true rfl⟩ [1, 2] [0] rfl rfl (by decide) (by decide) (by decide) (ci := 4) rfl rfl rfl (Nat.le_of_ble_eq_true rfl) dL_index_9 rfl (fun E_ ce_ q_ ux_ H1 locs1 hc1 hP1 hD1 hS1 hz1 hce1 hcv1 hcl1 => ?_) (fun r_ u_1 H1 locs1 hp_2 hP1 hD1 hS1 hz1 => ?_)
  · obtain ⟨n1_3, n2_4, n3_5, n4_6, n5_7, n6_8⟩ := ux_
    try dsimp only at hc1 hP1 hD1
    have hP1 : va_P G.1 vwCl [zcl G oo 1 OF, (h0, .inr (4, [.ref qs, .int (zI sc), .ref hr, .ref hc, .ref hk])), (hc, .inr (1, [.ref qv, .int (zI n1_3), .int (zI n2_4), .int (zI n3_5), .int (zI n4_6), .int (zI n5_7), .int (zI n6_8), .int (zI wx), .int (zI wy)]))] H1 := hP1
    have hD1 : va_D A [zcl G oo 1 OF, (h0, .inr (4, [.ref qs, .int (zI sc), .ref hr, .ref hc, .ref hk])), (hc, .inr (1, [.ref qv, .int (zI n1_3), .int (zI n2_4), .int (zI n3_5), .int (zI n4_6), .int (zI n5_7), .int (zI n6_8), .int (zI wx), .int (zI wy)]))] := hD1
    obtain ⟨rfl, hx_0⟩ := hc1
    refine zcatch S htab hE0 [] [] rfl (by decide) (by decide) wd_L_index_ct21 (Or.inr (Or.inl rfl)) (fun _ h => absurd h List.not_mem_nil) hce1 hcv1 hcl1 ?_
    generalize H1 = H at hP1 hD1 hS1 hz1 ⊢
    generalize locs1 = locs at hS1 ⊢
    have hS := hS1
    have hP : va_P G.1 vwCl [zcl G oo 1 OF, (h0, .inr (4, [.ref qs, .int (zI sc), .ref hr, .ref hc, .ref hk])), (hc, .inr (1, [.ref qv, .int (zI n1_3), .int (zI n2_4), .int (zI n3_5), .int (zI n4_6), .int (zI n5_7), .int (zI n6_8), .int (zI wx), .int (zI wy)]))] H := hP1
    have hD : va_D A [zcl G oo 1 OF, (h0, .inr (4, [.ref qs, .int (zI sc), .ref hr, .ref hc, .ref hk])), (hc, .inr (1, [.ref qv, .int (zI n1_3), .int (zI n2_4), .int (zI n3_5), .int (zI n4_6), .int (zI n5_7), .int (zI n6_8), .int (zI wx), .int (zI wy)]))] := hD1
    refine zv_astore (lv' := [(6, .ref q_), (0, .ref h0), (1, .int (zI x)), (2, .int (zI y)), (3, .int (zI v)), (4, .int (zI w)), (5, .ref oo)]) S dL_index_17 hl (by decide) rfl (fun ls hl => ?_)
    refine zv_iconst S dL_index_19 ?_
    exact hret _ _ _ _ _ ⟨1, OF, n1_3, n2_4, n3_5, n4_6, n5_7, n6_8⟩ dL_index_20 ⟨rfl, (show (1 = 0 ∧ OF = zU OF 0 (zT32 n6_8) ∧ (zcnm x y v w) ∧ (zcone x y v w n1_3 n2_4 n3_5 n4_6 n5_7 n6_8)) ∨ (1 = 1 ∧ OF = OF ∧ (¬ zcnm x y v w)) from (Or.inr ⟨rfl, rfl, hx_0⟩))⟩ (hP.sub [0, 1, 2] rfl) (hD.sub [0, 1, 2] (by decide) rfl) hS
  obtain ⟨n1_9, n2_10, n3_11, n4_12, n5_13, n6_14⟩ := u_1
  try dsimp only at hp_2 hP1 hD1
  obtain ⟨rfl, hcm_15, hcz_16⟩ := hp_2
  generalize H1 = H at hP1 hD1 hS1 hz1 ⊢
  generalize locs1 = locs at hS1 ⊢
  have hS := hS1
  have hP : va_P G.1 vwCl [zcl G oo 1 OF, (h0, .inr (4, [.ref qs, .int (zI sc), .ref hr, .ref hc, .ref hk])), (hc, .inr (1, [.ref qv, .int (zI n1_9), .int (zI n2_10), .int (zI n3_11), .int (zI n4_12), .int (zI n5_13), .int (zI n6_14), .int (zI wx), .int (zI wy)]))] H := hP1
  have hD : va_D A [zcl G oo 1 OF, (h0, .inr (4, [.ref qs, .int (zI sc), .ref hr, .ref hc, .ref hk])), (hc, .inr (1, [.ref qv, .int (zI n1_9), .int (zI n2_10), .int (zI n3_11), .int (zI n4_12), .int (zI n5_13), .int (zI n6_14), .int (zI wx), .int (zI wy)]))] := hD1
  refine zv_i2lw S dL_index_12 ?_
  refine zv_last S hK hP hD hS 0 1 rfl rfl 0 rfl (by decide) (by decide) dL_index_13 (fun H locs hP hD hS => ?_)
  have hP : va_P G.1 vwCl [zcl G oo 1 (zU OF 0 (zT32 n6_14)), (h0, .inr (4, [.ref qs, .int (zI sc), .ref hr, .ref hc, .ref hk])), (hc, .inr (1, [.ref qv, .int (zI n1_9), .int (zI n2_10), .int (zI n3_11), .int (zI n4_12), .int (zI n5_13), .int (zI n6_14), .int (zI wx), .int (zI wy)]))] H := hP
  have hD : va_D A [zcl G oo 1 (zU OF 0 (zT32 n6_14)), (h0, .inr (4, [.ref qs, .int (zI sc), .ref hr, .ref hc, .ref hk])), (hc, .inr (1, [.ref qv, .int (zI n1_9), .int (zI n2_10), .int (zI n3_11), .int (zI n4_12), .int (zI n5_13), .int (zI n6_14), .int (zI wx), .int (zI wy)]))] := hD
  refine zv_goto (tgt := 21) S dL_index_14 (by decide) ?_
  refine zv_iconst S dL_index_21 ?_
  exact hret _ _ _ _ _ ⟨0, (zU OF 0 (zT32 n6_14)), n1_9, n2_10, n3_11, n4_12, n5_13, n6_14⟩ dL_index_22 ⟨rfl, (show (0 = 0 ∧ (zU OF 0 (zT32 n6_14)) = zU OF 0 (zT32 n6_14) ∧ (zcnm x y v w) ∧ (zcone x y v w n1_9 n2_10 n3_11 n4_12 n5_13 n6_14)) ∨ (0 = 1 ∧ (zU OF 0 (zT32 n6_14)) = OF ∧ (¬ zcnm x y v w)) from (Or.inl ⟨rfl, rfl, hcm_15, hcz_16⟩))⟩ (hP.sub [0, 1, 2] rfl) (hD.sub [0, 1, 2] (by decide) rfl) hS

theorem wd_L_generator_ct19 : Cond.classLink RL 19 zIO ∈ wsL_generator := by decide +kernel
theorem wd_L_generator_ct21 : Cond.classLink RL 21 zIA ∈ wsL_generator := by decide +kernel
set_option maxHeartbeats 4000000 in
set_option maxRecDepth 100000 in
/-- the law: generator -/
theorem c_L_generator (l : Launch) (hl0 : l.stackTraces = false) (G : zG) (sz : Nat) (oo : Nat) (OF : Nat → Int) (h0 : Nat) (qs : Nat) (sc : Int) (hr : Nat) (hc : Nat) (hk : Nat) (qv : Nat) (fx : Int) (fy : Int) (lx : Int) (ly : Int) (tn : Int) (ar : Int) (wx : Int) (wy : Int) (L0 : Nat → Int) (x : Int) (y : Int) (v : Int) (w : Int) (pl : Int) (fs : Int) (h1 : -2147483648 ≤ x ∧ x < 2147483648) (h2 : -2147483648 ≤ y ∧ y < 2147483648) (h3 : -2147483648 ≤ v ∧ v < 2147483648) (h4 : -2147483648 ≤ w ∧ w < 2147483648) (hpl : -2147483648 ≤ pl ∧ pl < 2147483648) (hfs : fs = 0 ∨ fs = 1) : Met l yL_generator wsL_generator ({ frames := 9, cells := 7, slots := 42, locals := 162 }) (va_Pc [.ref h0, .int (zI x), .int (zI y), .int (zI v), .int (zI w), .int (zI pl), .int (zI fs), .ref oo] (zPx G sz [zcl G oo 1 OF, (h0, .inr (4, [.ref qs, .int (zI sc), .ref hr, .ref hc, .ref hk])), (hc, .inr (1, [.ref qv, .int (zI fx), .int (zI fy), .int (zI lx), .int (zI ly), .int (zI tn), .int (zI ar), .int (zI wx), .int (zI wy)])), zci G qv 801 L0])) (va_Qi (fun (r : Int32) (u : (Int) × (Nat → Int) × (Int) × (Int) × (Int) × (Int) × (Int) × (Int) × (Int) × (Int) × (Int) × (Nat → Int)) => r = zI u.1 ∧ ((u.1 = 0 ∧ u.2.1 = zU OF 0 (zT32 u.2.2.1) ∧ (-1 ≤ pl ∧ zcnm x y v w) ∧ (zlookP x y v w u.2.2.2.2.2.2.2.2.2.2.2 u.2.2.2.1 u.2.2.2.2.1 u.2.2.2.2.2.1 u.2.2.2.2.2.2.1 u.2.2.2.2.2.2.2.1 u.2.2.2.2.2.2.2.2.1 ∧ zwant u.2.2.2.2.2.2.2.2.2.2.2 u.2.2.2.1 u.2.2.2.2.1 u.2.2.2.2.2.1 u.2.2.2.2.2.2.1 u.2.2.2.2.2.2.2.2.1 (u.2.2.2.2.2.2.2.2.1.toNat + 1) pl u.2.2.2.2.2.2.2.2.2.1 u.2.2.2.2.2.2.2.2.2.2.1) ∧ ((pl = -1 ∧ u.2.2.1 = ((zcn (zrec u.2.2.2.2.2.2.2.2.2.2.2) (u.2.2.2.2.2.2.2.2.1.toNat + 1) : Nat) : Int)) ∨ (¬ pl = -1 ∧ pl < ((zcn (zrec u.2.2.2.2.2.2.2.2.2.2.2) (u.2.2.2.2.2.2.2.2.1.toNat + 1) : Nat) : Int) ∧ u.2.2.1 = (if fs = 0 then u.2.2.2.2.2.2.2.2.2.2.1 else u.2.2.2.2.2.2.2.2.2.1)))) ∨ (u.1 = 1 ∧ u.2.1 = OF ∧ (pl < -1)) ∨ (u.1 = 2 ∧ u.2.1 = OF ∧ (-1 ≤ pl ∧ ¬ zcnm x y v w)) ∨ (u.1 = 1 ∧ u.2.1 = OF ∧ (-1 ≤ pl ∧ zcnm x y v w ∧ zlookP x y v w u.2.2.2.2.2.2.2.2.2.2.2 u.2.2.2.1 u.2.2.2.2.1 u.2.2.2.2.2.1 u.2.2.2.2.2.2.1 u.2.2.2.2.2.2.2.1 u.2.2.2.2.2.2.2.2.1 ∧ ¬ pl = -1 ∧ ((zcn (zrec u.2.2.2.2.2.2.2.2.2.2.2) (u.2.2.2.2.2.2.2.2.1.toNat + 1) : Nat) : Int) ≤ pl)))) (fun u => zW G (va_A [zcl G oo 1 OF, (h0, .inr (4, [.ref qs, .int (zI sc), .ref hr, .ref hc, .ref hk])), (hc, .inr (1, [.ref qv, .int (zI fx), .int (zI fy), .int (zI lx), .int (zI ly), .int (zI tn), .int (zI ar), .int (zI wx), .int (zI wy)])), zci G qv 801 L0] sz) ((fun (u : (Int) × (Nat → Int) × (Int) × (Int) × (Int) × (Int) × (Int) × (Int) × (Int) × (Int) × (Int) × (Nat → Int)) => [zcl G oo 1 u.2.1, (h0, .inr (4, [.ref qs, .int (zI sc), .ref hr, .ref hc, .ref hk])), (hc, .inr (1, [.ref qv, .int (zI u.2.2.2.1), .int (zI u.2.2.2.2.1), .int (zI u.2.2.2.2.2.1), .int (zI u.2.2.2.2.2.2.1), .int (zI u.2.2.2.2.2.2.2.1), .int (zI u.2.2.2.2.2.2.2.2.1), .int (zI u.2.2.2.2.2.2.2.2.2.1), .int (zI u.2.2.2.2.2.2.2.2.2.2.1)])), zci G qv 801 u.2.2.2.2.2.2.2.2.2.2.2]) u)) (va_A [zcl G oo 1 OF, (h0, .inr (4, [.ref qs, .int (zI sc), .ref hr, .ref hc, .ref hk])), (hc, .inr (1, [.ref qv, .int (zI fx), .int (zI fy), .int (zI lx), .int (zI ly), .int (zI tn), .int (zI ar), .int (zI wx), .int (zI wy)])), zci G qv 801 L0] sz)) 7 42 (va_A [zcl G oo 1 OF, (h0, .inr (4, [.ref qs, .int (zI sc), .ref hr, .ref hc, .ref hk])), (hc, .inr (1, [.ref qv, .int (zI fx), .int (zI fy), .int (zI lx), .int (zI ly), .int (zI tn), .int (zI ar), .int (zI wx), .int (zI wy)])), zci G qv 801 L0] sz) := by
  refine zMh_i (post := fun (r : Int32) (u : (Int) × (Nat → Int) × (Int) × (Int) × (Int) × (Int) × (Int) × (Int) × (Int) × (Int) × (Int) × (Nat → Int)) => r = zI u.1 ∧ ((u.1 = 0 ∧ u.2.1 = zU OF 0 (zT32 u.2.2.1) ∧ (-1 ≤ pl ∧ zcnm x y v w) ∧ (zlookP x y v w u.2.2.2.2.2.2.2.2.2.2.2 u.2.2.2.1 u.2.2.2.2.1 u.2.2.2.2.2.1 u.2.2.2.2.2.2.1 u.2.2.2.2.2.2.2.1 u.2.2.2.2.2.2.2.2.1 ∧ zwant u.2.2.2.2.2.2.2.2.2.2.2 u.2.2.2.1 u.2.2.2.2.1 u.2.2.2.2.2.1 u.2.2.2.2.2.2.1 u.2.2.2.2.2.2.2.2.1 (u.2.2.2.2.2.2.2.2.1.toNat + 1) pl u.2.2.2.2.2.2.2.2.2.1 u.2.2.2.2.2.2.2.2.2.2.1) ∧ ((pl = -1 ∧ u.2.2.1 = ((zcn (zrec u.2.2.2.2.2.2.2.2.2.2.2) (u.2.2.2.2.2.2.2.2.1.toNat + 1) : Nat) : Int)) ∨ (¬ pl = -1 ∧ pl < ((zcn (zrec u.2.2.2.2.2.2.2.2.2.2.2) (u.2.2.2.2.2.2.2.2.1.toNat + 1) : Nat) : Int) ∧ u.2.2.1 = (if fs = 0 then u.2.2.2.2.2.2.2.2.2.2.1 else u.2.2.2.2.2.2.2.2.2.1)))) ∨ (u.1 = 1 ∧ u.2.1 = OF ∧ (pl < -1)) ∨ (u.1 = 2 ∧ u.2.1 = OF ∧ (-1 ≤ pl ∧ ¬ zcnm x y v w)) ∨ (u.1 = 1 ∧ u.2.1 = OF ∧ (-1 ≤ pl ∧ zcnm x y v w ∧ zlookP x y v w u.2.2.2.2.2.2.2.2.2.2.2 u.2.2.2.1 u.2.2.2.2.1 u.2.2.2.2.2.1 u.2.2.2.2.2.2.1 u.2.2.2.2.2.2.2.1 u.2.2.2.2.2.2.2.2.1 ∧ ¬ pl = -1 ∧ ((zcn (zrec u.2.2.2.2.2.2.2.2.2.2.2) (u.2.2.2.2.2.2.2.2.1.toNat + 1) : Nat) : Int) ≤ pl)))) (w1 := fun (u : (Int) × (Nat → Int) × (Int) × (Int) × (Int) × (Int) × (Int) × (Int) × (Int) × (Int) × (Int) × (Nat → Int)) => [zcl G oo 1 u.2.1, (h0, .inr (4, [.ref qs, .int (zI sc), .ref hr, .ref hc, .ref hk])), (hc, .inr (1, [.ref qv, .int (zI u.2.2.2.1), .int (zI u.2.2.2.2.1), .int (zI u.2.2.2.2.2.1), .int (zI u.2.2.2.2.2.2.1), .int (zI u.2.2.2.2.2.2.2.1), .int (zI u.2.2.2.2.2.2.2.2.1), .int (zI u.2.2.2.2.2.2.2.2.2.1), .int (zI u.2.2.2.2.2.2.2.2.2.2.1)])), zci G qv 801 u.2.2.2.2.2.2.2.2.2.2.2]) (by decide) rfl (Nat.le_of_ble_eq_true rfl) ?_
  intro p e s m below meth c A Q S hN hK hP hD hS hA hE0 htab hret ls hl
  have hl : lv_has ls 9 [(0, .ref h0), (1, .int (zI x)), (2, .int (zI y)), (3, .int (zI v)), (4, .int (zI w)), (5, .int (zI pl)), (6, .int (zI fs)), (7, .ref oo)] := hl
  refine zv_aload S dL_generator_0 (lv_at hl 7 rfl) ?_
  refine zv_iconst S dL_generator_2 ?_
  refine zv_aload_n S dL_generator_3 rfl (lv_at hl 0 rfl) ?_
  refine zv_iload_n S dL_generator_4 rfl (lv_at hl 1 rfl) ?_
  refine zv_iload_n S dL_generator_5 rfl (lv_at hl 2 rfl) ?_
  refine zv_iload_n S dL_generator_6 rfl (lv_at hl 3 rfl) ?_
  refine zv_iload S dL_generator_7 (lv_at hl 4 rfl) ?_
  refine zv_iload S dL_generator_9 (lv_at hl 5 rfl) ?_
  refine zv_iload S dL_generator_11 (lv_at hl 6 rfl) ?_
  refine zcx_Vi (As := [.int (zI x), .int (zI y), .int (zI v), .int (zI w), .int (zI pl), .int (zI fs)]) (rest := [.int (zI 0), .ref oo]) (wr := [zcl G oo 1 OF]) (n := 6) S hN hK (hE0.kept hS.2.1) hP hD hS hA hl (c_X4_generator l hl0 G s.heap.size h0 qs sc hr hc hk qv fx fy lx ly tn ar wx wy L0 x y v w pl fs h1 h2 h3 h4 hpl hfs) gL_generator_X4_generator rfl ⟨rfl, rfl⟩ (by decide +kernel) rfl ⟨Nat.le_of_ble_eq_true rfl, Nat.le_of_ble_eq_true rfl, Nat.le_of_ble_eq_true rfl, Nat.le_of_ble_eq_true rfl⟩ [1, 2, 3] [0] rfl rfl (by decide) (by decide) (by decide) (ci := 4) rfl rfl rfl (Nat.le_of_ble_eq_true rfl) dL_generator_13 rfl (fun E_ ce_ q_ ux_ H1 locs1 hc1 hP1 hD1 hS1 hz1 hce1 hcv1 hcl1 => ?_) (fun r_ u_1 H1 locs1 hp_2 hP1 hD1 hS1 hz1 => ?_)
  · obtain ⟨n1_3, n2_4, n3_5, n4_6, n5_7, n6_8, n7_9, n8_10, L1_11⟩ := ux_
    try dsimp only at hc1 hP1 hD1
    have hP1 : va_P G.1 vwCl [zcl G oo 1 OF, (h0, .inr (4, [.ref qs, .int (zI sc), .ref hr, .ref hc, .ref hk])), (hc, .inr (1, [.ref qv, .int (zI n1_3), .int (zI n2_4), .int (zI n3_5), .int (zI n4_6), .int (zI n5_7), .int (zI n6_8), .int (zI n7_9), .int (zI n8_10)])), zci G qv 801 L1_11] H1 := hP1
    have hD1 : va_D A [zcl G oo 1 OF, (h0, .inr (4, [.ref qs, .int (zI sc), .ref hr, .ref hc, .ref hk])), (hc, .inr (1, [.ref qv, .int (zI n1_3), .int (zI n2_4), .int (zI n3_5), .int (zI n4_6), .int (zI n5_7), .int (zI n6_8), .int (zI n7_9), .int (zI n8_10)])), zci G qv 801 L1_11] := hD1
    rcases hc1 with ⟨rfl, hx_0⟩ | ⟨rfl, hx_1⟩ | ⟨rfl, hx_2⟩
    · refine zcatch S htab hE0 [] [(0, 18, 25, 21)] rfl (by decide) (by decide) wd_L_generator_ct19 (Or.inl rfl) (fun _ h => absurd h List.not_mem_nil) hce1 hcv1 hcl1 ?_
      generalize H1 = H at hP1 hD1 hS1 hz1 ⊢
      generalize locs1 = locs at hS1 ⊢
      have hS := hS1
      have hP : va_P G.1 vwCl [zcl G oo 1 OF, (h0, .inr (4, [.ref qs, .int (zI sc), .ref hr, .ref hc, .ref hk])), (hc, .inr (1, [.ref qv, .int (zI n1_3), .int (zI n2_4), .int (zI n3_5), .int (zI n4_6), .int (zI n5_7), .int (zI n6_8), .int (zI n7_9), .int (zI n8_10)])), zci G qv 801 L1_11] H := hP1
      have hD : va_D A [zcl G oo 1 OF, (h0, .inr (4, [.ref qs, .int (zI sc), .ref hr, .ref hc, .ref hk])), (hc, .inr (1, [.ref qv, .int (zI n1_3), .int (zI n2_4), .int (zI n3_5), .int (zI n4_6), .int (zI n5_7), .int (zI n6_8), .int (zI n7_9), .int (zI n8_10)])), zci G qv 801 L1_11] := hD1
      refine zv_astore (lv' := [(8, .ref q_), (0, .ref h0), (1, .int (zI x)), (2, .int (zI y)), (3, .int (zI v)), (4, .int (zI w)), (5, .int (zI pl)), (6, .int (zI fs)), (7, .ref oo)]) S dL_generator_21 hl (by decide) rfl (fun ls hl => ?_)
      refine zv_iconst S dL_generator_23 ?_
      exact hret _ _ _ _ _ ⟨1, OF, 0, n1_3, n2_4, n3_5, n4_6, n5_7, n6_8, n7_9, n8_10, L1_11⟩ dL_generator_24 ⟨rfl, (show (1 = 0 ∧ OF = zU OF 0 (zT32 0) ∧ (-1 ≤ pl ∧ zcnm x y v w) ∧ (zlookP x y v w L1_11 n1_3 n2_4 n3_5 n4_6 n5_7 n6_8 ∧ zwant L1_11 n1_3 n2_4 n3_5 n4_6 n6_8 (n6_8.toNat + 1) pl n7_9 n8_10) ∧ ((pl = -1 ∧ 0 = ((zcn (zrec L1_11) (n6_8.toNat + 1) : Nat) : Int)) ∨ (¬ pl = -1 ∧ pl < ((zcn (zrec L1_11) (n6_8.toNat + 1) : Nat) : Int) ∧ 0 = (if fs = 0 then n8_10 else n7_9)))) ∨ (1 = 1 ∧ OF = OF ∧ (pl < -1)) ∨ (1 = 2 ∧ OF = OF ∧ (-1 ≤ pl ∧ ¬ zcnm x y v w)) ∨ (1 = 1 ∧ OF = OF ∧ (-1 ≤ pl ∧ zcnm x y v w ∧ zlookP x y v w L1_11 n1_3 n2_4 n3_5 n4_6 n5_7 n6_8 ∧ ¬ pl = -1 ∧ ((zcn (zrec L1_11) (n6_8.toNat + 1) : Nat) : Int) ≤ pl)) from (Or.inr (Or.inl ⟨rfl, rfl, hx_0⟩)))⟩ (hP.sub [0, 1, 2, 3] rfl) (hD.sub [0, 1, 2, 3] (by decide) rfl) hS
    · refine zcatch S htab hE0 [(0, 18, 21, 19)] [] rfl (by decide) (by decide) wd_L_generator_ct21 (Or.inr (Or.inl rfl)) (List.forall_mem_cons.mpr ⟨⟨by decide, zIO, wd_L_generator_ct19, (Or.inl ⟨rfl, rfl⟩)⟩, (fun _ h => absurd h List.not_mem_nil)⟩) hce1 hcv1 hcl1 ?_
      generalize H1 = H at hP1 hD1 hS1 hz1 ⊢
      generalize locs1 = locs at hS1 ⊢
      have hS := hS1
      have hP : va_P G.1 vwCl [zcl G oo 1 OF, (h0, .inr (4, [.ref qs, .int (zI sc), .ref hr, .ref hc, .ref hk])), (hc, .inr (1, [.ref qv, .int (zI n1_3), .int (zI n2_4), .int (zI n3_5), .int (zI n4_6), .int (zI n5_7), .int (zI n6_8), .int (zI n7_9), .int (zI n8_10)])), zci G qv 801 L1_11] H := hP1
      have hD : va_D A [zcl G oo 1 OF, (h0, .inr (4, [.ref qs, .int (zI sc), .ref hr, .ref hc, .ref hk])), (hc, .inr (1, [.ref qv, .int (zI n1_3), .int (zI n2_4), .int (zI n3_5), .int (zI n4_6), .int (zI n5_7), .int (zI n6_8), .int (zI n7_9), .int (zI n8_10)])), zci G qv 801 L1_11] := hD1
      refine zv_astore (lv' := [(8, .ref q_), (0, .ref h0), (1, .int (zI x)), (2, .int (zI y)), (3, .int (zI v)), (4, .int (zI w)), (5, .int (zI pl)), (6, .int (zI fs)), (7, .ref oo)]) S dL_generator_25 hl (by decide) rfl (fun ls hl => ?_)
      refine zv_iconst S dL_generator_27 ?_
      exact hret _ _ _ _ _ ⟨2, OF, 0, n1_3, n2_4, n3_5, n4_6, n5_7, n6_8, n7_9, n8_10, L1_11⟩ dL_generator_28 ⟨rfl, (show (2 = 0 ∧ OF = zU OF 0 (zT32 0) ∧ (-1 ≤ pl ∧ zcnm x y v w) ∧ (zlookP x y v w L1_11 n1_3 n2_4 n3_5 n4_6 n5_7 n6_8 ∧ zwant L1_11 n1_3 n2_4 n3_5 n4_6 n6_8 (n6_8.toNat + 1) pl n7_9 n8_10) ∧ ((pl = -1 ∧ 0 = ((zcn (zrec L1_11) (n6_8.toNat + 1) : Nat) : Int)) ∨ (¬ pl = -1 ∧ pl < ((zcn (zrec L1_11) (n6_8.toNat + 1) : Nat) : Int) ∧ 0 = (if fs = 0 then n8_10 else n7_9)))) ∨ (2 = 1 ∧ OF = OF ∧ (pl < -1)) ∨ (2 = 2 ∧ OF = OF ∧ (-1 ≤ pl ∧ ¬ zcnm x y v w)) ∨ (2 = 1 ∧ OF = OF ∧ (-1 ≤ pl ∧ zcnm x y v w ∧ zlookP x y v w L1_11 n1_3 n2_4 n3_5 n4_6 n5_7 n6_8 ∧ ¬ pl = -1 ∧ ((zcn (zrec L1_11) (n6_8.toNat + 1) : Nat) : Int) ≤ pl)) from (Or.inr (Or.inr (Or.inl ⟨rfl, rfl, hx_1⟩))))⟩ (hP.sub [0, 1, 2, 3] rfl) (hD.sub [0, 1, 2, 3] (by decide) rfl) hS
    · refine zcatch S htab hE0 [] [(0, 18, 25, 21)] rfl (by decide) (by decide) wd_L_generator_ct19 (Or.inl rfl) (fun _ h => absurd h List.not_mem_nil) hce1 hcv1 hcl1 ?_
      generalize H1 = H at hP1 hD1 hS1 hz1 ⊢
      generalize locs1 = locs at hS1 ⊢
      have hS := hS1
      have hP : va_P G.1 vwCl [zcl G oo 1 OF, (h0, .inr (4, [.ref qs, .int (zI sc), .ref hr, .ref hc, .ref hk])), (hc, .inr (1, [.ref qv, .int (zI n1_3), .int (zI n2_4), .int (zI n3_5), .int (zI n4_6), .int (zI n5_7), .int (zI n6_8), .int (zI n7_9), .int (zI n8_10)])), zci G qv 801 L1_11] H := hP1
      have hD : va_D A [zcl G oo 1 OF, (h0, .inr (4, [.ref qs, .int (zI sc), .ref hr, .ref hc, .ref hk])), (hc, .inr (1, [.ref qv, .int (zI n1_3), .int (zI n2_4), .int (zI n3_5), .int (zI n4_6), .int (zI n5_7), .int (zI n6_8), .int (zI n7_9), .int (zI n8_10)])), zci G qv 801 L1_11] := hD1
      refine zv_astore (lv' := [(8, .ref q_), (0, .ref h0), (1, .int (zI x)), (2, .int (zI y)), (3, .int (zI v)), (4, .int (zI w)), (5, .int (zI pl)), (6, .int (zI fs)), (7, .ref oo)]) S dL_generator_21 hl (by decide) rfl (fun ls hl => ?_)
      refine zv_iconst S dL_generator_23 ?_
      exact hret _ _ _ _ _ ⟨1, OF, 0, n1_3, n2_4, n3_5, n4_6, n5_7, n6_8, n7_9, n8_10, L1_11⟩ dL_generator_24 ⟨rfl, (show (1 = 0 ∧ OF = zU OF 0 (zT32 0) ∧ (-1 ≤ pl ∧ zcnm x y v w) ∧ (zlookP x y v w L1_11 n1_3 n2_4 n3_5 n4_6 n5_7 n6_8 ∧ zwant L1_11 n1_3 n2_4 n3_5 n4_6 n6_8 (n6_8.toNat + 1) pl n7_9 n8_10) ∧ ((pl = -1 ∧ 0 = ((zcn (zrec L1_11) (n6_8.toNat + 1) : Nat) : Int)) ∨ (¬ pl = -1 ∧ pl < ((zcn (zrec L1_11) (n6_8.toNat + 1) : Nat) : Int) ∧ 0 = (if fs = 0 then n8_10 else n7_9)))) ∨ (1 = 1 ∧ OF = OF ∧ (pl < -1)) ∨ (1 = 2 ∧ OF = OF ∧ (-1 ≤ pl ∧ ¬ zcnm x y v w)) ∨ (1 = 1 ∧ OF = OF ∧ (-1 ≤ pl ∧ zcnm x y v w ∧ zlookP x y v w L1_11 n1_3 n2_4 n3_5 n4_6 n5_7 n6_8 ∧ ¬ pl = -1 ∧ ((zcn (zrec L1_11) (n6_8.toNat + 1) : Nat) : Int) ≤ pl)) from (Or.inr (Or.inr (Or.inr ⟨rfl, rfl, hx_2⟩))))⟩ (hP.sub [0, 1, 2, 3] rfl) (hD.sub [0, 1, 2, 3] (by decide) rfl) hS
  obtain ⟨rr_12, n1_13, n2_14, n3_15, n4_16, n5_17, n6_18, n7_19, n8_20, L1_21⟩ := u_1
  try dsimp only at hp_2 hP1 hD1
  obtain ⟨rfl, hpo_22, hlk_23, hgr_24⟩ := hp_2
  generalize H1 = H at hP1 hD1 hS1 hz1 ⊢
  generalize locs1 = locs at hS1 ⊢
  have hS := hS1
  have hP : va_P G.1 vwCl [zcl G oo 1 OF, (h0, .inr (4, [.ref qs, .int (zI sc), .ref hr, .ref hc, .ref hk])), (hc, .inr (1, [.ref qv, .int (zI n1_13), .int (zI n2_14), .int (zI n3_15), .int (zI n4_16), .int (zI n5_17), .int (zI n6_18), .int (zI n7_19), .int (zI n8_20)])), zci G qv 801 L1_21] H := hP1
  have hD : va_D A [zcl G oo 1 OF, (h0, .inr (4, [.ref qs, .int (zI sc), .ref hr, .ref hc, .ref hk])), (hc, .inr (1, [.ref qv, .int (zI n1_13), .int (zI n2_14), .int (zI n3_15), .int (zI n4_16), .int (zI n5_17), .int (zI n6_18), .int (zI n7_19), .int (zI n8_20)])), zci G qv 801 L1_21] := hD1
  refine zv_i2lw S dL_generator_16 ?_
  refine zv_last S hK hP hD hS 0 1 rfl rfl 0 rfl (by decide) (by decide) dL_generator_17 (fun H locs hP hD hS => ?_)
  have hP : va_P G.1 vwCl [zcl G oo 1 (zU OF 0 (zT32 rr_12)), (h0, .inr (4, [.ref qs, .int (zI sc), .ref hr, .ref hc, .ref hk])), (hc, .inr (1, [.ref qv, .int (zI n1_13), .int (zI n2_14), .int (zI n3_15), .int (zI n4_16), .int (zI n5_17), .int (zI n6_18), .int (zI n7_19), .int (zI n8_20)])), zci G qv 801 L1_21] H := hP
  have hD : va_D A [zcl G oo 1 (zU OF 0 (zT32 rr_12)), (h0, .inr (4, [.ref qs, .int (zI sc), .ref hr, .ref hc, .ref hk])), (hc, .inr (1, [.ref qv, .int (zI n1_13), .int (zI n2_14), .int (zI n3_15), .int (zI n4_16), .int (zI n5_17), .int (zI n6_18), .int (zI n7_19), .int (zI n8_20)])), zci G qv 801 L1_21] := hD
  refine zv_goto (tgt := 29) S dL_generator_18 (by decide) ?_
  refine zv_iconst S dL_generator_29 ?_
  exact hret _ _ _ _ _ ⟨0, (zU OF 0 (zT32 rr_12)), rr_12, n1_13, n2_14, n3_15, n4_16, n5_17, n6_18, n7_19, n8_20, L1_21⟩ dL_generator_30 ⟨rfl, (show (0 = 0 ∧ (zU OF 0 (zT32 rr_12)) = zU OF 0 (zT32 rr_12) ∧ (-1 ≤ pl ∧ zcnm x y v w) ∧ (zlookP x y v w L1_21 n1_13 n2_14 n3_15 n4_16 n5_17 n6_18 ∧ zwant L1_21 n1_13 n2_14 n3_15 n4_16 n6_18 (n6_18.toNat + 1) pl n7_19 n8_20) ∧ ((pl = -1 ∧ rr_12 = ((zcn (zrec L1_21) (n6_18.toNat + 1) : Nat) : Int)) ∨ (¬ pl = -1 ∧ pl < ((zcn (zrec L1_21) (n6_18.toNat + 1) : Nat) : Int) ∧ rr_12 = (if fs = 0 then n8_20 else n7_19)))) ∨ (0 = 1 ∧ (zU OF 0 (zT32 rr_12)) = OF ∧ (pl < -1)) ∨ (0 = 2 ∧ (zU OF 0 (zT32 rr_12)) = OF ∧ (-1 ≤ pl ∧ ¬ zcnm x y v w)) ∨ (0 = 1 ∧ (zU OF 0 (zT32 rr_12)) = OF ∧ (-1 ≤ pl ∧ zcnm x y v w ∧ zlookP x y v w L1_21 n1_13 n2_14 n3_15 n4_16 n5_17 n6_18 ∧ ¬ pl = -1 ∧ ((zcn (zrec L1_21) (n6_18.toNat + 1) : Nat) : Int) ≤ pl)) from (Or.inl ⟨rfl, rfl, hpo_22, hlk_23, hgr_24⟩))⟩ (hP.sub [0, 1, 2, 3] rfl) (hD.sub [0, 1, 2, 3] (by decide) rfl) hS

theorem wd_L_generatorAnew_ct19 : Cond.classLink RL 19 zIO ∈ wsL_generatorAnew := by decide +kernel
theorem wd_L_generatorAnew_ct21 : Cond.classLink RL 21 zIA ∈ wsL_generatorAnew := by decide +kernel
set_option maxHeartbeats 4000000 in
set_option maxRecDepth 100000 in
/-- the law: generatorAnew -/
theorem c_L_generatorAnew (l : Launch) (hl0 : l.stackTraces = false) (G : zG) (sz : Nat) (oo : Nat) (OF : Nat → Int) (h0 : Nat) (qs : Nat) (sc : Int) (hr : Nat) (hc : Nat) (hk : Nat) (qv : Nat) (fx : Int) (fy : Int) (lx : Int) (ly : Int) (tn : Int) (ar : Int) (wx : Int) (wy : Int) (x : Int) (y : Int) (v : Int) (w : Int) (pl : Int) (fs : Int) (h1 : -2147483648 ≤ x ∧ x < 2147483648) (h2 : -2147483648 ≤ y ∧ y < 2147483648) (h3 : -2147483648 ≤ v ∧ v < 2147483648) (h4 : -2147483648 ≤ w ∧ w < 2147483648) (hpl : -2147483648 ≤ pl ∧ pl < 2147483648) (hfs : fs = 0 ∨ fs = 1) : Met l yL_generatorAnew wsL_generatorAnew ({ frames := 9, cells := 7, slots := 42, locals := 162 }) (va_Pc [.ref h0, .int (zI x), .int (zI y), .int (zI v), .int (zI w), .int (zI pl), .int (zI fs), .ref oo] (zPx G sz [zcl G oo 1 OF, (h0, .inr (4, [.ref qs, .int (zI sc), .ref hr, .ref hc, .ref hk])), (hc, .inr (1, [.ref qv, .int (zI fx), .int (zI fy), .int (zI lx), .int (zI ly), .int (zI tn), .int (zI ar), .int (zI wx), .int (zI wy)]))])) (va_Qi (fun (r : Int32) (u : (Int) × (Nat → Int) × (Int) × (Int) × (Int) × (Int) × (Int) × (Int) × (Int) × (Int) × (Int) × (Int) × (Int) × (Nat)) => r = zI u.1 ∧ ((u.1 = 0 ∧ u.2.1 = zU OF 0 (zT32 u.2.2.1) ∧ (-1 ≤ pl ∧ zcnm x y v w) ∧ (zfolP x y v w u.2.2.2.2.2.2.2.2.2.2.2.1 u.2.2.2.2.2.2.2.2.2.2.2.2.1 u.2.2.2.2.2.2.2.2.2.2.2.2.2 u.2.2.2.1 u.2.2.2.2.1 u.2.2.2.2.2.1 u.2.2.2.2.2.2.1 u.2.2.2.2.2.2.2.1 u.2.2.2.2.2.2.2.2.1 ∧ zwj u.2.2.2.2.2.2.2.1 u.2.2.2.2.2.1 u.2.2.2.2.2.2.1 u.2.2.2.1 u.2.2.2.2.1 (u.2.2.2.2.2.2.2.2.2.2.2.1 - u.2.2.2.2.2.2.2.2.2.2.2.2.1 * u.2.2.2.1) (zsecY u.2.2.2.1 u.2.2.2.2.1 u.2.2.2.2.2.2.2.1 u.2.2.2.2.2.2.2.2.2.2.2.1 - u.2.2.2.2.2.2.2.2.2.2.2.2.1 * u.2.2.2.2.1) u.2.2.2.2.2.2.2.2.2.2.2.2.2 pl u.2.2.2.2.2.2.2.2.2.1 u.2.2.2.2.2.2.2.2.2.2.1) ∧ ((pl = -1 ∧ u.2.2.1 = ((u.2.2.2.2.2.2.2.2.2.2.2.2.2 : Int) + 1)) ∨ (¬ pl = -1 ∧ pl < ((u.2.2.2.2.2.2.2.2.2.2.2.2.2 : Int) + 1) ∧ u.2.2.1 = (if fs = 0 then u.2.2.2.2.2.2.2.2.2.2.1 else u.2.2.2.2.2.2.2.2.2.1)))) ∨ (u.1 = 1 ∧ u.2.1 = OF ∧ (pl < -1)) ∨ (u.1 = 2 ∧ u.2.1 = OF ∧ (-1 ≤ pl ∧ ¬ zcnm x y v w)) ∨ (u.1 = 1 ∧ u.2.1 = OF ∧ (-1 ≤ pl ∧ zcnm x y v w ∧ zfolP x y v w u.2.2.2.2.2.2.2.2.2.2.2.1 u.2.2.2.2.2.2.2.2.2.2.2.2.1 u.2.2.2.2.2.2.2.2.2.2.2.2.2 u.2.2.2.1 u.2.2.2.2.1 u.2.2.2.2.2.1 u.2.2.2.2.2.2.1 u.2.2.2.2.2.2.2.1 u.2.2.2.2.2.2.2.2.1 ∧ ¬ pl = -1 ∧ ((u.2.2.2.2.2.2.2.2.2.2.2.2.2 : Int) + 1) ≤ pl)))) (fun u => zW G (va_A [zcl G oo 1 OF, (h0, .inr (4, [.ref qs, .int (zI sc), .ref hr, .ref hc, .ref hk])), (hc, .inr (1, [.ref qv, .int (zI fx), .int (zI fy), .int (zI lx), .int (zI ly), .int (zI tn), .int (zI ar), .int (zI wx), .int (zI wy)]))] sz) ((fun (u : (Int) × (Nat → Int) × (Int) × (Int) × (Int) × (Int) × (Int) × (Int) × (Int) × (Int) × (Int) × (Int) × (Int) × (Nat)) => [zcl G oo 1 u.2.1, (h0, .inr (4, [.ref qs, .int (zI sc), .ref hr, .ref hc, .ref hk])), (hc, .inr (1, [.ref qv, .int (zI u.2.2.2.1), .int (zI u.2.2.2.2.1), .int (zI u.2.2.2.2.2.1), .int (zI u.2.2.2.2.2.2.1), .int (zI u.2.2.2.2.2.2.2.1), .int (zI u.2.2.2.2.2.2.2.2.1), .int (zI u.2.2.2.2.2.2.2.2.2.1), .int (zI u.2.2.2.2.2.2.2.2.2.2.1)]))]) u)) (va_A [zcl G oo 1 OF, (h0, .inr (4, [.ref qs, .int (zI sc), .ref hr, .ref hc, .ref hk])), (hc, .inr (1, [.ref qv, .int (zI fx), .int (zI fy), .int (zI lx), .int (zI ly), .int (zI tn), .int (zI ar), .int (zI wx), .int (zI wy)]))] sz)) 7 42 (va_A [zcl G oo 1 OF, (h0, .inr (4, [.ref qs, .int (zI sc), .ref hr, .ref hc, .ref hk])), (hc, .inr (1, [.ref qv, .int (zI fx), .int (zI fy), .int (zI lx), .int (zI ly), .int (zI tn), .int (zI ar), .int (zI wx), .int (zI wy)]))] sz) := by
  refine zMh_i (post := fun (r : Int32) (u : (Int) × (Nat → Int) × (Int) × (Int) × (Int) × (Int) × (Int) × (Int) × (Int) × (Int) × (Int) × (Int) × (Int) × (Nat)) => r = zI u.1 ∧ ((u.1 = 0 ∧ u.2.1 = zU OF 0 (zT32 u.2.2.1) ∧ (-1 ≤ pl ∧ zcnm x y v w) ∧ (zfolP x y v w u.2.2.2.2.2.2.2.2.2.2.2.1 u.2.2.2.2.2.2.2.2.2.2.2.2.1 u.2.2.2.2.2.2.2.2.2.2.2.2.2 u.2.2.2.1 u.2.2.2.2.1 u.2.2.2.2.2.1 u.2.2.2.2.2.2.1 u.2.2.2.2.2.2.2.1 u.2.2.2.2.2.2.2.2.1 ∧ zwj u.2.2.2.2.2.2.2.1 u.2.2.2.2.2.1 u.2.2.2.2.2.2.1 u.2.2.2.1 u.2.2.2.2.1 (u.2.2.2.2.2.2.2.2.2.2.2.1 - u.2.2.2.2.2.2.2.2.2.2.2.2.1 * u.2.2.2.1) (zsecY u.2.2.2.1 u.2.2.2.2.1 u.2.2.2.2.2.2.2.1 u.2.2.2.2.2.2.2.2.2.2.2.1 - u.2.2.2.2.2.2.2.2.2.2.2.2.1 * u.2.2.2.2.1) u.2.2.2.2.2.2.2.2.2.2.2.2.2 pl u.2.2.2.2.2.2.2.2.2.1 u.2.2.2.2.2.2.2.2.2.2.1) ∧ ((pl = -1 ∧ u.2.2.1 = ((u.2.2.2.2.2.2.2.2.2.2.2.2.2 : Int) + 1)) ∨ (¬ pl = -1 ∧ pl < ((u.2.2.2.2.2.2.2.2.2.2.2.2.2 : Int) + 1) ∧ u.2.2.1 = (if fs = 0 then u.2.2.2.2.2.2.2.2.2.2.1 else u.2.2.2.2.2.2.2.2.2.1)))) ∨ (u.1 = 1 ∧ u.2.1 = OF ∧ (pl < -1)) ∨ (u.1 = 2 ∧ u.2.1 = OF ∧ (-1 ≤ pl ∧ ¬ zcnm x y v w)) ∨ (u.1 = 1 ∧ u.2.1 = OF ∧ (-1 ≤ pl ∧ zcnm x y v w ∧ zfolP x y v w u.2.2.2.2.2.2.2.2.2.2.2.1 u.2.2.2.2.2.2.2.2.2.2.2.2.1 u.2.2.2.2.2.2.2.2.2.2.2.2.2 u.2.2.2.1 u.2.2.2.2.1 u.2.2.2.2.2.1 u.2.2.2.2.2.2.1 u.2.2.2.2.2.2.2.1 u.2.2.2.2.2.2.2.2.1 ∧ ¬ pl = -1 ∧ ((u.2.2.2.2.2.2.2.2.2.2.2.2.2 : Int) + 1) ≤ pl)))) (w1 := fun (u : (Int) × (Nat → Int) × (Int) × (Int) × (Int) × (Int) × (Int) × (Int) × (Int) × (Int) × (Int) × (Int) × (Int) × (Nat)) => [zcl G oo 1 u.2.1, (h0, .inr (4, [.ref qs, .int (zI sc), .ref hr, .ref hc, .ref hk])), (hc, .inr (1, [.ref qv, .int (zI u.2.2.2.1), .int (zI u.2.2.2.2.1), .int (zI u.2.2.2.2.2.1), .int (zI u.2.2.2.2.2.2.1), .int (zI u.2.2.2.2.2.2.2.1), .int (zI u.2.2.2.2.2.2.2.2.1), .int (zI u.2.2.2.2.2.2.2.2.2.1), .int (zI u.2.2.2.2.2.2.2.2.2.2.1)]))]) (by decide) rfl (Nat.le_of_ble_eq_true rfl) ?_
  intro p e s m below meth c A Q S hN hK hP hD hS hA hE0 htab hret ls hl
  have hl : lv_has ls 9 [(0, .ref h0), (1, .int (zI x)), (2, .int (zI y)), (3, .int (zI v)), (4, .int (zI w)), (5, .int (zI pl)), (6, .int (zI fs)), (7, .ref oo)] := hl
  refine zv_aload S dL_generatorAnew_0 (lv_at hl 7 rfl) ?_
  refine zv_iconst S dL_generatorAnew_2 ?_
  refine zv_aload_n S dL_generatorAnew_3 rfl (lv_at hl 0 rfl) ?_
  refine zv_iload_n S dL_generatorAnew_4 rfl (lv_at hl 1 rfl) ?_
  refine zv_iload_n S dL_generatorAnew_5 rfl (lv_at hl 2 rfl) ?_
  refine zv_iload_n S dL_generatorAnew_6 rfl (lv_at hl 3 rfl) ?_
  refine zv_iload S dL_generatorAnew_7 (lv_at hl 4 rfl) ?_
  refine zv_iload S dL_generatorAnew_9 (lv_at hl 5 rfl) ?_
  refine zv_iload S dL_generatorAnew_11 (lv_at hl 6 rfl) ?_
  refine zcx_Vi (As := [.int (zI x), .int (zI y), .int (zI v), .int (zI w), .int (zI pl), .int (zI fs)]) (rest := [.int (zI 0), .ref oo]) (wr := [zcl G oo 1 OF]) (n := 6) S hN hK (hE0.kept hS.2.1) hP hD hS hA hl (c_X4_generatorAnew l hl0 G s.heap.size h0 qs sc hr hc hk qv fx fy lx ly tn ar wx wy x y v w pl fs h1 h2 h3 h4 hpl hfs) gL_generatorAnew_X4_generatorAnew rfl ⟨rfl, rfl⟩ (by decide +kernel) rfl ⟨Nat.le_of_ble_eq_true rfl, Nat.le_of_ble_eq_true rfl, Nat.le_of_ble_eq_true rfl, Nat.le_of_ble_eq_true rfl⟩ [1, 2] [0] rfl rfl (by decide) (by decide) (by decide) (ci := 4) rfl rfl rfl (Nat.le_of_ble_eq_true rfl) dL_generatorAnew_13 rfl (fun E_ ce_ q_ ux_ H1 locs1 hc1 hP1 hD1 hS1 hz1 hce1 hcv1 hcl1 => ?_) (fun r_ u_1 H1 locs1 hp_2 hP1 hD1 hS1 hz1 => ?_)
  · obtain ⟨n1_3, n2_4, n3_5, n4_6, n5_7, n6_8, n7_9, n8_10, X_11, T_12, N_13⟩ := ux_
    try dsimp only at hc1 hP1 hD1
    have hP1 : va_P G.1 vwCl [zcl G oo 1 OF, (h0, .inr (4, [.ref qs, .int (zI sc), .ref hr, .ref hc, .ref hk])), (hc, .inr (1, [.ref qv, .int (zI n1_3), .int (zI n2_4), .int (zI n3_5), .int (zI n4_6), .int (zI n5_7), .int (zI n6_8), .int (zI n7_9), .int (zI n8_10)]))] H1 := hP1
    have hD1 : va_D A [zcl G oo 1 OF, (h0, .inr (4, [.ref qs, .int (zI sc), .ref hr, .ref hc, .ref hk])), (hc, .inr (1, [.ref qv, .int (zI n1_3), .int (zI n2_4), .int (zI n3_5), .int (zI n4_6), .int (zI n5_7), .int (zI n6_8), .int (zI n7_9), .int (zI n8_10)]))] := hD1
    rcases hc1 with ⟨rfl, hx_0⟩ | ⟨rfl, hx_1⟩ | ⟨rfl, hx_2⟩
    · refine zcatch S htab hE0 [] [(0, 18, 25, 21)] rfl (by decide) (by decide) wd_L_generatorAnew_ct19 (Or.inl rfl) (fun _ h => absurd h List.not_mem_nil) hce1 hcv1 hcl1 ?_
      generalize H1 = H at hP1 hD1 hS1 hz1 ⊢
      generalize locs1 = locs at hS1 ⊢
      have hS := hS1
      have hP : va_P G.1 vwCl [zcl G oo 1 OF, (h0, .inr (4, [.ref qs, .int (zI sc), .ref hr, .ref hc, .ref hk])), (hc, .inr (1, [.ref qv, .int (zI n1_3), .int (zI n2_4), .int (zI n3_5), .int (zI n4_6), .int (zI n5_7), .int (zI n6_8), .int (zI n7_9), .int (zI n8_10)]))] H := hP1
      have hD : va_D A [zcl G oo 1 OF, (h0, .inr (4, [.ref qs, .int (zI sc), .ref hr, .ref hc, .ref hk])), (hc, .inr (1, [.ref qv, .int (zI n1_3), .int (zI n2_4), .int (zI n3_5), .int (zI n4_6), .int (zI n5_7), .int (zI n6_8), .int (zI n7_9), .int (zI n8_10)]))] := hD1
      refine zv_astore (lv' := [(8, .ref q_), (0, .ref h0), (1, .int (zI x)), (2, .int (zI y)), (3, .int (zI v)), (4, .int (zI w)), (5, .int (zI pl)), (6, .int (zI fs)), (7, .ref oo)]) S dL_generatorAnew_21 hl (by decide) rfl (fun ls hl => ?_)
      refine zv_iconst S dL_generatorAnew_23 ?_
      exact hret _ _ _ _ _ ⟨1, OF, 0, n1_3, n2_4, n3_5, n4_6, n5_7, n6_8, n7_9, n8_10, X_11, T_12, N_13⟩ dL_generatorAnew_24 ⟨rfl, (show (1 = 0 ∧ OF = zU OF 0 (zT32 0) ∧ (-1 ≤ pl ∧ zcnm x y v w) ∧ (zfolP x y v w X_11 T_12 N_13 n1_3 n2_4 n3_5 n4_6 n5_7 n6_8 ∧ zwj n5_7 n3_5 n4_6 n1_3 n2_4 (X_11 - T_12 * n1_3) (zsecY n1_3 n2_4 n5_7 X_11 - T_12 * n2_4) N_13 pl n7_9 n8_10) ∧ ((pl = -1 ∧ 0 = ((N_13 : Int) + 1)) ∨ (¬ pl = -1 ∧ pl < ((N_13 : Int) + 1) ∧ 0 = (if fs = 0 then n8_10 else n7_9)))) ∨ (1 = 1 ∧ OF = OF ∧ (pl < -1)) ∨ (1 = 2 ∧ OF = OF ∧ (-1 ≤ pl ∧ ¬ zcnm x y v w)) ∨ (1 = 1 ∧ OF = OF ∧ (-1 ≤ pl ∧ zcnm x y v w ∧ zfolP x y v w X_11 T_12 N_13 n1_3 n2_4 n3_5 n4_6 n5_7 n6_8 ∧ ¬ pl = -1 ∧ ((N_13 : Int) + 1) ≤ pl)) from (Or.inr (Or.inl ⟨rfl, rfl, hx_0⟩)))⟩ (hP.sub [0, 1, 2] rfl) (hD.sub [0, 1, 2] (by decide) rfl) hS
    · refine zcatch S htab hE0 [(0, 18, 21, 19)] [] rfl (by decide) (by decide) wd_L_generatorAnew_ct21 (Or.inr (Or.inl rfl)) (List.forall_mem_cons.mpr ⟨⟨by decide, zIO, wd_L_generatorAnew_ct19, (Or.inl ⟨rfl, rfl⟩)⟩, (fun _ h => absurd h List.not_mem_nil)⟩) hce1 hcv1 hcl1 ?_
      generalize H1 = H at hP1 hD1 hS1 hz1 ⊢
      generalize locs1 = locs at hS1 ⊢
      have hS := hS1
      have hP : va_P G.1 vwCl [zcl G oo 1 OF, (h0, .inr (4, [.ref qs, .int (zI sc), .ref hr, .ref hc, .ref hk])), (hc, .inr (1, [.ref qv, .int (zI n1_3), .int (zI n2_4), .int (zI n3_5), .int (zI n4_6), .int (zI n5_7), .int (zI n6_8), .int (zI n7_9), .int (zI n8_10)]))] H := hP1
      have hD : va_D A [zcl G oo 1 OF, (h0, .inr (4, [.ref qs, .int (zI sc), .ref hr, .ref hc, .ref hk])), (hc, .inr (1, [.ref qv, .int (zI n1_3), .int (zI n2_4), .int (zI n3_5), .int (zI n4_6), .int (zI n5_7), .int (zI n6_8), .int (zI n7_9), .int (zI n8_10)]))] := hD1
      refine zv_astore (lv' := [(8, .ref q_), (0, .ref h0), (1, .int (zI x)), (2, .int (zI y)), (3, .int (zI v)), (4, .int (zI w)), (5, .int (zI pl)), (6, .int (zI fs)), (7, .ref oo)]) S dL_generatorAnew_25 hl (by decide) rfl (fun ls hl => ?_)
      refine zv_iconst S dL_generatorAnew_27 ?_
      exact hret _ _ _ _ _ ⟨2, OF, 0, n1_3, n2_4, n3_5, n4_6, n5_7, n6_8, n7_9, n8_10, X_11, T_12, N_13⟩ dL_generatorAnew_28 ⟨rfl, (show (2 = 0 ∧ OF = zU OF 0 (zT32 0) ∧ (-1 ≤ pl ∧ zcnm x y v w) ∧ (zfolP x y v w X_11 T_12 N_13 n1_3 n2_4 n3_5 n4_6 n5_7 n6_8 ∧ zwj n5_7 n3_5 n4_6 n1_3 n2_4 (X_11 - T_12 * n1_3) (zsecY n1_3 n2_4 n5_7 X_11 - T_12 * n2_4) N_13 pl n7_9 n8_10) ∧ ((pl = -1 ∧ 0 = ((N_13 : Int) + 1)) ∨ (¬ pl = -1 ∧ pl < ((N_13 : Int) + 1) ∧ 0 = (if fs = 0 then n8_10 else n7_9)))) ∨ (2 = 1 ∧ OF = OF ∧ (pl < -1)) ∨ (2 = 2 ∧ OF = OF ∧ (-1 ≤ pl ∧ ¬ zcnm x y v w)) ∨ (2 = 1 ∧ OF = OF ∧ (-1 ≤ pl ∧ zcnm x y v w ∧ zfolP x y v w X_11 T_12 N_13 n1_3 n2_4 n3_5 n4_6 n5_7 n6_8 ∧ ¬ pl = -1 ∧ ((N_13 : Int) + 1) ≤ pl)) from (Or.inr (Or.inr (Or.inl ⟨rfl, rfl, hx_1⟩))))⟩ (hP.sub [0, 1, 2] rfl) (hD.sub [0, 1, 2] (by decide) rfl) hS
    · refine zcatch S htab hE0 [] [(0, 18, 25, 21)] rfl (by decide) (by decide) wd_L_generatorAnew_ct19 (Or.inl rfl) (fun _ h => absurd h List.not_mem_nil) hce1 hcv1 hcl1 ?_
      generalize H1 = H at hP1 hD1 hS1 hz1 ⊢
      generalize locs1 = locs at hS1 ⊢
      have hS := hS1
      have hP : va_P G.1 vwCl [zcl G oo 1 OF, (h0, .inr (4, [.ref qs, .int (zI sc), .ref hr, .ref hc, .ref hk])), (hc, .inr (1, [.ref qv, .int (zI n1_3), .int (zI n2_4), .int (zI n3_5), .int (zI n4_6), .int (zI n5_7), .int (zI n6_8), .int (zI n7_9), .int (zI n8_10)]))] H := hP1
      have hD : va_D A [zcl G oo 1 OF, (h0, .inr (4, [.ref qs, .int (zI sc), .ref hr, .ref hc, .ref hk])), (hc, .inr (1, [.ref qv, .int (zI n1_3), .int (zI n2_4), .int (zI n3_5), .int (zI n4_6), .int (zI n5_7), .int (zI n6_8), .int (zI n7_9), .int (zI n8_10)]))] := hD1
      refine zv_astore (lv' := [(8, .ref q_), (0, .ref h0), (1, .int (zI x)), (2, .int (zI y)), (3, .int (zI v)), (4, .int (zI w)), (5, .int (zI pl)), (6, .int (zI fs)), (7, .ref oo)]) S dL_generatorAnew_21 hl (by decide) rfl (fun ls hl => ?_)
      refine zv_iconst S dL_generatorAnew_23 ?_
      exact hret _ _ _ _ _ ⟨1, OF, 0, n1_3, n2_4, n3_5, n4_6, n5_7, n6_8, n7_9, n8_10, X_11, T_12, N_13⟩ dL_generatorAnew_24 ⟨rfl, (show (1 = 0 ∧ OF = zU OF 0 (zT32 0) ∧ (-1 ≤ pl ∧ zcnm x y v w) ∧ (zfolP x y v w X_11 T_12 N_13 n1_3 n2_4 n3_5 n4_6 n5_7 n6_8 ∧ zwj n5_7 n3_5 n4_6 n1_3 n2_4 (X_11 - T_12 * n1_3) (zsecY n1_3 n2_4 n5_7 X_11 - T_12 * n2_4) N_13 pl n7_9 n8_10) ∧ ((pl = -1 ∧ 0 = ((N_13 : Int) + 1)) ∨ (¬ pl = -1 ∧ pl < ((N_13 : Int) + 1) ∧ 0 = (if fs = 0 then n8_10 else n7_9)))) ∨ (1 = 1 ∧ OF = OF ∧ (pl < -1)) ∨ (1 = 2 ∧ OF = OF ∧ (-1 ≤ pl ∧ ¬ zcnm x y v w)) ∨ (1 = 1 ∧ OF = OF ∧ (-1 ≤ pl ∧ zcnm x y v w ∧ zfolP x y v w X_11 T_12 N_13 n1_3 n2_4 n3_5 n4_6 n5_7 n6_8 ∧ ¬ pl = -1 ∧ ((N_13 : Int) + 1) ≤ pl)) from (Or.inr (Or.inr (Or.inr ⟨rfl, rfl, hx_2⟩))))⟩ (hP.sub [0, 1, 2] rfl) (hD.sub [0, 1, 2] (by decide) rfl) hS
  obtain ⟨rr_14, n1_15, n2_16, n3_17, n4_18, n5_19, n6_20, n7_21, n8_22, X_23, T_24, N_25⟩ := u_1
  try dsimp only at hp_2 hP1 hD1
  obtain ⟨rfl, hpo_26, hlk_27, hgr_28⟩ := hp_2
  generalize H1 = H at hP1 hD1 hS1 hz1 ⊢
  generalize locs1 = locs at hS1 ⊢
  have hS := hS1
  have hP : va_P G.1 vwCl [zcl G oo 1 OF, (h0, .inr (4, [.ref qs, .int (zI sc), .ref hr, .ref hc, .ref hk])), (hc, .inr (1, [.ref qv, .int (zI n1_15), .int (zI n2_16), .int (zI n3_17), .int (zI n4_18), .int (zI n5_19), .int (zI n6_20), .int (zI n7_21), .int (zI n8_22)]))] H := hP1
  have hD : va_D A [zcl G oo 1 OF, (h0, .inr (4, [.ref qs, .int (zI sc), .ref hr, .ref hc, .ref hk])), (hc, .inr (1, [.ref qv, .int (zI n1_15), .int (zI n2_16), .int (zI n3_17), .int (zI n4_18), .int (zI n5_19), .int (zI n6_20), .int (zI n7_21), .int (zI n8_22)]))] := hD1
  refine zv_i2lw S dL_generatorAnew_16 ?_
  refine zv_last S hK hP hD hS 0 1 rfl rfl 0 rfl (by decide) (by decide) dL_generatorAnew_17 (fun H locs hP hD hS => ?_)
  have hP : va_P G.1 vwCl [zcl G oo 1 (zU OF 0 (zT32 rr_14)), (h0, .inr (4, [.ref qs, .int (zI sc), .ref hr, .ref hc, .ref hk])), (hc, .inr (1, [.ref qv, .int (zI n1_15), .int (zI n2_16), .int (zI n3_17), .int (zI n4_18), .int (zI n5_19), .int (zI n6_20), .int (zI n7_21), .int (zI n8_22)]))] H := hP
  have hD : va_D A [zcl G oo 1 (zU OF 0 (zT32 rr_14)), (h0, .inr (4, [.ref qs, .int (zI sc), .ref hr, .ref hc, .ref hk])), (hc, .inr (1, [.ref qv, .int (zI n1_15), .int (zI n2_16), .int (zI n3_17), .int (zI n4_18), .int (zI n5_19), .int (zI n6_20), .int (zI n7_21), .int (zI n8_22)]))] := hD
  refine zv_goto (tgt := 29) S dL_generatorAnew_18 (by decide) ?_
  refine zv_iconst S dL_generatorAnew_29 ?_
  exact hret _ _ _ _ _ ⟨0, (zU OF 0 (zT32 rr_14)), rr_14, n1_15, n2_16, n3_17, n4_18, n5_19, n6_20, n7_21, n8_22, X_23, T_24, N_25⟩ dL_generatorAnew_30 ⟨rfl, (show (0 = 0 ∧ (zU OF 0 (zT32 rr_14)) = zU OF 0 (zT32 rr_14) ∧ (-1 ≤ pl ∧ zcnm x y v w) ∧ (zfolP x y v w X_23 T_24 N_25 n1_15 n2_16 n3_17 n4_18 n5_19 n6_20 ∧ zwj n5_19 n3_17 n4_18 n1_15 n2_16 (X_23 - T_24 * n1_15) (zsecY n1_15 n2_16 n5_19 X_23 - T_24 * n2_16) N_25 pl n7_21 n8_22) ∧ ((pl = -1 ∧ rr_14 = ((N_25 : Int) + 1)) ∨ (¬ pl = -1 ∧ pl < ((N_25 : Int) + 1) ∧ rr_14 = (if fs = 0 then n8_22 else n7_21)))) ∨ (0 = 1 ∧ (zU OF 0 (zT32 rr_14)) = OF ∧ (pl < -1)) ∨ (0 = 2 ∧ (zU OF 0 (zT32 rr_14)) = OF ∧ (-1 ≤ pl ∧ ¬ zcnm x y v w)) ∨ (0 = 1 ∧ (zU OF 0 (zT32 rr_14)) = OF ∧ (-1 ≤ pl ∧ zcnm x y v w ∧ zfolP x y v w X_23 T_24 N_25 n1_15 n2_16 n3_17 n4_18 n5_19 n6_20 ∧ ¬ pl = -1 ∧ ((N_25 : Int) + 1) ≤ pl)) from (Or.inl ⟨rfl, rfl, hpo_26, hlk_27, hgr_28⟩))⟩ (hP.sub [0, 1, 2] rfl) (hD.sub [0, 1, 2] (by decide) rfl) hS

theorem wd_L_coin_ct21 : Cond.classLink RL 21 zIA ∈ wsL_coin := by decide +kernel
theorem wd_L_coin_ct13 : Cond.classLink RL 13 zIS ∈ wsL_coin := by decide +kernel
set_option maxHeartbeats 4000000 in
set_option maxRecDepth 100000 in
/-- the law: coin -/
theorem c_L_coin (l : Launch) (hl0 : l.stackTraces = false) (G : zG) (sz : Nat) (oo : Nat) (OF : Nat → Int) (h0 : Nat) (qs : Nat) (sc : Int) (hr : Nat) (hc : Nat) (hk : Nat) (qw : Nat) (ql : Nat) (n : Nat) (wg : Int) (v : Int) (hn : n < 2 ^ 60) (hv : -2147483648 ≤ v ∧ v < 2147483648) : Met l yL_coin wsL_coin ({ frames := 8, cells := 2, slots := 12, locals := 133 }) (va_Pc [.ref h0, .int (zI v), .ref oo] (zPx G sz [zcl G oo 1 OF, (h0, .inr (4, [.ref qs, .int (zI sc), .ref hr, .ref hc, .ref hk])), (hk, .inr (0, [.ref qw, .ref ql, .long (zL (n : Int)), .int (zI wg)]))])) (va_Qi (fun (r : Int32) (u : (Int) × (Nat → Int) × (Nat)) => r = zI u.1 ∧ ((u.1 = 0 ∧ u.2.1 = zU OF 0 (zT32 ((zpop 64 (n ^^^ 2 ^ (v - 1).toNat : Nat) : Nat) : Int)) ∧ u.2.2 = n ^^^ 2 ^ (v - 1).toNat ∧ ((1 ≤ v ∧ v ≤ 60) ∧ (zk n v ∨ zpop 64 n < 6))) ∨ (u.1 = 1 ∧ u.2.1 = OF ∧ u.2.2 = n ∧ (¬ (1 ≤ v ∧ v ≤ 60))) ∨ (u.1 = 2 ∧ u.2.1 = OF ∧ u.2.2 = n ∧ ((1 ≤ v ∧ v ≤ 60) ∧ ¬ zk n v ∧ 6 ≤ zpop 64 n)))) (fun u => zW G (va_A [zcl G oo 1 OF, (h0, .inr (4, [.ref qs, .int (zI sc), .ref hr, .ref hc, .ref hk])), (hk, .inr (0, [.ref qw, .ref ql, .long (zL (n : Int)), .int (zI wg)]))] sz) ((fun (u : (Int) × (Nat → Int) × (Nat)) => [zcl G oo 1 u.2.1, (h0, .inr (4, [.ref qs, .int (zI sc), .ref hr, .ref hc, .ref hk])), (hk, .inr (0, [.ref qw, .ref ql, .long (zL (u.2.2 : Int)), .int (zI wg)]))]) u)) (va_A [zcl G oo 1 OF, (h0, .inr (4, [.ref qs, .int (zI sc), .ref hr, .ref hc, .ref hk])), (hk, .inr (0, [.ref qw, .ref ql, .long (zL (n : Int)), .int (zI wg)]))] sz)) 2 12 (va_A [zcl G oo 1 OF, (h0, .inr (4, [.ref qs, .int (zI sc), .ref hr, .ref hc, .ref hk])), (hk, .inr (0, [.ref qw, .ref ql, .long (zL (n : Int)), .int (zI wg)]))] sz) := by
  refine zMh_i (post := fun (r : Int32) (u : (Int) × (Nat → Int) × (Nat)) => r = zI u.1 ∧ ((u.1 = 0 ∧ u.2.1 = zU OF 0 (zT32 ((zpop 64 (n ^^^ 2 ^ (v - 1).toNat : Nat) : Nat) : Int)) ∧ u.2.2 = n ^^^ 2 ^ (v - 1).toNat ∧ ((1 ≤ v ∧ v ≤ 60) ∧ (zk n v ∨ zpop 64 n < 6))) ∨ (u.1 = 1 ∧ u.2.1 = OF ∧ u.2.2 = n ∧ (¬ (1 ≤ v ∧ v ≤ 60))) ∨ (u.1 = 2 ∧ u.2.1 = OF ∧ u.2.2 = n ∧ ((1 ≤ v ∧ v ≤ 60) ∧ ¬ zk n v ∧ 6 ≤ zpop 64 n)))) (w1 := fun (u : (Int) × (Nat → Int) × (Nat)) => [zcl G oo 1 u.2.1, (h0, .inr (4, [.ref qs, .int (zI sc), .ref hr, .ref hc, .ref hk])), (hk, .inr (0, [.ref qw, .ref ql, .long (zL (u.2.2 : Int)), .int (zI wg)]))]) (by decide) rfl (Nat.le_of_ble_eq_true rfl) ?_
  intro p e s m below meth c A Q S hN hK hP hD hS hA hE0 htab hret ls hl
  have hl : lv_has ls 4 [(0, .ref h0), (1, .int (zI v)), (2, .ref oo)] := hl
  refine zv_aload_n S dL_coin_0 rfl (lv_at hl 2 rfl) ?_
  refine zv_iconst S dL_coin_1 ?_
  refine zv_aload_n S dL_coin_2 rfl (lv_at hl 0 rfl) ?_
  refine zv_iload_n S dL_coin_3 rfl (lv_at hl 1 rfl) ?_
  refine zcx_Vi (As := [.int (zI v)]) (rest := [.int (zI 0), .ref oo]) (wr := [zcl G oo 1 OF]) (n := 1) S hN hK (hE0.kept hS.2.1) hP hD hS hA hl (c_X4_coin l hl0 G s.heap.size h0 qs sc hr hc hk qw ql n wg v hn hv) gL_coin_X4_coin rfl ⟨rfl, rfl⟩ (by decide +kernel) rfl ⟨Nat.le_of_ble_eq_true rfl, Nat.le_of_ble_eq_true rfl, Nat.le_of_ble_eq_true rfl, Nat.le_of_ble_eq_true rfl⟩ [1, 2] [0] rfl rfl (by decide) (by decide) (by decide) (ci := 4) rfl rfl rfl (Nat.le_of_ble_eq_true rfl) dL_coin_4 rfl (fun E_ ce_ q_ ux_ H1 locs1 hc1 hP1 hD1 hS1 hz1 hce1 hcv1 hcl1 => ?_) (fun r_ u_1 H1 locs1 hp_2 hP1 hD1 hS1 hz1 => ?_)
  · try dsimp only at hc1 hP1 hD1
    have hP1 : va_P G.1 vwCl [zcl G oo 1 OF, (h0, .inr (4, [.ref qs, .int (zI sc), .ref hr, .ref hc, .ref hk])), (hk, .inr (0, [.ref qw, .ref ql, .long (zL (n : Int)), .int (zI wg)]))] H1 := hP1
    have hD1 : va_D A [zcl G oo 1 OF, (h0, .inr (4, [.ref qs, .int (zI sc), .ref hr, .ref hc, .ref hk])), (hk, .inr (0, [.ref qw, .ref ql, .long (zL (n : Int)), .int (zI wg)]))] := hD1
    rcases hc1 with ⟨rfl, hx_0⟩ | ⟨rfl, hx_1⟩
    · refine zcatch S htab hE0 [] [(0, 9, 15, 13)] rfl (by decide) (by decide) wd_L_coin_ct21 (Or.inr (Or.inl rfl)) (fun _ h => absurd h List.not_mem_nil) hce1 hcv1 hcl1 ?_
      generalize H1 = H at hP1 hD1 hS1 hz1 ⊢
      generalize locs1 = locs at hS1 ⊢
      have hS := hS1
      have hP : va_P G.1 vwCl [zcl G oo 1 OF, (h0, .inr (4, [.ref qs, .int (zI sc), .ref hr, .ref hc, .ref hk])), (hk, .inr (0, [.ref qw, .ref ql, .long (zL (n : Int)), .int (zI wg)]))] H := hP1
      have hD : va_D A [zcl G oo 1 OF, (h0, .inr (4, [.ref qs, .int (zI sc), .ref hr, .ref hc, .ref hk])), (hk, .inr (0, [.ref qw, .ref ql, .long (zL (n : Int)), .int (zI wg)]))] := hD1
      refine zv_astore_n (lv' := [(3, .ref q_), (0, .ref h0), (1, .int (zI v)), (2, .ref oo)]) S dL_coin_12 rfl hl (by decide) rfl (fun ls hl => ?_)
      refine zv_iconst S dL_coin_13 ?_
      exact hret _ _ _ _ _ ⟨1, OF, n⟩ dL_coin_14 ⟨rfl, (show (1 = 0 ∧ OF = zU OF 0 (zT32 ((zpop 64 (n ^^^ 2 ^ (v - 1).toNat : Nat) : Nat) : Int)) ∧ n = n ^^^ 2 ^ (v - 1).toNat ∧ ((1 ≤ v ∧ v ≤ 60) ∧ (zk n v ∨ zpop 64 n < 6))) ∨ (1 = 1 ∧ OF = OF ∧ n = n ∧ (¬ (1 ≤ v ∧ v ≤ 60))) ∨ (1 = 2 ∧ OF = OF ∧ n = n ∧ ((1 ≤ v ∧ v ≤ 60) ∧ ¬ zk n v ∧ 6 ≤ zpop 64 n)) from (Or.inr (Or.inl ⟨rfl, rfl, rfl, hx_0⟩)))⟩ (hP.sub [0, 1, 2] rfl) (hD.sub [0, 1, 2] (by decide) rfl) hS
    · refine zcatch S htab hE0 [(0, 9, 12, 21)] [] rfl (by decide) (by decide) wd_L_coin_ct13 (Or.inr (Or.inr rfl)) (List.forall_mem_cons.mpr ⟨⟨by decide, zIA, wd_L_coin_ct21, (Or.inr (Or.inr ⟨rfl, rfl⟩))⟩, (fun _ h => absurd h List.not_mem_nil)⟩) hce1 hcv1 hcl1 ?_
      generalize H1 = H at hP1 hD1 hS1 hz1 ⊢
      generalize locs1 = locs at hS1 ⊢
      have hS := hS1
      have hP : va_P G.1 vwCl [zcl G oo 1 OF, (h0, .inr (4, [.ref qs, .int (zI sc), .ref hr, .ref hc, .ref hk])), (hk, .inr (0, [.ref qw, .ref ql, .long (zL (n : Int)), .int (zI wg)]))] H := hP1
      have hD : va_D A [zcl G oo 1 OF, (h0, .inr (4, [.ref qs, .int (zI sc), .ref hr, .ref hc, .ref hk])), (hk, .inr (0, [.ref qw, .ref ql, .long (zL (n : Int)), .int (zI wg)]))] := hD1
      refine zv_astore_n (lv' := [(3, .ref q_), (0, .ref h0), (1, .int (zI v)), (2, .ref oo)]) S dL_coin_15 rfl hl (by decide) rfl (fun ls hl => ?_)
      refine zv_iconst S dL_coin_16 ?_
      exact hret _ _ _ _ _ ⟨2, OF, n⟩ dL_coin_17 ⟨rfl, (show (2 = 0 ∧ OF = zU OF 0 (zT32 ((zpop 64 (n ^^^ 2 ^ (v - 1).toNat : Nat) : Nat) : Int)) ∧ n = n ^^^ 2 ^ (v - 1).toNat ∧ ((1 ≤ v ∧ v ≤ 60) ∧ (zk n v ∨ zpop 64 n < 6))) ∨ (2 = 1 ∧ OF = OF ∧ n = n ∧ (¬ (1 ≤ v ∧ v ≤ 60))) ∨ (2 = 2 ∧ OF = OF ∧ n = n ∧ ((1 ≤ v ∧ v ≤ 60) ∧ ¬ zk n v ∧ 6 ≤ zpop 64 n)) from (Or.inr (Or.inr ⟨rfl, rfl, rfl, hx_1⟩)))⟩ (hP.sub [0, 1, 2] rfl) (hD.sub [0, 1, 2] (by decide) rfl) hS
  try dsimp only at hp_2 hP1 hD1
  obtain ⟨rfl, hpo_3⟩ := hp_2
  generalize H1 = H at hP1 hD1 hS1 hz1 ⊢
  generalize locs1 = locs at hS1 ⊢
  have hS := hS1
  have hP : va_P G.1 vwCl [zcl G oo 1 OF, (h0, .inr (4, [.ref qs, .int (zI sc), .ref hr, .ref hc, .ref hk])), (hk, .inr (0, [.ref qw, .ref ql, .long (zL ((n ^^^ 2 ^ (v - 1).toNat : Nat) : Int)), .int (zI wg)]))] H := hP1
  have hD : va_D A [zcl G oo 1 OF, (h0, .inr (4, [.ref qs, .int (zI sc), .ref hr, .ref hc, .ref hk])), (hk, .inr (0, [.ref qw, .ref ql, .long (zL ((n ^^^ 2 ^ (v - 1).toNat : Nat) : Int)), .int (zI wg)]))] := hD1
  refine zv_i2lw S dL_coin_7 ?_
  refine zv_last S hK hP hD hS 0 1 rfl rfl 0 rfl (by decide) (by decide) dL_coin_8 (fun H locs hP hD hS => ?_)
  have hP : va_P G.1 vwCl [zcl G oo 1 (zU OF 0 (zT32 ((zpop 64 (n ^^^ 2 ^ (v - 1).toNat : Nat) : Nat) : Int))), (h0, .inr (4, [.ref qs, .int (zI sc), .ref hr, .ref hc, .ref hk])), (hk, .inr (0, [.ref qw, .ref ql, .long (zL ((n ^^^ 2 ^ (v - 1).toNat : Nat) : Int)), .int (zI wg)]))] H := hP
  have hD : va_D A [zcl G oo 1 (zU OF 0 (zT32 ((zpop 64 (n ^^^ 2 ^ (v - 1).toNat : Nat) : Nat) : Int))), (h0, .inr (4, [.ref qs, .int (zI sc), .ref hr, .ref hc, .ref hk])), (hk, .inr (0, [.ref qw, .ref ql, .long (zL ((n ^^^ 2 ^ (v - 1).toNat : Nat) : Int)), .int (zI wg)]))] := hD
  refine zv_goto (tgt := 18) S dL_coin_9 (by decide) ?_
  refine zv_iconst S dL_coin_18 ?_
  exact hret _ _ _ _ _ ⟨0, (zU OF 0 (zT32 ((zpop 64 (n ^^^ 2 ^ (v - 1).toNat : Nat) : Nat) : Int))), (n ^^^ 2 ^ (v - 1).toNat)⟩ dL_coin_19 ⟨rfl, (show (0 = 0 ∧ (zU OF 0 (zT32 ((zpop 64 (n ^^^ 2 ^ (v - 1).toNat : Nat) : Nat) : Int))) = zU OF 0 (zT32 ((zpop 64 (n ^^^ 2 ^ (v - 1).toNat : Nat) : Nat) : Int)) ∧ (n ^^^ 2 ^ (v - 1).toNat) = n ^^^ 2 ^ (v - 1).toNat ∧ ((1 ≤ v ∧ v ≤ 60) ∧ (zk n v ∨ zpop 64 n < 6))) ∨ (0 = 1 ∧ (zU OF 0 (zT32 ((zpop 64 (n ^^^ 2 ^ (v - 1).toNat : Nat) : Nat) : Int))) = OF ∧ (n ^^^ 2 ^ (v - 1).toNat) = n ∧ (¬ (1 ≤ v ∧ v ≤ 60))) ∨ (0 = 2 ∧ (zU OF 0 (zT32 ((zpop 64 (n ^^^ 2 ^ (v - 1).toNat : Nat) : Nat) : Int))) = OF ∧ (n ^^^ 2 ^ (v - 1).toNat) = n ∧ ((1 ≤ v ∧ v ≤ 60) ∧ ¬ zk n v ∧ 6 ≤ zpop 64 n)) from (Or.inl ⟨rfl, rfl, rfl, hpo_3⟩))⟩ (hP.sub [0, 1, 2] rfl) (hD.sub [0, 1, 2] (by decide) rfl) hS

theorem wd_L_ways_ct21 : Cond.classLink RL 21 zIA ∈ wsL_ways := by decide +kernel
set_option maxHeartbeats 4000000 in
set_option maxRecDepth 100000 in
/-- the law: ways -/
theorem c_L_ways (l : Launch) (hl0 : l.stackTraces = false) (G : zG) (sz : Nat) (oo : Nat) (OF : Nat → Int) (h0 : Nat) (qs : Nat) (sc : Int) (hr : Nat) (hc : Nat) (hk : Nat) (qw : Nat) (ql : Nat) (n : Nat) (wg : Int) (W0 : Nat → Int) (v : Int) (hn : n < 2 ^ 60) (hv : -2147483648 ≤ v ∧ v < 2147483648) : Met l yL_ways wsL_ways ({ frames := 8, cells := 1, slots := 6, locals := 133 }) (va_Pc [.ref h0, .int (zI v), .ref oo] (zPx G sz [zcl G oo 1 OF, (h0, .inr (4, [.ref qs, .int (zI sc), .ref hr, .ref hc, .ref hk])), (hk, .inr (0, [.ref qw, .ref ql, .long (zL (n : Int)), .int (zI wg)])), zcl G qw 1001 W0])) (va_Qi (fun (r : Int32) (u : (Int) × (Nat → Int) × (Nat → Int)) => r = zI u.1 ∧ ((u.1 = 0 ∧ u.2.1 = zU OF 0 (zws (zkc n) v.toNat 60 v.toNat) ∧ (0 ≤ v ∧ v ≤ 1000)) ∨ (u.1 = 1 ∧ u.2.1 = OF ∧ (¬ (0 ≤ v ∧ v ≤ 1000))))) (fun u => zW G (va_A [zcl G oo 1 OF, (h0, .inr (4, [.ref qs, .int (zI sc), .ref hr, .ref hc, .ref hk])), (hk, .inr (0, [.ref qw, .ref ql, .long (zL (n : Int)), .int (zI wg)])), zcl G qw 1001 W0] sz) ((fun (u : (Int) × (Nat → Int) × (Nat → Int)) => [zcl G oo 1 u.2.1, (h0, .inr (4, [.ref qs, .int (zI sc), .ref hr, .ref hc, .ref hk])), (hk, .inr (0, [.ref qw, .ref ql, .long (zL (n : Int)), .int (zI wg)])), zcl G qw 1001 u.2.2]) u)) (va_A [zcl G oo 1 OF, (h0, .inr (4, [.ref qs, .int (zI sc), .ref hr, .ref hc, .ref hk])), (hk, .inr (0, [.ref qw, .ref ql, .long (zL (n : Int)), .int (zI wg)])), zcl G qw 1001 W0] sz)) 1 6 (va_A [zcl G oo 1 OF, (h0, .inr (4, [.ref qs, .int (zI sc), .ref hr, .ref hc, .ref hk])), (hk, .inr (0, [.ref qw, .ref ql, .long (zL (n : Int)), .int (zI wg)])), zcl G qw 1001 W0] sz) := by
  refine zMh_i (post := fun (r : Int32) (u : (Int) × (Nat → Int) × (Nat → Int)) => r = zI u.1 ∧ ((u.1 = 0 ∧ u.2.1 = zU OF 0 (zws (zkc n) v.toNat 60 v.toNat) ∧ (0 ≤ v ∧ v ≤ 1000)) ∨ (u.1 = 1 ∧ u.2.1 = OF ∧ (¬ (0 ≤ v ∧ v ≤ 1000))))) (w1 := fun (u : (Int) × (Nat → Int) × (Nat → Int)) => [zcl G oo 1 u.2.1, (h0, .inr (4, [.ref qs, .int (zI sc), .ref hr, .ref hc, .ref hk])), (hk, .inr (0, [.ref qw, .ref ql, .long (zL (n : Int)), .int (zI wg)])), zcl G qw 1001 u.2.2]) (by decide) rfl (Nat.le_of_ble_eq_true rfl) ?_
  intro p e s m below meth c A Q S hN hK hP hD hS hA hE0 htab hret ls hl
  have hl : lv_has ls 4 [(0, .ref h0), (1, .int (zI v)), (2, .ref oo)] := hl
  refine zv_aload_n S dL_ways_0 rfl (lv_at hl 2 rfl) ?_
  refine zv_iconst S dL_ways_1 ?_
  refine zv_aload_n S dL_ways_2 rfl (lv_at hl 0 rfl) ?_
  refine zv_iload_n S dL_ways_3 rfl (lv_at hl 1 rfl) ?_
  refine zcx_Vl (As := [.int (zI v)]) (rest := [.int (zI 0), .ref oo]) (wr := [zcl G oo 1 OF]) (n := 1) S hN hK (hE0.kept hS.2.1) hP hD hS hA hl (c_X4_ways l hl0 G s.heap.size h0 qs sc hr hc hk qw ql n wg W0 v hn hv) gL_ways_X4_ways rfl ⟨rfl, rfl⟩ (by decide +kernel) rfl ⟨Nat.le_of_ble_eq_true rfl, Nat.le_of_ble_eq_true rfl, Nat.le_of_ble_eq_true rfl, Nat.le_of_ble_eq_true rfl⟩ [1, 2, 3] [0] rfl rfl (by decide) (by decide) (by decide) (ci := 4) rfl rfl rfl (Nat.le_of_ble_eq_true rfl) dL_ways_4 rfl (fun E_ ce_ q_ ux_ H1 locs1 hc1 hP1 hD1 hS1 hz1 hce1 hcv1 hcl1 => ?_) (fun r_ u_1 H1 locs1 hp_2 hP1 hD1 hS1 hz1 => ?_)
  · obtain ⟨W1_3, rfl⟩ : ∃ z, z = ux_ := ⟨_, rfl⟩
    try dsimp only at hc1 hP1 hD1
    have hP1 : va_P G.1 vwCl [zcl G oo 1 OF, (h0, .inr (4, [.ref qs, .int (zI sc), .ref hr, .ref hc, .ref hk])), (hk, .inr (0, [.ref qw, .ref ql, .long (zL (n : Int)), .int (zI wg)])), zcl G qw 1001 W1_3] H1 := hP1
    have hD1 : va_D A [zcl G oo 1 OF, (h0, .inr (4, [.ref qs, .int (zI sc), .ref hr, .ref hc, .ref hk])), (hk, .inr (0, [.ref qw, .ref ql, .long (zL (n : Int)), .int (zI wg)])), zcl G qw 1001 W1_3] := hD1
    obtain ⟨rfl, hx_0⟩ := hc1
    refine zcatch S htab hE0 [] [] rfl (by decide) (by decide) wd_L_ways_ct21 (Or.inr (Or.inl rfl)) (fun _ h => absurd h List.not_mem_nil) hce1 hcv1 hcl1 ?_
    generalize H1 = H at hP1 hD1 hS1 hz1 ⊢
    generalize locs1 = locs at hS1 ⊢
    have hS := hS1
    have hP : va_P G.1 vwCl [zcl G oo 1 OF, (h0, .inr (4, [.ref qs, .int (zI sc), .ref hr, .ref hc, .ref hk])), (hk, .inr (0, [.ref qw, .ref ql, .long (zL (n : Int)), .int (zI wg)])), zcl G qw 1001 W1_3] H := hP1
    have hD : va_D A [zcl G oo 1 OF, (h0, .inr (4, [.ref qs, .int (zI sc), .ref hr, .ref hc, .ref hk])), (hk, .inr (0, [.ref qw, .ref ql, .long (zL (n : Int)), .int (zI wg)])), zcl G qw 1001 W1_3] := hD1
    refine zv_astore_n (lv' := [(3, .ref q_), (0, .ref h0), (1, .int (zI v)), (2, .ref oo)]) S dL_ways_11 rfl hl (by decide) rfl (fun ls hl => ?_)
    refine zv_iconst S dL_ways_12 ?_
    exact hret _ _ _ _ _ ⟨1, OF, W1_3⟩ dL_ways_13 ⟨rfl, (show (1 = 0 ∧ OF = zU OF 0 (zws (zkc n) v.toNat 60 v.toNat) ∧ (0 ≤ v ∧ v ≤ 1000)) ∨ (1 = 1 ∧ OF = OF ∧ (¬ (0 ≤ v ∧ v ≤ 1000))) from (Or.inr ⟨rfl, rfl, hx_0⟩))⟩ (hP.sub [0, 1, 2, 3] rfl) (hD.sub [0, 1, 2, 3] (by decide) rfl) hS
  obtain ⟨W1_4, rfl⟩ : ∃ z, z = u_1 := ⟨_, rfl⟩
  try dsimp only at hp_2 hP1 hD1
  obtain ⟨rfl, hpo_5⟩ := hp_2
  generalize H1 = H at hP1 hD1 hS1 hz1 ⊢
  generalize locs1 = locs at hS1 ⊢
  have hS := hS1
  have hP : va_P G.1 vwCl [zcl G oo 1 OF, (h0, .inr (4, [.ref qs, .int (zI sc), .ref hr, .ref hc, .ref hk])), (hk, .inr (0, [.ref qw, .ref ql, .long (zL (n : Int)), .int (zI wg)])), zcl G qw 1001 W1_4] H := hP1
  have hD : va_D A [zcl G oo 1 OF, (h0, .inr (4, [.ref qs, .int (zI sc), .ref hr, .ref hc, .ref hk])), (hk, .inr (0, [.ref qw, .ref ql, .long (zL (n : Int)), .int (zI wg)])), zcl G qw 1001 W1_4] := hD1
  refine zv_last S hK hP hD hS 0 1 rfl rfl 0 rfl (by decide) (by decide) dL_ways_7 (fun H locs hP hD hS => ?_)
  have hP : va_P G.1 vwCl [zcl G oo 1 (zU OF 0 (zws (zkc n) v.toNat 60 v.toNat)), (h0, .inr (4, [.ref qs, .int (zI sc), .ref hr, .ref hc, .ref hk])), (hk, .inr (0, [.ref qw, .ref ql, .long (zL (n : Int)), .int (zI wg)])), zcl G qw 1001 W1_4] H := hP
  have hD : va_D A [zcl G oo 1 (zU OF 0 (zws (zkc n) v.toNat 60 v.toNat)), (h0, .inr (4, [.ref qs, .int (zI sc), .ref hr, .ref hc, .ref hk])), (hk, .inr (0, [.ref qw, .ref ql, .long (zL (n : Int)), .int (zI wg)])), zcl G qw 1001 W1_4] := hD
  refine zv_goto (tgt := 14) S dL_ways_8 (by decide) ?_
  refine zv_iconst S dL_ways_14 ?_
  exact hret _ _ _ _ _ ⟨0, (zU OF 0 (zws (zkc n) v.toNat 60 v.toNat)), W1_4⟩ dL_ways_15 ⟨rfl, (show (0 = 0 ∧ (zU OF 0 (zws (zkc n) v.toNat 60 v.toNat)) = zU OF 0 (zws (zkc n) v.toNat 60 v.toNat) ∧ (0 ≤ v ∧ v ≤ 1000)) ∨ (0 = 1 ∧ (zU OF 0 (zws (zkc n) v.toNat 60 v.toNat)) = OF ∧ (¬ (0 ≤ v ∧ v ≤ 1000))) from (Or.inl ⟨rfl, rfl, hpo_5⟩))⟩ (hP.sub [0, 1, 2, 3] rfl) (hD.sub [0, 1, 2, 3] (by decide) rfl) hS

theorem wd_L_gap_ct19 : Cond.classLink RL 19 zIO ∈ wsL_gap := by decide +kernel
theorem wd_L_gap_ct13 : Cond.classLink RL 13 zIS ∈ wsL_gap := by decide +kernel
set_option maxHeartbeats 4000000 in
set_option maxRecDepth 100000 in
/-- the law: gap -/
theorem c_L_gap (l : Launch) (hl0 : l.stackTraces = false) (G : zG) (sz : Nat) (oo : Nat) (OF : Nat → Int) (h0 : Nat) (qs : Nat) (sc : Int) (hr : Nat) (hc : Nat) (hk : Nat) (qw : Nat) (ql : Nat) (n : Nat) (wg : Int) (pl : Int) (hn : n < 2 ^ 60) (hpl : -2147483648 ≤ pl ∧ pl < 2147483648) : Met l yL_gap wsL_gap ({ frames := 8, cells := 3, slots := 18, locals := 132 }) (va_Pc [.ref h0, .int (zI pl), .ref oo] (zPx G sz [zcl G oo 1 OF, (h0, .inr (4, [.ref qs, .int (zI sc), .ref hr, .ref hc, .ref hk])), (hk, .inr (0, [.ref qw, .ref ql, .long (zL (n : Int)), .int (zI wg)]))])) (va_Qi (fun (r : Int32) (u : (Int) × (Nat → Int) × (Int) × (Int)) => r = zI u.1 ∧ ((u.1 = 0 ∧ u.2.1 = zU OF 0 (zT32 u.2.2.1) ∧ (-1 ≤ pl ∧ zgd (zkc n) 60 = 1 ∧ zgap (zkc n) 3601 pl u.2.2.2 ∧ ((pl = -1 ∧ u.2.2.1 = ((zcn (fun t => ¬ zpay (zkc n) t) 3601 : Nat) : Int)) ∨ (¬ pl = -1 ∧ pl < ((zcn (fun t => ¬ zpay (zkc n) t) 3601 : Nat) : Int) ∧ u.2.2.1 = u.2.2.2)))) ∨ (u.1 = 1 ∧ u.2.1 = OF ∧ (pl < -1)) ∨ (u.1 = 2 ∧ u.2.1 = OF ∧ (-1 ≤ pl ∧ ¬ zgd (zkc n) 60 = 1)) ∨ (u.1 = 1 ∧ u.2.1 = OF ∧ (-1 ≤ pl ∧ zgd (zkc n) 60 = 1 ∧ ¬ pl = -1 ∧ ((zcn (fun t => ¬ zpay (zkc n) t) 3601 : Nat) : Int) ≤ pl)))) (fun u => zW G (va_A [zcl G oo 1 OF, (h0, .inr (4, [.ref qs, .int (zI sc), .ref hr, .ref hc, .ref hk])), (hk, .inr (0, [.ref qw, .ref ql, .long (zL (n : Int)), .int (zI wg)]))] sz) ((fun (u : (Int) × (Nat → Int) × (Int) × (Int)) => [zcl G oo 1 u.2.1, (h0, .inr (4, [.ref qs, .int (zI sc), .ref hr, .ref hc, .ref hk])), (hk, .inr (0, [.ref qw, .ref ql, .long (zL (n : Int)), .int (zI u.2.2.2)]))]) u)) (va_A [zcl G oo 1 OF, (h0, .inr (4, [.ref qs, .int (zI sc), .ref hr, .ref hc, .ref hk])), (hk, .inr (0, [.ref qw, .ref ql, .long (zL (n : Int)), .int (zI wg)]))] sz)) 3 18 (va_A [zcl G oo 1 OF, (h0, .inr (4, [.ref qs, .int (zI sc), .ref hr, .ref hc, .ref hk])), (hk, .inr (0, [.ref qw, .ref ql, .long (zL (n : Int)), .int (zI wg)]))] sz) := by
  refine zMh_i (post := fun (r : Int32) (u : (Int) × (Nat → Int) × (Int) × (Int)) => r = zI u.1 ∧ ((u.1 = 0 ∧ u.2.1 = zU OF 0 (zT32 u.2.2.1) ∧ (-1 ≤ pl ∧ zgd (zkc n) 60 = 1 ∧ zgap (zkc n) 3601 pl u.2.2.2 ∧ ((pl = -1 ∧ u.2.2.1 = ((zcn (fun t => ¬ zpay (zkc n) t) 3601 : Nat) : Int)) ∨ (¬ pl = -1 ∧ pl < ((zcn (fun t => ¬ zpay (zkc n) t) 3601 : Nat) : Int) ∧ u.2.2.1 = u.2.2.2)))) ∨ (u.1 = 1 ∧ u.2.1 = OF ∧ (pl < -1)) ∨ (u.1 = 2 ∧ u.2.1 = OF ∧ (-1 ≤ pl ∧ ¬ zgd (zkc n) 60 = 1)) ∨ (u.1 = 1 ∧ u.2.1 = OF ∧ (-1 ≤ pl ∧ zgd (zkc n) 60 = 1 ∧ ¬ pl = -1 ∧ ((zcn (fun t => ¬ zpay (zkc n) t) 3601 : Nat) : Int) ≤ pl)))) (w1 := fun (u : (Int) × (Nat → Int) × (Int) × (Int)) => [zcl G oo 1 u.2.1, (h0, .inr (4, [.ref qs, .int (zI sc), .ref hr, .ref hc, .ref hk])), (hk, .inr (0, [.ref qw, .ref ql, .long (zL (n : Int)), .int (zI u.2.2.2)]))]) (by decide) rfl (Nat.le_of_ble_eq_true rfl) ?_
  intro p e s m below meth c A Q S hN hK hP hD hS hA hE0 htab hret ls hl
  have hl : lv_has ls 4 [(0, .ref h0), (1, .int (zI pl)), (2, .ref oo)] := hl
  refine zv_aload_n S dL_gap_0 rfl (lv_at hl 2 rfl) ?_
  refine zv_iconst S dL_gap_1 ?_
  refine zv_aload_n S dL_gap_2 rfl (lv_at hl 0 rfl) ?_
  refine zv_iload_n S dL_gap_3 rfl (lv_at hl 1 rfl) ?_
  refine zcx_Vi (As := [.int (zI pl)]) (rest := [.int (zI 0), .ref oo]) (wr := [zcl G oo 1 OF]) (n := 1) S hN hK (hE0.kept hS.2.1) hP hD hS hA hl (c_X4_gap l hl0 G s.heap.size h0 qs sc hr hc hk qw ql n wg pl hn hpl) gL_gap_X4_gap rfl ⟨rfl, rfl⟩ (by decide +kernel) rfl ⟨Nat.le_of_ble_eq_true rfl, Nat.le_of_ble_eq_true rfl, Nat.le_of_ble_eq_true rfl, Nat.le_of_ble_eq_true rfl⟩ [1, 2] [0] rfl rfl (by decide) (by decide) (by decide) (ci := 4) rfl rfl rfl (Nat.le_of_ble_eq_true rfl) dL_gap_4 rfl (fun E_ ce_ q_ ux_ H1 locs1 hc1 hP1 hD1 hS1 hz1 hce1 hcv1 hcl1 => ?_) (fun r_ u_1 H1 locs1 hp_2 hP1 hD1 hS1 hz1 => ?_)
  · obtain ⟨w1_3, rfl⟩ : ∃ z, z = ux_ := ⟨_, rfl⟩
    try dsimp only at hc1 hP1 hD1
    have hP1 : va_P G.1 vwCl [zcl G oo 1 OF, (h0, .inr (4, [.ref qs, .int (zI sc), .ref hr, .ref hc, .ref hk])), (hk, .inr (0, [.ref qw, .ref ql, .long (zL (n : Int)), .int (zI w1_3)]))] H1 := hP1
    have hD1 : va_D A [zcl G oo 1 OF, (h0, .inr (4, [.ref qs, .int (zI sc), .ref hr, .ref hc, .ref hk])), (hk, .inr (0, [.ref qw, .ref ql, .long (zL (n : Int)), .int (zI w1_3)]))] := hD1
    rcases hc1 with ⟨rfl, hx_0⟩ | ⟨rfl, hx_1⟩ | ⟨rfl, hx_2⟩
    · refine zcatch S htab hE0 [] [(0, 9, 15, 13)] rfl (by decide) (by decide) wd_L_gap_ct19 (Or.inl rfl) (fun _ h => absurd h List.not_mem_nil) hce1 hcv1 hcl1 ?_
      generalize H1 = H at hP1 hD1 hS1 hz1 ⊢
      generalize locs1 = locs at hS1 ⊢
      have hS := hS1
      have hP : va_P G.1 vwCl [zcl G oo 1 OF, (h0, .inr (4, [.ref qs, .int (zI sc), .ref hr, .ref hc, .ref hk])), (hk, .inr (0, [.ref qw, .ref ql, .long (zL (n : Int)), .int (zI w1_3)]))] H := hP1
      have hD : va_D A [zcl G oo 1 OF, (h0, .inr (4, [.ref qs, .int (zI sc), .ref hr, .ref hc, .ref hk])), (hk, .inr (0, [.ref qw, .ref ql, .long (zL (n : Int)), .int (zI w1_3)]))] := hD1
      refine zv_astore_n (lv' := [(3, .ref q_), (0, .ref h0), (1, .int (zI pl)), (2, .ref oo)]) S dL_gap_12 rfl hl (by decide) rfl (fun ls hl => ?_)
      refine zv_iconst S dL_gap_13 ?_
      exact hret _ _ _ _ _ ⟨1, OF, 0, w1_3⟩ dL_gap_14 ⟨rfl, (show (1 = 0 ∧ OF = zU OF 0 (zT32 0) ∧ (-1 ≤ pl ∧ zgd (zkc n) 60 = 1 ∧ zgap (zkc n) 3601 pl w1_3 ∧ ((pl = -1 ∧ 0 = ((zcn (fun t => ¬ zpay (zkc n) t) 3601 : Nat) : Int)) ∨ (¬ pl = -1 ∧ pl < ((zcn (fun t => ¬ zpay (zkc n) t) 3601 : Nat) : Int) ∧ 0 = w1_3)))) ∨ (1 = 1 ∧ OF = OF ∧ (pl < -1)) ∨ (1 = 2 ∧ OF = OF ∧ (-1 ≤ pl ∧ ¬ zgd (zkc n) 60 = 1)) ∨ (1 = 1 ∧ OF = OF ∧ (-1 ≤ pl ∧ zgd (zkc n) 60 = 1 ∧ ¬ pl = -1 ∧ ((zcn (fun t => ¬ zpay (zkc n) t) 3601 : Nat) : Int) ≤ pl)) from (Or.inr (Or.inl ⟨rfl, rfl, hx_0⟩)))⟩ (hP.sub [0, 1, 2] rfl) (hD.sub [0, 1, 2] (by decide) rfl) hS
    · refine zcatch S htab hE0 [(0, 9, 12, 19)] [] rfl (by decide) (by decide) wd_L_gap_ct13 (Or.inr (Or.inr rfl)) (List.forall_mem_cons.mpr ⟨⟨by decide, zIO, wd_L_gap_ct19, (Or.inr (Or.inl ⟨rfl, rfl⟩))⟩, (fun _ h => absurd h List.not_mem_nil)⟩) hce1 hcv1 hcl1 ?_
      generalize H1 = H at hP1 hD1 hS1 hz1 ⊢
      generalize locs1 = locs at hS1 ⊢
      have hS := hS1
      have hP : va_P G.1 vwCl [zcl G oo 1 OF, (h0, .inr (4, [.ref qs, .int (zI sc), .ref hr, .ref hc, .ref hk])), (hk, .inr (0, [.ref qw, .ref ql, .long (zL (n : Int)), .int (zI w1_3)]))] H := hP1
      have hD : va_D A [zcl G oo 1 OF, (h0, .inr (4, [.ref qs, .int (zI sc), .ref hr, .ref hc, .ref hk])), (hk, .inr (0, [.ref qw, .ref ql, .long (zL (n : Int)), .int (zI w1_3)]))] := hD1
      refine zv_astore_n (lv' := [(3, .ref q_), (0, .ref h0), (1, .int (zI pl)), (2, .ref oo)]) S dL_gap_15 rfl hl (by decide) rfl (fun ls hl => ?_)
      refine zv_iconst S dL_gap_16 ?_
      exact hret _ _ _ _ _ ⟨2, OF, 0, w1_3⟩ dL_gap_17 ⟨rfl, (show (2 = 0 ∧ OF = zU OF 0 (zT32 0) ∧ (-1 ≤ pl ∧ zgd (zkc n) 60 = 1 ∧ zgap (zkc n) 3601 pl w1_3 ∧ ((pl = -1 ∧ 0 = ((zcn (fun t => ¬ zpay (zkc n) t) 3601 : Nat) : Int)) ∨ (¬ pl = -1 ∧ pl < ((zcn (fun t => ¬ zpay (zkc n) t) 3601 : Nat) : Int) ∧ 0 = w1_3)))) ∨ (2 = 1 ∧ OF = OF ∧ (pl < -1)) ∨ (2 = 2 ∧ OF = OF ∧ (-1 ≤ pl ∧ ¬ zgd (zkc n) 60 = 1)) ∨ (2 = 1 ∧ OF = OF ∧ (-1 ≤ pl ∧ zgd (zkc n) 60 = 1 ∧ ¬ pl = -1 ∧ ((zcn (fun t => ¬ zpay (zkc n) t) 3601 : Nat) : Int) ≤ pl)) from (Or.inr (Or.inr (Or.inl ⟨rfl, rfl, hx_1⟩))))⟩ (hP.sub [0, 1, 2] rfl) (hD.sub [0, 1, 2] (by decide) rfl) hS
    · refine zcatch S htab hE0 [] [(0, 9, 15, 13)] rfl (by decide) (by decide) wd_L_gap_ct19 (Or.inl rfl) (fun _ h => absurd h List.not_mem_nil) hce1 hcv1 hcl1 ?_
      generalize H1 = H at hP1 hD1 hS1 hz1 ⊢
      generalize locs1 = locs at hS1 ⊢
      have hS := hS1
      have hP : va_P G.1 vwCl [zcl G oo 1 OF, (h0, .inr (4, [.ref qs, .int (zI sc), .ref hr, .ref hc, .ref hk])), (hk, .inr (0, [.ref qw, .ref ql, .long (zL (n : Int)), .int (zI w1_3)]))] H := hP1
      have hD : va_D A [zcl G oo 1 OF, (h0, .inr (4, [.ref qs, .int (zI sc), .ref hr, .ref hc, .ref hk])), (hk, .inr (0, [.ref qw, .ref ql, .long (zL (n : Int)), .int (zI w1_3)]))] := hD1
      refine zv_astore_n (lv' := [(3, .ref q_), (0, .ref h0), (1, .int (zI pl)), (2, .ref oo)]) S dL_gap_12 rfl hl (by decide) rfl (fun ls hl => ?_)
      refine zv_iconst S dL_gap_13 ?_
      exact hret _ _ _ _ _ ⟨1, OF, 0, w1_3⟩ dL_gap_14 ⟨rfl, (show (1 = 0 ∧ OF = zU OF 0 (zT32 0) ∧ (-1 ≤ pl ∧ zgd (zkc n) 60 = 1 ∧ zgap (zkc n) 3601 pl w1_3 ∧ ((pl = -1 ∧ 0 = ((zcn (fun t => ¬ zpay (zkc n) t) 3601 : Nat) : Int)) ∨ (¬ pl = -1 ∧ pl < ((zcn (fun t => ¬ zpay (zkc n) t) 3601 : Nat) : Int) ∧ 0 = w1_3)))) ∨ (1 = 1 ∧ OF = OF ∧ (pl < -1)) ∨ (1 = 2 ∧ OF = OF ∧ (-1 ≤ pl ∧ ¬ zgd (zkc n) 60 = 1)) ∨ (1 = 1 ∧ OF = OF ∧ (-1 ≤ pl ∧ zgd (zkc n) 60 = 1 ∧ ¬ pl = -1 ∧ ((zcn (fun t => ¬ zpay (zkc n) t) 3601 : Nat) : Int) ≤ pl)) from (Or.inr (Or.inr (Or.inr ⟨rfl, rfl, hx_2⟩))))⟩ (hP.sub [0, 1, 2] rfl) (hD.sub [0, 1, 2] (by decide) rfl) hS
  obtain ⟨rr_4, w1_5⟩ := u_1
  try dsimp only at hp_2 hP1 hD1
  obtain ⟨rfl, hpo_6⟩ := hp_2
  generalize H1 = H at hP1 hD1 hS1 hz1 ⊢
  generalize locs1 = locs at hS1 ⊢
  have hS := hS1
  have hP : va_P G.1 vwCl [zcl G oo 1 OF, (h0, .inr (4, [.ref qs, .int (zI sc), .ref hr, .ref hc, .ref hk])), (hk, .inr (0, [.ref qw, .ref ql, .long (zL (n : Int)), .int (zI w1_5)]))] H := hP1
  have hD : va_D A [zcl G oo 1 OF, (h0, .inr (4, [.ref qs, .int (zI sc), .ref hr, .ref hc, .ref hk])), (hk, .inr (0, [.ref qw, .ref ql, .long (zL (n : Int)), .int (zI w1_5)]))] := hD1
  refine zv_i2lw S dL_gap_7 ?_
  refine zv_last S hK hP hD hS 0 1 rfl rfl 0 rfl (by decide) (by decide) dL_gap_8 (fun H locs hP hD hS => ?_)
  have hP : va_P G.1 vwCl [zcl G oo 1 (zU OF 0 (zT32 rr_4)), (h0, .inr (4, [.ref qs, .int (zI sc), .ref hr, .ref hc, .ref hk])), (hk, .inr (0, [.ref qw, .ref ql, .long (zL (n : Int)), .int (zI w1_5)]))] H := hP
  have hD : va_D A [zcl G oo 1 (zU OF 0 (zT32 rr_4)), (h0, .inr (4, [.ref qs, .int (zI sc), .ref hr, .ref hc, .ref hk])), (hk, .inr (0, [.ref qw, .ref ql, .long (zL (n : Int)), .int (zI w1_5)]))] := hD
  refine zv_goto (tgt := 18) S dL_gap_9 (by decide) ?_
  refine zv_iconst S dL_gap_18 ?_
  exact hret _ _ _ _ _ ⟨0, (zU OF 0 (zT32 rr_4)), rr_4, w1_5⟩ dL_gap_19 ⟨rfl, (show (0 = 0 ∧ (zU OF 0 (zT32 rr_4)) = zU OF 0 (zT32 rr_4) ∧ (-1 ≤ pl ∧ zgd (zkc n) 60 = 1 ∧ zgap (zkc n) 3601 pl w1_5 ∧ ((pl = -1 ∧ rr_4 = ((zcn (fun t => ¬ zpay (zkc n) t) 3601 : Nat) : Int)) ∨ (¬ pl = -1 ∧ pl < ((zcn (fun t => ¬ zpay (zkc n) t) 3601 : Nat) : Int) ∧ rr_4 = w1_5)))) ∨ (0 = 1 ∧ (zU OF 0 (zT32 rr_4)) = OF ∧ (pl < -1)) ∨ (0 = 2 ∧ (zU OF 0 (zT32 rr_4)) = OF ∧ (-1 ≤ pl ∧ ¬ zgd (zkc n) 60 = 1)) ∨ (0 = 1 ∧ (zU OF 0 (zT32 rr_4)) = OF ∧ (-1 ≤ pl ∧ zgd (zkc n) 60 = 1 ∧ ¬ pl = -1 ∧ ((zcn (fun t => ¬ zpay (zkc n) t) 3601 : Nat) : Int) ≤ pl)) from (Or.inl ⟨rfl, rfl, hpo_6⟩))⟩ (hP.sub [0, 1, 2] rfl) (hD.sub [0, 1, 2] (by decide) rfl) hS

theorem wd_L_greatestGap_ct13 : Cond.classLink RL 13 zIS ∈ wsL_greatestGap := by decide +kernel
set_option maxHeartbeats 4000000 in
set_option maxRecDepth 100000 in
/-- the law: greatestGap -/
theorem c_L_greatestGap (l : Launch) (hl0 : l.stackTraces = false) (G : zG) (sz : Nat) (oo : Nat) (OF : Nat → Int) (h0 : Nat) (qs : Nat) (sc : Int) (hr : Nat) (hc : Nat) (hk : Nat) (qw : Nat) (ql : Nat) (n : Nat) (wg : Int) (L0 : Nat → Int) (hn : n < 2 ^ 60) : Met l yL_greatestGap wsL_greatestGap ({ frames := 8, cells := 1, slots := 6, locals := 130 }) (va_Pc [.ref h0, .ref oo] (zPx G sz [zcl G oo 1 OF, (h0, .inr (4, [.ref qs, .int (zI sc), .ref hr, .ref hc, .ref hk])), (hk, .inr (0, [.ref qw, .ref ql, .long (zL (n : Int)), .int (zI wg)])), zci G ql 60 L0])) (va_Qi (fun (r : Int32) (u : (Int) × (Nat → Int) × (Nat) × (Nat → Int) × (Int)) => r = zI u.1 ∧ ((u.1 = 0 ∧ u.2.1 = zU OF 0 (zT32 (u.2.2.2.2 - (u.2.2.1 : Int))) ∧ (zgd (zkc n) 60 = 1) ∧ (zlc n u.2.2.1) ∧ (zso (zkc n) u.2.2.1 u.2.2.2.1) ∧ ((zfix (zkc n) u.2.2.1 u.2.2.2.1 ∨ zcp (zkc n) u.2.2.1 u.2.2.1 u.2.2.2.1) ∧ u.2.2.2.1 0 ≤ 0) ∧ (zmx u.2.2.2.1 u.2.2.1 u.2.2.2.2)) ∨ (u.1 = 1 ∧ u.2.1 = OF ∧ (¬ zgd (zkc n) 60 = 1)))) (fun u => zW G (va_A [zcl G oo 1 OF, (h0, .inr (4, [.ref qs, .int (zI sc), .ref hr, .ref hc, .ref hk])), (hk, .inr (0, [.ref qw, .ref ql, .long (zL (n : Int)), .int (zI wg)])), zci G ql 60 L0] sz) ((fun (u : (Int) × (Nat → Int) × (Nat) × (Nat → Int) × (Int)) => [zcl G oo 1 u.2.1, (h0, .inr (4, [.ref qs, .int (zI sc), .ref hr, .ref hc, .ref hk])), (hk, .inr (0, [.ref qw, .ref ql, .long (zL (n : Int)), .int (zI wg)])), zci G ql 60 u.2.2.2.1]) u)) (va_A [zcl G oo 1 OF, (h0, .inr (4, [.ref qs, .int (zI sc), .ref hr, .ref hc, .ref hk])), (hk, .inr (0, [.ref qw, .ref ql, .long (zL (n : Int)), .int (zI wg)])), zci G ql 60 L0] sz)) 1 6 (va_A [zcl G oo 1 OF, (h0, .inr (4, [.ref qs, .int (zI sc), .ref hr, .ref hc, .ref hk])), (hk, .inr (0, [.ref qw, .ref ql, .long (zL (n : Int)), .int (zI wg)])), zci G ql 60 L0] sz) := by
  refine zMh_i (post := fun (r : Int32) (u : (Int) × (Nat → Int) × (Nat) × (Nat → Int) × (Int)) => r = zI u.1 ∧ ((u.1 = 0 ∧ u.2.1 = zU OF 0 (zT32 (u.2.2.2.2 - (u.2.2.1 : Int))) ∧ (zgd (zkc n) 60 = 1) ∧ (zlc n u.2.2.1) ∧ (zso (zkc n) u.2.2.1 u.2.2.2.1) ∧ ((zfix (zkc n) u.2.2.1 u.2.2.2.1 ∨ zcp (zkc n) u.2.2.1 u.2.2.1 u.2.2.2.1) ∧ u.2.2.2.1 0 ≤ 0) ∧ (zmx u.2.2.2.1 u.2.2.1 u.2.2.2.2)) ∨ (u.1 = 1 ∧ u.2.1 = OF ∧ (¬ zgd (zkc n) 60 = 1)))) (w1 := fun (u : (Int) × (Nat → Int) × (Nat) × (Nat → Int) × (Int)) => [zcl G oo 1 u.2.1, (h0, .inr (4, [.ref qs, .int (zI sc), .ref hr, .ref hc, .ref hk])), (hk, .inr (0, [.ref qw, .ref ql, .long (zL (n : Int)), .int (zI wg)])), zci G ql 60 u.2.2.2.1]) (by decide) rfl (Nat.le_of_ble_eq_true rfl) ?_
  intro p e s m below meth c A Q S hN hK hP hD hS hA hE0 htab hret ls hl
  have hl : lv_has ls 3 [(0, .ref h0), (1, .ref oo)] := hl
  refine zv_aload_n S dL_greatestGap_0 rfl (lv_at hl 1 rfl) ?_
  refine zv_iconst S dL_greatestGap_1 ?_
  refine zv_aload_n S dL_greatestGap_2 rfl (lv_at hl 0 rfl) ?_
  refine zcx_Vi (As := []) (rest := [.int (zI 0), .ref oo]) (wr := [zcl G oo 1 OF]) (n := 0) S hN hK (hE0.kept hS.2.1) hP hD hS hA hl (c_X4_greatestGap l hl0 G s.heap.size h0 qs sc hr hc hk qw ql n wg L0 hn) gL_greatestGap_X4_greatestGap rfl ⟨rfl, rfl⟩ (by decide +kernel) rfl ⟨Nat.le_of_ble_eq_true rfl, Nat.le_of_ble_eq_true rfl, Nat.le_of_ble_eq_true rfl, Nat.le_of_ble_eq_true rfl⟩ [1, 2, 3] [0] rfl rfl (by decide) (by decide) (by decide) (ci := 4) rfl rfl rfl (Nat.le_of_ble_eq_true rfl) dL_greatestGap_3 rfl (fun E_ ce_ q_ ux_ H1 locs1 hc1 hP1 hD1 hS1 hz1 hce1 hcv1 hcl1 => ?_) (fun r_ u_1 H1 locs1 hp_2 hP1 hD1 hS1 hz1 => ?_)
  · obtain ⟨L2_3, rfl⟩ : ∃ z, z = ux_ := ⟨_, rfl⟩
    try dsimp only at hc1 hP1 hD1
    have hP1 : va_P G.1 vwCl [zcl G oo 1 OF, (h0, .inr (4, [.ref qs, .int (zI sc), .ref hr, .ref hc, .ref hk])), (hk, .inr (0, [.ref qw, .ref ql, .long (zL (n : Int)), .int (zI wg)])), zci G ql 60 L2_3] H1 := hP1
    have hD1 : va_D A [zcl G oo 1 OF, (h0, .inr (4, [.ref qs, .int (zI sc), .ref hr, .ref hc, .ref hk])), (hk, .inr (0, [.ref qw, .ref ql, .long (zL (n : Int)), .int (zI wg)])), zci G ql 60 L2_3] := hD1
    obtain ⟨rfl, hx_0⟩ := hc1
    refine zcatch S htab hE0 [] [] rfl (by decide) (by decide) wd_L_greatestGap_ct13 (Or.inr (Or.inr rfl)) (fun _ h => absurd h List.not_mem_nil) hce1 hcv1 hcl1 ?_
    generalize H1 = H at hP1 hD1 hS1 hz1 ⊢
    generalize locs1 = locs at hS1 ⊢
    have hS := hS1
    have hP : va_P G.1 vwCl [zcl G oo 1 OF, (h0, .inr (4, [.ref qs, .int (zI sc), .ref hr, .ref hc, .ref hk])), (hk, .inr (0, [.ref qw, .ref ql, .long (zL (n : Int)), .int (zI wg)])), zci G ql 60 L2_3] H := hP1
    have hD : va_D A [zcl G oo 1 OF, (h0, .inr (4, [.ref qs, .int (zI sc), .ref hr, .ref hc, .ref hk])), (hk, .inr (0, [.ref qw, .ref ql, .long (zL (n : Int)), .int (zI wg)])), zci G ql 60 L2_3] := hD1
    refine zv_astore_n (lv' := [(2, .ref q_), (0, .ref h0), (1, .ref oo)]) S dL_greatestGap_11 rfl hl (by decide) rfl (fun ls hl => ?_)
    refine zv_iconst S dL_greatestGap_12 ?_
    exact hret _ _ _ _ _ ⟨1, OF, 0, L2_3, 0⟩ dL_greatestGap_13 ⟨rfl, (show (1 = 0 ∧ OF = zU OF 0 (zT32 (0 - (0 : Int))) ∧ (zgd (zkc n) 60 = 1) ∧ (zlc n 0) ∧ (zso (zkc n) 0 L2_3) ∧ ((zfix (zkc n) 0 L2_3 ∨ zcp (zkc n) 0 0 L2_3) ∧ L2_3 0 ≤ 0) ∧ (zmx L2_3 0 0)) ∨ (1 = 1 ∧ OF = OF ∧ (¬ zgd (zkc n) 60 = 1)) from (Or.inr ⟨rfl, rfl, hx_0⟩))⟩ (hP.sub [0, 1, 2, 3] rfl) (hD.sub [0, 1, 2, 3] (by decide) rfl) hS
  obtain ⟨mm_4, L2_5, mx_6⟩ := u_1
  try dsimp only at hp_2 hP1 hD1
  obtain ⟨rfl, hgd_7, ha1_8, ha2_9, ha3_10, ha4_11⟩ := hp_2
  generalize H1 = H at hP1 hD1 hS1 hz1 ⊢
  generalize locs1 = locs at hS1 ⊢
  have hS := hS1
  have hP : va_P G.1 vwCl [zcl G oo 1 OF, (h0, .inr (4, [.ref qs, .int (zI sc), .ref hr, .ref hc, .ref hk])), (hk, .inr (0, [.ref qw, .ref ql, .long (zL (n : Int)), .int (zI wg)])), zci G ql 60 L2_5] H := hP1
  have hD : va_D A [zcl G oo 1 OF, (h0, .inr (4, [.ref qs, .int (zI sc), .ref hr, .ref hc, .ref hk])), (hk, .inr (0, [.ref qw, .ref ql, .long (zL (n : Int)), .int (zI wg)])), zci G ql 60 L2_5] := hD1
  refine zv_i2lw S dL_greatestGap_6 ?_
  refine zv_last S hK hP hD hS 0 1 rfl rfl 0 rfl (by decide) (by decide) dL_greatestGap_7 (fun H locs hP hD hS => ?_)
  have hP : va_P G.1 vwCl [zcl G oo 1 (zU OF 0 (zT32 (mx_6 - (mm_4 : Int)))), (h0, .inr (4, [.ref qs, .int (zI sc), .ref hr, .ref hc, .ref hk])), (hk, .inr (0, [.ref qw, .ref ql, .long (zL (n : Int)), .int (zI wg)])), zci G ql 60 L2_5] H := hP
  have hD : va_D A [zcl G oo 1 (zU OF 0 (zT32 (mx_6 - (mm_4 : Int)))), (h0, .inr (4, [.ref qs, .int (zI sc), .ref hr, .ref hc, .ref hk])), (hk, .inr (0, [.ref qw, .ref ql, .long (zL (n : Int)), .int (zI wg)])), zci G ql 60 L2_5] := hD
  refine zv_goto (tgt := 14) S dL_greatestGap_8 (by decide) ?_
  refine zv_iconst S dL_greatestGap_14 ?_
  exact hret _ _ _ _ _ ⟨0, (zU OF 0 (zT32 (mx_6 - (mm_4 : Int)))), mm_4, L2_5, mx_6⟩ dL_greatestGap_15 ⟨rfl, (show (0 = 0 ∧ (zU OF 0 (zT32 (mx_6 - (mm_4 : Int)))) = zU OF 0 (zT32 (mx_6 - (mm_4 : Int))) ∧ (zgd (zkc n) 60 = 1) ∧ (zlc n mm_4) ∧ (zso (zkc n) mm_4 L2_5) ∧ ((zfix (zkc n) mm_4 L2_5 ∨ zcp (zkc n) mm_4 mm_4 L2_5) ∧ L2_5 0 ≤ 0) ∧ (zmx L2_5 mm_4 mx_6)) ∨ (0 = 1 ∧ (zU OF 0 (zT32 (mx_6 - (mm_4 : Int)))) = OF ∧ (¬ zgd (zkc n) 60 = 1)) from (Or.inl ⟨rfl, rfl, hgd_7, ha1_8, ha2_9, ha3_10, ha4_11⟩))⟩ (hP.sub [0, 1, 2, 3] rfl) (hD.sub [0, 1, 2, 3] (by decide) rfl) hS

theorem wd_L_tables_ct21 : Cond.classLink RL 21 zIA ∈ wsL_tables := by decide +kernel
set_option maxHeartbeats 4000000 in
set_option maxRecDepth 100000 in
/-- the law: tables -/
theorem c_L_tables (l : Launch) (hl0 : l.stackTraces = false) (G : zG) (sz : Nat) (oo : Nat) (OF : Nat → Int) (h0 : Nat) (qs : Nat) (sc : Int) (hr : Nat) (hc : Nat) (hk : Nat) (oa : Int) (ob : Int) (ol : Int) (nx : Int) (g1 : -2147483648 ≤ oa ∧ oa < 2147483648) (g2 : -2147483648 ≤ ob ∧ ob < 2147483648) (g3 : -2147483648 ≤ ol ∧ ol < 2147483648) (g4 : -2147483648 ≤ nx ∧ nx < 2147483648) : Met l yL_tables wsL_tables ({ frames := 8, cells := 4, slots := 24, locals := 141 }) (va_Pc [.ref h0, .int (zI oa), .int (zI ob), .int (zI ol), .int (zI nx), .ref oo] (zPx G sz [zcl G oo 1 OF, (h0, .inr (4, [.ref qs, .int (zI sc), .ref hr, .ref hc, .ref hk]))])) (va_Qi (fun (r : Int32) (u : (Int) × (Nat → Int) × (Int)) => r = zI u.1 ∧ ((u.1 = 0 ∧ u.2.1 = zU OF 0 (zT32 u.2.2) ∧ (((0 ≤ oa ∧ oa ≤ 60) ∧ (0 ≤ ob ∧ ob ≤ 60) ∧ (0 ≤ ol ∧ ol ≤ 60) ∧ (0 ≤ nx ∧ nx ≤ 60)) ∧ (oa + ob - ol - nx < 0 ∧ u.2.2 = 0 ∨ 0 ≤ oa + ob - ol - nx ∧ u.2.2 = zts oa nx (oa + ob - ol - nx) ((zmin oa ol).toNat + 1)))) ∨ (u.1 = 1 ∧ u.2.1 = OF ∧ (¬ ((0 ≤ oa ∧ oa ≤ 60) ∧ (0 ≤ ob ∧ ob ≤ 60) ∧ (0 ≤ ol ∧ ol ≤ 60) ∧ (0 ≤ nx ∧ nx ≤ 60)))))) (fun u => zW G (va_A [zcl G oo 1 OF, (h0, .inr (4, [.ref qs, .int (zI sc), .ref hr, .ref hc, .ref hk]))] sz) ((fun (u : (Int) × (Nat → Int) × (Int)) => [zcl G oo 1 u.2.1, (h0, .inr (4, [.ref qs, .int (zI sc), .ref hr, .ref hc, .ref hk]))]) u)) (va_A [zcl G oo 1 OF, (h0, .inr (4, [.ref qs, .int (zI sc), .ref hr, .ref hc, .ref hk]))] sz)) 4 24 (va_A [zcl G oo 1 OF, (h0, .inr (4, [.ref qs, .int (zI sc), .ref hr, .ref hc, .ref hk]))] sz) := by
  refine zMh_i (post := fun (r : Int32) (u : (Int) × (Nat → Int) × (Int)) => r = zI u.1 ∧ ((u.1 = 0 ∧ u.2.1 = zU OF 0 (zT32 u.2.2) ∧ (((0 ≤ oa ∧ oa ≤ 60) ∧ (0 ≤ ob ∧ ob ≤ 60) ∧ (0 ≤ ol ∧ ol ≤ 60) ∧ (0 ≤ nx ∧ nx ≤ 60)) ∧ (oa + ob - ol - nx < 0 ∧ u.2.2 = 0 ∨ 0 ≤ oa + ob - ol - nx ∧ u.2.2 = zts oa nx (oa + ob - ol - nx) ((zmin oa ol).toNat + 1)))) ∨ (u.1 = 1 ∧ u.2.1 = OF ∧ (¬ ((0 ≤ oa ∧ oa ≤ 60) ∧ (0 ≤ ob ∧ ob ≤ 60) ∧ (0 ≤ ol ∧ ol ≤ 60) ∧ (0 ≤ nx ∧ nx ≤ 60)))))) (w1 := fun (u : (Int) × (Nat → Int) × (Int)) => [zcl G oo 1 u.2.1, (h0, .inr (4, [.ref qs, .int (zI sc), .ref hr, .ref hc, .ref hk]))]) (by decide) rfl (Nat.le_of_ble_eq_true rfl) ?_
  intro p e s m below meth c A Q S hN hK hP hD hS hA hE0 htab hret ls hl
  have hl : lv_has ls 7 [(0, .ref h0), (1, .int (zI oa)), (2, .int (zI ob)), (3, .int (zI ol)), (4, .int (zI nx)), (5, .ref oo)] := hl
  refine zv_aload S dL_tables_0 (lv_at hl 5 rfl) ?_
  refine zv_iconst S dL_tables_2 ?_
  refine zv_aload_n S dL_tables_3 rfl (lv_at hl 0 rfl) ?_
  refine zv_iload_n S dL_tables_4 rfl (lv_at hl 1 rfl) ?_
  refine zv_iload_n S dL_tables_5 rfl (lv_at hl 2 rfl) ?_
  refine zv_iload_n S dL_tables_6 rfl (lv_at hl 3 rfl) ?_
  refine zv_iload S dL_tables_7 (lv_at hl 4 rfl) ?_
  refine zcx_Vi (As := [.int (zI oa), .int (zI ob), .int (zI ol), .int (zI nx)]) (rest := [.int (zI 0), .ref oo]) (wr := [zcl G oo 1 OF]) (n := 4) S hN hK (hE0.kept hS.2.1) hP hD hS hA hl (c_X4_tables l hl0 G s.heap.size h0 qs sc hr hc hk oa ob ol nx g1 g2 g3 g4) gL_tables_X4_tables rfl ⟨rfl, rfl⟩ (by decide +kernel) rfl ⟨Nat.le_of_ble_eq_true rfl, Nat.le_of_ble_eq_true rfl, Nat.le_of_ble_eq_true rfl, Nat.le_of_ble_eq_true rfl⟩ [1] [0] rfl rfl (by decide) (by decide) (by decide) (ci := 4) rfl rfl rfl (Nat.le_of_ble_eq_true rfl) dL_tables_9 rfl (fun E_ ce_ q_ ux_ H1 locs1 hc1 hP1 hD1 hS1 hz1 hce1 hcv1 hcl1 => ?_) (fun r_ u_1 H1 locs1 hp_2 hP1 hD1 hS1 hz1 => ?_)
  · try dsimp only at hc1 hP1 hD1
    have hP1 : va_P G.1 vwCl [zcl G oo 1 OF, (h0, .inr (4, [.ref qs, .int (zI sc), .ref hr, .ref hc, .ref hk]))] H1 := hP1
    have hD1 : va_D A [zcl G oo 1 OF, (h0, .inr (4, [.ref qs, .int (zI sc), .ref hr, .ref hc, .ref hk]))] := hD1
    obtain ⟨rfl, hx_0⟩ := hc1
    refine zcatch S htab hE0 [] [] rfl (by decide) (by decide) wd_L_tables_ct21 (Or.inr (Or.inl rfl)) (fun _ h => absurd h List.not_mem_nil) hce1 hcv1 hcl1 ?_
    generalize H1 = H at hP1 hD1 hS1 hz1 ⊢
    generalize locs1 = locs at hS1 ⊢
    have hS := hS1
    have hP : va_P G.1 vwCl [zcl G oo 1 OF, (h0, .inr (4, [.ref qs, .int (zI sc), .ref hr, .ref hc, .ref hk]))] H := hP1
    have hD : va_D A [zcl G oo 1 OF, (h0, .inr (4, [.ref qs, .int (zI sc), .ref hr, .ref hc, .ref hk]))] := hD1
    refine zv_astore (lv' := [(6, .ref q_), (0, .ref h0), (1, .int (zI oa)), (2, .int (zI ob)), (3, .int (zI ol)), (4, .int (zI nx)), (5, .ref oo)]) S dL_tables_17 hl (by decide) rfl (fun ls hl => ?_)
    refine zv_iconst S dL_tables_19 ?_
    exact hret _ _ _ _ _ ⟨1, OF, 0⟩ dL_tables_20 ⟨rfl, (show (1 = 0 ∧ OF = zU OF 0 (zT32 0) ∧ (((0 ≤ oa ∧ oa ≤ 60) ∧ (0 ≤ ob ∧ ob ≤ 60) ∧ (0 ≤ ol ∧ ol ≤ 60) ∧ (0 ≤ nx ∧ nx ≤ 60)) ∧ (oa + ob - ol - nx < 0 ∧ 0 = 0 ∨ 0 ≤ oa + ob - ol - nx ∧ 0 = zts oa nx (oa + ob - ol - nx) ((zmin oa ol).toNat + 1)))) ∨ (1 = 1 ∧ OF = OF ∧ (¬ ((0 ≤ oa ∧ oa ≤ 60) ∧ (0 ≤ ob ∧ ob ≤ 60) ∧ (0 ≤ ol ∧ ol ≤ 60) ∧ (0 ≤ nx ∧ nx ≤ 60)))) from (Or.inr ⟨rfl, rfl, hx_0⟩))⟩ (hP.sub [0, 1] rfl) (hD.sub [0, 1] (by decide) rfl) hS
  obtain ⟨rr_3, rfl⟩ : ∃ z, z = u_1 := ⟨_, rfl⟩
  try dsimp only at hp_2 hP1 hD1
  obtain ⟨rfl, hpo_4⟩ := hp_2
  generalize H1 = H at hP1 hD1 hS1 hz1 ⊢
  generalize locs1 = locs at hS1 ⊢
  have hS := hS1
  have hP : va_P G.1 vwCl [zcl G oo 1 OF, (h0, .inr (4, [.ref qs, .int (zI sc), .ref hr, .ref hc, .ref hk]))] H := hP1
  have hD : va_D A [zcl G oo 1 OF, (h0, .inr (4, [.ref qs, .int (zI sc), .ref hr, .ref hc, .ref hk]))] := hD1
  refine zv_i2lw S dL_tables_12 ?_
  refine zv_last S hK hP hD hS 0 1 rfl rfl 0 rfl (by decide) (by decide) dL_tables_13 (fun H locs hP hD hS => ?_)
  have hP : va_P G.1 vwCl [zcl G oo 1 (zU OF 0 (zT32 rr_3)), (h0, .inr (4, [.ref qs, .int (zI sc), .ref hr, .ref hc, .ref hk]))] H := hP
  have hD : va_D A [zcl G oo 1 (zU OF 0 (zT32 rr_3)), (h0, .inr (4, [.ref qs, .int (zI sc), .ref hr, .ref hc, .ref hk]))] := hD
  refine zv_goto (tgt := 21) S dL_tables_14 (by decide) ?_
  refine zv_iconst S dL_tables_21 ?_
  exact hret _ _ _ _ _ ⟨0, (zU OF 0 (zT32 rr_3)), rr_3⟩ dL_tables_22 ⟨rfl, (show (0 = 0 ∧ (zU OF 0 (zT32 rr_3)) = zU OF 0 (zT32 rr_3) ∧ (((0 ≤ oa ∧ oa ≤ 60) ∧ (0 ≤ ob ∧ ob ≤ 60) ∧ (0 ≤ ol ∧ ol ≤ 60) ∧ (0 ≤ nx ∧ nx ≤ 60)) ∧ (oa + ob - ol - nx < 0 ∧ rr_3 = 0 ∨ 0 ≤ oa + ob - ol - nx ∧ rr_3 = zts oa nx (oa + ob - ol - nx) ((zmin oa ol).toNat + 1)))) ∨ (0 = 1 ∧ (zU OF 0 (zT32 rr_3)) = OF ∧ (¬ ((0 ≤ oa ∧ oa ≤ 60) ∧ (0 ≤ ob ∧ ob ≤ 60) ∧ (0 ≤ ol ∧ ol ≤ 60) ∧ (0 ≤ nx ∧ nx ≤ 60)))) from (Or.inl ⟨rfl, rfl, hpo_4⟩))⟩ (hP.sub [0, 1] rfl) (hD.sub [0, 1] (by decide) rfl) hS
