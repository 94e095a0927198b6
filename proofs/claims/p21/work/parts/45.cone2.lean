theorem wd_X1_lookAtVectors_f19 : Cond.fieldLink RX1 19 "PointMill$Cone" "firstX" "I" ∈ wsX1_lookAtVectors := by decide +kernel
theorem in_X1_lookAtVectors_X1 : ∀ w ∈ wsX10, w ∈ wsX1_lookAtVectors := by decide +kernel
theorem wd_X1_lookAtVectors_m52 : Cond.methodLink RX1 52 Lib.Math.max.name ∈ wsX1_lookAtVectors := by decide +kernel
theorem wd_X1_lookAtVectors_smax : Cond.static Lib.Math.max.name ∈ wsX1_lookAtVectors := by decide +kernel
theorem wd_X1_lookAtVectors_iM : Cond.initialized "java/lang/Math" ∈ wsX1_lookAtVectors := by decide +kernel
theorem wd_X1_lookAtVectors_cmax : Cond.code Lib.Math.max.name Lib.Math.max.code 2 (some .int) ∈ wsX1_lookAtVectors := by decide +kernel
theorem wd_X1_lookAtVectors_f26 : Cond.fieldLink RX1 26 "PointMill$Cone" "lastX" "I" ∈ wsX1_lookAtVectors := by decide +kernel
theorem wd_X1_lookAtVectors_f23 : Cond.fieldLink RX1 23 "PointMill$Cone" "firstY" "I" ∈ wsX1_lookAtVectors := by decide +kernel
theorem wd_X1_lookAtVectors_f29 : Cond.fieldLink RX1 29 "PointMill$Cone" "lastY" "I" ∈ wsX1_lookAtVectors := by decide +kernel
theorem wd_X1_lookAtVectors_m55 : Cond.methodLink RX1 55 Lib.Math.min.name ∈ wsX1_lookAtVectors := by decide +kernel
theorem wd_X1_lookAtVectors_smin : Cond.static Lib.Math.min.name ∈ wsX1_lookAtVectors := by decide +kernel
theorem wd_X1_lookAtVectors_cmin : Cond.code Lib.Math.min.name Lib.Math.min.code 2 (some .int) ∈ wsX1_lookAtVectors := by decide +kernel
theorem wd_X1_lookAtVectors_f11 : Cond.fieldLink RX1 11 "PointMill$Cone" "leastFromLast" "[I" ∈ wsX1_lookAtVectors := by decide +kernel
theorem wd_X1_lookAtVectors_k47 : Cond.constant RX1 47 (1000000) ∈ wsX1_lookAtVectors := by decide +kernel
set_option maxHeartbeats 4000000 in
set_option maxRecDepth 100000 in
/-- Cone.lookAtVectors -/
theorem c_X1_lookAtVectors (l : Launch) (G : zG) (sz : Nat) (h0 : Nat) (qv : Nat) (fx : Int) (fy : Int) (lx : Int) (ly : Int) (tn : Int) (ar : Int) (wx : Int) (wy : Int) (L0 : Nat → Int) (hfx : -20 ≤ fx ∧ fx ≤ 20) (hfy : -20 ≤ fy ∧ fy ≤ 20) (hlx : -20 ≤ lx ∧ lx ≤ 20) (hly : -20 ≤ ly ∧ ly ≤ 20) (htn : tn = -1 ∨ tn = 1) (har : 0 < ar ∧ ar ≤ 800) : Met l yX1_lookAtVectors wsX1_lookAtVectors ({ frames := 2, cells := 0, slots := 0, locals := 39 }) (va_Pc [.ref h0] (zPre G sz [(h0, .inr (1, [.ref qv, .int (zI fx), .int (zI fy), .int (zI lx), .int (zI ly), .int (zI tn), .int (zI ar), .int (zI wx), .int (zI wy)])), zci G qv 801 L0])) (va_Qv (fun (u : (Nat → Int)) => (zlv tn fx fy lx ly ar (zbox fx fy lx ly) u)) (fun u => zW G (va_A [(h0, .inr (1, [.ref qv, .int (zI fx), .int (zI fy), .int (zI lx), .int (zI ly), .int (zI tn), .int (zI ar), .int (zI wx), .int (zI wy)])), zci G qv 801 L0] sz) ((fun (u : (Nat → Int)) => [(h0, .inr (1, [.ref qv, .int (zI fx), .int (zI fy), .int (zI lx), .int (zI ly), .int (zI tn), .int (zI ar), .int (zI wx), .int (zI wy)])), zci G qv 801 u]) u)) (va_A [(h0, .inr (1, [.ref qv, .int (zI fx), .int (zI fy), .int (zI lx), .int (zI ly), .int (zI tn), .int (zI ar), .int (zI wx), .int (zI wy)])), zci G qv 801 L0] sz)) 0 0 (va_A [(h0, .inr (1, [.ref qv, .int (zI fx), .int (zI fy), .int (zI lx), .int (zI ly), .int (zI tn), .int (zI ar), .int (zI wx), .int (zI wy)])), zci G qv 801 L0] sz) := by
  refine zM_v (post := fun (u : (Nat → Int)) => (zlv tn fx fy lx ly ar (zbox fx fy lx ly) u)) (w1 := fun (u : (Nat → Int)) => [(h0, .inr (1, [.ref qv, .int (zI fx), .int (zI fy), .int (zI lx), .int (zI ly), .int (zI tn), .int (zI ar), .int (zI wx), .int (zI wy)])), zci G qv 801 u]) (plainFor_of_name (by decide)) rfl (Nat.le_of_ble_eq_true rfl) ?_
  intro p e s m below meth c A Q S hN hK hP hD hS hA hret ls hl
  have hl : lv_has ls 5 [(0, .ref h0)] := hl
  refine zv_iconst S dX1_lookAtVectors_0 ?_
  refine zv_istore_n (lv' := [(1, .int (zI 0)), (0, .ref h0)]) S dX1_lookAtVectors_1 rfl hl (by decide) rfl (fun ls hl => ?_)
  have LP2 : ∀ (nf : Nat) (j : Nat) (v1 : Int) (L1 : Nat → Int) (hv1 : v1 = (j : Int)) (hj : j ≤ 801) (hL1 : ∀ d, d < j → L1 d = 1000000), (801 - j) < nf → ∀ (H : Heap) (locs : List Loc), va_P G.1 vwCl [(h0, .inr (1, [.ref qv, .int (zI fx), .int (zI fy), .int (zI lx), .int (zI ly), .int (zI tn), .int (zI ar), .int (zI wx), .int (zI wy)])), zci G qv 801 L1] H → va_D A [(h0, .inr (1, [.ref qv, .int (zI fx), .int (zI fy), .int (zI lx), .int (zI ly), .int (zI tn), .int (zI ar), .int (zI wx), .int (zI wy)])), zci G qv 801 L1] → va_S A s.heap H locs → ∀ ls : Array Slot, lv_has ls 5 [(1, .int (zI v1)), (0, .ref h0)] → W p l e ({ frames := 2, cells := 0, slots := 0, locals := 39 }) s m ([.ref h0]).toArray below meth c H locs 0 0 Q (F0 m 2 ls []) := by
    intro nf
    induction nf with
    | zero =>
      intro j v1 L1 hv1 hj hL1 hf
      exact absurd hf (Nat.not_lt_zero _)
    | succ nf ih2 =>
      intro j v1 L1 hv1 hj hL1 hf H locs hP hD hS ls hl
      refine zv_iload_n S dX1_lookAtVectors_2 rfl (lv_at hl 0 rfl) ?_
      refine zv_sipush (v := 800) S dX1_lookAtVectors_3 (by decide) ?_
      refine zv_icmp_gt (tgt := 23) S (by unfold zR; omega) (by unfold zR; omega) dX1_lookAtVectors_6 (by decide) (fun c_1 => ?_) (fun c_1 => ?_)
      · have b1 := zmm_b hfx hlx
        have b2 := zmm_b hfy hly
        refine zv_iconst S dX1_lookAtVectors_23 ?_
        refine zv_aload_n S dX1_lookAtVectors_24 rfl (lv_at hl 1 rfl) ?_
        refine zv_get (C := RX1) (T := TX1) (N := 9) (ci := 1) (v := .int (zI fx)) S in_X1_lookAtVectors_X1 hK hP 0 rfl rfl 1 (by decide) wd_X1_lookAtVectors_f19 rfl rfl dX1_lookAtVectors_25 ?_
        refine zv_max S hl (by unfold zR; omega) (by unfold zR; omega) wd_X1_lookAtVectors_m52 wd_X1_lookAtVectors_smax wd_X1_lookAtVectors_iM wd_X1_lookAtVectors_cmax (by decide) (Nat.le_of_ble_eq_true rfl) (Nat.le_of_ble_eq_true rfl) (Nat.le_of_ble_eq_true rfl) dX1_lookAtVectors_28 ?_
        refine zv_iconst S dX1_lookAtVectors_31 ?_
        refine zv_aload_n S dX1_lookAtVectors_32 rfl (lv_at hl 1 rfl) ?_
        refine zv_get (C := RX1) (T := TX1) (N := 9) (ci := 1) (v := .int (zI lx)) S in_X1_lookAtVectors_X1 hK hP 0 rfl rfl 3 (by decide) wd_X1_lookAtVectors_f26 rfl rfl dX1_lookAtVectors_33 ?_
        refine zv_max S hl (by unfold zR; omega) (by unfold zR; omega) wd_X1_lookAtVectors_m52 wd_X1_lookAtVectors_smax wd_X1_lookAtVectors_iM wd_X1_lookAtVectors_cmax (by decide) (Nat.le_of_ble_eq_true rfl) (Nat.le_of_ble_eq_true rfl) (Nat.le_of_ble_eq_true rfl) dX1_lookAtVectors_36 ?_
        refine zv_iadd S dX1_lookAtVectors_39 ?_
        refine zv_istore_n (lv' := [(1, .int (zI ((zmax 0 fx) + (zmax 0 lx)))), (0, .ref h0)]) S dX1_lookAtVectors_40 rfl hl (by decide) rfl (fun ls hl => ?_)
        refine zv_iconst S dX1_lookAtVectors_41 ?_
        refine zv_aload_n S dX1_lookAtVectors_42 rfl (lv_at hl 1 rfl) ?_
        refine zv_get (C := RX1) (T := TX1) (N := 9) (ci := 1) (v := .int (zI fy)) S in_X1_lookAtVectors_X1 hK hP 0 rfl rfl 2 (by decide) wd_X1_lookAtVectors_f23 rfl rfl dX1_lookAtVectors_43 ?_
        refine zv_max S hl (by unfold zR; omega) (by unfold zR; omega) wd_X1_lookAtVectors_m52 wd_X1_lookAtVectors_smax wd_X1_lookAtVectors_iM wd_X1_lookAtVectors_cmax (by decide) (Nat.le_of_ble_eq_true rfl) (Nat.le_of_ble_eq_true rfl) (Nat.le_of_ble_eq_true rfl) dX1_lookAtVectors_46 ?_
        refine zv_iconst S dX1_lookAtVectors_49 ?_
        refine zv_aload_n S dX1_lookAtVectors_50 rfl (lv_at hl 1 rfl) ?_
        refine zv_get (C := RX1) (T := TX1) (N := 9) (ci := 1) (v := .int (zI ly)) S in_X1_lookAtVectors_X1 hK hP 0 rfl rfl 4 (by decide) wd_X1_lookAtVectors_f29 rfl rfl dX1_lookAtVectors_51 ?_
        refine zv_max S hl (by unfold zR; omega) (by unfold zR; omega) wd_X1_lookAtVectors_m52 wd_X1_lookAtVectors_smax wd_X1_lookAtVectors_iM wd_X1_lookAtVectors_cmax (by decide) (Nat.le_of_ble_eq_true rfl) (Nat.le_of_ble_eq_true rfl) (Nat.le_of_ble_eq_true rfl) dX1_lookAtVectors_54 ?_
        refine zv_iadd S dX1_lookAtVectors_57 ?_
        refine zv_istore_n (lv' := [(2, .int (zI ((zmax 0 fy) + (zmax 0 ly)))), (1, .int (zI ((zmax 0 fx) + (zmax 0 lx)))), (0, .ref h0)]) S dX1_lookAtVectors_58 rfl hl (by decide) rfl (fun ls hl => ?_)
        refine zv_iconst S dX1_lookAtVectors_59 ?_
        refine zv_aload_n S dX1_lookAtVectors_60 rfl (lv_at hl 2 rfl) ?_
        refine zv_get (C := RX1) (T := TX1) (N := 9) (ci := 1) (v := .int (zI fx)) S in_X1_lookAtVectors_X1 hK hP 0 rfl rfl 1 (by decide) wd_X1_lookAtVectors_f19 rfl rfl dX1_lookAtVectors_61 ?_
        refine zv_min S hl (by unfold zR; omega) (by unfold zR; omega) wd_X1_lookAtVectors_m55 wd_X1_lookAtVectors_smin wd_X1_lookAtVectors_iM wd_X1_lookAtVectors_cmin (by decide) (Nat.le_of_ble_eq_true rfl) (Nat.le_of_ble_eq_true rfl) (Nat.le_of_ble_eq_true rfl) dX1_lookAtVectors_64 ?_
        refine zv_iconst S dX1_lookAtVectors_67 ?_
        refine zv_aload_n S dX1_lookAtVectors_68 rfl (lv_at hl 2 rfl) ?_
        refine zv_get (C := RX1) (T := TX1) (N := 9) (ci := 1) (v := .int (zI lx)) S in_X1_lookAtVectors_X1 hK hP 0 rfl rfl 3 (by decide) wd_X1_lookAtVectors_f26 rfl rfl dX1_lookAtVectors_69 ?_
        refine zv_min S hl (by unfold zR; omega) (by unfold zR; omega) wd_X1_lookAtVectors_m55 wd_X1_lookAtVectors_smin wd_X1_lookAtVectors_iM wd_X1_lookAtVectors_cmin (by decide) (Nat.le_of_ble_eq_true rfl) (Nat.le_of_ble_eq_true rfl) (Nat.le_of_ble_eq_true rfl) dX1_lookAtVectors_72 ?_
        refine zv_iadd S dX1_lookAtVectors_75 ?_
        refine zv_istore_n (lv' := [(3, .int (zI ((zmin 0 fx) + (zmin 0 lx)))), (2, .int (zI ((zmax 0 fy) + (zmax 0 ly)))), (1, .int (zI ((zmax 0 fx) + (zmax 0 lx)))), (0, .ref h0)]) S dX1_lookAtVectors_76 rfl hl (by decide) rfl (fun ls hl => ?_)
        have LP77 : ∀ (nf : Nat) (xx : Int) (L2 : Nat → Int) (hxx : (zmin 0 fx + zmin 0 lx) ≤ xx ∧ xx ≤ (zmax 0 fx + zmax 0 lx) + 1) (hL2 : zlv tn fx fy lx ly ar (zseen (zmin 0 fx + zmin 0 lx) (zmin 0 fy + zmin 0 ly) (zmax 0 fy + zmax 0 ly) xx (zmin 0 fy + zmin 0 ly)) L2), (((zmax 0 fx + zmax 0 lx) + 1 - xx).toNat) < nf → ∀ (H : Heap) (locs : List Loc), va_P G.1 vwCl [(h0, .inr (1, [.ref qv, .int (zI fx), .int (zI fy), .int (zI lx), .int (zI ly), .int (zI tn), .int (zI ar), .int (zI wx), .int (zI wy)])), zci G qv 801 L2] H → va_D A [(h0, .inr (1, [.ref qv, .int (zI fx), .int (zI fy), .int (zI lx), .int (zI ly), .int (zI tn), .int (zI ar), .int (zI wx), .int (zI wy)])), zci G qv 801 L2] → va_S A s.heap H locs → ∀ ls : Array Slot, lv_has ls 5 [(3, .int (zI xx)), (2, .int (zI ((zmax 0 fy) + (zmax 0 ly)))), (1, .int (zI ((zmax 0 fx) + (zmax 0 lx)))), (0, .ref h0)] → W p l e ({ frames := 2, cells := 0, slots := 0, locals := 39 }) s m ([.ref h0]).toArray below meth c H locs 0 0 Q (F0 m 77 ls []) := by
          intro nf
          induction nf with
          | zero =>
            intro xx L2 hxx hL2 hf
            exact absurd hf (Nat.not_lt_zero _)
          | succ nf ih77 =>
            intro xx L2 hxx hL2 hf H locs hP hD hS ls hl
            refine zv_iload_n S dX1_lookAtVectors_77 rfl (lv_at hl 0 rfl) ?_
            refine zv_iload_n S dX1_lookAtVectors_78 rfl (lv_at hl 2 rfl) ?_
            refine zv_icmp_gt (tgt := 137) S (by unfold zR; omega) (by unfold zR; omega) dX1_lookAtVectors_79 (by decide) (fun c_2 => ?_) (fun c_2 => ?_)
            · exact hret _ _ _ _ L2 dX1_lookAtVectors_137 (show zlv tn fx fy lx ly ar (zbox fx fy lx ly) L2 from (zlv_congr hL2 (zseen_e (by omega)))) (hP.sub [0, 1] rfl) (hD.sub [0, 1] (by decide) rfl) hS
            · refine zv_iconst S dX1_lookAtVectors_82 ?_
              refine zv_aload_n S dX1_lookAtVectors_83 rfl (lv_at hl 3 rfl) ?_
              refine zv_get (C := RX1) (T := TX1) (N := 9) (ci := 1) (v := .int (zI fy)) S in_X1_lookAtVectors_X1 hK hP 0 rfl rfl 2 (by decide) wd_X1_lookAtVectors_f23 rfl rfl dX1_lookAtVectors_84 ?_
              refine zv_min S hl (by unfold zR; omega) (by unfold zR; omega) wd_X1_lookAtVectors_m55 wd_X1_lookAtVectors_smin wd_X1_lookAtVectors_iM wd_X1_lookAtVectors_cmin (by decide) (Nat.le_of_ble_eq_true rfl) (Nat.le_of_ble_eq_true rfl) (Nat.le_of_ble_eq_true rfl) dX1_lookAtVectors_87 ?_
              refine zv_iconst S dX1_lookAtVectors_90 ?_
              refine zv_aload_n S dX1_lookAtVectors_91 rfl (lv_at hl 3 rfl) ?_
              refine zv_get (C := RX1) (T := TX1) (N := 9) (ci := 1) (v := .int (zI ly)) S in_X1_lookAtVectors_X1 hK hP 0 rfl rfl 4 (by decide) wd_X1_lookAtVectors_f29 rfl rfl dX1_lookAtVectors_92 ?_
              refine zv_min S hl (by unfold zR; omega) (by unfold zR; omega) wd_X1_lookAtVectors_m55 wd_X1_lookAtVectors_smin wd_X1_lookAtVectors_iM wd_X1_lookAtVectors_cmin (by decide) (Nat.le_of_ble_eq_true rfl) (Nat.le_of_ble_eq_true rfl) (Nat.le_of_ble_eq_true rfl) dX1_lookAtVectors_95 ?_
              refine zv_iadd S dX1_lookAtVectors_98 ?_
              refine zv_istore (lv' := [(4, .int (zI ((zmin 0 fy) + (zmin 0 ly)))), (3, .int (zI xx)), (2, .int (zI ((zmax 0 fy) + (zmax 0 ly)))), (1, .int (zI ((zmax 0 fx) + (zmax 0 lx)))), (0, .ref h0)]) S dX1_lookAtVectors_99 hl (by decide) rfl (fun ls hl => ?_)
              have LP101 : ∀ (nf : Nat) (yy : Int) (L3 : Nat → Int) (hyy : (zmin 0 fy + zmin 0 ly) ≤ yy ∧ yy ≤ (zmax 0 fy + zmax 0 ly) + 1) (hL3 : zlv tn fx fy lx ly ar (zseen (zmin 0 fx + zmin 0 lx) (zmin 0 fy + zmin 0 ly) (zmax 0 fy + zmax 0 ly) xx yy) L3), (((zmax 0 fy + zmax 0 ly) + 1 - yy).toNat) < nf → ∀ (H : Heap) (locs : List Loc), va_P G.1 vwCl [(h0, .inr (1, [.ref qv, .int (zI fx), .int (zI fy), .int (zI lx), .int (zI ly), .int (zI tn), .int (zI ar), .int (zI wx), .int (zI wy)])), zci G qv 801 L3] H → va_D A [(h0, .inr (1, [.ref qv, .int (zI fx), .int (zI fy), .int (zI lx), .int (zI ly), .int (zI tn), .int (zI ar), .int (zI wx), .int (zI wy)])), zci G qv 801 L3] → va_S A s.heap H locs → ∀ ls : Array Slot, lv_has ls 5 [(4, .int (zI yy)), (3, .int (zI xx)), (2, .int (zI ((zmax 0 fy) + (zmax 0 ly)))), (1, .int (zI ((zmax 0 fx) + (zmax 0 lx)))), (0, .ref h0)] → W p l e ({ frames := 2, cells := 0, slots := 0, locals := 39 }) s m ([.ref h0]).toArray below meth c H locs 0 0 Q (F0 m 101 ls []) := by
                intro nf
                induction nf with
                | zero =>
                  intro yy L3 hyy hL3 hf
                  exact absurd hf (Nat.not_lt_zero _)
                | succ nf ih101 =>
                  intro yy L3 hyy hL3 hf H locs hP hD hS ls hl
                  refine zv_iload S dX1_lookAtVectors_101 (lv_at hl 0 rfl) ?_
                  refine zv_iload_n S dX1_lookAtVectors_103 rfl (lv_at hl 2 rfl) ?_
                  refine zv_icmp_gt (tgt := 131) S (by unfold zR; omega) (by unfold zR; omega) dX1_lookAtVectors_104 (by decide) (fun c_3 => ?_) (fun c_3 => ?_)
                  · refine zv_iinc (k0 := 1) (lv' := [(3, .int (zI (xx + 1))), (4, .int (zI yy)), (2, .int (zI ((zmax 0 fy) + (zmax 0 ly)))), (1, .int (zI ((zmax 0 fx) + (zmax 0 lx)))), (0, .ref h0)]) S dX1_lookAtVectors_131 hl rfl (by decide) rfl (fun ls hl => ?_)
                    refine zv_goto (tgt := 77) S dX1_lookAtVectors_134 (by decide) ?_
                    exact ih77 (xx + 1) L3 (by omega) (zlv_congr hL3 (zseen_n hxx.1 (by omega))) (by omega) _ _ hP hD hS _ (lv_sub hl [0, 2, 3, 4] rfl)
                  · refine zv_aload_n S dX1_lookAtVectors_107 rfl (lv_at hl 4 rfl) ?_
                    refine zv_aload_n S dX1_lookAtVectors_108 rfl (lv_at hl 4 rfl) ?_
                    refine zv_iload_n S dX1_lookAtVectors_109 rfl (lv_at hl 1 rfl) ?_
                    refine zv_iload S dX1_lookAtVectors_110 (lv_at hl 0 rfl) ?_
                    refine zc_Vi (As := [.int (zI xx), .int (zI yy)]) (rest := [.ref h0]) (wr := [zci G qv 801 L3]) (n := 2) S hN hK hP hD hS hA hl (c_X1_fromFirst l G H.size h0 qv fx fy lx ly tn ar wx wy xx yy) gX1_lookAtVectors_X1_fromFirst rfl ⟨rfl, rfl⟩ (by decide +kernel) rfl ⟨Nat.le_of_ble_eq_true rfl, Nat.le_of_ble_eq_true rfl, Nat.le_of_ble_eq_true rfl, Nat.le_of_ble_eq_true rfl⟩ [0] [1] rfl rfl (by decide) (by decide) (by decide) (ci := 1) rfl rfl rfl (Nat.le_of_ble_eq_true rfl) dX1_lookAtVectors_112 rfl (fun r_ u_4 H1 locs1 hp_5 hP1 hD1 hS1 hz1 => ?_)
                    try dsimp only at hp_5 hP1 hD1
                    subst hp_5
                    generalize H1 = H at hP1 hD1 hS1 hz1 ⊢
                    generalize locs1 = locs at hS1 ⊢
                    have hS := hS1
                    have hP : va_P G.1 vwCl [zci G qv 801 L3, (h0, .inr (1, [.ref qv, .int (zI fx), .int (zI fy), .int (zI lx), .int (zI ly), .int (zI tn), .int (zI ar), .int (zI wx), .int (zI wy)]))] H := hP1
                    have hD : va_D A [zci G qv 801 L3, (h0, .inr (1, [.ref qv, .int (zI fx), .int (zI fy), .int (zI lx), .int (zI ly), .int (zI tn), .int (zI ar), .int (zI wx), .int (zI wy)]))] := hD1
                    refine zv_aload_n S dX1_lookAtVectors_115 rfl (lv_at hl 4 rfl) ?_
                    refine zv_iload_n S dX1_lookAtVectors_116 rfl (lv_at hl 1 rfl) ?_
                    refine zv_iload S dX1_lookAtVectors_117 (lv_at hl 0 rfl) ?_
                    refine zc_Vi (As := [.int (zI xx), .int (zI yy)]) (rest := [.int (zI (zFF tn fx fy xx yy)), .ref h0]) (wr := [zci G qv 801 L3]) (n := 2) S hN hK hP hD hS hA hl (c_X1_fromLast l G H.size h0 qv fx fy lx ly tn ar wx wy xx yy) gX1_lookAtVectors_X1_fromLast rfl ⟨rfl, rfl⟩ (by decide +kernel) rfl ⟨Nat.le_of_ble_eq_true rfl, Nat.le_of_ble_eq_true rfl, Nat.le_of_ble_eq_true rfl, Nat.le_of_ble_eq_true rfl⟩ [1] [0] rfl rfl (by decide) (by decide) (by decide) (ci := 1) rfl rfl rfl (Nat.le_of_ble_eq_true rfl) dX1_lookAtVectors_119 rfl (fun r_ u_6 H1 locs1 hp_7 hP1 hD1 hS1 hz1 => ?_)
                    try dsimp only at hp_7 hP1 hD1
                    subst hp_7
                    generalize H1 = H at hP1 hD1 hS1 hz1 ⊢
                    generalize locs1 = locs at hS1 ⊢
                    have hS := hS1
                    have hP : va_P G.1 vwCl [zci G qv 801 L3, (h0, .inr (1, [.ref qv, .int (zI fx), .int (zI fy), .int (zI lx), .int (zI ly), .int (zI tn), .int (zI ar), .int (zI wx), .int (zI wy)]))] H := hP1
                    have hD : va_D A [zci G qv 801 L3, (h0, .inr (1, [.ref qv, .int (zI fx), .int (zI fy), .int (zI lx), .int (zI ly), .int (zI tn), .int (zI ar), .int (zI wx), .int (zI wy)]))] := hD1
                    have d1 := zdist_b (x := xx) (y := yy) htn hfx hfy (by omega) (by omega)
                    have d2 := zdist_b (x := xx) (y := yy) htn hlx hly (by omega) (by omega)
                    refine zc_Vv (As := [.int (zI (zFF tn fx fy xx yy)), .int (zI (zFL tn lx ly xx yy))]) (rest := []) (wr := []) (n := 2) S hN hK hP hD hS hA hl (c_X1_lookAt l G H.size h0 qv fx fy lx ly tn ar wx wy L3 (zFF tn fx fy xx yy) (zFL tn lx ly xx yy) har (by omega) (by omega) (fun d hd => (hL3 d hd).1)) gX1_lookAtVectors_X1_lookAt rfl ⟨rfl, rfl⟩ (by decide +kernel) rfl ⟨Nat.le_of_ble_eq_true rfl, Nat.le_of_ble_eq_true rfl, Nat.le_of_ble_eq_true rfl, Nat.le_of_ble_eq_true rfl⟩ [1, 0] [] rfl rfl (by decide) (by decide) (by decide) (ci := 1) rfl rfl rfl (Nat.le_of_ble_eq_true rfl) dX1_lookAtVectors_122 rfl (fun u_8 H1 locs1 hp_9 hP1 hD1 hS1 hz1 => ?_)
                    obtain ⟨L1_10, rfl⟩ : ∃ z, z = u_8 := ⟨_, rfl⟩
                    try dsimp only at hp_9 hP1 hD1
                    obtain ⟨hl1_11, hl2_12⟩ := hp_9
                    generalize H1 = H at hP1 hD1 hS1 hz1 ⊢
                    generalize locs1 = locs at hS1 ⊢
                    have hS := hS1
                    have hP : va_P G.1 vwCl [(h0, .inr (1, [.ref qv, .int (zI fx), .int (zI fy), .int (zI lx), .int (zI ly), .int (zI tn), .int (zI ar), .int (zI wx), .int (zI wy)])), zci G qv 801 L1_10] H := hP1
                    have hD : va_D A [(h0, .inr (1, [.ref qv, .int (zI fx), .int (zI fy), .int (zI lx), .int (zI ly), .int (zI tn), .int (zI ar), .int (zI wx), .int (zI wy)])), zci G qv 801 L1_10] := hD1
                    refine zv_iinc (k0 := 0) (lv' := [(4, .int (zI (yy + 1))), (3, .int (zI xx)), (2, .int (zI ((zmax 0 fy) + (zmax 0 ly)))), (1, .int (zI ((zmax 0 fx) + (zmax 0 lx)))), (0, .ref h0)]) S dX1_lookAtVectors_125 hl rfl (by decide) rfl (fun ls hl => ?_)
                    refine zv_goto (tgt := 101) S dX1_lookAtVectors_128 (by decide) ?_
                    exact ih101 (yy + 1) L1_10 (by omega) (zlv_s har.2 hL3 (zseen_s hyy.1) hl1_11 hl2_12) (by omega) _ _ hP hD hS _ (lv_sub hl [0, 1, 2, 3, 4] rfl)
              exact LP101 _ ((zmin 0 fy) + (zmin 0 ly)) L2 (by omega) hL2 (Nat.lt_succ_self _) _ _ hP hD hS _ (lv_sub hl [0, 1, 2, 3, 4] rfl)
        exact LP77 _ ((zmin 0 fx) + (zmin 0 lx)) L1 (by omega) (zlv_0 (fun d hd => hL1 d (by omega)) (fun x y => zseen_0 x y)) (Nat.lt_succ_self _) _ _ hP hD hS _ (lv_sub hl [0, 1, 2, 3] rfl)
      · refine zv_aload_n S dX1_lookAtVectors_9 rfl (lv_at hl 1 rfl) ?_
        refine zv_get (C := RX1) (T := TX1) (N := 9) (ci := 1) (v := .ref qv) S in_X1_lookAtVectors_X1 hK hP 0 rfl rfl 0 (by decide) wd_X1_lookAtVectors_f11 rfl rfl dX1_lookAtVectors_10 ?_
        refine zv_iload_n S dX1_lookAtVectors_13 rfl (lv_at hl 0 rfl) ?_
        refine zv_ldc (v := 1000000) S wd_X1_lookAtVectors_k47 (by decide) dX1_lookAtVectors_14 ?_
        refine zv_iast S hK hP hD hS 1 0 rfl rfl j (by omega) (by omega) (by decide) dX1_lookAtVectors_16 (fun H locs hP hD hS => ?_)
        have hP : va_P G.1 vwCl [(h0, .inr (1, [.ref qv, .int (zI fx), .int (zI fy), .int (zI lx), .int (zI ly), .int (zI tn), .int (zI ar), .int (zI wx), .int (zI wy)])), zci G qv 801 (zU L1 j 1000000)] H := hP
        have hD : va_D A [(h0, .inr (1, [.ref qv, .int (zI fx), .int (zI fy), .int (zI lx), .int (zI ly), .int (zI tn), .int (zI ar), .int (zI wx), .int (zI wy)])), zci G qv 801 (zU L1 j 1000000)] := hD
        refine zv_iinc (k0 := 0) (lv' := [(1, .int (zI (v1 + 1))), (0, .ref h0)]) S dX1_lookAtVectors_17 hl rfl (by decide) rfl (fun ls hl => ?_)
        refine zv_goto (tgt := 2) S dX1_lookAtVectors_20 (by decide) ?_
        exact ih2 (j + 1) (v1 + 1) (zU L1 j 1000000) (by omega) (by omega) (zfill_far hL1) (by omega) _ _ hP hD hS _ (lv_sub hl [0, 1] rfl)
  exact LP2 _ 0 0 L0 rfl (Nat.zero_le _) (fun d h => absurd h (Nat.not_lt_zero d)) (Nat.lt_succ_self _) _ _ hP hD hS _ (lv_sub hl [0, 1] rfl)

theorem wd_X1_keepByDistances_f41 : Cond.fieldLink RX1 41 "PointMill$Cone" "area" "I" ∈ wsX1_keepByDistances := by decide +kernel
theorem in_X1_keepByDistances_X1 : ∀ w ∈ wsX10, w ∈ wsX1_keepByDistances := by decide +kernel
theorem wd_X1_keepByDistances_f19 : Cond.fieldLink RX1 19 "PointMill$Cone" "firstX" "I" ∈ wsX1_keepByDistances := by decide +kernel
theorem wd_X1_keepByDistances_f26 : Cond.fieldLink RX1 26 "PointMill$Cone" "lastX" "I" ∈ wsX1_keepByDistances := by decide +kernel
theorem wd_X1_keepByDistances_f67 : Cond.fieldLink RX1 67 "PointMill$Cone" "wantedX" "I" ∈ wsX1_keepByDistances := by decide +kernel
theorem wd_X1_keepByDistances_f23 : Cond.fieldLink RX1 23 "PointMill$Cone" "firstY" "I" ∈ wsX1_keepByDistances := by decide +kernel
theorem wd_X1_keepByDistances_f29 : Cond.fieldLink RX1 29 "PointMill$Cone" "lastY" "I" ∈ wsX1_keepByDistances := by decide +kernel
theorem wd_X1_keepByDistances_f70 : Cond.fieldLink RX1 70 "PointMill$Cone" "wantedY" "I" ∈ wsX1_keepByDistances := by decide +kernel
set_option maxHeartbeats 4000000 in
set_option maxRecDepth 100000 in
/-- Cone.keepByDistances -/
theorem c_X1_keepByDistances (l : Launch) (G : zG) (sz : Nat) (h0 : Nat) (qv : Nat) (fx : Int) (fy : Int) (lx : Int) (ly : Int) (tn : Int) (ar : Int) (wx : Int) (wy : Int) (d : Int) (ed : Int) (hfx : -20 ≤ fx ∧ fx ≤ 20) (hfy : -20 ≤ fy ∧ fy ≤ 20) (hlx : -20 ≤ lx ∧ lx ≤ 20) (hly : -20 ≤ ly ∧ ly ≤ 20) (htn : tn = -1 ∨ tn = 1) (har : 0 < ar ∧ ar ≤ 800) (hd : 0 ≤ d ∧ d ≤ 800) (hed : 0 ≤ ed ∧ ed ≤ 800) : Met l yX1_keepByDistances wsX1_keepByDistances ({ frames := 0, cells := 0, slots := 0, locals := 0 }) (va_Pc [.ref h0, .int (zI d), .int (zI ed)] (zPre G sz [(h0, .inr (1, [.ref qv, .int (zI fx), .int (zI fy), .int (zI lx), .int (zI ly), .int (zI tn), .int (zI ar), .int (zI wx), .int (zI wy)]))])) (va_Qv (fun (u : Unit) => True) (fun u => zW G (va_A [(h0, .inr (1, [.ref qv, .int (zI fx), .int (zI fy), .int (zI lx), .int (zI ly), .int (zI tn), .int (zI ar), .int (zI wx), .int (zI wy)]))] sz) ((fun (u : Unit) => [(h0, .inr (1, [.ref qv, .int (zI fx), .int (zI fy), .int (zI lx), .int (zI ly), .int (zI tn), .int (zI ar), .int (zI ((ed * fx + d * lx).tdiv ar)), .int (zI ((ed * fy + d * ly).tdiv ar))]))]) u)) (va_A [(h0, .inr (1, [.ref qv, .int (zI fx), .int (zI fy), .int (zI lx), .int (zI ly), .int (zI tn), .int (zI ar), .int (zI wx), .int (zI wy)]))] sz)) 0 0 (va_A [(h0, .inr (1, [.ref qv, .int (zI fx), .int (zI fy), .int (zI lx), .int (zI ly), .int (zI tn), .int (zI ar), .int (zI wx), .int (zI wy)]))] sz) := by
  refine zM_v (post := fun (u : Unit) => True) (w1 := fun (u : Unit) => [(h0, .inr (1, [.ref qv, .int (zI fx), .int (zI fy), .int (zI lx), .int (zI ly), .int (zI tn), .int (zI ar), .int (zI ((ed * fx + d * lx).tdiv ar)), .int (zI ((ed * fy + d * ly).tdiv ar))]))]) (plainFor_of_name (by decide)) rfl (Nat.le_of_ble_eq_true rfl) ?_
  intro p e s m below meth c A Q S hN hK hP hD hS hA hret ls hl
  have hl : lv_has ls 3 [(0, .ref h0), (1, .int (zI d)), (2, .int (zI ed))] := hl
  refine zv_aload_n S dX1_keepByDistances_0 rfl (lv_at hl 0 rfl) ?_
  refine zv_get (C := RX1) (T := TX1) (N := 9) (ci := 1) (v := .int (zI ar)) S in_X1_keepByDistances_X1 hK hP 0 rfl rfl 6 (by decide) wd_X1_keepByDistances_f41 rfl rfl dX1_keepByDistances_1 ?_
  refine zv_if_eq (tgt := 51) S (by unfold zR; omega) dX1_keepByDistances_4 (by decide) (fun c_1 => ?_) (fun c_1 => ?_)
  · exact absurd c_1 (by omega)
  · refine zv_aload_n S dX1_keepByDistances_7 rfl (lv_at hl 0 rfl) ?_
    refine zv_iload_n S dX1_keepByDistances_8 rfl (lv_at hl 2 rfl) ?_
    refine zv_aload_n S dX1_keepByDistances_9 rfl (lv_at hl 0 rfl) ?_
    refine zv_get (C := RX1) (T := TX1) (N := 9) (ci := 1) (v := .int (zI fx)) S in_X1_keepByDistances_X1 hK hP 0 rfl rfl 1 (by decide) wd_X1_keepByDistances_f19 rfl rfl dX1_keepByDistances_10 ?_
    refine zv_imul S dX1_keepByDistances_13 ?_
    refine zv_iload_n S dX1_keepByDistances_14 rfl (lv_at hl 1 rfl) ?_
    refine zv_aload_n S dX1_keepByDistances_15 rfl (lv_at hl 0 rfl) ?_
    refine zv_get (C := RX1) (T := TX1) (N := 9) (ci := 1) (v := .int (zI lx)) S in_X1_keepByDistances_X1 hK hP 0 rfl rfl 3 (by decide) wd_X1_keepByDistances_f26 rfl rfl dX1_keepByDistances_16 ?_
    refine zv_imul S dX1_keepByDistances_19 ?_
    refine zv_iadd S dX1_keepByDistances_20 ?_
    refine zv_aload_n S dX1_keepByDistances_21 rfl (lv_at hl 0 rfl) ?_
    refine zv_get (C := RX1) (T := TX1) (N := 9) (ci := 1) (v := .int (zI ar)) S in_X1_keepByDistances_X1 hK hP 0 rfl rfl 6 (by decide) wd_X1_keepByDistances_f41 rfl rfl dX1_keepByDistances_22 ?_
    have m1 := zmulb (a := ed) (b := fx) (A := 800) (B := 20) (by omega) (by omega) hfx.1 hfx.2
    have m2 := zmulb (a := d) (b := lx) (A := 800) (B := 20) (by omega) (by omega) hlx.1 hlx.2
    refine zv_idiv S (by unfold zR; omega) (by unfold zR; omega) (by omega) (by omega) dX1_keepByDistances_25 ?_
    refine zv_put (C := RX1) (T := TX1) (N := 9) (ci := 1) (v := .int (zI (((ed * fx) + (d * lx)).tdiv ar))) S in_X1_keepByDistances_X1 tyX1 tyX1_ok nmX1 hK hP hD hS 0 rfl rfl 7 (by decide) wd_X1_keepByDistances_f67 rfl rfl rfl rfl (Nat.le_of_ble_eq_true rfl) dX1_keepByDistances_26 (fun H locs hP hD hS => ?_)
    have hP : va_P G.1 vwCl [(h0, .inr (1, [.ref qv, .int (zI fx), .int (zI fy), .int (zI lx), .int (zI ly), .int (zI tn), .int (zI ar), .int (zI (((ed * fx) + (d * lx)).tdiv ar)), .int (zI wy)]))] H := hP
    have hD : va_D A [(h0, .inr (1, [.ref qv, .int (zI fx), .int (zI fy), .int (zI lx), .int (zI ly), .int (zI tn), .int (zI ar), .int (zI (((ed * fx) + (d * lx)).tdiv ar)), .int (zI wy)]))] := hD
    refine zv_aload_n S dX1_keepByDistances_29 rfl (lv_at hl 0 rfl) ?_
    refine zv_iload_n S dX1_keepByDistances_30 rfl (lv_at hl 2 rfl) ?_
    refine zv_aload_n S dX1_keepByDistances_31 rfl (lv_at hl 0 rfl) ?_
    refine zv_get (C := RX1) (T := TX1) (N := 9) (ci := 1) (v := .int (zI fy)) S in_X1_keepByDistances_X1 hK hP 0 rfl rfl 2 (by decide) wd_X1_keepByDistances_f23 rfl rfl dX1_keepByDistances_32 ?_
    refine zv_imul S dX1_keepByDistances_35 ?_
    refine zv_iload_n S dX1_keepByDistances_36 rfl (lv_at hl 1 rfl) ?_
    refine zv_aload_n S dX1_keepByDistances_37 rfl (lv_at hl 0 rfl) ?_
    refine zv_get (C := RX1) (T := TX1) (N := 9) (ci := 1) (v := .int (zI ly)) S in_X1_keepByDistances_X1 hK hP 0 rfl rfl 4 (by decide) wd_X1_keepByDistances_f29 rfl rfl dX1_keepByDistances_38 ?_
    refine zv_imul S dX1_keepByDistances_41 ?_
    refine zv_iadd S dX1_keepByDistances_42 ?_
    refine zv_aload_n S dX1_keepByDistances_43 rfl (lv_at hl 0 rfl) ?_
    refine zv_get (C := RX1) (T := TX1) (N := 9) (ci := 1) (v := .int (zI ar)) S in_X1_keepByDistances_X1 hK hP 0 rfl rfl 6 (by decide) wd_X1_keepByDistances_f41 rfl rfl dX1_keepByDistances_44 ?_
    have m3 := zmulb (a := ed) (b := fy) (A := 800) (B := 20) (by omega) (by omega) hfy.1 hfy.2
    have m4 := zmulb (a := d) (b := ly) (A := 800) (B := 20) (by omega) (by omega) hly.1 hly.2
    refine zv_idiv S (by unfold zR; omega) (by unfold zR; omega) (by omega) (by omega) dX1_keepByDistances_47 ?_
    refine zv_put (C := RX1) (T := TX1) (N := 9) (ci := 1) (v := .int (zI (((ed * fy) + (d * ly)).tdiv ar))) S in_X1_keepByDistances_X1 tyX1 tyX1_ok nmX1 hK hP hD hS 0 rfl rfl 8 (by decide) wd_X1_keepByDistances_f70 rfl rfl rfl rfl (Nat.le_of_ble_eq_true rfl) dX1_keepByDistances_48 (fun H locs hP hD hS => ?_)
    have hP : va_P G.1 vwCl [(h0, .inr (1, [.ref qv, .int (zI fx), .int (zI fy), .int (zI lx), .int (zI ly), .int (zI tn), .int (zI ar), .int (zI (((ed * fx) + (d * lx)).tdiv ar)), .int (zI (((ed * fy) + (d * ly)).tdiv ar))]))] H := hP
    have hD : va_D A [(h0, .inr (1, [.ref qv, .int (zI fx), .int (zI fy), .int (zI lx), .int (zI ly), .int (zI tn), .int (zI ar), .int (zI (((ed * fx) + (d * lx)).tdiv ar)), .int (zI (((ed * fy) + (d * ly)).tdiv ar))]))] := hD
    exact hret _ _ _ _ () dX1_keepByDistances_51 trivial (hP.sub [0] rfl) (hD.sub [0] (by decide) rfl) hS

theorem wd_X1_lookForGenerators_k47 : Cond.constant RX1 47 (1000000) ∈ wsX1_lookForGenerators := by decide +kernel
theorem wd_X1_lookForGenerators_f41 : Cond.fieldLink RX1 41 "PointMill$Cone" "area" "I" ∈ wsX1_lookForGenerators := by decide +kernel
theorem in_X1_lookForGenerators_X1 : ∀ w ∈ wsX10, w ∈ wsX1_lookForGenerators := by decide +kernel
theorem wd_X1_lookForGenerators_f11 : Cond.fieldLink RX1 11 "PointMill$Cone" "leastFromLast" "[I" ∈ wsX1_lookForGenerators := by decide +kernel
set_option maxHeartbeats 4000000 in
set_option maxRecDepth 100000 in
/-- Cone.lookForGenerators -/
theorem c_X1_lookForGenerators (l : Launch) (G : zG) (sz : Nat) (h0 : Nat) (qv : Nat) (fx : Int) (fy : Int) (lx : Int) (ly : Int) (tn : Int) (ar : Int) (wx : Int) (wy : Int) (L0 : Nat → Int) (pl : Int) (hfx : -20 ≤ fx ∧ fx ≤ 20) (hfy : -20 ≤ fy ∧ fy ≤ 20) (hlx : -20 ≤ lx ∧ lx ≤ 20) (hly : -20 ≤ ly ∧ ly ≤ 20) (htn : tn = -1 ∨ tn = 1) (har : 0 < ar ∧ ar ≤ 800) (hpl : -2147483648 ≤ pl ∧ pl < 2147483648) : Met l yX1_lookForGenerators wsX1_lookForGenerators ({ frames := 3, cells := 0, slots := 0, locals := 63 }) (va_Pc [.ref h0, .int (zI pl)] (zPre G sz [(h0, .inr (1, [.ref qv, .int (zI fx), .int (zI fy), .int (zI lx), .int (zI ly), .int (zI tn), .int (zI ar), .int (zI wx), .int (zI wy)])), zci G qv 801 L0])) (va_Qi (fun (r : Int32) (u : (Nat → Int) × (Int) × (Int)) => r = zI ((zcn (zrec u.1) (ar.toNat + 1) : Nat) : Int) ∧ (zlv tn fx fy lx ly ar (zbox fx fy lx ly) u.1) ∧ (zwant u.1 fx fy lx ly ar (ar.toNat + 1) pl u.2.1 u.2.2)) (fun u => zW G (va_A [(h0, .inr (1, [.ref qv, .int (zI fx), .int (zI fy), .int (zI lx), .int (zI ly), .int (zI tn), .int (zI ar), .int (zI wx), .int (zI wy)])), zci G qv 801 L0] sz) ((fun (u : (Nat → Int) × (Int) × (Int)) => [(h0, .inr (1, [.ref qv, .int (zI fx), .int (zI fy), .int (zI lx), .int (zI ly), .int (zI tn), .int (zI ar), .int (zI u.2.1), .int (zI u.2.2)])), zci G qv 801 u.1]) u)) (va_A [(h0, .inr (1, [.ref qv, .int (zI fx), .int (zI fy), .int (zI lx), .int (zI ly), .int (zI tn), .int (zI ar), .int (zI wx), .int (zI wy)])), zci G qv 801 L0] sz)) 0 0 (va_A [(h0, .inr (1, [.ref qv, .int (zI fx), .int (zI fy), .int (zI lx), .int (zI ly), .int (zI tn), .int (zI ar), .int (zI wx), .int (zI wy)])), zci G qv 801 L0] sz) := by
  refine zM_i (post := fun (r : Int32) (u : (Nat → Int) × (Int) × (Int)) => r = zI ((zcn (zrec u.1) (ar.toNat + 1) : Nat) : Int) ∧ (zlv tn fx fy lx ly ar (zbox fx fy lx ly) u.1) ∧ (zwant u.1 fx fy lx ly ar (ar.toNat + 1) pl u.2.1 u.2.2)) (w1 := fun (u : (Nat → Int) × (Int) × (Int)) => [(h0, .inr (1, [.ref qv, .int (zI fx), .int (zI fy), .int (zI lx), .int (zI ly), .int (zI tn), .int (zI ar), .int (zI u.2.1), .int (zI u.2.2)])), zci G qv 801 u.1]) (plainFor_of_name (by decide)) rfl (Nat.le_of_ble_eq_true rfl) ?_
  intro p e s m below meth c A Q S hN hK hP hD hS hA hret ls hl
  have hl : lv_has ls 6 [(0, .ref h0), (1, .int (zI pl))] := hl
  refine zv_aload_n S dX1_lookForGenerators_0 rfl (lv_at hl 0 rfl) ?_
  refine zc_Vv (As := []) (rest := []) (wr := []) (n := 0) S hN hK hP hD hS hA hl (c_X1_lookAtVectors l G s.heap.size h0 qv fx fy lx ly tn ar wx wy L0 hfx hfy hlx hly htn har) gX1_lookForGenerators_X1_lookAtVectors rfl ⟨rfl, rfl⟩ (by decide +kernel) rfl ⟨Nat.le_of_ble_eq_true rfl, Nat.le_of_ble_eq_true rfl, Nat.le_of_ble_eq_true rfl, Nat.le_of_ble_eq_true rfl⟩ [0, 1] [] rfl rfl (by decide) (by decide) (by decide) (ci := 1) rfl rfl rfl (Nat.le_of_ble_eq_true rfl) dX1_lookForGenerators_1 rfl (fun u_1 H1 locs1 hp_2 hP1 hD1 hS1 hz1 => ?_)
  obtain ⟨L1_3, rfl⟩ : ∃ z, z = u_1 := ⟨_, rfl⟩
  try dsimp only at hp_2 hP1 hD1
  have hlv_4 := hp_2
  generalize H1 = H at hP1 hD1 hS1 hz1 ⊢
  generalize locs1 = locs at hS1 ⊢
  have hS := hS1
  have hP : va_P G.1 vwCl [(h0, .inr (1, [.ref qv, .int (zI fx), .int (zI fy), .int (zI lx), .int (zI ly), .int (zI tn), .int (zI ar), .int (zI wx), .int (zI wy)])), zci G qv 801 L1_3] H := hP1
  have hD : va_D A [(h0, .inr (1, [.ref qv, .int (zI fx), .int (zI fy), .int (zI lx), .int (zI ly), .int (zI tn), .int (zI ar), .int (zI wx), .int (zI wy)])), zci G qv 801 L1_3] := hD1
  refine zv_ldc (v := 1000000) S wd_X1_lookForGenerators_k47 (by decide) dX1_lookForGenerators_4 ?_
  refine zv_istore_n (lv' := [(2, .int (zI 1000000)), (0, .ref h0), (1, .int (zI pl))]) S dX1_lookForGenerators_6 rfl hl (by decide) rfl (fun ls hl => ?_)
  refine zv_iconst S dX1_lookForGenerators_7 ?_
  refine zv_istore_n (lv' := [(3, .int (zI 0)), (2, .int (zI 1000000)), (0, .ref h0), (1, .int (zI pl))]) S dX1_lookForGenerators_8 rfl hl (by decide) rfl (fun ls hl => ?_)
  refine zv_iconst S dX1_lookForGenerators_9 ?_
  refine zv_istore (lv' := [(4, .int (zI 0)), (3, .int (zI 0)), (2, .int (zI 1000000)), (0, .ref h0), (1, .int (zI pl))]) S dX1_lookForGenerators_10 hl (by decide) rfl (fun ls hl => ?_)
  have LP12 : ∀ (nf : Nat) (d : Nat) (v4 : Int) (nr : Int) (fd : Int) (g1 : Int) (g2 : Int) (hv4 : v4 = (d : Int)) (hd : (d : Int) ≤ ar + 1) (hnr : znear L1_3 d nr) (hfd : fd = ((zcn (zrec L1_3) d : Nat) : Int)) (hwt : zwant L1_3 fx fy lx ly ar d pl g1 g2) (hfb : 0 ≤ fd ∧ fd ≤ (d : Int)) (hnb : 0 ≤ nr ∧ nr ≤ 1000000), ((ar + 1 - (d : Int)).toNat) < nf → ∀ (H : Heap) (locs : List Loc), va_P G.1 vwCl [(h0, .inr (1, [.ref qv, .int (zI fx), .int (zI fy), .int (zI lx), .int (zI ly), .int (zI tn), .int (zI ar), .int (zI g1), .int (zI g2)])), zci G qv 801 L1_3] H → va_D A [(h0, .inr (1, [.ref qv, .int (zI fx), .int (zI fy), .int (zI lx), .int (zI ly), .int (zI tn), .int (zI ar), .int (zI g1), .int (zI g2)])), zci G qv 801 L1_3] → va_S A s.heap H locs → ∀ ls : Array Slot, lv_has ls 6 [(4, .int (zI v4)), (3, .int (zI fd)), (2, .int (zI nr)), (0, .ref h0), (1, .int (zI pl))] → W p l e ({ frames := 3, cells := 0, slots := 0, locals := 63 }) s m ([.ref h0, .int (zI pl)]).toArray below meth c H locs 0 0 Q (F0 m 12 ls []) := by
    intro nf
    induction nf with
    | zero =>
      intro d v4 nr fd g1 g2 hv4 hd hnr hfd hwt hfb hnb hf
      exact absurd hf (Nat.not_lt_zero _)
    | succ nf ih12 =>
      intro d v4 nr fd g1 g2 hv4 hd hnr hfd hwt hfb hnb hf H locs hP hD hS ls hl
      refine zv_iload S dX1_lookForGenerators_12 (lv_at hl 0 rfl) ?_
      refine zv_aload_n S dX1_lookForGenerators_14 rfl (lv_at hl 3 rfl) ?_
      refine zv_get (C := RX1) (T := TX1) (N := 9) (ci := 1) (v := .int (zI ar)) S in_X1_lookForGenerators_X1 hK hP 0 rfl rfl 6 (by decide) wd_X1_lookForGenerators_f41 rfl rfl dX1_lookForGenerators_15 ?_
      refine zv_icmp_gt (tgt := 69) S (by unfold zR; omega) (by unfold zR; omega) dX1_lookForGenerators_18 (by decide) (fun c_5 => ?_) (fun c_5 => ?_)
      · refine zv_iload_n S dX1_lookForGenerators_69 rfl (lv_at hl 1 rfl) ?_
        exact hret _ _ _ _ _ ⟨L1_3, g1, g2⟩ dX1_lookForGenerators_70 ⟨(show zI fd = zI ((zcn (zrec L1_3) (ar.toNat + 1) : Nat) : Int) from (by rw [hfd, show d = ar.toNat + 1 by omega])), (show zlv tn fx fy lx ly ar (zbox fx fy lx ly) L1_3 from hlv_4), (show zwant L1_3 fx fy lx ly ar (ar.toNat + 1) pl g1 g2 from (by have e : d = ar.toNat + 1 := (by omega); rw [e] at hwt; exact hwt))⟩ (hP.sub [0, 1] rfl) (hD.sub [0, 1] (by decide) rfl) hS
      · refine zv_iload S dX1_lookForGenerators_21 (lv_at hl 0 rfl) ?_
        refine zv_sipush (v := 800) S dX1_lookForGenerators_23 (by decide) ?_
        refine zv_icmp_gt (tgt := 69) S (by unfold zR; omega) (by unfold zR; omega) dX1_lookForGenerators_26 (by decide) (fun c_6 => ?_) (fun c_6 => ?_)
        · exact absurd c_6 (by omega)
        · refine zv_aload_n S dX1_lookForGenerators_29 rfl (lv_at hl 3 rfl) ?_
          refine zv_get (C := RX1) (T := TX1) (N := 9) (ci := 1) (v := .ref qv) S in_X1_lookForGenerators_X1 hK hP 0 rfl rfl 0 (by decide) wd_X1_lookForGenerators_f11 rfl rfl dX1_lookForGenerators_30 ?_
          refine zv_iload S dX1_lookForGenerators_33 (lv_at hl 0 rfl) ?_
          refine zv_iald S hK hP 1 0 rfl rfl d hv4 (by omega) (by decide) dX1_lookForGenerators_35 ?_
          refine zv_istore (lv' := [(5, .int (zI (L1_3 d))), (4, .int (zI v4)), (3, .int (zI fd)), (2, .int (zI nr)), (0, .ref h0), (1, .int (zI pl))]) S dX1_lookForGenerators_36 hl (by decide) rfl (fun ls hl => ?_)
          have q1 := (hlv_4 d (by omega)).1
          refine zv_iload S dX1_lookForGenerators_38 (lv_at hl 0 rfl) ?_
          refine zv_iload_n S dX1_lookForGenerators_40 rfl (lv_at hl 3 rfl) ?_
          refine zv_icmp_ge (tgt := 63) S (by unfold zR; omega) (by unfold zR; omega) dX1_lookForGenerators_41 (by decide) (fun c_7 => ?_) (fun c_7 => ?_)
          · refine zv_iinc (k0 := 1) (lv' := [(4, .int (zI (v4 + 1))), (5, .int (zI (L1_3 d))), (3, .int (zI fd)), (2, .int (zI nr)), (0, .ref h0), (1, .int (zI pl))]) S dX1_lookForGenerators_63 hl rfl (by decide) rfl (fun ls hl => ?_)
            refine zv_goto (tgt := 12) S dX1_lookForGenerators_66 (by decide) ?_
            exact ih12 (d + 1) (v4 + 1) nr fd g1 g2 (by omega) (by omega) (znear_no hnr (by omega)) (zcr_n hfd (fun z => absurd ((zrec_iff hnr).mpr z) (by omega))) (zwant_no hwt (fun z => absurd ((zrec_iff hnr).mpr z.1) (by omega))) (by omega) (by omega) (by omega) _ _ hP hD hS _ (lv_sub hl [0, 2, 3, 4, 5] rfl)
          · refine zv_iload S dX1_lookForGenerators_44 (lv_at hl 0 rfl) ?_
            refine zv_istore_n (lv' := [(2, .int (zI (L1_3 d))), (5, .int (zI (L1_3 d))), (4, .int (zI v4)), (3, .int (zI fd)), (0, .ref h0), (1, .int (zI pl))]) S dX1_lookForGenerators_46 rfl hl (by decide) rfl (fun ls hl => ?_)
            refine zv_iload_n S dX1_lookForGenerators_47 rfl (lv_at hl 3 rfl) ?_
            refine zv_iload_n S dX1_lookForGenerators_48 rfl (lv_at hl 5 rfl) ?_
            refine zv_icmp_ne (tgt := 60) S (by unfold zR; omega) (by unfold zR; omega) dX1_lookForGenerators_49 (by decide) (fun c_8 => ?_) (fun c_8 => ?_)
            · refine zv_iinc (k0 := 3) (lv' := [(3, .int (zI (fd + 1))), (2, .int (zI (L1_3 d))), (5, .int (zI (L1_3 d))), (4, .int (zI v4)), (0, .ref h0), (1, .int (zI pl))]) S dX1_lookForGenerators_60 hl rfl (by decide) rfl (fun ls hl => ?_)
              refine zv_iinc (k0 := 3) (lv' := [(4, .int (zI (v4 + 1))), (3, .int (zI (fd + 1))), (2, .int (zI (L1_3 d))), (5, .int (zI (L1_3 d))), (0, .ref h0), (1, .int (zI pl))]) S dX1_lookForGenerators_63 hl rfl (by decide) rfl (fun ls hl => ?_)
              refine zv_goto (tgt := 12) S dX1_lookForGenerators_66 (by decide) ?_
              exact ih12 (d + 1) (v4 + 1) (L1_3 d) (fd + 1) g1 g2 (by omega) (by omega) (znear_yes hnr (by omega)) (zcr_y hfd ((zrec_iff hnr).mp (by omega))) (zwant_no hwt (fun z => c_8 (by rw [hfd]; exact z.2))) (by omega) (by omega) (by omega) _ _ hP hD hS _ (lv_sub hl [0, 1, 2, 4, 5] rfl)
            · refine zv_aload_n S dX1_lookForGenerators_52 rfl (lv_at hl 4 rfl) ?_
              refine zv_iload S dX1_lookForGenerators_53 (lv_at hl 2 rfl) ?_
              refine zv_iload S dX1_lookForGenerators_55 (lv_at hl 1 rfl) ?_
              refine zc_Vv (As := [.int (zI v4), .int (zI (L1_3 d))]) (rest := []) (wr := [zci G qv 801 L1_3]) (n := 2) S hN hK hP hD hS hA hl (c_X1_keepByDistances l G H.size h0 qv fx fy lx ly tn ar g1 g2 v4 (L1_3 d) hfx hfy hlx hly htn har (by omega) (zrec_800 har hlv_4 (zrec_iff hnr) (by omega) (by omega))) gX1_lookForGenerators_X1_keepByDistances rfl ⟨rfl, rfl⟩ (by decide +kernel) rfl ⟨Nat.le_of_ble_eq_true rfl, Nat.le_of_ble_eq_true rfl, Nat.le_of_ble_eq_true rfl, Nat.le_of_ble_eq_true rfl⟩ [0] [1] rfl rfl (by decide) (by decide) (by decide) (ci := 1) rfl rfl rfl (Nat.le_of_ble_eq_true rfl) dX1_lookForGenerators_57 rfl (fun u_9 H1 locs1 hp_10 hP1 hD1 hS1 hz1 => ?_)
              try dsimp only at hp_10 hP1 hD1
              generalize H1 = H at hP1 hD1 hS1 hz1 ⊢
              generalize locs1 = locs at hS1 ⊢
              have hS := hS1
              have hP : va_P G.1 vwCl [zci G qv 801 L1_3, (h0, .inr (1, [.ref qv, .int (zI fx), .int (zI fy), .int (zI lx), .int (zI ly), .int (zI tn), .int (zI ar), .int (zI (((L1_3 d) * fx + v4 * lx).tdiv ar)), .int (zI (((L1_3 d) * fy + v4 * ly).tdiv ar))]))] H := hP1
              have hD : va_D A [zci G qv 801 L1_3, (h0, .inr (1, [.ref qv, .int (zI fx), .int (zI fy), .int (zI lx), .int (zI ly), .int (zI tn), .int (zI ar), .int (zI (((L1_3 d) * fx + v4 * lx).tdiv ar)), .int (zI (((L1_3 d) * fy + v4 * ly).tdiv ar))]))] := hD1
              refine zv_iinc (k0 := 3) (lv' := [(3, .int (zI (fd + 1))), (2, .int (zI (L1_3 d))), (5, .int (zI (L1_3 d))), (4, .int (zI v4)), (0, .ref h0), (1, .int (zI pl))]) S dX1_lookForGenerators_60 hl rfl (by decide) rfl (fun ls hl => ?_)
              refine zv_iinc (k0 := 3) (lv' := [(4, .int (zI (v4 + 1))), (3, .int (zI (fd + 1))), (2, .int (zI (L1_3 d))), (5, .int (zI (L1_3 d))), (0, .ref h0), (1, .int (zI pl))]) S dX1_lookForGenerators_63 hl rfl (by decide) rfl (fun ls hl => ?_)
              refine zv_goto (tgt := 12) S dX1_lookForGenerators_66 (by decide) ?_
              exact ih12 (d + 1) (v4 + 1) (L1_3 d) (fd + 1) (((L1_3 d) * fx + v4 * lx).tdiv ar) (((L1_3 d) * fy + v4 * ly).tdiv ar) (by omega) (by omega) (znear_yes hnr (by omega)) (zcr_y hfd ((zrec_iff hnr).mp (by omega))) (zwant_yes ((zrec_iff hnr).mp (by omega)) (by rw [← hfd]; exact c_8) (by rw [hv4]) (by rw [hv4])) (by omega) (by omega) (by omega) _ _ (hP.sub [1, 0] rfl) (hD.sub [1, 0] (by decide) rfl) hS _ (lv_sub hl [0, 1, 2, 4, 5] rfl)
  exact LP12 _ 0 0 1000000 0 wx wy rfl (by omega) znear_0 rfl zwant_0 (by omega) (by omega) (Nat.lt_succ_self _) _ _ hP hD hS _ (lv_sub hl [0, 1, 2, 3, 4] rfl)

theorem wd_X1_secondX_f19 : Cond.fieldLink RX1 19 "PointMill$Cone" "firstX" "I" ∈ wsX1_secondX := by decide +kernel
theorem in_X1_secondX_X1 : ∀ w ∈ wsX10, w ∈ wsX1_secondX := by decide +kernel
theorem wd_X1_secondX_m35 : Cond.methodLink RX1 35 Lib.Math.abs.name ∈ wsX1_secondX := by decide +kernel
theorem wd_X1_secondX_sabs : Cond.static Lib.Math.abs.name ∈ wsX1_secondX := by decide +kernel
theorem wd_X1_secondX_iM : Cond.initialized "java/lang/Math" ∈ wsX1_secondX := by decide +kernel
theorem wd_X1_secondX_cabs : Cond.code Lib.Math.abs.name Lib.Math.abs.code 1 (some .int) ∈ wsX1_secondX := by decide +kernel
theorem wd_X1_secondX_f32 : Cond.fieldLink RX1 32 "PointMill$Cone" "turn" "I" ∈ wsX1_secondX := by decide +kernel
theorem wd_X1_secondX_f23 : Cond.fieldLink RX1 23 "PointMill$Cone" "firstY" "I" ∈ wsX1_secondX := by decide +kernel
set_option maxHeartbeats 4000000 in
set_option maxRecDepth 100000 in
/-- Cone.secondX -/
theorem c_X1_secondX (l : Launch) (G : zG) (sz : Nat) (h0 : Nat) (qv : Nat) (fx : Int) (fy : Int) (lx : Int) (ly : Int) (tn : Int) (ar : Int) (wx : Int) (wy : Int) (hfx : -20 ≤ fx ∧ fx ≤ 20) (hfy : -20 ≤ fy ∧ fy ≤ 20) (hlx : -20 ≤ lx ∧ lx ≤ 20) (hly : -20 ≤ ly ∧ ly ≤ 20) (htn : tn = -1 ∨ tn = 1) (har : 0 < ar ∧ ar ≤ 800) : Met l yX1_secondX wsX1_secondX ({ frames := 1, cells := 0, slots := 0, locals := 13 }) (va_Pc [.ref h0] (zPre G sz [(h0, .inr (1, [.ref qv, .int (zI fx), .int (zI fy), .int (zI lx), .int (zI ly), .int (zI tn), .int (zI ar), .int (zI wx), .int (zI wy)]))])) (va_Qi (fun (r : Int32) (u : (Int)) => r = zI u ∧ (zsec fx fy tn u)) (fun u => zW G (va_A [(h0, .inr (1, [.ref qv, .int (zI fx), .int (zI fy), .int (zI lx), .int (zI ly), .int (zI tn), .int (zI ar), .int (zI wx), .int (zI wy)]))] sz) ((fun (u : (Int)) => [(h0, .inr (1, [.ref qv, .int (zI fx), .int (zI fy), .int (zI lx), .int (zI ly), .int (zI tn), .int (zI ar), .int (zI wx), .int (zI wy)]))]) u)) (va_A [(h0, .inr (1, [.ref qv, .int (zI fx), .int (zI fy), .int (zI lx), .int (zI ly), .int (zI tn), .int (zI ar), .int (zI wx), .int (zI wy)]))] sz)) 0 0 (va_A [(h0, .inr (1, [.ref qv, .int (zI fx), .int (zI fy), .int (zI lx), .int (zI ly), .int (zI tn), .int (zI ar), .int (zI wx), .int (zI wy)]))] sz) := by
  refine zM_i (post := fun (r : Int32) (u : (Int)) => r = zI u ∧ (zsec fx fy tn u)) (w1 := fun (u : (Int)) => [(h0, .inr (1, [.ref qv, .int (zI fx), .int (zI fy), .int (zI lx), .int (zI ly), .int (zI tn), .int (zI ar), .int (zI wx), .int (zI wy)]))]) (plainFor_of_name (by decide)) rfl (Nat.le_of_ble_eq_true rfl) ?_
  intro p e s m below meth c A Q S hN hK hP hD hS hA hret ls hl
  have hl : lv_has ls 3 [(0, .ref h0)] := hl
  refine zv_aload_n S dX1_secondX_0 rfl (lv_at hl 0 rfl) ?_
  refine zv_get (C := RX1) (T := TX1) (N := 9) (ci := 1) (v := .int (zI fx)) S in_X1_secondX_X1 hK hP 0 rfl rfl 1 (by decide) wd_X1_secondX_f19 rfl rfl dX1_secondX_1 ?_
  refine zv_if_ne (tgt := 18) S (by unfold zR; omega) dX1_secondX_4 (by decide) (fun c_1 => ?_) (fun c_1 => ?_)
  · have hab : 0 < zabs fx ∧ zabs fx ≤ 20 := by unfold zabs; split <;> omega
    refine zv_aload_n S dX1_secondX_18 rfl (lv_at hl 0 rfl) ?_
    refine zv_get (C := RX1) (T := TX1) (N := 9) (ci := 1) (v := .int (zI fx)) S in_X1_secondX_X1 hK hP 0 rfl rfl 1 (by decide) wd_X1_secondX_f19 rfl rfl dX1_secondX_19 ?_
    refine zv_abs S hl (by unfold zR; omega) wd_X1_secondX_m35 wd_X1_secondX_sabs wd_X1_secondX_iM wd_X1_secondX_cabs (by decide) (Nat.le_of_ble_eq_true rfl) (Nat.le_of_ble_eq_true rfl) (Nat.le_of_ble_eq_true rfl) dX1_secondX_22 ?_
    refine zv_istore_n (lv' := [(1, .int (zI (zabs fx))), (0, .ref h0)]) S dX1_secondX_25 rfl hl (by decide) rfl (fun ls hl => ?_)
    refine zv_iconst S dX1_secondX_26 ?_
    refine zv_istore_n (lv' := [(2, .int (zI 0)), (1, .int (zI (zabs fx))), (0, .ref h0)]) S dX1_secondX_27 rfl hl (by decide) rfl (fun ls hl => ?_)
    have LP28 : ∀ (nf : Nat) (j : Nat) (v2 : Int) (hv2 : v2 = (j : Int)) (hj : (j : Int) ≤ zabs fx) (hno : ∀ z : Nat, z < j → ¬ (tn + fy * (z : Int)).tmod (zabs fx) = 0), ((zabs fx - (j : Int)).toNat) < nf → ∀ (H : Heap) (locs : List Loc), va_P G.1 vwCl [(h0, .inr (1, [.ref qv, .int (zI fx), .int (zI fy), .int (zI lx), .int (zI ly), .int (zI tn), .int (zI ar), .int (zI wx), .int (zI wy)]))] H → va_D A [(h0, .inr (1, [.ref qv, .int (zI fx), .int (zI fy), .int (zI lx), .int (zI ly), .int (zI tn), .int (zI ar), .int (zI wx), .int (zI wy)]))] → va_S A s.heap H locs → ∀ ls : Array Slot, lv_has ls 3 [(2, .int (zI v2)), (1, .int (zI (zabs fx))), (0, .ref h0)] → W p l e ({ frames := 1, cells := 0, slots := 0, locals := 13 }) s m ([.ref h0]).toArray below meth c H locs 0 0 Q (F0 m 28 ls []) := by
      intro nf
      induction nf with
      | zero =>
        intro j v2 hv2 hj hno hf
        exact absurd hf (Nat.not_lt_zero _)
      | succ nf ih28 =>
        intro j v2 hv2 hj hno hf H locs hP hD hS ls hl
        refine zv_iload_n S dX1_secondX_28 rfl (lv_at hl 0 rfl) ?_
        refine zv_iload_n S dX1_secondX_29 rfl (lv_at hl 1 rfl) ?_
        refine zv_icmp_ge (tgt := 57) S (by unfold zR; omega) (by unfold zR; omega) dX1_secondX_30 (by decide) (fun c_2 => ?_) (fun c_2 => ?_)
        · refine zv_iconst S dX1_secondX_57 ?_
          exact hret _ _ _ _ _ 0 dX1_secondX_58 ⟨rfl, (show zsec fx fy tn 0 from ⟨by omega, fun z => absurd z c_1, fun _ => Or.inr ⟨rfl, fun z hz => hno z (by omega)⟩⟩)⟩ (hP.sub [0] rfl) (hD.sub [0] (by decide) rfl) hS
        · refine zv_aload_n S dX1_secondX_33 rfl (lv_at hl 2 rfl) ?_
          refine zv_get (C := RX1) (T := TX1) (N := 9) (ci := 1) (v := .int (zI tn)) S in_X1_secondX_X1 hK hP 0 rfl rfl 5 (by decide) wd_X1_secondX_f32 rfl rfl dX1_secondX_34 ?_
          refine zv_aload_n S dX1_secondX_37 rfl (lv_at hl 2 rfl) ?_
          refine zv_get (C := RX1) (T := TX1) (N := 9) (ci := 1) (v := .int (zI fy)) S in_X1_secondX_X1 hK hP 0 rfl rfl 2 (by decide) wd_X1_secondX_f23 rfl rfl dX1_secondX_38 ?_
          refine zv_iload_n S dX1_secondX_41 rfl (lv_at hl 0 rfl) ?_
          refine zv_imul S dX1_secondX_42 ?_
          refine zv_iadd S dX1_secondX_43 ?_
          refine zv_iload_n S dX1_secondX_44 rfl (lv_at hl 1 rfl) ?_
          have m2 := zmulb (a := fy) (b := v2) (A := 20) (B := 20) hfy.1 hfy.2 (by omega) (by omega)
          have m3 := ztd (x := tn + fy * v2) hab.1
          refine zv_irem S (by unfold zR; omega) (by unfold zR; omega) (by omega) (by omega) dX1_secondX_45 ?_
          refine zv_if_ne (tgt := 51) S (by unfold zR; omega) dX1_secondX_46 (by decide) (fun c_3 => ?_) (fun c_3 => ?_)
          · refine zv_iinc (k0 := 0) (lv' := [(2, .int (zI (v2 + 1))), (1, .int (zI (zabs fx))), (0, .ref h0)]) S dX1_secondX_51 hl rfl (by decide) rfl (fun ls hl => ?_)
            refine zv_goto (tgt := 28) S dX1_secondX_54 (by decide) ?_
            exact ih28 (j + 1) (v2 + 1) (by omega) (by omega) (zsec_no hno (by rw [← hv2]; exact c_3)) (by omega) _ _ hP hD hS _ (lv_sub hl [0, 1, 2] rfl)
          · refine zv_iload_n S dX1_secondX_49 rfl (lv_at hl 0 rfl) ?_
            exact hret _ _ _ _ _ v2 dX1_secondX_50 ⟨rfl, (show zsec fx fy tn v2 from ⟨by omega, fun z => absurd z c_1, fun _ => Or.inl ⟨by omega, by omega, c_3⟩⟩)⟩ (hP.sub [0] rfl) (hD.sub [0] (by decide) rfl) hS
    exact LP28 _ 0 0 rfl (by unfold zabs; split <;> omega) (fun z h => absurd h (Nat.not_lt_zero z)) (Nat.lt_succ_self _) _ _ hP hD hS _ (lv_sub hl [0, 1, 2] rfl)
  · refine zv_aload_n S dX1_secondX_7 rfl (lv_at hl 0 rfl) ?_
    refine zv_get (C := RX1) (T := TX1) (N := 9) (ci := 1) (v := .int (zI tn)) S in_X1_secondX_X1 hK hP 0 rfl rfl 5 (by decide) wd_X1_secondX_f32 rfl rfl dX1_secondX_8 ?_
    have m1 : -20 ≤ -tn * fy ∧ -tn * fy ≤ 20 := by rcases htn with h | h <;> (rw [h]; omega)
    refine zv_ineg S dX1_secondX_11 ?_
    refine zv_aload_n S dX1_secondX_12 rfl (lv_at hl 0 rfl) ?_
    refine zv_get (C := RX1) (T := TX1) (N := 9) (ci := 1) (v := .int (zI fy)) S in_X1_secondX_X1 hK hP 0 rfl rfl 2 (by decide) wd_X1_secondX_f23 rfl rfl dX1_secondX_13 ?_
    refine zv_imul S dX1_secondX_16 ?_
    exact hret _ _ _ _ _ (-tn * fy) dX1_secondX_17 ⟨rfl, (show zsec fx fy tn (-tn * fy) from ⟨by omega, fun _ => rfl, fun z => absurd c_1 z⟩)⟩ (hP.sub [0] rfl) (hD.sub [0] (by decide) rfl) hS

theorem wd_X1_secondY_f19 : Cond.fieldLink RX1 19 "PointMill$Cone" "firstX" "I" ∈ wsX1_secondY := by decide +kernel
theorem in_X1_secondY_X1 : ∀ w ∈ wsX10, w ∈ wsX1_secondY := by decide +kernel
theorem wd_X1_secondY_f32 : Cond.fieldLink RX1 32 "PointMill$Cone" "turn" "I" ∈ wsX1_secondY := by decide +kernel
theorem wd_X1_secondY_f23 : Cond.fieldLink RX1 23 "PointMill$Cone" "firstY" "I" ∈ wsX1_secondY := by decide +kernel
set_option maxHeartbeats 4000000 in
set_option maxRecDepth 100000 in
/-- Cone.secondY -/
theorem c_X1_secondY (l : Launch) (G : zG) (sz : Nat) (h0 : Nat) (qv : Nat) (fx : Int) (fy : Int) (lx : Int) (ly : Int) (tn : Int) (ar : Int) (wx : Int) (wy : Int) (x : Int) (hfx : -20 ≤ fx ∧ fx ≤ 20) (hfy : -20 ≤ fy ∧ fy ≤ 20) (hlx : -20 ≤ lx ∧ lx ≤ 20) (hly : -20 ≤ ly ∧ ly ≤ 20) (htn : tn = -1 ∨ tn = 1) (har : 0 < ar ∧ ar ≤ 800) (hx : -20 ≤ x ∧ x ≤ 20) : Met l yX1_secondY wsX1_secondY ({ frames := 0, cells := 0, slots := 0, locals := 0 }) (va_Pc [.ref h0, .int (zI x)] (zPre G sz [(h0, .inr (1, [.ref qv, .int (zI fx), .int (zI fy), .int (zI lx), .int (zI ly), .int (zI tn), .int (zI ar), .int (zI wx), .int (zI wy)]))])) (va_Qi (fun (r : Int32) (u : Unit) => r = zI (zsecY fx fy tn x)) (fun u => zW G (va_A [(h0, .inr (1, [.ref qv, .int (zI fx), .int (zI fy), .int (zI lx), .int (zI ly), .int (zI tn), .int (zI ar), .int (zI wx), .int (zI wy)]))] sz) ((fun (u : Unit) => [(h0, .inr (1, [.ref qv, .int (zI fx), .int (zI fy), .int (zI lx), .int (zI ly), .int (zI tn), .int (zI ar), .int (zI wx), .int (zI wy)]))]) u)) (va_A [(h0, .inr (1, [.ref qv, .int (zI fx), .int (zI fy), .int (zI lx), .int (zI ly), .int (zI tn), .int (zI ar), .int (zI wx), .int (zI wy)]))] sz)) 0 0 (va_A [(h0, .inr (1, [.ref qv, .int (zI fx), .int (zI fy), .int (zI lx), .int (zI ly), .int (zI tn), .int (zI ar), .int (zI wx), .int (zI wy)]))] sz) := by
  refine zM_i (post := fun (r : Int32) (u : Unit) => r = zI (zsecY fx fy tn x)) (w1 := fun (u : Unit) => [(h0, .inr (1, [.ref qv, .int (zI fx), .int (zI fy), .int (zI lx), .int (zI ly), .int (zI tn), .int (zI ar), .int (zI wx), .int (zI wy)]))]) (plainFor_of_name (by decide)) rfl (Nat.le_of_ble_eq_true rfl) ?_
  intro p e s m below meth c A Q S hN hK hP hD hS hA hret ls hl
  have hl : lv_has ls 2 [(0, .ref h0), (1, .int (zI x))] := hl
  refine zv_aload_n S dX1_secondY_0 rfl (lv_at hl 0 rfl) ?_
  refine zv_get (C := RX1) (T := TX1) (N := 9) (ci := 1) (v := .int (zI fx)) S in_X1_secondY_X1 hK hP 0 rfl rfl 1 (by decide) wd_X1_secondY_f19 rfl rfl dX1_secondY_1 ?_
  refine zv_if_ne (tgt := 11) S (by unfold zR; omega) dX1_secondY_4 (by decide) (fun c_1 => ?_) (fun c_1 => ?_)
  · refine zv_aload_n S dX1_secondY_11 rfl (lv_at hl 0 rfl) ?_
    refine zv_get (C := RX1) (T := TX1) (N := 9) (ci := 1) (v := .int (zI tn)) S in_X1_secondY_X1 hK hP 0 rfl rfl 5 (by decide) wd_X1_secondY_f32 rfl rfl dX1_secondY_12 ?_
    refine zv_aload_n S dX1_secondY_15 rfl (lv_at hl 0 rfl) ?_
    refine zv_get (C := RX1) (T := TX1) (N := 9) (ci := 1) (v := .int (zI fy)) S in_X1_secondY_X1 hK hP 0 rfl rfl 2 (by decide) wd_X1_secondY_f23 rfl rfl dX1_secondY_16 ?_
    refine zv_iload_n S dX1_secondY_19 rfl (lv_at hl 1 rfl) ?_
    refine zv_imul S dX1_secondY_20 ?_
    refine zv_iadd S dX1_secondY_21 ?_
    refine zv_aload_n S dX1_secondY_22 rfl (lv_at hl 0 rfl) ?_
    refine zv_get (C := RX1) (T := TX1) (N := 9) (ci := 1) (v := .int (zI fx)) S in_X1_secondY_X1 hK hP 0 rfl rfl 1 (by decide) wd_X1_secondY_f19 rfl rfl dX1_secondY_23 ?_
    have m2 := zmulb (a := fy) (b := x) (A := 20) (B := 20) hfy.1 hfy.2 hx.1 hx.2
    refine zv_idiv2 S (by unfold zR; omega) (by unfold zR; omega) (by omega) (by omega) dX1_secondY_26 ?_
    exact hret _ _ _ _ _ () dX1_secondY_27 (congrArg zI (if_neg c_1).symm) (hP.sub [0] rfl) (hD.sub [0] (by decide) rfl) hS
  · refine zv_iconst S dX1_secondY_7 ?_
    refine zv_goto (tgt := 27) S dX1_secondY_8 (by decide) ?_
    exact hret _ _ _ _ _ () dX1_secondY_27 (congrArg zI (if_pos c_1).symm) (hP.sub [0] rfl) (hD.sub [0] (by decide) rfl) hS
