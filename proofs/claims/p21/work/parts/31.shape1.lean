set_option maxHeartbeats 4000000 in
set_option maxRecDepth 100000 in
/-- isFactor -/
theorem c_X3_isFactor (l : Launch) (G : zG) (sz : Nat) (v : Int) (hv : -2147483648 ≤ v ∧ v < 2147483648) : Met l yX3_isFactor wsX3_isFactor ({ frames := 0, cells := 0, slots := 0, locals := 0 }) (va_Pc [.int (zI v)] (zPre G sz [])) (va_Qi (fun (r : Int32) (u : Unit) => r = zI (zb (-60 ≤ v ∧ v ≤ 60))) (fun u => zW G (va_A [] sz) ((fun (u : Unit) => []) u)) (va_A [] sz)) 0 0 (va_A [] sz) := by
  refine zM_z (post := fun (r : Int32) (u : Unit) => r = zI (zb (-60 ≤ v ∧ v ≤ 60))) (w1 := fun (u : Unit) => []) (plainFor_of_name (by decide)) rfl (Nat.le_of_ble_eq_true rfl) ?_
  intro p e s m below meth c A Q S hN hK hP hD hS hA hret ls hl
  have hl : lv_has ls 1 [(0, .int (zI v))] := hl
  refine zv_iload_n S dX3_isFactor_0 rfl (lv_at hl 0 rfl) ?_
  refine zv_bipush (v := (-60)) S dX3_isFactor_1 (by decide) ?_
  refine zv_icmp_lt (tgt := 16) S (by unfold zR; omega) (by unfold zR; omega) dX3_isFactor_3 (by decide) (fun c_1 => ?_) (fun c_1 => ?_)
  · refine zv_iconst S dX3_isFactor_16 ?_
    exact hret _ _ _ _ _ () dX3_isFactor_17 (by first | exact Or.inl rfl | exact Or.inr rfl) (congrArg zI (zb_f (by omega)).symm) (hP.sub [] rfl) (hD.sub [] (by decide) rfl) hS
  · refine zv_iload_n S dX3_isFactor_6 rfl (lv_at hl 0 rfl) ?_
    refine zv_bipush (v := 60) S dX3_isFactor_7 (by decide) ?_
    refine zv_icmp_gt (tgt := 16) S (by unfold zR; omega) (by unfold zR; omega) dX3_isFactor_9 (by decide) (fun c_2 => ?_) (fun c_2 => ?_)
    · refine zv_iconst S dX3_isFactor_16 ?_
      exact hret _ _ _ _ _ () dX3_isFactor_17 (by first | exact Or.inl rfl | exact Or.inr rfl) (congrArg zI (zb_f (by omega)).symm) (hP.sub [] rfl) (hD.sub [] (by decide) rfl) hS
    · refine zv_iconst S dX3_isFactor_12 ?_
      refine zv_goto (tgt := 17) S dX3_isFactor_13 (by decide) ?_
      exact hret _ _ _ _ _ () dX3_isFactor_17 (by first | exact Or.inl rfl | exact Or.inr rfl) (congrArg zI (zb_t (by omega)).symm) (hP.sub [] rfl) (hD.sub [] (by decide) rfl) hS

theorem wd_X3_has_f24 : Cond.fieldLink RX3 24 "PointMill$Shape" "size" "I" ∈ wsX3_has := by decide +kernel
theorem in_X3_has_X3 : ∀ w ∈ wsX30, w ∈ wsX3_has := by decide +kernel
set_option maxHeartbeats 4000000 in
set_option maxRecDepth 100000 in
/-- Shape.has -/
theorem c_X3_has (l : Launch) (G : zG) (sz : Nat) (h0 : Nat) (qa : Nat) (qb : Nat) (qc : Nat) (qe : Nat) (k : Nat) (i : Int) (hk : k ≤ 10) (hi : -2147483648 ≤ i ∧ i < 2147483648) : Met l yX3_has wsX3_has ({ frames := 0, cells := 0, slots := 0, locals := 0 }) (va_Pc [.ref h0, .int (zI i)] (zPre G sz [(h0, .inr (3, [.ref qa, .ref qb, .ref qc, .ref qe, .int (zI (k : Int))]))])) (va_Qi (fun (r : Int32) (u : Unit) => r = zI (zb (0 ≤ i ∧ i < (k : Int)))) (fun u => zW G (va_A [(h0, .inr (3, [.ref qa, .ref qb, .ref qc, .ref qe, .int (zI (k : Int))]))] sz) ((fun (u : Unit) => [(h0, .inr (3, [.ref qa, .ref qb, .ref qc, .ref qe, .int (zI (k : Int))]))]) u)) (va_A [(h0, .inr (3, [.ref qa, .ref qb, .ref qc, .ref qe, .int (zI (k : Int))]))] sz)) 0 0 (va_A [(h0, .inr (3, [.ref qa, .ref qb, .ref qc, .ref qe, .int (zI (k : Int))]))] sz) := by
  refine zM_z (post := fun (r : Int32) (u : Unit) => r = zI (zb (0 ≤ i ∧ i < (k : Int)))) (w1 := fun (u : Unit) => [(h0, .inr (3, [.ref qa, .ref qb, .ref qc, .ref qe, .int (zI (k : Int))]))]) (plainFor_of_name (by decide)) rfl (Nat.le_of_ble_eq_true rfl) ?_
  intro p e s m below meth c A Q S hN hK hP hD hS hA hret ls hl
  have hl : lv_has ls 2 [(0, .ref h0), (1, .int (zI i))] := hl
  refine zv_iload_n S dX3_has_0 rfl (lv_at hl 1 rfl) ?_
  refine zv_if_lt (tgt := 16) S (by unfold zR; omega) dX3_has_1 (by decide) (fun c_1 => ?_) (fun c_1 => ?_)
  · refine zv_iconst S dX3_has_16 ?_
    exact hret _ _ _ _ _ () dX3_has_17 (by first | exact Or.inl rfl | exact Or.inr rfl) (congrArg zI (zb_f (by omega)).symm) (hP.sub [0] rfl) (hD.sub [0] (by decide) rfl) hS
  · refine zv_iload_n S dX3_has_4 rfl (lv_at hl 1 rfl) ?_
    refine zv_aload_n S dX3_has_5 rfl (lv_at hl 0 rfl) ?_
    refine zv_get (C := RX3) (T := TX3) (N := 5) (ci := 3) (v := .int (zI (k : Int))) S in_X3_has_X3 hK hP 0 rfl rfl 4 (by decide) wd_X3_has_f24 rfl rfl dX3_has_6 ?_
    refine zv_icmp_ge (tgt := 16) S (by unfold zR; omega) (by unfold zR; omega) dX3_has_9 (by decide) (fun c_2 => ?_) (fun c_2 => ?_)
    · refine zv_iconst S dX3_has_16 ?_
      exact hret _ _ _ _ _ () dX3_has_17 (by first | exact Or.inl rfl | exact Or.inr rfl) (congrArg zI (zb_f (by omega)).symm) (hP.sub [0] rfl) (hD.sub [0] (by decide) rfl) hS
    · refine zv_iconst S dX3_has_12 ?_
      refine zv_goto (tgt := 17) S dX3_has_13 (by decide) ?_
      exact hret _ _ _ _ _ () dX3_has_17 (by first | exact Or.inl rfl | exact Or.inr rfl) (congrArg zI (zb_t (by omega)).symm) (hP.sub [0] rfl) (hD.sub [0] (by decide) rfl) hS

theorem wd_X3_append_f24 : Cond.fieldLink RX3 24 "PointMill$Shape" "size" "I" ∈ wsX3_append := by decide +kernel
theorem in_X3_append_X3 : ∀ w ∈ wsX30, w ∈ wsX3_append := by decide +kernel
theorem wd_X3_append_f9 : Cond.fieldLink RX3 9 "PointMill$Shape" "a" "[I" ∈ wsX3_append := by decide +kernel
theorem wd_X3_append_f15 : Cond.fieldLink RX3 15 "PointMill$Shape" "b" "[I" ∈ wsX3_append := by decide +kernel
theorem wd_X3_append_f18 : Cond.fieldLink RX3 18 "PointMill$Shape" "c" "[I" ∈ wsX3_append := by decide +kernel
theorem wd_X3_append_f21 : Cond.fieldLink RX3 21 "PointMill$Shape" "e" "[I" ∈ wsX3_append := by decide +kernel
set_option maxHeartbeats 4000000 in
set_option maxRecDepth 100000 in
/-- Shape.append where there is room -/
theorem c_X3_append (l : Launch) (G : zG) (sz : Nat) (h0 : Nat) (qa : Nat) (qb : Nat) (qc : Nat) (qe : Nat) (fa : Nat → Int) (fb : Nat → Int) (fc : Nat → Int) (fe : Nat → Int) (k : Nat) (na : Int) (nb : Int) (nc : Int) (ne : Int) (hk : k < 10) : Met l yX3_append wsX3_append ({ frames := 0, cells := 0, slots := 0, locals := 0 }) (va_Pc [.ref h0, .int (zI na), .int (zI nb), .int (zI nc), .int (zI ne)] (zPre G sz [(h0, .inr (3, [.ref qa, .ref qb, .ref qc, .ref qe, .int (zI (k : Int))])), zci G qa 10 fa, zci G qb 10 fb, zci G qc 10 fc, zci G qe 10 fe])) (va_Qi (fun (r : Int32) (u : Unit) => r = zI (k : Int)) (fun u => zW G (va_A [(h0, .inr (3, [.ref qa, .ref qb, .ref qc, .ref qe, .int (zI (k : Int))])), zci G qa 10 fa, zci G qb 10 fb, zci G qc 10 fc, zci G qe 10 fe] sz) ((fun (u : Unit) => [(h0, .inr (3, [.ref qa, .ref qb, .ref qc, .ref qe, .int (zI ((k : Int) + 1))])), zci G qa 10 (zU fa k na), zci G qb 10 (zU fb k nb), zci G qc 10 (zU fc k nc), zci G qe 10 (zU fe k ne)]) u)) (va_A [(h0, .inr (3, [.ref qa, .ref qb, .ref qc, .ref qe, .int (zI (k : Int))])), zci G qa 10 fa, zci G qb 10 fb, zci G qc 10 fc, zci G qe 10 fe] sz)) 0 0 (va_A [(h0, .inr (3, [.ref qa, .ref qb, .ref qc, .ref qe, .int (zI (k : Int))])), zci G qa 10 fa, zci G qb 10 fb, zci G qc 10 fc, zci G qe 10 fe] sz) := by
  refine zM_i (post := fun (r : Int32) (u : Unit) => r = zI (k : Int)) (w1 := fun (u : Unit) => [(h0, .inr (3, [.ref qa, .ref qb, .ref qc, .ref qe, .int (zI ((k : Int) + 1))])), zci G qa 10 (zU fa k na), zci G qb 10 (zU fb k nb), zci G qc 10 (zU fc k nc), zci G qe 10 (zU fe k ne)]) (plainFor_of_name (by decide)) rfl (Nat.le_of_ble_eq_true rfl) ?_
  intro p e s m below meth c A Q S hN hK hP hD hS hA hret ls hl
  have hl : lv_has ls 5 [(0, .ref h0), (1, .int (zI na)), (2, .int (zI nb)), (3, .int (zI nc)), (4, .int (zI ne))] := hl
  refine zv_aload_n S dX3_append_0 rfl (lv_at hl 0 rfl) ?_
  refine zv_get (C := RX3) (T := TX3) (N := 5) (ci := 3) (v := .int (zI (k : Int))) S in_X3_append_X3 hK hP 0 rfl rfl 4 (by decide) wd_X3_append_f24 rfl rfl dX3_append_1 ?_
  refine zv_bipush (v := 10) S dX3_append_4 (by decide) ?_
  refine zv_icmp_lt (tgt := 11) S (by unfold zR; omega) (by unfold zR; omega) dX3_append_6 (by decide) (fun c_1 => ?_) (fun c_1 => ?_)
  · refine zv_aload_n S dX3_append_11 rfl (lv_at hl 0 rfl) ?_
    refine zv_get (C := RX3) (T := TX3) (N := 5) (ci := 3) (v := .ref qa) S in_X3_append_X3 hK hP 0 rfl rfl 0 (by decide) wd_X3_append_f9 rfl rfl dX3_append_12 ?_
    refine zv_aload_n S dX3_append_15 rfl (lv_at hl 0 rfl) ?_
    refine zv_get (C := RX3) (T := TX3) (N := 5) (ci := 3) (v := .int (zI (k : Int))) S in_X3_append_X3 hK hP 0 rfl rfl 4 (by decide) wd_X3_append_f24 rfl rfl dX3_append_16 ?_
    refine zv_iload_n S dX3_append_19 rfl (lv_at hl 1 rfl) ?_
    refine zv_iast S hK hP hD hS 1 0 rfl rfl k rfl (by omega) (by decide) dX3_append_20 (fun H locs hP hD hS => ?_)
    have hP : va_P G.1 vwCl [(h0, .inr (3, [.ref qa, .ref qb, .ref qc, .ref qe, .int (zI (k : Int))])), zci G qa 10 (zU fa k na), zci G qb 10 fb, zci G qc 10 fc, zci G qe 10 fe] H := hP
    have hD : va_D A [(h0, .inr (3, [.ref qa, .ref qb, .ref qc, .ref qe, .int (zI (k : Int))])), zci G qa 10 (zU fa k na), zci G qb 10 fb, zci G qc 10 fc, zci G qe 10 fe] := hD
    refine zv_aload_n S dX3_append_21 rfl (lv_at hl 0 rfl) ?_
    refine zv_get (C := RX3) (T := TX3) (N := 5) (ci := 3) (v := .ref qb) S in_X3_append_X3 hK hP 0 rfl rfl 1 (by decide) wd_X3_append_f15 rfl rfl dX3_append_22 ?_
    refine zv_aload_n S dX3_append_25 rfl (lv_at hl 0 rfl) ?_
    refine zv_get (C := RX3) (T := TX3) (N := 5) (ci := 3) (v := .int (zI (k : Int))) S in_X3_append_X3 hK hP 0 rfl rfl 4 (by decide) wd_X3_append_f24 rfl rfl dX3_append_26 ?_
    refine zv_iload_n S dX3_append_29 rfl (lv_at hl 2 rfl) ?_
    refine zv_iast S hK hP hD hS 2 0 rfl rfl k rfl (by omega) (by decide) dX3_append_30 (fun H locs hP hD hS => ?_)
    have hP : va_P G.1 vwCl [(h0, .inr (3, [.ref qa, .ref qb, .ref qc, .ref qe, .int (zI (k : Int))])), zci G qa 10 (zU fa k na), zci G qb 10 (zU fb k nb), zci G qc 10 fc, zci G qe 10 fe] H := hP
    have hD : va_D A [(h0, .inr (3, [.ref qa, .ref qb, .ref qc, .ref qe, .int (zI (k : Int))])), zci G qa 10 (zU fa k na), zci G qb 10 (zU fb k nb), zci G qc 10 fc, zci G qe 10 fe] := hD
    refine zv_aload_n S dX3_append_31 rfl (lv_at hl 0 rfl) ?_
    refine zv_get (C := RX3) (T := TX3) (N := 5) (ci := 3) (v := .ref qc) S in_X3_append_X3 hK hP 0 rfl rfl 2 (by decide) wd_X3_append_f18 rfl rfl dX3_append_32 ?_
    refine zv_aload_n S dX3_append_35 rfl (lv_at hl 0 rfl) ?_
    refine zv_get (C := RX3) (T := TX3) (N := 5) (ci := 3) (v := .int (zI (k : Int))) S in_X3_append_X3 hK hP 0 rfl rfl 4 (by decide) wd_X3_append_f24 rfl rfl dX3_append_36 ?_
    refine zv_iload_n S dX3_append_39 rfl (lv_at hl 3 rfl) ?_
    refine zv_iast S hK hP hD hS 3 0 rfl rfl k rfl (by omega) (by decide) dX3_append_40 (fun H locs hP hD hS => ?_)
    have hP : va_P G.1 vwCl [(h0, .inr (3, [.ref qa, .ref qb, .ref qc, .ref qe, .int (zI (k : Int))])), zci G qa 10 (zU fa k na), zci G qb 10 (zU fb k nb), zci G qc 10 (zU fc k nc), zci G qe 10 fe] H := hP
    have hD : va_D A [(h0, .inr (3, [.ref qa, .ref qb, .ref qc, .ref qe, .int (zI (k : Int))])), zci G qa 10 (zU fa k na), zci G qb 10 (zU fb k nb), zci G qc 10 (zU fc k nc), zci G qe 10 fe] := hD
    refine zv_aload_n S dX3_append_41 rfl (lv_at hl 0 rfl) ?_
    refine zv_get (C := RX3) (T := TX3) (N := 5) (ci := 3) (v := .ref qe) S in_X3_append_X3 hK hP 0 rfl rfl 3 (by decide) wd_X3_append_f21 rfl rfl dX3_append_42 ?_
    refine zv_aload_n S dX3_append_45 rfl (lv_at hl 0 rfl) ?_
    refine zv_get (C := RX3) (T := TX3) (N := 5) (ci := 3) (v := .int (zI (k : Int))) S in_X3_append_X3 hK hP 0 rfl rfl 4 (by decide) wd_X3_append_f24 rfl rfl dX3_append_46 ?_
    refine zv_iload S dX3_append_49 (lv_at hl 4 rfl) ?_
    refine zv_iast S hK hP hD hS 4 0 rfl rfl k rfl (by omega) (by decide) dX3_append_51 (fun H locs hP hD hS => ?_)
    have hP : va_P G.1 vwCl [(h0, .inr (3, [.ref qa, .ref qb, .ref qc, .ref qe, .int (zI (k : Int))])), zci G qa 10 (zU fa k na), zci G qb 10 (zU fb k nb), zci G qc 10 (zU fc k nc), zci G qe 10 (zU fe k ne)] H := hP
    have hD : va_D A [(h0, .inr (3, [.ref qa, .ref qb, .ref qc, .ref qe, .int (zI (k : Int))])), zci G qa 10 (zU fa k na), zci G qb 10 (zU fb k nb), zci G qc 10 (zU fc k nc), zci G qe 10 (zU fe k ne)] := hD
    refine zv_aload_n S dX3_append_52 rfl (lv_at hl 0 rfl) ?_
    refine zv_dup S dX3_append_53 rfl ?_
    refine zv_get (C := RX3) (T := TX3) (N := 5) (ci := 3) (v := .int (zI (k : Int))) S in_X3_append_X3 hK hP 0 rfl rfl 4 (by decide) wd_X3_append_f24 rfl rfl dX3_append_54 ?_
    refine zv_iconst S dX3_append_57 ?_
    refine zv_iadd S dX3_append_58 ?_
    refine zv_put (C := RX3) (T := TX3) (N := 5) (ci := 3) (v := .int (zI ((k : Int) + 1))) S in_X3_append_X3 tyX3 tyX3_ok nmX3 hK hP hD hS 0 rfl rfl 4 (by decide) wd_X3_append_f24 rfl rfl rfl rfl (Nat.le_of_ble_eq_true rfl) dX3_append_59 (fun H locs hP hD hS => ?_)
    have hP : va_P G.1 vwCl [(h0, .inr (3, [.ref qa, .ref qb, .ref qc, .ref qe, .int (zI ((k : Int) + 1))])), zci G qa 10 (zU fa k na), zci G qb 10 (zU fb k nb), zci G qc 10 (zU fc k nc), zci G qe 10 (zU fe k ne)] H := hP
    have hD : va_D A [(h0, .inr (3, [.ref qa, .ref qb, .ref qc, .ref qe, .int (zI ((k : Int) + 1))])), zci G qa 10 (zU fa k na), zci G qb 10 (zU fb k nb), zci G qc 10 (zU fc k nc), zci G qe 10 (zU fe k ne)] := hD
    refine zv_aload_n S dX3_append_62 rfl (lv_at hl 0 rfl) ?_
    refine zv_get (C := RX3) (T := TX3) (N := 5) (ci := 3) (v := .int (zI ((k : Int) + 1))) S in_X3_append_X3 hK hP 0 rfl rfl 4 (by decide) wd_X3_append_f24 rfl rfl dX3_append_63 ?_
    refine zv_iconst S dX3_append_66 ?_
    refine zv_isub S dX3_append_67 ?_
    exact hret _ _ _ _ _ () dX3_append_68 (congrArg zI (by omega)) (hP.sub [0, 1, 2, 3, 4] rfl) (hD.sub [0, 1, 2, 3, 4] (by decide) rfl) hS
  · exact absurd c_1 (by omega)

theorem wd_X3_append_full_f24 : Cond.fieldLink RX3 24 "PointMill$Shape" "size" "I" ∈ wsX3_append := by decide +kernel
theorem in_X3_append_full_X3 : ∀ w ∈ wsX30, w ∈ wsX3_append := by decide +kernel
set_option maxHeartbeats 4000000 in
set_option maxRecDepth 100000 in
/-- Shape.append where there is none -/
theorem c_X3_append_full (l : Launch) (G : zG) (sz : Nat) (h0 : Nat) (qa : Nat) (qb : Nat) (qc : Nat) (qe : Nat) (k : Nat) (na : Int) (nb : Int) (nc : Int) (ne : Int) (hk : k = 10) : Met l yX3_append wsX3_append ({ frames := 0, cells := 0, slots := 0, locals := 0 }) (va_Pc [.ref h0, .int (zI na), .int (zI nb), .int (zI nc), .int (zI ne)] (zPre G sz [(h0, .inr (3, [.ref qa, .ref qb, .ref qc, .ref qe, .int (zI (k : Int))]))])) (va_Qi (fun (r : Int32) (u : Unit) => r = zI (-1)) (fun u => zW G (va_A [(h0, .inr (3, [.ref qa, .ref qb, .ref qc, .ref qe, .int (zI (k : Int))]))] sz) ((fun (u : Unit) => [(h0, .inr (3, [.ref qa, .ref qb, .ref qc, .ref qe, .int (zI (k : Int))]))]) u)) (va_A [(h0, .inr (3, [.ref qa, .ref qb, .ref qc, .ref qe, .int (zI (k : Int))]))] sz)) 0 0 (va_A [(h0, .inr (3, [.ref qa, .ref qb, .ref qc, .ref qe, .int (zI (k : Int))]))] sz) := by
  refine zM_i (post := fun (r : Int32) (u : Unit) => r = zI (-1)) (w1 := fun (u : Unit) => [(h0, .inr (3, [.ref qa, .ref qb, .ref qc, .ref qe, .int (zI (k : Int))]))]) (plainFor_of_name (by decide)) rfl (Nat.le_of_ble_eq_true rfl) ?_
  intro p e s m below meth c A Q S hN hK hP hD hS hA hret ls hl
  have hl : lv_has ls 5 [(0, .ref h0), (1, .int (zI na)), (2, .int (zI nb)), (3, .int (zI nc)), (4, .int (zI ne))] := hl
  refine zv_aload_n S dX3_append_0 rfl (lv_at hl 0 rfl) ?_
  refine zv_get (C := RX3) (T := TX3) (N := 5) (ci := 3) (v := .int (zI (k : Int))) S in_X3_append_full_X3 hK hP 0 rfl rfl 4 (by decide) wd_X3_append_full_f24 rfl rfl dX3_append_1 ?_
  refine zv_bipush (v := 10) S dX3_append_4 (by decide) ?_
  refine zv_icmp_lt (tgt := 11) S (by unfold zR; omega) (by unfold zR; omega) dX3_append_6 (by decide) (fun c_1 => ?_) (fun c_1 => ?_)
  · exact absurd c_1 (by omega)
  · refine zv_iconst S dX3_append_9 ?_
    exact hret _ _ _ _ _ () dX3_append_10 rfl (hP.sub [0] rfl) (hD.sub [0] (by decide) rfl) hS

theorem wd_X3_part_f9 : Cond.fieldLink RX3 9 "PointMill$Shape" "a" "[I" ∈ wsX3_part := by decide +kernel
theorem in_X3_part_X3 : ∀ w ∈ wsX30, w ∈ wsX3_part := by decide +kernel
theorem wd_X3_part_f15 : Cond.fieldLink RX3 15 "PointMill$Shape" "b" "[I" ∈ wsX3_part := by decide +kernel
theorem wd_X3_part_f18 : Cond.fieldLink RX3 18 "PointMill$Shape" "c" "[I" ∈ wsX3_part := by decide +kernel
theorem wd_X3_part_f21 : Cond.fieldLink RX3 21 "PointMill$Shape" "e" "[I" ∈ wsX3_part := by decide +kernel
set_option maxHeartbeats 4000000 in
set_option maxRecDepth 100000 in
/-- Shape.part of an inequality that is there -/
theorem c_X3_part (l : Launch) (G : zG) (sz : Nat) (h0 : Nat) (qa : Nat) (qb : Nat) (qc : Nat) (qe : Nat) (fa : Nat → Int) (fb : Nat → Int) (fc : Nat → Int) (fe : Nat → Int) (k : Nat) (j : Nat) (wh : Int) (hk : k ≤ 10) (hj : j < k) (hw : 0 ≤ wh ∧ wh ≤ 3) : Met l yX3_part wsX3_part ({ frames := 1, cells := 0, slots := 0, locals := 21 }) (va_Pc [.ref h0, .int (zI (j : Int)), .int (zI wh)] (zPre G sz [(h0, .inr (3, [.ref qa, .ref qb, .ref qc, .ref qe, .int (zI (k : Int))])), zci G qa 10 fa, zci G qb 10 fb, zci G qc 10 fc, zci G qe 10 fe])) (va_Qi (fun (r : Int32) (u : Unit) => r = zI (if wh = 0 then fa j else if wh = 1 then fb j else if wh = 2 then fc j else fe j)) (fun u => zW G (va_A [(h0, .inr (3, [.ref qa, .ref qb, .ref qc, .ref qe, .int (zI (k : Int))])), zci G qa 10 fa, zci G qb 10 fb, zci G qc 10 fc, zci G qe 10 fe] sz) ((fun (u : Unit) => [(h0, .inr (3, [.ref qa, .ref qb, .ref qc, .ref qe, .int (zI (k : Int))])), zci G qa 10 fa, zci G qb 10 fb, zci G qc 10 fc, zci G qe 10 fe]) u)) (va_A [(h0, .inr (3, [.ref qa, .ref qb, .ref qc, .ref qe, .int (zI (k : Int))])), zci G qa 10 fa, zci G qb 10 fb, zci G qc 10 fc, zci G qe 10 fe] sz)) 0 0 (va_A [(h0, .inr (3, [.ref qa, .ref qb, .ref qc, .ref qe, .int (zI (k : Int))])), zci G qa 10 fa, zci G qb 10 fb, zci G qc 10 fc, zci G qe 10 fe] sz) := by
  refine zM_i (post := fun (r : Int32) (u : Unit) => r = zI (if wh = 0 then fa j else if wh = 1 then fb j else if wh = 2 then fc j else fe j)) (w1 := fun (u : Unit) => [(h0, .inr (3, [.ref qa, .ref qb, .ref qc, .ref qe, .int (zI (k : Int))])), zci G qa 10 fa, zci G qb 10 fb, zci G qc 10 fc, zci G qe 10 fe]) (plainFor_of_name (by decide)) rfl (Nat.le_of_ble_eq_true rfl) ?_
  intro p e s m below meth c A Q S hN hK hP hD hS hA hret ls hl
  have hl : lv_has ls 3 [(0, .ref h0), (1, .int (zI (j : Int))), (2, .int (zI wh))] := hl
  refine zv_aload_n S dX3_part_0 rfl (lv_at hl 0 rfl) ?_
  refine zv_iload_n S dX3_part_1 rfl (lv_at hl 1 rfl) ?_
  refine zc_Vi (As := [.int (zI (j : Int))]) (rest := []) (wr := [zci G qa 10 fa, zci G qb 10 fb, zci G qc 10 fc, zci G qe 10 fe]) (n := 1) S hN hK hP hD hS hA hl (c_X3_has l G s.heap.size h0 qa qb qc qe k (j : Int) (by omega) (by omega)) gX3_part_X3_has rfl ⟨rfl, rfl⟩ (by decide +kernel) rfl ⟨Nat.le_of_ble_eq_true rfl, Nat.le_of_ble_eq_true rfl, Nat.le_of_ble_eq_true rfl, Nat.le_of_ble_eq_true rfl⟩ [0] [1, 2, 3, 4] rfl rfl (by decide) (by decide) (by decide) (ci := 3) rfl rfl rfl (Nat.le_of_ble_eq_true rfl) dX3_part_2 rfl (fun r_ u_1 H1 locs1 hp_2 hP1 hD1 hS1 hz1 => ?_)
  try dsimp only at hp_2 hP1 hD1
  subst hp_2
  generalize H1 = H at hP1 hD1 hS1 hz1 ⊢
  generalize locs1 = locs at hS1 ⊢
  have hS := hS1
  have hP : va_P G.1 vwCl [zci G qa 10 fa, zci G qb 10 fb, zci G qc 10 fc, zci G qe 10 fe, (h0, .inr (3, [.ref qa, .ref qb, .ref qc, .ref qe, .int (zI (k : Int))]))] H := hP1
  have hD : va_D A [zci G qa 10 fa, zci G qb 10 fb, zci G qc 10 fc, zci G qe 10 fe, (h0, .inr (3, [.ref qa, .ref qb, .ref qc, .ref qe, .int (zI (k : Int))]))] := hD1
  refine zv_ifb_ne (tgt := 10) S dX3_part_5 (by decide) (fun c_3 => ?_) (fun c_3 => ?_)
  · refine zv_iload_n S dX3_part_10 rfl (lv_at hl 2 rfl) ?_
    rcases (show wh = 0 ∨ wh = 1 ∨ wh = 2 ∨ (wh < 0 ∨ 2 < wh) by omega) with hz_4 | hz_4 | hz_4 | hz_4
    · refine zv_tableIn (tgt := 36) S (by unfold zR; omega) dX3_part_11 0 (by omega) (by omega) rfl (by decide) ?_
      refine zv_aload_n S dX3_part_36 rfl (lv_at hl 0 rfl) ?_
      refine zv_get (C := RX3) (T := TX3) (N := 5) (ci := 3) (v := .ref qa) S in_X3_part_X3 hK hP 4 rfl rfl 0 (by decide) wd_X3_part_f9 rfl rfl dX3_part_37 ?_
      refine zv_iload_n S dX3_part_40 rfl (lv_at hl 1 rfl) ?_
      refine zv_iald S hK hP 0 0 rfl rfl j rfl (by omega) (by decide) dX3_part_41 ?_
      exact hret _ _ _ _ _ () dX3_part_42 (congrArg zI (by simp [hz_4])) (hP.sub [4, 0, 1, 2, 3] rfl) (hD.sub [4, 0, 1, 2, 3] (by decide) rfl) hS
    · refine zv_tableIn (tgt := 43) S (by unfold zR; omega) dX3_part_11 1 (by omega) (by omega) rfl (by decide) ?_
      refine zv_aload_n S dX3_part_43 rfl (lv_at hl 0 rfl) ?_
      refine zv_get (C := RX3) (T := TX3) (N := 5) (ci := 3) (v := .ref qb) S in_X3_part_X3 hK hP 4 rfl rfl 1 (by decide) wd_X3_part_f15 rfl rfl dX3_part_44 ?_
      refine zv_iload_n S dX3_part_47 rfl (lv_at hl 1 rfl) ?_
      refine zv_iald S hK hP 1 0 rfl rfl j rfl (by omega) (by decide) dX3_part_48 ?_
      exact hret _ _ _ _ _ () dX3_part_49 (congrArg zI (by simp [hz_4])) (hP.sub [4, 0, 1, 2, 3] rfl) (hD.sub [4, 0, 1, 2, 3] (by decide) rfl) hS
    · refine zv_tableIn (tgt := 50) S (by unfold zR; omega) dX3_part_11 2 (by omega) (by omega) rfl (by decide) ?_
      refine zv_aload_n S dX3_part_50 rfl (lv_at hl 0 rfl) ?_
      refine zv_get (C := RX3) (T := TX3) (N := 5) (ci := 3) (v := .ref qc) S in_X3_part_X3 hK hP 4 rfl rfl 2 (by decide) wd_X3_part_f18 rfl rfl dX3_part_51 ?_
      refine zv_iload_n S dX3_part_54 rfl (lv_at hl 1 rfl) ?_
      refine zv_iald S hK hP 2 0 rfl rfl j rfl (by omega) (by decide) dX3_part_55 ?_
      exact hret _ _ _ _ _ () dX3_part_56 (congrArg zI (by simp [hz_4])) (hP.sub [4, 0, 1, 2, 3] rfl) (hD.sub [4, 0, 1, 2, 3] (by decide) rfl) hS
    · refine zv_tableOut (tgt := 57) S (by unfold zR; omega) dX3_part_11 (by omega) (by decide) ?_
      refine zv_aload_n S dX3_part_57 rfl (lv_at hl 0 rfl) ?_
      refine zv_get (C := RX3) (T := TX3) (N := 5) (ci := 3) (v := .ref qe) S in_X3_part_X3 hK hP 4 rfl rfl 3 (by decide) wd_X3_part_f21 rfl rfl dX3_part_58 ?_
      refine zv_iload_n S dX3_part_61 rfl (lv_at hl 1 rfl) ?_
      refine zv_iald S hK hP 3 0 rfl rfl j rfl (by omega) (by decide) dX3_part_62 ?_
      exact hret _ _ _ _ _ () dX3_part_63 (congrArg zI (by simp [show wh = 3 by omega])) (hP.sub [4, 0, 1, 2, 3] rfl) (hD.sub [4, 0, 1, 2, 3] (by decide) rfl) hS
  · exact absurd ⟨by omega, by omega⟩ c_3

theorem wd_X3_isEndless_f24 : Cond.fieldLink RX3 24 "PointMill$Shape" "size" "I" ∈ wsX3_isEndless := by decide +kernel
theorem in_X3_isEndless_X3 : ∀ w ∈ wsX30, w ∈ wsX3_isEndless := by decide +kernel
theorem wd_X3_isEndless_f9 : Cond.fieldLink RX3 9 "PointMill$Shape" "a" "[I" ∈ wsX3_isEndless := by decide +kernel
theorem wd_X3_isEndless_f15 : Cond.fieldLink RX3 15 "PointMill$Shape" "b" "[I" ∈ wsX3_isEndless := by decide +kernel
set_option maxHeartbeats 4000000 in
set_option maxRecDepth 100000 in
/-- Shape.isEndless -/
theorem c_X3_isEndless (l : Launch) (G : zG) (sz : Nat) (h0 : Nat) (qa : Nat) (qb : Nat) (qc : Nat) (qe : Nat) (fa : Nat → Int) (fb : Nat → Int) (k : Nat) (x : Int) (y : Int) (hk : k ≤ 10) (ha : ∀ j, j < k → -60 ≤ fa j ∧ fa j ≤ 60) (hb : ∀ j, j < k → -60 ≤ fb j ∧ fb j ≤ 60) (hx : -60 ≤ x ∧ x ≤ 60) (hy : -60 ≤ y ∧ y ≤ 60) : Met l yX3_isEndless wsX3_isEndless ({ frames := 0, cells := 0, slots := 0, locals := 0 }) (va_Pc [.ref h0, .int (zI x), .int (zI y)] (zPre G sz [(h0, .inr (3, [.ref qa, .ref qb, .ref qc, .ref qe, .int (zI (k : Int))])), zci G qa 10 fa, zci G qb 10 fb])) (va_Qi (fun (r : Int32) (u : Unit) => r = zI (zb (zst fa fb k x y))) (fun u => zW G (va_A [(h0, .inr (3, [.ref qa, .ref qb, .ref qc, .ref qe, .int (zI (k : Int))])), zci G qa 10 fa, zci G qb 10 fb] sz) ((fun (u : Unit) => [(h0, .inr (3, [.ref qa, .ref qb, .ref qc, .ref qe, .int (zI (k : Int))])), zci G qa 10 fa, zci G qb 10 fb]) u)) (va_A [(h0, .inr (3, [.ref qa, .ref qb, .ref qc, .ref qe, .int (zI (k : Int))])), zci G qa 10 fa, zci G qb 10 fb] sz)) 0 0 (va_A [(h0, .inr (3, [.ref qa, .ref qb, .ref qc, .ref qe, .int (zI (k : Int))])), zci G qa 10 fa, zci G qb 10 fb] sz) := by
  refine zM_z (post := fun (r : Int32) (u : Unit) => r = zI (zb (zst fa fb k x y))) (w1 := fun (u : Unit) => [(h0, .inr (3, [.ref qa, .ref qb, .ref qc, .ref qe, .int (zI (k : Int))])), zci G qa 10 fa, zci G qb 10 fb]) (plainFor_of_name (by decide)) rfl (Nat.le_of_ble_eq_true rfl) ?_
  intro p e s m below meth c A Q S hN hK hP hD hS hA hret ls hl
  have hl : lv_has ls 4 [(0, .ref h0), (1, .int (zI x)), (2, .int (zI y))] := hl
  refine zv_iconst S dX3_isEndless_0 ?_
  refine zv_istore_n (lv' := [(3, .int (zI 0)), (0, .ref h0), (1, .int (zI x)), (2, .int (zI y))]) S dX3_isEndless_1 rfl hl (by decide) rfl (fun ls hl => ?_)
  have LP2 : ∀ (nf : Nat) (i : Nat) (x0 : Int) (hx0 : x0 = (i : Int)) (hi : i ≤ k) (hv : zst fa fb i x y), (k - i) < nf → ∀ (H : Heap) (locs : List Loc), va_P G.1 vwCl [(h0, .inr (3, [.ref qa, .ref qb, .ref qc, .ref qe, .int (zI (k : Int))])), zci G qa 10 fa, zci G qb 10 fb] H → va_D A [(h0, .inr (3, [.ref qa, .ref qb, .ref qc, .ref qe, .int (zI (k : Int))])), zci G qa 10 fa, zci G qb 10 fb] → va_S A s.heap H locs → ∀ ls : Array Slot, lv_has ls 4 [(3, .int (zI x0)), (0, .ref h0), (1, .int (zI x)), (2, .int (zI y))] → W p l e ({ frames := 0, cells := 0, slots := 0, locals := 0 }) s m ([.ref h0, .int (zI x), .int (zI y)]).toArray below meth c H locs 0 0 Q (F0 m 2 ls []) := by
    intro nf
    induction nf with
    | zero =>
      intro i x0 hx0 hi hv hf
      exact absurd hf (Nat.not_lt_zero _)
    | succ nf ih2 =>
      intro i x0 hx0 hi hv hf H locs hP hD hS ls hl
      refine zv_iload_n S dX3_isEndless_2 rfl (lv_at hl 0 rfl) ?_
      refine zv_aload_n S dX3_isEndless_3 rfl (lv_at hl 1 rfl) ?_
      refine zv_get (C := RX3) (T := TX3) (N := 5) (ci := 3) (v := .int (zI (k : Int))) S in_X3_isEndless_X3 hK hP 0 rfl rfl 4 (by decide) wd_X3_isEndless_f24 rfl rfl dX3_isEndless_4 ?_
      refine zv_icmp_ge (tgt := 38) S (by unfold zR; omega) (by unfold zR; omega) dX3_isEndless_7 (by decide) (fun c_1 => ?_) (fun c_1 => ?_)
      · refine zv_iconst S dX3_isEndless_38 ?_
        exact hret _ _ _ _ _ () dX3_isEndless_39 (by first | exact Or.inl rfl | exact Or.inr rfl) (congrArg zI (zb_t (fun j hj => hv j (by omega))).symm) (hP.sub [0, 1, 2] rfl) (hD.sub [0, 1, 2] (by decide) rfl) hS
      · refine zv_aload_n S dX3_isEndless_10 rfl (lv_at hl 1 rfl) ?_
        refine zv_get (C := RX3) (T := TX3) (N := 5) (ci := 3) (v := .ref qa) S in_X3_isEndless_X3 hK hP 0 rfl rfl 0 (by decide) wd_X3_isEndless_f9 rfl rfl dX3_isEndless_11 ?_
        refine zv_iload_n S dX3_isEndless_14 rfl (lv_at hl 0 rfl) ?_
        refine zv_iald S hK hP 1 0 rfl rfl i (by omega) (by omega) (by decide) dX3_isEndless_15 ?_
        refine zv_iload_n S dX3_isEndless_16 rfl (lv_at hl 2 rfl) ?_
        refine zv_imul S dX3_isEndless_17 ?_
        refine zv_aload_n S dX3_isEndless_18 rfl (lv_at hl 1 rfl) ?_
        refine zv_get (C := RX3) (T := TX3) (N := 5) (ci := 3) (v := .ref qb) S in_X3_isEndless_X3 hK hP 0 rfl rfl 1 (by decide) wd_X3_isEndless_f15 rfl rfl dX3_isEndless_19 ?_
        refine zv_iload_n S dX3_isEndless_22 rfl (lv_at hl 0 rfl) ?_
        refine zv_iald S hK hP 2 0 rfl rfl i (by omega) (by omega) (by decide) dX3_isEndless_23 ?_
        refine zv_iload_n S dX3_isEndless_24 rfl (lv_at hl 3 rfl) ?_
        refine zv_imul S dX3_isEndless_25 ?_
        refine zv_iadd S dX3_isEndless_26 ?_
        have h1 := zmulb (ha i (by omega)).1 (ha i (by omega)).2 hx.1 hx.2
        have h2 := zmulb (hb i (by omega)).1 (hb i (by omega)).2 hy.1 hy.2
        refine zv_if_le (tgt := 32) S (by unfold zR; omega) dX3_isEndless_27 (by decide) (fun c_2 => ?_) (fun c_2 => ?_)
        · refine zv_iinc (k0 := 0) (lv' := [(3, .int (zI (x0 + 1))), (0, .ref h0), (1, .int (zI x)), (2, .int (zI y))]) S dX3_isEndless_32 hl rfl (by decide) rfl (fun ls hl => ?_)
          refine zv_goto (tgt := 2) S dX3_isEndless_35 (by decide) ?_
          exact ih2 (i + 1) (x0 + 1) (by omega) (by omega) (zst_s hv (by omega)) (by omega) _ _ hP hD hS _ (lv_sub hl [0, 1, 2, 3] rfl)
        · refine zv_iconst S dX3_isEndless_30 ?_
          exact hret _ _ _ _ _ () dX3_isEndless_31 (by first | exact Or.inl rfl | exact Or.inr rfl) (congrArg zI (zb_f (fun h => absurd (h i (by omega)) (by omega))).symm) (hP.sub [0, 1, 2] rfl) (hD.sub [0, 1, 2] (by decide) rfl) hS
  exact LP2 _ 0 0 rfl (Nat.zero_le _) zst_0 (Nat.lt_succ_self _) _ _ hP hD hS _ (lv_sub hl [0, 1, 2, 3] rfl)
