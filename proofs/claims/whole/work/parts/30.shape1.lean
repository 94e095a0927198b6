set_option maxHeartbeats 4000000 in
set_option maxRecDepth 100000 in
/-- isFactor -/
theorem c_X3_isFactor (l : Launch) (G : zG) (sz : Nat) (v : Int) (hv : -2147483648 ≤ v ∧ v < 2147483648) : Met l yX3_isFactor wsX3_isFactor ({ frames := 0, cells := 0, slots := 0, locals := 0 }) (va_Pc [.int (zI v)] (zPre G sz [])) (va_Qi (fun (r : Int32) (u : Unit) => r = zI (zb (-60 ≤ v ∧ v ≤ 60))) (fun u => zW G (va_A [] sz) ((fun (u : Unit) => []) u)) (va_A [] sz)) 0 0 (va_A [] sz) := by
  refine zM_z (post := fun (r : Int32) (u : Unit) => r = zI (zb (-60 ≤ v ∧ v ≤ 60))) (w1 := fun (u : Unit) => []) (by decide) rfl (Nat.le_of_ble_eq_true rfl) ?_
  intro p e s m below meth c A Q S hN hK hP hD hS hA hret ls hl
  have hl : lv_has ls 1 [(0, .int (zI v))] := hl
  refine zv_iload_n S dX3_isFactor_0 rfl (lv_at hl 0 rfl) ?_
  refine zv_bipush (v := (-60)) S dX3_isFactor_1 (by decide) ?_
  refine zv_icmp_lt (tgt := 16) S (by unfold zR; omega) (by unfold zR; omega) dX3_isFactor_3 (by decide) (fun c_1 => ?_) (fun c_1 => ?_)
  · refine zv_iconst S dX3_isFactor_16 ?_
    exact hret _ _ _ _ _ () dX3_isFactor_17 (by first | exact Or.inl rfl | exact Or.inr rfl) (congrArg zI (zb_f (by omega)).symm) (hP.sub [] rfl) (hD.sub [] (by decide) rfl) hS
  · refine zv_iload_n S dX3_isFactor_6 rfl (lv_at hl 0 rfl) ?_
    refine zv_bipush (v := 60) S dX3_isFactor_7 (by decide) ?_
    refine zv_icmp_gt (tgt := 16) S (by unfold zR; omega) (by unfold zR; omega) dX3_isFactor_9 (by decide) (fun c_2 => ?_) (fun c_2 => ?_)
    · refine zv_iconst S dX3_isFactor_16 ?_
      exact hret _ _ _ _ _ () dX3_isFactor_17 (by first | exact Or.inl rfl | exact Or.inr rfl) (congrArg zI (zb_f (by omega)).symm) (hP.sub [] rfl) (hD.sub [] (by decide) rfl) hS
    · refine zv_iconst S dX3_isFactor_12 ?_
      refine zv_goto (tgt := 17) S dX3_isFactor_13 (by decide) ?_
      exact hret _ _ _ _ _ () dX3_isFactor_17 (by first | exact Or.inl rfl | exact Or.inr rfl) (congrArg zI (zb_t (by omega)).symm) (hP.sub [] rfl) (hD.sub [] (by decide) rfl) hS

theorem wd_X3_has_f24 : Cond.fieldLink RX3 24 "PointMill$Shape" "size" "I" ∈ wsX3_has := by decide +kernel
theorem in_X3_has_X3 : ∀ w ∈ wsX30, w ∈ wsX3_has := by decide +kernel
set_option maxHeartbeats 4000000 in
set_option maxRecDepth 100000 in
/-- Shape.has -/
theorem c_X3_has (l : Launch) (G : zG) (sz : Nat) (h0 : Nat) (qa : Nat) (qb : Nat) (qc : Nat) (qe : Nat) (n : Int) (i : Int) (hn : 0 ≤ n ∧ n ≤ 10) (hi : -2147483648 ≤ i ∧ i < 2147483648) : Met l yX3_has wsX3_has ({ frames := 0, cells := 0, slots := 0, locals := 0 }) (va_Pc [.ref h0, .int (zI i)] (zPre G sz [(h0, .inr (3, [.ref qa, .ref qb, .ref qc, .ref qe, .int (zI n)]))])) (va_Qi (fun (r : Int32) (u : Unit) => r = zI (zb (0 ≤ i ∧ i < n))) (fun u => zW G (va_A [(h0, .inr (3, [.ref qa, .ref qb, .ref qc, .ref qe, .int (zI n)]))] sz) ((fun (u : Unit) => [(h0, .inr (3, [.ref qa, .ref qb, .ref qc, .ref qe, .int (zI n)]))]) u)) (va_A [(h0, .inr (3, [.ref qa, .ref qb, .ref qc, .ref qe, .int (zI n)]))] sz)) 0 0 (va_A [(h0, .inr (3, [.ref qa, .ref qb, .ref qc, .ref qe, .int (zI n)]))] sz) := by
  refine zM_z (post := fun (r : Int32) (u : Unit) => r = zI (zb (0 ≤ i ∧ i < n))) (w1 := fun (u : Unit) => [(h0, .inr (3, [.ref qa, .ref qb, .ref qc, .ref qe, .int (zI n)]))]) (by decide) rfl (Nat.le_of_ble_eq_true rfl) ?_
  intro p e s m below meth c A Q S hN hK hP hD hS hA hret ls hl
  have hl : lv_has ls 2 [(0, .ref h0), (1, .int (zI i))] := hl
  refine zv_iload_n S dX3_has_0 rfl (lv_at hl 1 rfl) ?_
  refine zv_if_lt (tgt := 16) S (by unfold zR; omega) dX3_has_1 (by decide) (fun c_1 => ?_) (fun c_1 => ?_)
  · refine zv_iconst S dX3_has_16 ?_
    exact hret _ _ _ _ _ () dX3_has_17 (by first | exact Or.inl rfl | exact Or.inr rfl) (congrArg zI (zb_f (by omega)).symm) (hP.sub [0] rfl) (hD.sub [0] (by decide) rfl) hS
  · refine zv_iload_n S dX3_has_4 rfl (lv_at hl 1 rfl) ?_
    refine zv_aload_n S dX3_has_5 rfl (lv_at hl 0 rfl) ?_
    refine zv_get (C := RX3) (T := TX3) (N := 5) (ci := 3) (v := .int (zI n)) S in_X3_has_X3 hK hP 0 rfl rfl 4 (by decide) wd_X3_has_f24 rfl rfl dX3_has_6 ?_
    refine zv_icmp_ge (tgt := 16) S (by unfold zR; omega) (by unfold zR; omega) dX3_has_9 (by decide) (fun c_2 => ?_) (fun c_2 => ?_)
    · refine zv_iconst S dX3_has_16 ?_
      exact hret _ _ _ _ _ () dX3_has_17 (by first | exact Or.inl rfl | exact Or.inr rfl) (congrArg zI (zb_f (by omega)).symm) (hP.sub [0] rfl) (hD.sub [0] (by decide) rfl) hS
    · refine zv_iconst S dX3_has_12 ?_
      refine zv_goto (tgt := 17) S dX3_has_13 (by decide) ?_
      exact hret _ _ _ _ _ () dX3_has_17 (by first | exact Or.inl rfl | exact Or.inr rfl) (congrArg zI (zb_t (by omega)).symm) (hP.sub [0] rfl) (hD.sub [0] (by decide) rfl) hS
