theorem wd_X0_has_f19 : Cond.fieldLink RX0 19 "PointMill$Coins" "values" "J" ∈ wsX0_has := by decide +kernel
theorem in_X0_has_X0 : ∀ w ∈ wsX00, w ∈ wsX0_has := by decide +kernel
set_option maxHeartbeats 4000000 in
set_option maxRecDepth 100000 in
/-- Coins.has -/
theorem c_X0_has (l : Launch) (G : zG) (sz : Nat) (h0 : Nat) (qw : Nat) (ql : Nat) (n : Nat) (wg : Int) (v : Int) (hn : n < 2 ^ 60) (hv : -2147483648 ≤ v ∧ v < 2147483648) : Met l yX0_has wsX0_has ({ frames := 0, cells := 0, slots := 0, locals := 0 }) (va_Pc [.ref h0, .int (zI v)] (zPre G sz [(h0, .inr (0, [.ref qw, .ref ql, .long (zL (n : Int)), .int (zI wg)]))])) (va_Qi (fun (r : Int32) (u : Unit) => r = zI (zb (zk n v))) (fun u => zW G (va_A [(h0, .inr (0, [.ref qw, .ref ql, .long (zL (n : Int)), .int (zI wg)]))] sz) ((fun (u : Unit) => [(h0, .inr (0, [.ref qw, .ref ql, .long (zL (n : Int)), .int (zI wg)]))]) u)) (va_A [(h0, .inr (0, [.ref qw, .ref ql, .long (zL (n : Int)), .int (zI wg)]))] sz)) 0 0 (va_A [(h0, .inr (0, [.ref qw, .ref ql, .long (zL (n : Int)), .int (zI wg)]))] sz) := by
  refine zM_z (post := fun (r : Int32) (u : Unit) => r = zI (zb (zk n v))) (w1 := fun (u : Unit) => [(h0, .inr (0, [.ref qw, .ref ql, .long (zL (n : Int)), .int (zI wg)]))]) (plainFor_of_name (by decide)) rfl (Nat.le_of_ble_eq_true rfl) ?_
  intro p e s m below meth c A Q S hN hK hP hD hS hA hret ls hl
  have hl : lv_has ls 2 [(0, .ref h0), (1, .int (zI v))] := hl
  refine zv_iload_n S dX0_has_0 rfl (lv_at hl 1 rfl) ?_
  refine zv_iconst S dX0_has_1 ?_
  refine zv_icmp_lt (tgt := 30) S (by unfold zR; omega) (by unfold zR; omega) dX0_has_2 (by decide) (fun c_1 => ?_) (fun c_1 => ?_)
  · refine zv_iconst S dX0_has_30 ?_
    exact hret _ _ _ _ _ () dX0_has_31 (by first | exact Or.inl rfl | exact Or.inr rfl) (congrArg zI (zb_f (fun z => by have := z.1; have := z.2.1; omega)).symm) (hP.sub [0] rfl) (hD.sub [0] (by decide) rfl) hS
  · refine zv_iload_n S dX0_has_5 rfl (lv_at hl 1 rfl) ?_
    refine zv_bipush (v := 60) S dX0_has_6 (by decide) ?_
    refine zv_icmp_gt (tgt := 30) S (by unfold zR; omega) (by unfold zR; omega) dX0_has_8 (by decide) (fun c_2 => ?_) (fun c_2 => ?_)
    · refine zv_iconst S dX0_has_30 ?_
      exact hret _ _ _ _ _ () dX0_has_31 (by first | exact Or.inl rfl | exact Or.inr rfl) (congrArg zI (zb_f (fun z => by have := z.1; have := z.2.1; omega)).symm) (hP.sub [0] rfl) (hD.sub [0] (by decide) rfl) hS
    · refine zv_aload_n S dX0_has_11 rfl (lv_at hl 0 rfl) ?_
      refine zv_get (C := RX0) (T := TX0) (N := 4) (ci := 0) (v := .long (zL (n : Int))) S in_X0_has_X0 hK hP 0 rfl rfl 2 (by decide) wd_X0_has_f19 rfl rfl dX0_has_12 ?_
      refine zv_iload_n S dX0_has_15 rfl (lv_at hl 1 rfl) ?_
      refine zv_iconst S dX0_has_16 ?_
      refine zv_isub S dX0_has_17 ?_
      refine zv_lshr (a := n) S ((v - 1).toNat) (by omega) (by omega) (by omega) dX0_has_18 ?_
      refine zv_lconst (v := 1) S dX0_has_19 (by decide) ?_
      refine zv_land (a := (n / 2 ^ ((v - 1).toNat))) (b := 1) S dX0_has_20 ?_
      refine zv_lconst (v := 1) S dX0_has_21 (by decide) ?_
      refine zv_lif_ne (tgt := 30) S (by unfold zS; have := @Nat.and_le_right (n / 2 ^ (v - 1).toNat) 1; omega) (by unfold zS; have := @Nat.and_le_right (n / 2 ^ (v - 1).toNat) 1; omega) dX0_has_22 dX0_has_23 (by decide) (fun c_3 => ?_) (fun c_3 => ?_)
      · refine zv_iconst S dX0_has_30 ?_
        exact hret _ _ _ _ _ () dX0_has_31 (by first | exact Or.inl rfl | exact Or.inr rfl) (congrArg zI (zb_f (fun z => c_3 ((zk_bit (by omega) (by omega)).mpr z))).symm) (hP.sub [0] rfl) (hD.sub [0] (by decide) rfl) hS
      · refine zv_iconst S dX0_has_26 ?_
        refine zv_goto (tgt := 31) S dX0_has_27 (by decide) ?_
        exact hret _ _ _ _ _ () dX0_has_31 (by first | exact Or.inl rfl | exact Or.inr rfl) (congrArg zI (zb_t ((zk_bit (by omega) (by omega)).mp c_3)).symm) (hP.sub [0] rfl) (hD.sub [0] (by decide) rfl) hS

theorem wd_X0_change_f19 : Cond.fieldLink RX0 19 "PointMill$Coins" "values" "J" ∈ wsX0_change := by decide +kernel
theorem in_X0_change_X0 : ∀ w ∈ wsX00, w ∈ wsX0_change := by decide +kernel
set_option maxHeartbeats 4000000 in
set_option maxRecDepth 100000 in
/-- Coins.change -/
theorem c_X0_change (l : Launch) (G : zG) (sz : Nat) (h0 : Nat) (qw : Nat) (ql : Nat) (n : Nat) (wg : Int) (v : Int) (hn : n < 2 ^ 60) (hv : 1 ≤ v ∧ v ≤ 60) : Met l yX0_change wsX0_change ({ frames := 0, cells := 0, slots := 0, locals := 0 }) (va_Pc [.ref h0, .int (zI v)] (zPre G sz [(h0, .inr (0, [.ref qw, .ref ql, .long (zL (n : Int)), .int (zI wg)]))])) (va_Qv (fun (u : Unit) => True) (fun u => zW G (va_A [(h0, .inr (0, [.ref qw, .ref ql, .long (zL (n : Int)), .int (zI wg)]))] sz) ((fun (u : Unit) => [(h0, .inr (0, [.ref qw, .ref ql, .long (zL ((n ^^^ 2 ^ (v - 1).toNat : Nat) : Int)), .int (zI wg)]))]) u)) (va_A [(h0, .inr (0, [.ref qw, .ref ql, .long (zL (n : Int)), .int (zI wg)]))] sz)) 0 0 (va_A [(h0, .inr (0, [.ref qw, .ref ql, .long (zL (n : Int)), .int (zI wg)]))] sz) := by
  refine zM_v (post := fun (u : Unit) => True) (w1 := fun (u : Unit) => [(h0, .inr (0, [.ref qw, .ref ql, .long (zL ((n ^^^ 2 ^ (v - 1).toNat : Nat) : Int)), .int (zI wg)]))]) (plainFor_of_name (by decide)) rfl (Nat.le_of_ble_eq_true rfl) ?_
  intro p e s m below meth c A Q S hN hK hP hD hS hA hret ls hl
  have hl : lv_has ls 2 [(0, .ref h0), (1, .int (zI v))] := hl
  refine zv_aload_n S dX0_change_0 rfl (lv_at hl 0 rfl) ?_
  refine zv_dup S dX0_change_1 rfl ?_
  refine zv_get (C := RX0) (T := TX0) (N := 4) (ci := 0) (v := .long (zL (n : Int))) S in_X0_change_X0 hK hP 0 rfl rfl 2 (by decide) wd_X0_change_f19 rfl rfl dX0_change_2 ?_
  refine zv_lconst (v := 1) S dX0_change_5 (by decide) ?_
  refine zv_iload_n S dX0_change_6 rfl (lv_at hl 1 rfl) ?_
  refine zv_iconst S dX0_change_7 ?_
  refine zv_isub S dX0_change_8 ?_
  refine zv_lshl (a := 1) S ((v - 1).toNat) (by omega) (by omega) dX0_change_9 ?_
  refine zv_lxor (a := n) (b := (1 * 2 ^ ((v - 1).toNat))) S dX0_change_10 ?_
  refine zv_put (C := RX0) (T := TX0) (N := 4) (ci := 0) (v := .long (zL ((n ^^^ (1 * 2 ^ ((v - 1).toNat)) : Nat) : Int))) S in_X0_change_X0 tyX0 tyX0_ok nmX0 hK hP hD hS 0 rfl rfl 2 (by decide) wd_X0_change_f19 rfl rfl rfl rfl (Nat.le_of_ble_eq_true rfl) dX0_change_11 (fun H locs hP hD hS => ?_)
  have hP : va_P G.1 vwCl [(h0, .inr (0, [.ref qw, .ref ql, .long (zL ((n ^^^ (1 * 2 ^ ((v - 1).toNat)) : Nat) : Int)), .int (zI wg)]))] H := hP
  have hD : va_D A [(h0, .inr (0, [.ref qw, .ref ql, .long (zL ((n ^^^ (1 * 2 ^ ((v - 1).toNat)) : Nat) : Int)), .int (zI wg)]))] := hD
  rw [Nat.one_mul] at hP hD
  exact hret _ _ _ _ () dX0_change_14 trivial (hP.sub [0] rfl) (hD.sub [0] (by decide) rfl) hS
