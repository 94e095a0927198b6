theorem hm_X4_requireRange_zIA : ∀ w ∈ Cond.classLink RX4 56 zIA :: Cond.initialized zIA :: (vx_atS RX4 60 zIA zNN).filter goodWord, w ∈ wsX4_requireRange := List.forall_mem_cons.mpr ⟨by decide +kernel, List.forall_mem_cons.mpr ⟨by decide +kernel, fun w h => List.mem_cons_of_mem _ (List.mem_append_right _ h)⟩⟩
set_option maxHeartbeats 4000000 in
set_option maxRecDepth 100000 in
/-- requireRange -/
theorem c_X4_requireRange (l : Launch) (hl0 : l.stackTraces = false) (G : zG) (sz : Nat) (v : Int) (lo : Int) (hi : Int) (hv : -2147483648 ≤ v ∧ v < 2147483648) (hlo : -2147483648 ≤ lo ∧ lo < 2147483648) (hhi : -2147483648 ≤ hi ∧ hi < 2147483648) : vx_Met l yX4_requireRange wsX4_requireRange ({ frames := 6, cells := 1, slots := 6, locals := 90 }) (va_Pc [.int (zI v), .int (zI lo), .int (zI hi)] (zPx G sz [])) (va_Qv (fun (u : Unit) => (lo ≤ v ∧ v ≤ hi)) (fun u => zW G (va_A [] sz) ((fun (u : Unit) => []) u)) (va_A [] sz)) (vx_X (fun _ => True) (fun (E : String) (u : Unit) (t : State) => (fun (E : String) (u : Unit) => E = zIA ∧ (¬ (lo ≤ v ∧ v ≤ hi))) E u ∧ zW G (va_A [] sz) ((fun (u : Unit) => []) u) t) (va_A [] sz)) 1 6 (va_A [] sz) := by
  refine zMx_v hl0 (post := fun (u : Unit) => (lo ≤ v ∧ v ≤ hi)) (w1 := fun (u : Unit) => []) (cx := fun (E : String) (u : Unit) => E = zIA ∧ (¬ (lo ≤ v ∧ v ≤ hi))) (w1x := fun (u : Unit) => []) (by decide) rfl rfl (Nat.le_of_ble_eq_true rfl) ⟨Nat.le_of_ble_eq_true rfl, Nat.le_of_ble_eq_true rfl, rfl, rfl⟩ ?_
  intro p e s m below meth c A Q S hN hK hP hD hS hA hE0 hret hpass hthr ls hl
  have hl : lv_has ls 3 [(0, .int (zI v)), (1, .int (zI lo)), (2, .int (zI hi))] := hl
  refine zv_iload_n S dX4_requireRange_0 rfl (lv_at hl 0 rfl) ?_
  refine zv_iload_n S dX4_requireRange_1 rfl (lv_at hl 1 rfl) ?_
  refine zv_icmp_lt (tgt := 10) S (by unfold zR; omega) (by unfold zR; omega) dX4_requireRange_2 (by decide) (fun c_1 => ?_) (fun c_1 => ?_)
  · exact hthr _ _ _ _ _ _ _ zIA "an argument is out of its range" 56 201 60 () (Or.inr (Or.inl ⟨rfl, rfl, rfl⟩)) (List.mem_of_getElem? (i := 10) rfl) hm_X4_requireRange_zIA dX4_requireRange_10 dX4_requireRange_13 dX4_requireRange_14 dX4_requireRange_16 dX4_requireRange_19 (by decide) ⟨rfl, (by omega)⟩ (hP.sub [] rfl) (hD.sub [] (by decide) rfl) hS hl.1 (Nat.le_of_ble_eq_true rfl) (Nat.le_of_ble_eq_true rfl)
  · refine zv_iload_n S dX4_requireRange_5 rfl (lv_at hl 0 rfl) ?_
    refine zv_iload_n S dX4_requireRange_6 rfl (lv_at hl 2 rfl) ?_
    refine zv_icmp_le (tgt := 20) S (by unfold zR; omega) (by unfold zR; omega) dX4_requireRange_7 (by decide) (fun c_2 => ?_) (fun c_2 => ?_)
    · refine W.widen (k := 1) (n := 6) (by decide) (by decide) ?_
      exact hret _ _ _ _ () dX4_requireRange_20 (by omega) (hP.sub [] rfl) (hD.sub [] (by decide) rfl) hS
    · exact hthr _ _ _ _ _ _ _ zIA "an argument is out of its range" 56 201 60 () (Or.inr (Or.inl ⟨rfl, rfl, rfl⟩)) (List.mem_of_getElem? (i := 10) rfl) hm_X4_requireRange_zIA dX4_requireRange_10 dX4_requireRange_13 dX4_requireRange_14 dX4_requireRange_16 dX4_requireRange_19 (by decide) ⟨rfl, (by omega)⟩ (hP.sub [] rfl) (hD.sub [] (by decide) rfl) hS hl.1 (Nat.le_of_ble_eq_true rfl) (Nat.le_of_ble_eq_true rfl)

theorem hm_X4_requireNoneOrMore_zIO : ∀ w ∈ Cond.classLink RX4 177 zIO :: Cond.initialized zIO :: (vx_atS RX4 181 zIO zNN).filter goodWord, w ∈ wsX4_requireNoneOrMore := List.forall_mem_cons.mpr ⟨by decide +kernel, List.forall_mem_cons.mpr ⟨by decide +kernel, fun w h => List.mem_cons_of_mem _ (List.mem_append_right _ h)⟩⟩
set_option maxHeartbeats 4000000 in
set_option maxRecDepth 100000 in
/-- requireNoneOrMore -/
theorem c_X4_requireNoneOrMore (l : Launch) (hl0 : l.stackTraces = false) (G : zG) (sz : Nat) (pl : Int) (hv : -2147483648 ≤ pl ∧ pl < 2147483648) : vx_Met l yX4_requireNoneOrMore wsX4_requireNoneOrMore ({ frames := 6, cells := 1, slots := 6, locals := 90 }) (va_Pc [.int (zI pl)] (zPx G sz [])) (va_Qv (fun (u : Unit) => (-1 ≤ pl)) (fun u => zW G (va_A [] sz) ((fun (u : Unit) => []) u)) (va_A [] sz)) (vx_X (fun _ => True) (fun (E : String) (u : Unit) (t : State) => (fun (E : String) (u : Unit) => E = zIO ∧ (pl < -1)) E u ∧ zW G (va_A [] sz) ((fun (u : Unit) => []) u) t) (va_A [] sz)) 1 6 (va_A [] sz) := by
  refine zMx_v hl0 (post := fun (u : Unit) => (-1 ≤ pl)) (w1 := fun (u : Unit) => []) (cx := fun (E : String) (u : Unit) => E = zIO ∧ (pl < -1)) (w1x := fun (u : Unit) => []) (by decide) rfl rfl (Nat.le_of_ble_eq_true rfl) ⟨Nat.le_of_ble_eq_true rfl, Nat.le_of_ble_eq_true rfl, rfl, rfl⟩ ?_
  intro p e s m below meth c A Q S hN hK hP hD hS hA hE0 hret hpass hthr ls hl
  have hl : lv_has ls 1 [(0, .int (zI pl))] := hl
  refine zv_iload_n S dX4_requireNoneOrMore_0 rfl (lv_at hl 0 rfl) ?_
  refine zv_iconst S dX4_requireNoneOrMore_1 ?_
  refine zv_icmp_ge (tgt := 15) S (by unfold zR; omega) (by unfold zR; omega) dX4_requireNoneOrMore_2 (by decide) (fun c_1 => ?_) (fun c_1 => ?_)
  · refine W.widen (k := 1) (n := 6) (by decide) (by decide) ?_
    exact hret _ _ _ _ () dX4_requireNoneOrMore_15 (by omega) (hP.sub [] rfl) (hD.sub [] (by decide) rfl) hS
  · exact hthr _ _ _ _ _ _ _ zIO "the place is below NONE" 177 205 181 () (Or.inr (Or.inr ⟨rfl, rfl, rfl⟩)) (List.mem_of_getElem? (i := 12) rfl) hm_X4_requireNoneOrMore_zIO dX4_requireNoneOrMore_5 dX4_requireNoneOrMore_8 dX4_requireNoneOrMore_9 dX4_requireNoneOrMore_11 dX4_requireNoneOrMore_14 (by decide) ⟨rfl, (by omega)⟩ (hP.sub [] rfl) (hD.sub [] (by decide) rfl) hS hl.1 (Nat.le_of_ble_eq_true rfl) (Nat.le_of_ble_eq_true rfl)

theorem wd_X4_shape_f37 : Cond.fieldLink RX4 37 "PointMill" "shapeCount" "I" ∈ wsX4_shape := by decide +kernel
theorem in_X4_shape_X4 : ∀ w ∈ wsX40, w ∈ wsX4_shape := by decide +kernel
theorem hm_X4_shape_zIS : ∀ w ∈ Cond.classLink RX4 41 zIS :: Cond.initialized zIS :: (vx_atS RX4 45 zIS zNN).filter goodWord, w ∈ wsX4_shape := List.forall_mem_cons.mpr ⟨by decide +kernel, List.forall_mem_cons.mpr ⟨by decide +kernel, fun w h => List.mem_cons_of_mem _ (List.mem_append_right _ h)⟩⟩
set_option maxHeartbeats 4000000 in
set_option maxRecDepth 100000 in
/-- PointMill.shape -/
theorem c_X4_shape (l : Launch) (hl0 : l.stackTraces = false) (G : zG) (sz : Nat) (h0 : Nat) (qs : Nat) (sc : Int) (hr : Nat) (hc : Nat) (hk : Nat) (hsc : 0 ≤ sc ∧ sc ≤ 8) : vx_Met l yX4_shape wsX4_shape ({ frames := 6, cells := 1, slots := 6, locals := 90 }) (va_Pc [.ref h0] (zPx G sz [(h0, .inr (4, [.ref qs, .int (zI sc), .ref hr, .ref hc, .ref hk]))])) (va_Qi (fun (r : Int32) (u : Unit) => r = zI sc ∧ (sc < 8)) (fun u => zW G (va_A [(h0, .inr (4, [.ref qs, .int (zI sc), .ref hr, .ref hc, .ref hk]))] sz) ((fun (u : Unit) => [(h0, .inr (4, [.ref qs, .int (zI (sc + 1)), .ref hr, .ref hc, .ref hk]))]) u)) (va_A [(h0, .inr (4, [.ref qs, .int (zI sc), .ref hr, .ref hc, .ref hk]))] sz)) (vx_X (fun _ => True) (fun (E : String) (u : Unit) (t : State) => (fun (E : String) (u : Unit) => E = zIS ∧ (¬ sc < 8)) E u ∧ zW G (va_A [(h0, .inr (4, [.ref qs, .int (zI sc), .ref hr, .ref hc, .ref hk]))] sz) ((fun (u : Unit) => [(h0, .inr (4, [.ref qs, .int (zI sc), .ref hr, .ref hc, .ref hk]))]) u) t) (va_A [(h0, .inr (4, [.ref qs, .int (zI sc), .ref hr, .ref hc, .ref hk]))] sz)) 1 6 (va_A [(h0, .inr (4, [.ref qs, .int (zI sc), .ref hr, .ref hc, .ref hk]))] sz) := by
  refine zMx_i hl0 (post := fun (r : Int32) (u : Unit) => r = zI sc ∧ (sc < 8)) (w1 := fun (u : Unit) => [(h0, .inr (4, [.ref qs, .int (zI (sc + 1)), .ref hr, .ref hc, .ref hk]))]) (cx := fun (E : String) (u : Unit) => E = zIS ∧ (¬ sc < 8)) (w1x := fun (u : Unit) => [(h0, .inr (4, [.ref qs, .int (zI sc), .ref hr, .ref hc, .ref hk]))]) (by decide) rfl rfl (Nat.le_of_ble_eq_true rfl) ⟨Nat.le_of_ble_eq_true rfl, Nat.le_of_ble_eq_true rfl, rfl, rfl⟩ ?_
  intro p e s m below meth c A Q S hN hK hP hD hS hA hE0 hret hpass hthr ls hl
  have hl : lv_has ls 1 [(0, .ref h0)] := hl
  refine zv_aload_n S dX4_shape_0 rfl (lv_at hl 0 rfl) ?_
  refine zv_get (C := RX4) (T := TX4) (N := 5) (ci := 4) (v := .int (zI sc)) S in_X4_shape_X4 hK hP 0 rfl rfl 1 (by decide) wd_X4_shape_f37 rfl rfl dX4_shape_1 ?_
  refine zv_bipush (v := 8) S dX4_shape_4 (by decide) ?_
  refine zv_icmp_lt (tgt := 19) S (by unfold zR; omega) (by unfold zR; omega) dX4_shape_6 (by decide) (fun c_1 => ?_) (fun c_1 => ?_)
  · refine zv_aload_n S dX4_shape_19 rfl (lv_at hl 0 rfl) ?_
    refine zv_dup S dX4_shape_20 rfl ?_
    refine zv_get (C := RX4) (T := TX4) (N := 5) (ci := 4) (v := .int (zI sc)) S in_X4_shape_X4 hK hP 0 rfl rfl 1 (by decide) wd_X4_shape_f37 rfl rfl dX4_shape_21 ?_
    refine zv_iconst S dX4_shape_24 ?_
    refine zv_iadd S dX4_shape_25 ?_
    refine zv_put (C := RX4) (T := TX4) (N := 5) (ci := 4) (v := .int (zI (sc + 1))) S in_X4_shape_X4 tyX4 tyX4_ok nmX4 hK hP hD hS 0 rfl rfl 1 (by decide) wd_X4_shape_f37 rfl rfl rfl rfl (Nat.le_of_ble_eq_true rfl) dX4_shape_26 (fun H locs hP hD hS => ?_)
    have hP : va_P G.1 vwCl [(h0, .inr (4, [.ref qs, .int (zI (sc + 1)), .ref hr, .ref hc, .ref hk]))] H := hP
    have hD : va_D A [(h0, .inr (4, [.ref qs, .int (zI (sc + 1)), .ref hr, .ref hc, .ref hk]))] := hD
    refine zv_aload_n S dX4_shape_29 rfl (lv_at hl 0 rfl) ?_
    refine zv_get (C := RX4) (T := TX4) (N := 5) (ci := 4) (v := .int (zI (sc + 1))) S in_X4_shape_X4 hK hP 0 rfl rfl 1 (by decide) wd_X4_shape_f37 rfl rfl dX4_shape_30 ?_
    refine zv_iconst S dX4_shape_33 ?_
    refine zv_isub S dX4_shape_34 ?_
    refine W.widen (k := 1) (n := 6) (by decide) (by decide) ?_
    exact hret _ _ _ _ _ () dX4_shape_35 ⟨(congrArg zI (by omega)), (by omega)⟩ (hP.sub [0] rfl) (hD.sub [0] (by decide) rfl) hS
  · exact hthr _ _ _ _ _ _ _ zIS "there are 8 shapes" 41 43 45 () (Or.inl ⟨rfl, rfl, rfl⟩) (List.mem_of_getElem? (i := 0) rfl) hm_X4_shape_zIS dX4_shape_9 dX4_shape_12 dX4_shape_13 dX4_shape_15 dX4_shape_18 (by decide) ⟨rfl, (by omega)⟩ (hP.sub [0] rfl) (hD.sub [0] (by decide) rfl) hS hl.1 (Nat.le_of_ble_eq_true rfl) (Nat.le_of_ble_eq_true rfl)

theorem hm_X4_shapeOf_zIO : ∀ w ∈ Cond.classLink RX4 177 zIO :: Cond.initialized zIO :: (vx_atS RX4 181 zIO zNN).filter goodWord, w ∈ wsX4_shapeOf := List.forall_mem_cons.mpr ⟨by decide +kernel, List.forall_mem_cons.mpr ⟨by decide +kernel, fun w h => List.mem_cons_of_mem _ (List.mem_append_right _ h)⟩⟩
theorem wd_X4_shapeOf_f37 : Cond.fieldLink RX4 37 "PointMill" "shapeCount" "I" ∈ wsX4_shapeOf := by decide +kernel
theorem in_X4_shapeOf_X4 : ∀ w ∈ wsX40, w ∈ wsX4_shapeOf := by decide +kernel
theorem wd_X4_shapeOf_f11 : Cond.fieldLink RX4 11 "PointMill" "shapes" "[LPointMill$Shape;" ∈ wsX4_shapeOf := by decide +kernel
set_option maxHeartbeats 4000000 in
set_option maxRecDepth 100000 in
/-- shapeOf -/
theorem c_X4_shapeOf (l : Launch) (hl0 : l.stackTraces = false) (G : zG) (sz : Nat) (h0 : Nat) (qs : Nat) (sc : Int) (hr : Nat) (hc : Nat) (hk : Nat) (SF : Nat → Option Nat) (v : Int) (h1 : Nat) (hsc : 0 ≤ sc ∧ sc ≤ 8) (hsf : 0 ≤ v → v < sc → SF v.toNat = some h1) (hv : -2147483648 ≤ v ∧ v < 2147483648) : vx_Met l yX4_shapeOf wsX4_shapeOf ({ frames := 6, cells := 1, slots := 6, locals := 90 }) (va_Pc [.ref h0, .int (zI v)] (zPx G sz [(h0, .inr (4, [.ref qs, .int (zI sc), .ref hr, .ref hc, .ref hk])), zcq G qs 8 SF])) (va_Qr (fun (u : Unit) => (0 ≤ v ∧ v < sc)) (fun u a t => a = (fun (u : Unit) => h1) u ∧ zW G (va_A [(h0, .inr (4, [.ref qs, .int (zI sc), .ref hr, .ref hc, .ref hk])), zcq G qs 8 SF] sz) ((fun (u : Unit) => [(h0, .inr (4, [.ref qs, .int (zI sc), .ref hr, .ref hc, .ref hk])), zcq G qs 8 SF]) u) t) (va_A [(h0, .inr (4, [.ref qs, .int (zI sc), .ref hr, .ref hc, .ref hk])), zcq G qs 8 SF] sz)) (vx_X (fun _ => True) (fun (E : String) (u : Unit) (t : State) => (fun (E : String) (u : Unit) => E = zIO ∧ (¬ (0 ≤ v ∧ v < sc))) E u ∧ zW G (va_A [(h0, .inr (4, [.ref qs, .int (zI sc), .ref hr, .ref hc, .ref hk])), zcq G qs 8 SF] sz) ((fun (u : Unit) => [(h0, .inr (4, [.ref qs, .int (zI sc), .ref hr, .ref hc, .ref hk])), zcq G qs 8 SF]) u) t) (va_A [(h0, .inr (4, [.ref qs, .int (zI sc), .ref hr, .ref hc, .ref hk])), zcq G qs 8 SF] sz)) 1 6 (va_A [(h0, .inr (4, [.ref qs, .int (zI sc), .ref hr, .ref hc, .ref hk])), zcq G qs 8 SF] sz) := by
  refine zMx_r hl0 (post := fun (u : Unit) => (0 ≤ v ∧ v < sc)) (w1 := fun (u : Unit) => [(h0, .inr (4, [.ref qs, .int (zI sc), .ref hr, .ref hc, .ref hk])), zcq G qs 8 SF]) (cx := fun (E : String) (u : Unit) => E = zIO ∧ (¬ (0 ≤ v ∧ v < sc))) (w1x := fun (u : Unit) => [(h0, .inr (4, [.ref qs, .int (zI sc), .ref hr, .ref hc, .ref hk])), zcq G qs 8 SF]) (rs := fun (u : Unit) => h1) (by decide) rfl rfl (Nat.le_of_ble_eq_true rfl) ⟨Nat.le_of_ble_eq_true rfl, Nat.le_of_ble_eq_true rfl, rfl, rfl⟩ ?_
  intro p e s m below meth c A Q S hN hK hP hD hS hA hE0 hret hpass hthr ls hl
  have hl : lv_has ls 2 [(0, .ref h0), (1, .int (zI v))] := hl
  refine zv_iload_n S dX4_shapeOf_0 rfl (lv_at hl 1 rfl) ?_
  refine zv_if_lt (tgt := 21) S (by unfold zR; omega) dX4_shapeOf_1 (by decide) (fun c_1 => ?_) (fun c_1 => ?_)
  · exact hthr _ _ _ _ _ _ _ zIO "there is no such shape" 177 196 181 () (Or.inr (Or.inr ⟨rfl, rfl, rfl⟩)) (List.mem_of_getElem? (i := 8) rfl) hm_X4_shapeOf_zIO dX4_shapeOf_21 dX4_shapeOf_24 dX4_shapeOf_25 dX4_shapeOf_27 dX4_shapeOf_30 (by decide) ⟨rfl, (by omega)⟩ (hP.sub [0, 1] rfl) (hD.sub [0, 1] (by decide) rfl) hS hl.1 (Nat.le_of_ble_eq_true rfl) (Nat.le_of_ble_eq_true rfl)
  · refine zv_iload_n S dX4_shapeOf_4 rfl (lv_at hl 1 rfl) ?_
    refine zv_aload_n S dX4_shapeOf_5 rfl (lv_at hl 0 rfl) ?_
    refine zv_get (C := RX4) (T := TX4) (N := 5) (ci := 4) (v := .int (zI sc)) S in_X4_shapeOf_X4 hK hP 0 rfl rfl 1 (by decide) wd_X4_shapeOf_f37 rfl rfl dX4_shapeOf_6 ?_
    refine zv_icmp_ge (tgt := 21) S (by unfold zR; omega) (by unfold zR; omega) dX4_shapeOf_9 (by decide) (fun c_2 => ?_) (fun c_2 => ?_)
    · exact hthr _ _ _ _ _ _ _ zIO "there is no such shape" 177 196 181 () (Or.inr (Or.inr ⟨rfl, rfl, rfl⟩)) (List.mem_of_getElem? (i := 8) rfl) hm_X4_shapeOf_zIO dX4_shapeOf_21 dX4_shapeOf_24 dX4_shapeOf_25 dX4_shapeOf_27 dX4_shapeOf_30 (by decide) ⟨rfl, (by omega)⟩ (hP.sub [0, 1] rfl) (hD.sub [0, 1] (by decide) rfl) hS hl.1 (Nat.le_of_ble_eq_true rfl) (Nat.le_of_ble_eq_true rfl)
    · refine zv_iload_n S dX4_shapeOf_12 rfl (lv_at hl 1 rfl) ?_
      refine zv_aload_n S dX4_shapeOf_13 rfl (lv_at hl 0 rfl) ?_
      refine zv_get (C := RX4) (T := TX4) (N := 5) (ci := 4) (v := .ref qs) S in_X4_shapeOf_X4 hK hP 0 rfl rfl 0 (by decide) wd_X4_shapeOf_f11 rfl rfl dX4_shapeOf_14 ?_
      refine va_alen (v := zI 8) S.1 S.2.1 hK hP 1 3 rfl rfl (zI_nI 8) dX4_shapeOf_17 ?_
      refine zv_icmp_lt (tgt := 31) S (by unfold zR; omega) (by unfold zR; omega) dX4_shapeOf_18 (by decide) (fun c_3 => ?_) (fun c_3 => ?_)
      · refine zv_aload_n S dX4_shapeOf_31 rfl (lv_at hl 0 rfl) ?_
        refine zv_get (C := RX4) (T := TX4) (N := 5) (ci := 4) (v := .ref qs) S in_X4_shapeOf_X4 hK hP 0 rfl rfl 0 (by decide) wd_X4_shapeOf_f11 rfl rfl dX4_shapeOf_32 ?_
        refine zv_iload_n S dX4_shapeOf_35 rfl (lv_at hl 1 rfl) ?_
        refine zv_aald S hK hP 1 3 rfl rfl v.toNat (by omega) (by omega) (by decide) dX4_shapeOf_36 ?_
        rw [hsf (by omega) (by omega)]
        refine W.widen (k := 1) (n := 6) (Nat.le_of_ble_eq_true rfl) (Nat.le_of_ble_eq_true rfl) ?_
        exact hret _ _ _ _ () dX4_shapeOf_37 (by omega) (hP.sub [0, 1] rfl) (hD.sub [0, 1] (by decide) rfl) hS
      · exact hthr _ _ _ _ _ _ _ zIO "there is no such shape" 177 196 181 () (Or.inr (Or.inr ⟨rfl, rfl, rfl⟩)) (List.mem_of_getElem? (i := 8) rfl) hm_X4_shapeOf_zIO dX4_shapeOf_21 dX4_shapeOf_24 dX4_shapeOf_25 dX4_shapeOf_27 dX4_shapeOf_30 (by decide) ⟨rfl, (by omega)⟩ (hP.sub [0, 1] rfl) (hD.sub [0, 1] (by decide) rfl) hS hl.1 (Nat.le_of_ble_eq_true rfl) (Nat.le_of_ble_eq_true rfl)
