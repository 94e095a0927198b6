set_option maxHeartbeats 4000000 in
set_option maxRecDepth 100000 in
/-- Math.floorDiv by a number above 0 -/
theorem c_J9_floorDiv_7cf53 (l : Launch) (G : zG) (sz : Nat) (x : Int) (y : Int) (hx : -2147483648 ≤ x ∧ x < 2147483648) (hy : 0 < y ∧ y < 2147483648) : Met l yJ9_floorDiv_7cf53 wsJ9_floorDiv_7cf53 ({ frames := 0, cells := 0, slots := 0, locals := 0 }) (va_Pc [.int (zI x), .int (zI y)] (zPre G sz [])) (va_Qi (fun (r : Int32) (u : Unit) => r = zI (x / y)) (fun u => zW G (va_A [] sz) ((fun (u : Unit) => []) u)) (va_A [] sz)) 0 0 (va_A [] sz) := by
  refine zM_i (post := fun (r : Int32) (u : Unit) => r = zI (x / y)) (w1 := fun (u : Unit) => []) (by decide +kernel) rfl (Nat.le_of_ble_eq_true rfl) ?_
  intro p e s m below meth c A Q S hN hK hP hD hS hA hret ls hl
  have hl : lv_has ls 3 [(0, .int (zI x)), (1, .int (zI y))] := hl
  refine zv_iload_n S dJ9_floorDiv_7cf53_0 rfl (lv_at hl 0 rfl) ?_
  refine zv_iload_n S dJ9_floorDiv_7cf53_1 rfl (lv_at hl 1 rfl) ?_
  refine zv_idiv S (by unfold zR; omega) (by unfold zR; omega) (by omega) (by omega) dJ9_floorDiv_7cf53_2 ?_
  refine zv_istore_n (lv' := [(2, .int (zI (x.tdiv y))), (0, .int (zI x)), (1, .int (zI y))]) S dJ9_floorDiv_7cf53_3 rfl hl (by decide) rfl (fun ls hl => ?_)
  refine zv_iload_n S dJ9_floorDiv_7cf53_4 rfl (lv_at hl 1 rfl) ?_
  refine zv_iload_n S dJ9_floorDiv_7cf53_5 rfl (lv_at hl 2 rfl) ?_
  refine zv_ixor S (by unfold zR; omega) (by unfold zR; omega) dJ9_floorDiv_7cf53_6 (fun xr_1 hr_2 hx_3 => ?_)
  refine zv_if_ge (tgt := 21) S (by unfold zR; omega) dJ9_floorDiv_7cf53_7 (by decide) (fun c_4 => ?_) (fun c_4 => ?_)
  · refine zv_iload_n S dJ9_floorDiv_7cf53_21 rfl (lv_at hl 0 rfl) ?_
    exact hret _ _ _ _ _ () dJ9_floorDiv_7cf53_22 (congrArg zI (zfdiv1 (by omega))) (hP.sub [] rfl) (hD.sub [] (by decide) rfl) hS
  · refine zv_iload_n S dJ9_floorDiv_7cf53_10 rfl (lv_at hl 0 rfl) ?_
    refine zv_iload_n S dJ9_floorDiv_7cf53_11 rfl (lv_at hl 2 rfl) ?_
    refine zv_imul S dJ9_floorDiv_7cf53_12 ?_
    refine zv_iload_n S dJ9_floorDiv_7cf53_13 rfl (lv_at hl 1 rfl) ?_
    have hq := ztd (x := x) hy.1
    refine zv_icmp_eq (tgt := 21) S (by unfold zR; obtain ⟨h1, h2, h3, h4, h5⟩ := ztd (x := x) hy.1; omega) (by unfold zR; obtain ⟨h1, h2, h3, h4, h5⟩ := ztd (x := x) hy.1; omega) dJ9_floorDiv_7cf53_14 (by decide) (fun c_5 => ?_) (fun c_5 => ?_)
    · refine zv_iload_n S dJ9_floorDiv_7cf53_21 rfl (lv_at hl 0 rfl) ?_
      exact hret _ _ _ _ _ () dJ9_floorDiv_7cf53_22 (congrArg zI (zfdiv2 hy.1 c_5)) (hP.sub [] rfl) (hD.sub [] (by decide) rfl) hS
    · refine zv_iload_n S dJ9_floorDiv_7cf53_17 rfl (lv_at hl 0 rfl) ?_
      refine zv_iconst S dJ9_floorDiv_7cf53_18 ?_
      refine zv_isub S dJ9_floorDiv_7cf53_19 ?_
      exact hret _ _ _ _ _ () dJ9_floorDiv_7cf53_20 (congrArg zI (zfdiv3 hy.1 (by omega) c_5)) (hP.sub [] rfl) (hD.sub [] (by decide) rfl) hS

set_option maxHeartbeats 4000000 in
set_option maxRecDepth 100000 in
/-- Math.floorMod by a number above 0 -/
theorem c_J9_floorMod_7cf53 (l : Launch) (G : zG) (sz : Nat) (x : Int) (y : Int) (hx : -2147483648 ≤ x ∧ x < 2147483648) (hy : 0 < y ∧ y < 2147483648) : Met l yJ9_floorMod_7cf53 wsJ9_floorMod_7cf53 ({ frames := 0, cells := 0, slots := 0, locals := 0 }) (va_Pc [.int (zI x), .int (zI y)] (zPre G sz [])) (va_Qi (fun (r : Int32) (u : Unit) => r = zI (x % y)) (fun u => zW G (va_A [] sz) ((fun (u : Unit) => []) u)) (va_A [] sz)) 0 0 (va_A [] sz) := by
  refine zM_i (post := fun (r : Int32) (u : Unit) => r = zI (x % y)) (w1 := fun (u : Unit) => []) (by decide +kernel) rfl (Nat.le_of_ble_eq_true rfl) ?_
  intro p e s m below meth c A Q S hN hK hP hD hS hA hret ls hl
  have hl : lv_has ls 3 [(0, .int (zI x)), (1, .int (zI y))] := hl
  refine zv_iload_n S dJ9_floorMod_7cf53_0 rfl (lv_at hl 0 rfl) ?_
  refine zv_iload_n S dJ9_floorMod_7cf53_1 rfl (lv_at hl 1 rfl) ?_
  refine zv_irem S (by unfold zR; omega) (by unfold zR; omega) (by omega) (by omega) dJ9_floorMod_7cf53_2 ?_
  refine zv_istore_n (lv' := [(2, .int (zI (x.tmod y))), (0, .int (zI x)), (1, .int (zI y))]) S dJ9_floorMod_7cf53_3 rfl hl (by decide) rfl (fun ls hl => ?_)
  have hq := ztd (x := x) hy.1
  refine zv_iload_n S dJ9_floorMod_7cf53_4 rfl (lv_at hl 1 rfl) ?_
  refine zv_iload_n S dJ9_floorMod_7cf53_5 rfl (lv_at hl 2 rfl) ?_
  refine zv_ixor S (by unfold zR; omega) (by unfold zR; omega) dJ9_floorMod_7cf53_6 (fun xr_1 hr_2 hx_3 => ?_)
  refine zv_if_ge (tgt := 18) S (by unfold zR; omega) dJ9_floorMod_7cf53_7 (by decide) (fun c_4 => ?_) (fun c_4 => ?_)
  · refine zv_iload_n S dJ9_floorMod_7cf53_18 rfl (lv_at hl 0 rfl) ?_
    exact hret _ _ _ _ _ () dJ9_floorMod_7cf53_19 (congrArg zI (zfmod1 (by omega))) (hP.sub [] rfl) (hD.sub [] (by decide) rfl) hS
  · refine zv_iload_n S dJ9_floorMod_7cf53_10 rfl (lv_at hl 0 rfl) ?_
    refine zv_if_eq (tgt := 18) S (by unfold zR; omega) dJ9_floorMod_7cf53_11 (by decide) (fun c_5 => ?_) (fun c_5 => ?_)
    · refine zv_iload_n S dJ9_floorMod_7cf53_18 rfl (lv_at hl 0 rfl) ?_
      exact hret _ _ _ _ _ () dJ9_floorMod_7cf53_19 (congrArg zI (zfmod2 hy.1 c_5)) (hP.sub [] rfl) (hD.sub [] (by decide) rfl) hS
    · refine zv_iload_n S dJ9_floorMod_7cf53_14 rfl (lv_at hl 0 rfl) ?_
      refine zv_iload_n S dJ9_floorMod_7cf53_15 rfl (lv_at hl 2 rfl) ?_
      refine zv_iadd S dJ9_floorMod_7cf53_16 ?_
      exact hret _ _ _ _ _ () dJ9_floorMod_7cf53_17 (congrArg zI (zfmod3 hy.1 (by omega) c_5)) (hP.sub [] rfl) (hD.sub [] (by decide) rfl) hS

theorem wd_X4_greatestDivisor_m226 : Cond.methodLink RX4 226 Lib.Math.abs.name ∈ wsX4_greatestDivisor := by decide +kernel
theorem wd_X4_greatestDivisor_sabs : Cond.static Lib.Math.abs.name ∈ wsX4_greatestDivisor := by decide +kernel
theorem wd_X4_greatestDivisor_iM : Cond.initialized "java/lang/Math" ∈ wsX4_greatestDivisor := by decide +kernel
theorem wd_X4_greatestDivisor_cabs : Cond.code Lib.Math.abs.name Lib.Math.abs.code 1 (some .int) ∈ wsX4_greatestDivisor := by decide +kernel
set_option maxHeartbeats 4000000 in
set_option maxRecDepth 100000 in
/-- greatestDivisor -/
theorem c_X4_greatestDivisor (l : Launch) (G : zG) (sz : Nat) (x : Int) (y : Int) (hx : -60 ≤ x ∧ x ≤ 60) (hy : -60 ≤ y ∧ y ≤ 60) : Met l yX4_greatestDivisor wsX4_greatestDivisor ({ frames := 1, cells := 0, slots := 0, locals := 13 }) (va_Pc [.int (zI x), .int (zI y)] (zPre G sz [])) (va_Qi (fun (r : Int32) (u : Unit) => r = zI ((Nat.gcd x.natAbs y.natAbs : Nat) : Int)) (fun u => zW G (va_A [] sz) ((fun (u : Unit) => []) u)) (va_A [] sz)) 0 0 (va_A [] sz) := by
  refine zM_i (post := fun (r : Int32) (u : Unit) => r = zI ((Nat.gcd x.natAbs y.natAbs : Nat) : Int)) (w1 := fun (u : Unit) => []) (plainFor_of_name (by decide)) rfl (Nat.le_of_ble_eq_true rfl) ?_
  intro p e s m below meth c A Q S hN hK hP hD hS hA hret ls hl
  have hl : lv_has ls 6 [(0, .int (zI x)), (1, .int (zI y))] := hl
  refine zv_iload_n S dX4_greatestDivisor_0 rfl (lv_at hl 0 rfl) ?_
  refine zv_abs S hl (by unfold zR; omega) wd_X4_greatestDivisor_m226 wd_X4_greatestDivisor_sabs wd_X4_greatestDivisor_iM wd_X4_greatestDivisor_cabs (by decide) (Nat.le_of_ble_eq_true rfl) (Nat.le_of_ble_eq_true rfl) (Nat.le_of_ble_eq_true rfl) dX4_greatestDivisor_1 ?_
  refine zv_istore_n (lv' := [(2, .int (zI (zabs x))), (0, .int (zI x)), (1, .int (zI y))]) S dX4_greatestDivisor_4 rfl hl (by decide) rfl (fun ls hl => ?_)
  refine zv_iload_n S dX4_greatestDivisor_5 rfl (lv_at hl 2 rfl) ?_
  refine zv_abs S hl (by unfold zR; omega) wd_X4_greatestDivisor_m226 wd_X4_greatestDivisor_sabs wd_X4_greatestDivisor_iM wd_X4_greatestDivisor_cabs (by decide) (Nat.le_of_ble_eq_true rfl) (Nat.le_of_ble_eq_true rfl) (Nat.le_of_ble_eq_true rfl) dX4_greatestDivisor_6 ?_
  refine zv_istore_n (lv' := [(3, .int (zI (zabs y))), (2, .int (zI (zabs x))), (0, .int (zI x)), (1, .int (zI y))]) S dX4_greatestDivisor_9 rfl hl (by decide) rfl (fun ls hl => ?_)
  refine zv_iconst S dX4_greatestDivisor_10 ?_
  refine zv_istore (lv' := [(4, .int (zI 0)), (3, .int (zI (zabs y))), (2, .int (zI (zabs x))), (0, .int (zI x)), (1, .int (zI y))]) S dX4_greatestDivisor_11 hl (by decide) rfl (fun ls hl => ?_)
  have LP13 : ∀ (nf : Nat) (a : Nat) (b : Nat) (u1 : Int) (u2 : Int) (t : Int) (hu1 : u1 = (a : Int)) (hu2 : u2 = (b : Int)) (hg : Nat.gcd a b = Nat.gcd x.natAbs y.natAbs) (ha : a ≤ 60 ∧ b ≤ 60) (ht : 0 ≤ t ∧ t + (b : Int) ≤ 60), b < nf → ∀ (H : Heap) (locs : List Loc), va_P G.1 vwCl [] H → va_D A [] → va_S A s.heap H locs → ∀ ls : Array Slot, lv_has ls 6 [(4, .int (zI t)), (3, .int (zI u2)), (2, .int (zI u1)), (0, .int (zI x)), (1, .int (zI y))] → W p l e ({ frames := 1, cells := 0, slots := 0, locals := 13 }) s m ([.int (zI x), .int (zI y)]).toArray below meth c H locs 0 0 Q (F0 m 13 ls []) := by
    intro nf
    induction nf with
    | zero =>
      intro a b u1 u2 t hu1 hu2 hg ha ht hf
      exact absurd hf (Nat.not_lt_zero _)
    | succ nf ih13 =>
      intro a b u1 u2 t hu1 hu2 hg ha ht hf H locs hP hD hS ls hl
      refine zv_iload S dX4_greatestDivisor_13 (lv_at hl 0 rfl) ?_
      refine zv_bipush (v := 64) S dX4_greatestDivisor_15 (by decide) ?_
      refine zv_icmp_ge (tgt := 40) S (by unfold zR; omega) (by unfold zR; omega) dX4_greatestDivisor_17 (by decide) (fun c_1 => ?_) (fun c_1 => ?_)
      · refine zv_iload_n S dX4_greatestDivisor_40 rfl (lv_at hl 2 rfl) ?_
        exact hret _ _ _ _ _ () dX4_greatestDivisor_41 (by rw [hu1, ← hg, show b = 0 by omega, Nat.gcd_zero_right]) (hP.sub [] rfl) (hD.sub [] (by decide) rfl) hS
      · refine zv_iload_n S dX4_greatestDivisor_20 rfl (lv_at hl 1 rfl) ?_
        refine zv_if_eq (tgt := 40) S (by unfold zR; omega) dX4_greatestDivisor_21 (by decide) (fun c_2 => ?_) (fun c_2 => ?_)
        · refine zv_iload_n S dX4_greatestDivisor_40 rfl (lv_at hl 2 rfl) ?_
          exact hret _ _ _ _ _ () dX4_greatestDivisor_41 (by rw [hu1, ← hg, show b = 0 by omega, Nat.gcd_zero_right]) (hP.sub [] rfl) (hD.sub [] (by decide) rfl) hS
        · refine zv_iload_n S dX4_greatestDivisor_24 rfl (lv_at hl 2 rfl) ?_
          refine zv_iload_n S dX4_greatestDivisor_25 rfl (lv_at hl 1 rfl) ?_
          refine zv_irem S (by unfold zR; omega) (by unfold zR; omega) (by omega) (by omega) dX4_greatestDivisor_26 ?_
          refine zv_istore (lv' := [(5, .int (zI (u1.tmod u2))), (4, .int (zI t)), (3, .int (zI u2)), (2, .int (zI u1)), (0, .int (zI x)), (1, .int (zI y))]) S dX4_greatestDivisor_27 hl (by decide) rfl (fun ls hl => ?_)
          refine zv_iload_n S dX4_greatestDivisor_29 rfl (lv_at hl 2 rfl) ?_
          refine zv_istore_n (lv' := [(2, .int (zI u2)), (5, .int (zI (u1.tmod u2))), (4, .int (zI t)), (3, .int (zI u2)), (0, .int (zI x)), (1, .int (zI y))]) S dX4_greatestDivisor_30 rfl hl (by decide) rfl (fun ls hl => ?_)
          refine zv_iload S dX4_greatestDivisor_31 (lv_at hl 1 rfl) ?_
          refine zv_istore_n (lv' := [(3, .int (zI (u1.tmod u2))), (2, .int (zI u2)), (5, .int (zI (u1.tmod u2))), (4, .int (zI t)), (0, .int (zI x)), (1, .int (zI y))]) S dX4_greatestDivisor_33 rfl hl (by decide) rfl (fun ls hl => ?_)
          refine zv_iinc (k0 := 3) (lv' := [(4, .int (zI (t + 1))), (3, .int (zI (u1.tmod u2))), (2, .int (zI u2)), (5, .int (zI (u1.tmod u2))), (0, .int (zI x)), (1, .int (zI y))]) S dX4_greatestDivisor_34 hl rfl (by decide) rfl (fun ls hl => ?_)
          refine zv_goto (tgt := 13) S dX4_greatestDivisor_37 (by decide) ?_
          exact ih13 b (a % b) u2 (u1.tmod u2) (t + 1) hu2 (by rw [hu1, hu2]; exact ztmod_nat a b) (zgcd_step.trans hg) (by have := Nat.mod_lt a (show 0 < b by omega); omega) (by have := Nat.mod_lt a (show 0 < b by omega); omega) (by have := Nat.mod_lt a (show 0 < b by omega); omega) _ _ hP hD hS _ (lv_sub hl [0, 1, 2, 4, 5] rfl)
  exact LP13 _ x.natAbs y.natAbs (zabs x) (zabs y) 0 (zabs_nat x) (zabs_nat y) rfl (by omega) (by omega) (Nat.lt_succ_self _) _ _ hP hD hS _ (lv_sub hl [0, 1, 2, 3, 4] rfl)
