/-! the law: what it draws, and the calls that may be refused -/
set_option maxHeartbeats 4000000 in
set_option maxRecDepth 100000 in
/-- the law: common -/
theorem c_L_common (l : Launch) (G : zG) (sz : Nat) (x : Int) (y : Int) (hx : -60 ≤ x ∧ x ≤ 60) (hy : -60 ≤ y ∧ y ≤ 60) : Met l yL_common wsL_common ({ frames := 0, cells := 0, slots := 0, locals := 0 }) (va_Pc [.int (zI x), .int (zI y)] (zPre G sz [])) (va_Qi (fun (r : Int32) (u : Unit) => r = zI (zg2 x y)) (fun u => zW G (va_A [] sz) ((fun (u : Unit) => []) u)) (va_A [] sz)) 0 0 (va_A [] sz) := by
  refine zM_i (post := fun (r : Int32) (u : Unit) => r = zI (zg2 x y)) (w1 := fun (u : Unit) => []) (plainFor_of_name (by decide)) rfl (Nat.le_of_ble_eq_true rfl) ?_
  intro p e s m below meth c A Q S hN hK hP hD hS hA hret ls hl
  have hl : lv_has ls 5 [(0, .int (zI x)), (1, .int (zI y))] := hl
  refine zv_iload_n S dL_common_0 rfl (lv_at hl 0 rfl) ?_
  refine zv_if_ge (tgt := 9) S (by unfold zR; omega) dL_common_1 (by decide) (fun c_1 => ?_) (fun c_1 => ?_)
  · refine zv_iload_n S dL_common_9 rfl (lv_at hl 0 rfl) ?_
    refine zv_istore_n (lv' := [(2, .int (zI x)), (0, .int (zI x)), (1, .int (zI y))]) S dL_common_10 rfl hl (by decide) rfl (fun ls hl => ?_)
    refine zv_iload_n S dL_common_11 rfl (lv_at hl 2 rfl) ?_
    refine zv_if_ge (tgt := 20) S (by unfold zR; omega) dL_common_12 (by decide) (fun c_2 => ?_) (fun c_2 => ?_)
    · refine zv_iload_n S dL_common_20 rfl (lv_at hl 2 rfl) ?_
      refine zv_istore_n (lv' := [(3, .int (zI y)), (2, .int (zI x)), (0, .int (zI x)), (1, .int (zI y))]) S dL_common_21 rfl hl (by decide) rfl (fun ls hl => ?_)
      have LP22 : ∀ (nf : Nat) (a : Nat) (b : Nat) (u1 : Int) (u2 : Int) (hu1 : u1 = (a : Int)) (hu2 : u2 = (b : Int)) (hg : Nat.gcd a b = Nat.gcd x.natAbs y.natAbs) (ha : a ≤ 60 ∧ b ≤ 60), b < nf → ∀ (H : Heap) (locs : List Loc), va_P G.1 vwCl [] H → va_D A [] → va_S A s.heap H locs → ∀ ls : Array Slot, lv_has ls 5 [(3, .int (zI u2)), (2, .int (zI u1)), (0, .int (zI x)), (1, .int (zI y))] → W p l e ({ frames := 0, cells := 0, slots := 0, locals := 0 }) s m ([.int (zI x), .int (zI y)]).toArray below meth c H locs 0 0 Q (F0 m 22 ls []) := by
        intro nf
        induction nf with
        | zero =>
          intro a b u1 u2 hu1 hu2 hg ha hf
          exact absurd hf (Nat.not_lt_zero _)
        | succ nf ih22 =>
          intro a b u1 u2 hu1 hu2 hg ha hf H locs hP hD hS ls hl
          refine zv_iload_n S dL_common_22 rfl (lv_at hl 0 rfl) ?_
          refine zv_if_eq (tgt := 39) S (by unfold zR; omega) dL_common_23 (by decide) (fun c_3 => ?_) (fun c_3 => ?_)
          · refine zv_iload_n S dL_common_39 rfl (lv_at hl 1 rfl) ?_
            exact hret _ _ _ _ _ () dL_common_40 (by unfold zg2; rw [hu1, ← hg, show b = 0 by omega, Nat.gcd_zero_right]) (hP.sub [] rfl) (hD.sub [] (by decide) rfl) hS
          · refine zv_iload_n S dL_common_26 rfl (lv_at hl 1 rfl) ?_
            refine zv_iload_n S dL_common_27 rfl (lv_at hl 0 rfl) ?_
            refine zv_irem S (by unfold zR; omega) (by unfold zR; omega) (by omega) (by omega) dL_common_28 ?_
            refine zv_istore (lv' := [(4, .int (zI (u1.tmod u2))), (3, .int (zI u2)), (2, .int (zI u1)), (0, .int (zI x)), (1, .int (zI y))]) S dL_common_29 hl (by decide) rfl (fun ls hl => ?_)
            refine zv_iload_n S dL_common_31 rfl (lv_at hl 1 rfl) ?_
            refine zv_istore_n (lv' := [(2, .int (zI u2)), (4, .int (zI (u1.tmod u2))), (3, .int (zI u2)), (0, .int (zI x)), (1, .int (zI y))]) S dL_common_32 rfl hl (by decide) rfl (fun ls hl => ?_)
            refine zv_iload S dL_common_33 (lv_at hl 1 rfl) ?_
            refine zv_istore_n (lv' := [(3, .int (zI (u1.tmod u2))), (2, .int (zI u2)), (4, .int (zI (u1.tmod u2))), (0, .int (zI x)), (1, .int (zI y))]) S dL_common_35 rfl hl (by decide) rfl (fun ls hl => ?_)
            refine zv_goto (tgt := 22) S dL_common_36 (by decide) ?_
            exact ih22 b (a % b) u2 (u1.tmod u2) hu2 (by rw [hu1, hu2]; exact ztmod_nat a b) (zgcd_step.trans hg) (by have := Nat.mod_lt a (show 0 < b by omega); omega) (by have := Nat.mod_lt a (show 0 < b by omega); omega) _ _ hP hD hS _ (lv_sub hl [0, 1, 3, 4] rfl)
      exact LP22 _ x.natAbs y.natAbs x y (by omega) (by omega) rfl (by omega) (Nat.lt_succ_self _) _ _ hP hD hS _ (lv_sub hl [0, 1, 2, 3] rfl)
    · refine zv_iload_n S dL_common_15 rfl (lv_at hl 2 rfl) ?_
      refine zv_ineg S dL_common_16 ?_
      refine zv_goto (tgt := 21) S dL_common_17 (by decide) ?_
      refine zv_istore_n (lv' := [(3, .int (zI (-y))), (2, .int (zI x)), (0, .int (zI x)), (1, .int (zI y))]) S dL_common_21 rfl hl (by decide) rfl (fun ls hl => ?_)
      have LP22 : ∀ (nf : Nat) (a : Nat) (b : Nat) (u1 : Int) (u2 : Int) (hu1 : u1 = (a : Int)) (hu2 : u2 = (b : Int)) (hg : Nat.gcd a b = Nat.gcd x.natAbs y.natAbs) (ha : a ≤ 60 ∧ b ≤ 60), b < nf → ∀ (H : Heap) (locs : List Loc), va_P G.1 vwCl [] H → va_D A [] → va_S A s.heap H locs → ∀ ls : Array Slot, lv_has ls 5 [(3, .int (zI u2)), (2, .int (zI u1)), (0, .int (zI x)), (1, .int (zI y))] → W p l e ({ frames := 0, cells := 0, slots := 0, locals := 0 }) s m ([.int (zI x), .int (zI y)]).toArray below meth c H locs 0 0 Q (F0 m 22 ls []) := by
        intro nf
        induction nf with
        | zero =>
          intro a b u1 u2 hu1 hu2 hg ha hf
          exact absurd hf (Nat.not_lt_zero _)
        | succ nf ih22 =>
          intro a b u1 u2 hu1 hu2 hg ha hf H locs hP hD hS ls hl
          refine zv_iload_n S dL_common_22 rfl (lv_at hl 0 rfl) ?_
          refine zv_if_eq (tgt := 39) S (by unfold zR; omega) dL_common_23 (by decide) (fun c_4 => ?_) (fun c_4 => ?_)
          · refine zv_iload_n S dL_common_39 rfl (lv_at hl 1 rfl) ?_
            exact hret _ _ _ _ _ () dL_common_40 (by unfold zg2; rw [hu1, ← hg, show b = 0 by omega, Nat.gcd_zero_right]) (hP.sub [] rfl) (hD.sub [] (by decide) rfl) hS
          · refine zv_iload_n S dL_common_26 rfl (lv_at hl 1 rfl) ?_
            refine zv_iload_n S dL_common_27 rfl (lv_at hl 0 rfl) ?_
            refine zv_irem S (by unfold zR; omega) (by unfold zR; omega) (by omega) (by omega) dL_common_28 ?_
            refine zv_istore (lv' := [(4, .int (zI (u1.tmod u2))), (3, .int (zI u2)), (2, .int (zI u1)), (0, .int (zI x)), (1, .int (zI y))]) S dL_common_29 hl (by decide) rfl (fun ls hl => ?_)
            refine zv_iload_n S dL_common_31 rfl (lv_at hl 1 rfl) ?_
            refine zv_istore_n (lv' := [(2, .int (zI u2)), (4, .int (zI (u1.tmod u2))), (3, .int (zI u2)), (0, .int (zI x)), (1, .int (zI y))]) S dL_common_32 rfl hl (by decide) rfl (fun ls hl => ?_)
            refine zv_iload S dL_common_33 (lv_at hl 1 rfl) ?_
            refine zv_istore_n (lv' := [(3, .int (zI (u1.tmod u2))), (2, .int (zI u2)), (4, .int (zI (u1.tmod u2))), (0, .int (zI x)), (1, .int (zI y))]) S dL_common_35 rfl hl (by decide) rfl (fun ls hl => ?_)
            refine zv_goto (tgt := 22) S dL_common_36 (by decide) ?_
            exact ih22 b (a % b) u2 (u1.tmod u2) hu2 (by rw [hu1, hu2]; exact ztmod_nat a b) (zgcd_step.trans hg) (by have := Nat.mod_lt a (show 0 < b by omega); omega) (by have := Nat.mod_lt a (show 0 < b by omega); omega) _ _ hP hD hS _ (lv_sub hl [0, 1, 3, 4] rfl)
      exact LP22 _ x.natAbs y.natAbs x (-y) (by omega) (by omega) rfl (by omega) (Nat.lt_succ_self _) _ _ hP hD hS _ (lv_sub hl [0, 1, 2, 3] rfl)
  · refine zv_iload_n S dL_common_4 rfl (lv_at hl 0 rfl) ?_
    refine zv_ineg S dL_common_5 ?_
    refine zv_goto (tgt := 10) S dL_common_6 (by decide) ?_
    refine zv_istore_n (lv' := [(2, .int (zI (-x))), (0, .int (zI x)), (1, .int (zI y))]) S dL_common_10 rfl hl (by decide) rfl (fun ls hl => ?_)
    refine zv_iload_n S dL_common_11 rfl (lv_at hl 2 rfl) ?_
    refine zv_if_ge (tgt := 20) S (by unfold zR; omega) dL_common_12 (by decide) (fun c_5 => ?_) (fun c_5 => ?_)
    · refine zv_iload_n S dL_common_20 rfl (lv_at hl 2 rfl) ?_
      refine zv_istore_n (lv' := [(3, .int (zI y)), (2, .int (zI (-x))), (0, .int (zI x)), (1, .int (zI y))]) S dL_common_21 rfl hl (by decide) rfl (fun ls hl => ?_)
      have LP22 : ∀ (nf : Nat) (a : Nat) (b : Nat) (u1 : Int) (u2 : Int) (hu1 : u1 = (a : Int)) (hu2 : u2 = (b : Int)) (hg : Nat.gcd a b = Nat.gcd x.natAbs y.natAbs) (ha : a ≤ 60 ∧ b ≤ 60), b < nf → ∀ (H : Heap) (locs : List Loc), va_P G.1 vwCl [] H → va_D A [] → va_S A s.heap H locs → ∀ ls : Array Slot, lv_has ls 5 [(3, .int (zI u2)), (2, .int (zI u1)), (0, .int (zI x)), (1, .int (zI y))] → W p l e ({ frames := 0, cells := 0, slots := 0, locals := 0 }) s m ([.int (zI x), .int (zI y)]).toArray below meth c H locs 0 0 Q (F0 m 22 ls []) := by
        intro nf
        induction nf with
        | zero =>
          intro a b u1 u2 hu1 hu2 hg ha hf
          exact absurd hf (Nat.not_lt_zero _)
        | succ nf ih22 =>
          intro a b u1 u2 hu1 hu2 hg ha hf H locs hP hD hS ls hl
          refine zv_iload_n S dL_common_22 rfl (lv_at hl 0 rfl) ?_
          refine zv_if_eq (tgt := 39) S (by unfold zR; omega) dL_common_23 (by decide) (fun c_6 => ?_) (fun c_6 => ?_)
          · refine zv_iload_n S dL_common_39 rfl (lv_at hl 1 rfl) ?_
            exact hret _ _ _ _ _ () dL_common_40 (by unfold zg2; rw [hu1, ← hg, show b = 0 by omega, Nat.gcd_zero_right]) (hP.sub [] rfl) (hD.sub [] (by decide) rfl) hS
          · refine zv_iload_n S dL_common_26 rfl (lv_at hl 1 rfl) ?_
            refine zv_iload_n S dL_common_27 rfl (lv_at hl 0 rfl) ?_
            refine zv_irem S (by unfold zR; omega) (by unfold zR; omega) (by omega) (by omega) dL_common_28 ?_
            refine zv_istore (lv' := [(4, .int (zI (u1.tmod u2))), (3, .int (zI u2)), (2, .int (zI u1)), (0, .int (zI x)), (1, .int (zI y))]) S dL_common_29 hl (by decide) rfl (fun ls hl => ?_)
            refine zv_iload_n S dL_common_31 rfl (lv_at hl 1 rfl) ?_
            refine zv_istore_n (lv' := [(2, .int (zI u2)), (4, .int (zI (u1.tmod u2))), (3, .int (zI u2)), (0, .int (zI x)), (1, .int (zI y))]) S dL_common_32 rfl hl (by decide) rfl (fun ls hl => ?_)
            refine zv_iload S dL_common_33 (lv_at hl 1 rfl) ?_
            refine zv_istore_n (lv' := [(3, .int (zI (u1.tmod u2))), (2, .int (zI u2)), (4, .int (zI (u1.tmod u2))), (0, .int (zI x)), (1, .int (zI y))]) S dL_common_35 rfl hl (by decide) rfl (fun ls hl => ?_)
            refine zv_goto (tgt := 22) S dL_common_36 (by decide) ?_
            exact ih22 b (a % b) u2 (u1.tmod u2) hu2 (by rw [hu1, hu2]; exact ztmod_nat a b) (zgcd_step.trans hg) (by have := Nat.mod_lt a (show 0 < b by omega); omega) (by have := Nat.mod_lt a (show 0 < b by omega); omega) _ _ hP hD hS _ (lv_sub hl [0, 1, 3, 4] rfl)
      exact LP22 _ x.natAbs y.natAbs (-x) y (by omega) (by omega) rfl (by omega) (Nat.lt_succ_self _) _ _ hP hD hS _ (lv_sub hl [0, 1, 2, 3] rfl)
    · refine zv_iload_n S dL_common_15 rfl (lv_at hl 2 rfl) ?_
      refine zv_ineg S dL_common_16 ?_
      refine zv_goto (tgt := 21) S dL_common_17 (by decide) ?_
      refine zv_istore_n (lv' := [(3, .int (zI (-y))), (2, .int (zI (-x))), (0, .int (zI x)), (1, .int (zI y))]) S dL_common_21 rfl hl (by decide) rfl (fun ls hl => ?_)
      have LP22 : ∀ (nf : Nat) (a : Nat) (b : Nat) (u1 : Int) (u2 : Int) (hu1 : u1 = (a : Int)) (hu2 : u2 = (b : Int)) (hg : Nat.gcd a b = Nat.gcd x.natAbs y.natAbs) (ha : a ≤ 60 ∧ b ≤ 60), b < nf → ∀ (H : Heap) (locs : List Loc), va_P G.1 vwCl [] H → va_D A [] → va_S A s.heap H locs → ∀ ls : Array Slot, lv_has ls 5 [(3, .int (zI u2)), (2, .int (zI u1)), (0, .int (zI x)), (1, .int (zI y))] → W p l e ({ frames := 0, cells := 0, slots := 0, locals := 0 }) s m ([.int (zI x), .int (zI y)]).toArray below meth c H locs 0 0 Q (F0 m 22 ls []) := by
        intro nf
        induction nf with
        | zero =>
          intro a b u1 u2 hu1 hu2 hg ha hf
          exact absurd hf (Nat.not_lt_zero _)
        | succ nf ih22 =>
          intro a b u1 u2 hu1 hu2 hg ha hf H locs hP hD hS ls hl
          refine zv_iload_n S dL_common_22 rfl (lv_at hl 0 rfl) ?_
          refine zv_if_eq (tgt := 39) S (by unfold zR; omega) dL_common_23 (by decide) (fun c_7 => ?_) (fun c_7 => ?_)
          · refine zv_iload_n S dL_common_39 rfl (lv_at hl 1 rfl) ?_
            exact hret _ _ _ _ _ () dL_common_40 (by unfold zg2; rw [hu1, ← hg, show b = 0 by omega, Nat.gcd_zero_right]) (hP.sub [] rfl) (hD.sub [] (by decide) rfl) hS
          · refine zv_iload_n S dL_common_26 rfl (lv_at hl 1 rfl) ?_
            refine zv_iload_n S dL_common_27 rfl (lv_at hl 0 rfl) ?_
            refine zv_irem S (by unfold zR; omega) (by unfold zR; omega) (by omega) (by omega) dL_common_28 ?_
            refine zv_istore (lv' := [(4, .int (zI (u1.tmod u2))), (3, .int (zI u2)), (2, .int (zI u1)), (0, .int (zI x)), (1, .int (zI y))]) S dL_common_29 hl (by decide) rfl (fun ls hl => ?_)
            refine zv_iload_n S dL_common_31 rfl (lv_at hl 1 rfl) ?_
            refine zv_istore_n (lv' := [(2, .int (zI u2)), (4, .int (zI (u1.tmod u2))), (3, .int (zI u2)), (0, .int (zI x)), (1, .int (zI y))]) S dL_common_32 rfl hl (by decide) rfl (fun ls hl => ?_)
            refine zv_iload S dL_common_33 (lv_at hl 1 rfl) ?_
            refine zv_istore_n (lv' := [(3, .int (zI (u1.tmod u2))), (2, .int (zI u2)), (4, .int (zI (u1.tmod u2))), (0, .int (zI x)), (1, .int (zI y))]) S dL_common_35 rfl hl (by decide) rfl (fun ls hl => ?_)
            refine zv_goto (tgt := 22) S dL_common_36 (by decide) ?_
            exact ih22 b (a % b) u2 (u1.tmod u2) hu2 (by rw [hu1, hu2]; exact ztmod_nat a b) (zgcd_step.trans hg) (by have := Nat.mod_lt a (show 0 < b by omega); omega) (by have := Nat.mod_lt a (show 0 < b by omega); omega) _ _ hP hD hS _ (lv_sub hl [0, 1, 3, 4] rfl)
      exact LP22 _ x.natAbs y.natAbs (-x) (-y) (by omega) (by omega) rfl (by omega) (Nat.lt_succ_self _) _ _ hP hD hS _ (lv_sub hl [0, 1, 2, 3] rfl)

theorem wd_L_drawn_k7 : Cond.constant RL 7 (60317) ∈ wsL_drawn := by decide +kernel
set_option maxHeartbeats 4000000 in
set_option maxRecDepth 100000 in
/-- the law: drawn -/
theorem c_L_drawn (l : Launch) (hl0 : l.stackTraces = false) (G : zG) (sz : Nat) (bt : Nat) (L : Nat) (sx : Nat → Int) (pl : Int) (ch : Int) (hL : L ≤ 260) (hpl : 0 ≤ pl ∧ pl ≤ 1000) (hch : 1 ≤ ch ∧ ch ≤ 1000) : Met l yL_drawn wsL_drawn ({ frames := 1, cells := 0, slots := 0, locals := 0 }) (va_Pc [.ref bt, .int (zI pl), .int (zI ch)] (zPt G sz bt L sx [])) (va_Qi (fun (r : Int32) (u : (Int)) => r = zI u ∧ (0 ≤ u ∧ u < ch)) (fun u => zW G (va_A [] sz) ((fun (u : (Int)) => []) u)) (va_A [] sz)) 0 0 (va_A [] sz) := by
  refine zMt_i (post := fun (r : Int32) (u : (Int)) => r = zI u ∧ (0 ≤ u ∧ u < ch)) (w1 := fun (u : (Int)) => []) (plainFor_of_name (by decide)) rfl (Nat.le_of_ble_eq_true rfl) ?_
  intro p e s m below meth c A Q S hN hK hP hD hS hA hE0 hX hbl hbA hret ls hl
  have hl : lv_has ls 4 [(0, .ref bt), (1, .int (zI pl)), (2, .int (zI ch))] := hl
  refine zv_iload_n S dL_drawn_0 rfl (lv_at hl 1 rfl) ?_
  have JN20 : ∀ (its : Int) (H : Heap) (locs : List Loc), va_P G.1 vwCl [] H → va_D A [] → va_S A s.heap H locs → ∀ ls : Array Slot, lv_has ls 4 [(0, .ref bt), (1, .int (zI pl)), (2, .int (zI ch))] → W p l e ({ frames := 1, cells := 0, slots := 0, locals := 0 }) s m ([.ref bt, .int (zI pl), .int (zI ch)]).toArray below meth c H locs 0 0 Q (F0 m 20 ls [.int (zI its)]) := by
    intro its H locs hP hD hS ls hl
    refine zv_istore_n (lv' := [(3, .int (zI its)), (0, .ref bt), (1, .int (zI pl)), (2, .int (zI ch))]) S dL_drawn_20 rfl hl (by decide) rfl (fun ls hl => ?_)
    refine zv_iload_n S dL_drawn_21 rfl (lv_at hl 0 rfl) ?_
    refine zv_iconst S dL_drawn_22 ?_
    refine zv_iushr1 S dL_drawn_23 (fun v_1 hv_1 gv_1 => ?_)
    refine zv_iload_n S dL_drawn_24 rfl (lv_at hl 3 rfl) ?_
    have hm_ := zmod_lt (x := v_1) (m := ch) (by omega) (by omega)
    refine zv_irem S (by unfold zR; omega) (by unfold zR; omega) (by omega) (by omega) dL_drawn_25 ?_
    exact hret _ _ _ _ _ (v_1.tmod ch) dL_drawn_26 ⟨rfl, (show 0 ≤ (v_1.tmod ch) ∧ (v_1.tmod ch) < ch from hm_)⟩ (hP.sub [] rfl) (hD.sub [] (by decide) rfl) hS
  refine zv_aload_n S dL_drawn_1 rfl (lv_at hl 0 rfl) ?_
  refine zv_slen S hX hbl hbA hS dL_drawn_2 ?_
  refine zv_icmp_ge (tgt := 12) S (by unfold zR; omega) (by unfold zR; omega) dL_drawn_3 (by decide) (fun c_2 => ?_) (fun c_2 => ?_)
  · refine zv_ldc (v := 60317) S wd_L_drawn_k7 (by decide) dL_drawn_12 ?_
    refine zv_iload_n S dL_drawn_14 rfl (lv_at hl 1 rfl) ?_
    refine zv_imul S dL_drawn_15 ?_
    refine zv_sipush (v := 12907) S dL_drawn_16 (by decide) ?_
    refine zv_iadd S dL_drawn_19 ?_
    exact JN20 ((60317 * pl) + 12907)  _ _ hP hD hS _ (lv_sub hl [0, 1, 2] rfl)
  · refine zv_aload_n S dL_drawn_6 rfl (lv_at hl 0 rfl) ?_
    refine zv_iload_n S dL_drawn_7 rfl (lv_at hl 1 rfl) ?_
    refine zv_sld S hX hbl hbA hS pl.toNat (by omega) (by omega) (by omega) dL_drawn_8 ?_
    refine zv_goto (tgt := 20) S dL_drawn_9 (by decide) ?_
    exact JN20 (sx pl.toNat)  _ _ hP hD hS _ (lv_sub hl [0, 1, 2] rfl)

theorem wd_L_cuts_ct14 : Cond.classLink RL 14 zIS ∈ wsL_cuts := by decide +kernel
set_option maxHeartbeats 4000000 in
set_option maxRecDepth 100000 in
/-- the law: cuts -/
theorem c_L_cuts (l : Launch) (hl0 : l.stackTraces = false) (G : zG) (sz : Nat) (h0 : Nat) (qs : Nat) (hr : Nat) (hc : Nat) (hk : Nat) (SF : Nat → Option Nat) (h1 : Nat) (qa : Nat) (qb : Nat) (qc : Nat) (qe : Nat) (fa : Nat → Int) (fb : Nat → Int) (fc : Nat → Int) (fe : Nat → Int) (k : Nat) (on : Int) (sm : Int) (ot : Int) (mr : Int) (dv : Int) (hsf : SF 0 = some h1) (I : zqI fa fb fc fe k) (hon : 0 ≤ on ∧ on < (k : Int)) (hot : 0 ≤ ot ∧ ot < (k : Int)) (hzc : zcok sm mr dv) : Met l yL_cuts wsL_cuts ({ frames := 8, cells := 7, slots := 42, locals := 140 }) (va_Pc [.ref h0, .int (zI on), .int (zI sm), .int (zI ot), .int (zI mr), .int (zI dv)] (zPx G sz [(h0, .inr (4, [.ref qs, .int (zI 1), .ref hr, .ref hc, .ref hk])), zcq G qs 8 SF, (h1, .inr (3, [.ref qa, .ref qb, .ref qc, .ref qe, .int (zI (k : Int))])), zci G qa 10 fa, zci G qb 10 fb, zci G qc 10 fc, zci G qe 10 fe])) (va_Qi (fun (r : Int32) (u : (Int) × (Nat) × (Nat → Int) × (Nat → Int) × (Nat → Int) × (Nat → Int)) => r = zI u.1 ∧ ((u.1 = (k : Int) ∧ zcut fa fb fc fe k on.toNat ot.toNat sm mr dv ∧ u.2.1 = k + 1 ∧ u.2.2.1 = zU fa k ((zcs fa on.toNat ot.toNat sm mr).tdiv dv) ∧ u.2.2.2.1 = zU fb k ((zcs fb on.toNat ot.toNat sm mr).tdiv dv) ∧ u.2.2.2.2.1 = zU fc k (zcs fc on.toNat ot.toNat sm mr / dv) ∧ u.2.2.2.2.2 = zU fe k 0) ∨ (u.1 = -1 ∧ u.2.1 = k ∧ u.2.2.1 = fa ∧ u.2.2.2.1 = fb ∧ u.2.2.2.2.1 = fc ∧ u.2.2.2.2.2 = fe))) (fun u => zW G (va_A [(h0, .inr (4, [.ref qs, .int (zI 1), .ref hr, .ref hc, .ref hk])), zcq G qs 8 SF, (h1, .inr (3, [.ref qa, .ref qb, .ref qc, .ref qe, .int (zI (k : Int))])), zci G qa 10 fa, zci G qb 10 fb, zci G qc 10 fc, zci G qe 10 fe] sz) ((fun (u : (Int) × (Nat) × (Nat → Int) × (Nat → Int) × (Nat → Int) × (Nat → Int)) => [(h0, .inr (4, [.ref qs, .int (zI 1), .ref hr, .ref hc, .ref hk])), zcq G qs 8 SF, (h1, .inr (3, [.ref qa, .ref qb, .ref qc, .ref qe, .int (zI (u.2.1 : Int))])), zci G qa 10 u.2.2.1, zci G qb 10 u.2.2.2.1, zci G qc 10 u.2.2.2.2.1, zci G qe 10 u.2.2.2.2.2]) u)) (va_A [(h0, .inr (4, [.ref qs, .int (zI 1), .ref hr, .ref hc, .ref hk])), zcq G qs 8 SF, (h1, .inr (3, [.ref qa, .ref qb, .ref qc, .ref qe, .int (zI (k : Int))])), zci G qa 10 fa, zci G qb 10 fb, zci G qc 10 fc, zci G qe 10 fe] sz)) 7 42 (va_A [(h0, .inr (4, [.ref qs, .int (zI 1), .ref hr, .ref hc, .ref hk])), zcq G qs 8 SF, (h1, .inr (3, [.ref qa, .ref qb, .ref qc, .ref qe, .int (zI (k : Int))])), zci G qa 10 fa, zci G qb 10 fb, zci G qc 10 fc, zci G qe 10 fe] sz) := by
  refine zMh_i (post := fun (r : Int32) (u : (Int) × (Nat) × (Nat → Int) × (Nat → Int) × (Nat → Int) × (Nat → Int)) => r = zI u.1 ∧ ((u.1 = (k : Int) ∧ zcut fa fb fc fe k on.toNat ot.toNat sm mr dv ∧ u.2.1 = k + 1 ∧ u.2.2.1 = zU fa k ((zcs fa on.toNat ot.toNat sm mr).tdiv dv) ∧ u.2.2.2.1 = zU fb k ((zcs fb on.toNat ot.toNat sm mr).tdiv dv) ∧ u.2.2.2.2.1 = zU fc k (zcs fc on.toNat ot.toNat sm mr / dv) ∧ u.2.2.2.2.2 = zU fe k 0) ∨ (u.1 = -1 ∧ u.2.1 = k ∧ u.2.2.1 = fa ∧ u.2.2.2.1 = fb ∧ u.2.2.2.2.1 = fc ∧ u.2.2.2.2.2 = fe))) (w1 := fun (u : (Int) × (Nat) × (Nat → Int) × (Nat → Int) × (Nat → Int) × (Nat → Int)) => [(h0, .inr (4, [.ref qs, .int (zI 1), .ref hr, .ref hc, .ref hk])), zcq G qs 8 SF, (h1, .inr (3, [.ref qa, .ref qb, .ref qc, .ref qe, .int (zI (u.2.1 : Int))])), zci G qa 10 u.2.2.1, zci G qb 10 u.2.2.2.1, zci G qc 10 u.2.2.2.2.1, zci G qe 10 u.2.2.2.2.2]) (by decide) rfl (Nat.le_of_ble_eq_true rfl) ?_
  intro p e s m below meth c A Q S hN hK hP hD hS hA hE0 htab hret ls hl
  have hl : lv_has ls 7 [(0, .ref h0), (1, .int (zI on)), (2, .int (zI sm)), (3, .int (zI ot)), (4, .int (zI mr)), (5, .int (zI dv))] := hl
  refine zv_aload_n S dL_cuts_0 rfl (lv_at hl 0 rfl) ?_
  refine zv_iconst S dL_cuts_1 ?_
  refine zv_iload_n S dL_cuts_2 rfl (lv_at hl 1 rfl) ?_
  refine zv_iload_n S dL_cuts_3 rfl (lv_at hl 2 rfl) ?_
  refine zv_iload_n S dL_cuts_4 rfl (lv_at hl 3 rfl) ?_
  refine zv_iload S dL_cuts_5 (lv_at hl 4 rfl) ?_
  refine zv_iload S dL_cuts_7 (lv_at hl 5 rfl) ?_
  refine zcx_Vi (As := [.int (zI 0), .int (zI on), .int (zI sm), .int (zI ot), .int (zI mr), .int (zI dv)]) (rest := []) (wr := []) (n := 6) S hN hK (hE0.kept hS.2.1) hP hD hS hA hl (c_X4_cut l hl0 G s.heap.size h0 qs 1 hr hc hk SF h1 qa qb qc qe fa fb fc fe k 0 on sm ot mr dv (by omega) (fun _ _ => hsf) I.1.2 (fun j hj => (I.2.1 j hj).1) (fun j hj => (I.2.1 j hj).2.1) (fun j hj => (I.2.1 j hj).2.2.1) (fun j hj => (I.2.1 j hj).2.2.2.1) (by omega) (by have := I.1.2; omega) (by unfold zcok at hzc; omega) (by have := I.1.2; omega) (by unfold zcok at hzc; omega) (by unfold zcok at hzc; omega)) gL_cuts_X4_cut rfl ⟨rfl, rfl⟩ (by decide +kernel) rfl ⟨Nat.le_of_ble_eq_true rfl, Nat.le_of_ble_eq_true rfl, Nat.le_of_ble_eq_true rfl, Nat.le_of_ble_eq_true rfl⟩ [0, 1, 2, 3, 4, 5, 6] [] rfl rfl (by decide) (by decide) (by decide) (ci := 4) rfl rfl rfl (Nat.le_of_ble_eq_true rfl) dL_cuts_9 rfl (fun E_ ce_ q_ ux_ H1 locs1 hc1 hP1 hD1 hS1 hz1 hce1 hcv1 hcl1 => ?_) (fun r_ u_1 H1 locs1 hp_2 hP1 hD1 hS1 hz1 => ?_)
  · try dsimp only at hc1 hP1 hD1
    have hP1 : va_P G.1 vwCl [(h0, .inr (4, [.ref qs, .int (zI 1), .ref hr, .ref hc, .ref hk])), zcq G qs 8 SF, (h1, .inr (3, [.ref qa, .ref qb, .ref qc, .ref qe, .int (zI (k : Int))])), zci G qa 10 fa, zci G qb 10 fb, zci G qc 10 fc, zci G qe 10 fe] H1 := hP1
    have hD1 : va_D A [(h0, .inr (4, [.ref qs, .int (zI 1), .ref hr, .ref hc, .ref hk])), zcq G qs 8 SF, (h1, .inr (3, [.ref qa, .ref qb, .ref qc, .ref qe, .int (zI (k : Int))])), zci G qa 10 fa, zci G qb 10 fb, zci G qc 10 fc, zci G qe 10 fe] := hD1
    rcases hc1 with ⟨rfl, hx_0⟩ | ⟨rfl, hx_1⟩ | ⟨rfl, hx_2⟩
    · exact absurd ⟨⟨by omega, by omega⟩, hon, hot⟩ hx_0
    · exact absurd hzc hx_1.2.2
    · refine zcatch S htab hE0 [] [] rfl (by decide) (by decide) wd_L_cuts_ct14 (Or.inr (Or.inr rfl)) (fun _ h => absurd h List.not_mem_nil) hce1 hcv1 hcl1 ?_
      generalize H1 = H at hP1 hD1 hS1 hz1 ⊢
      generalize locs1 = locs at hS1 ⊢
      have hS := hS1
      have hP : va_P G.1 vwCl [(h0, .inr (4, [.ref qs, .int (zI 1), .ref hr, .ref hc, .ref hk])), zcq G qs 8 SF, (h1, .inr (3, [.ref qa, .ref qb, .ref qc, .ref qe, .int (zI (k : Int))])), zci G qa 10 fa, zci G qb 10 fb, zci G qc 10 fc, zci G qe 10 fe] H := hP1
      have hD : va_D A [(h0, .inr (4, [.ref qs, .int (zI 1), .ref hr, .ref hc, .ref hk])), zcq G qs 8 SF, (h1, .inr (3, [.ref qa, .ref qb, .ref qc, .ref qe, .int (zI (k : Int))])), zci G qa 10 fa, zci G qb 10 fb, zci G qc 10 fc, zci G qe 10 fe] := hD1
      refine zv_astore (lv' := [(6, .ref q_), (0, .ref h0), (1, .int (zI on)), (2, .int (zI sm)), (3, .int (zI ot)), (4, .int (zI mr)), (5, .int (zI dv))]) S dL_cuts_13 hl (by decide) rfl (fun ls hl => ?_)
      refine zv_iconst S dL_cuts_15 ?_
      exact hret _ _ _ _ _ ⟨(-1), k, fa, fb, fc, fe⟩ dL_cuts_16 ⟨rfl, (show ((-1) = (k : Int) ∧ zcut fa fb fc fe k on.toNat ot.toNat sm mr dv ∧ k = k + 1 ∧ fa = zU fa k ((zcs fa on.toNat ot.toNat sm mr).tdiv dv) ∧ fb = zU fb k ((zcs fb on.toNat ot.toNat sm mr).tdiv dv) ∧ fc = zU fc k (zcs fc on.toNat ot.toNat sm mr / dv) ∧ fe = zU fe k 0) ∨ ((-1) = -1 ∧ k = k ∧ fa = fa ∧ fb = fb ∧ fc = fc ∧ fe = fe) from (Or.inr ⟨rfl, rfl, rfl, rfl, rfl, rfl⟩))⟩ (hP.sub [0, 1, 2, 3, 4, 5, 6] rfl) (hD.sub [0, 1, 2, 3, 4, 5, 6] (by decide) rfl) hS
  try dsimp only at hp_2 hP1 hD1
  obtain ⟨rfl, hpo_3⟩ := hp_2
  generalize H1 = H at hP1 hD1 hS1 hz1 ⊢
  generalize locs1 = locs at hS1 ⊢
  have hS := hS1
  have hP : va_P G.1 vwCl [(h0, .inr (4, [.ref qs, .int (zI 1), .ref hr, .ref hc, .ref hk])), zcq G qs 8 SF, (h1, .inr (3, [.ref qa, .ref qb, .ref qc, .ref qe, .int (zI ((k : Int) + 1))])), zci G qa 10 (zU fa k ((zcs fa on.toNat ot.toNat sm mr).tdiv dv)), zci G qb 10 (zU fb k ((zcs fb on.toNat ot.toNat sm mr).tdiv dv)), zci G qc 10 (zU fc k ((zcs fc on.toNat ot.toNat sm mr) / dv)), zci G qe 10 (zU fe k 0)] H := hP1
  have hD : va_D A [(h0, .inr (4, [.ref qs, .int (zI 1), .ref hr, .ref hc, .ref hk])), zcq G qs 8 SF, (h1, .inr (3, [.ref qa, .ref qb, .ref qc, .ref qe, .int (zI ((k : Int) + 1))])), zci G qa 10 (zU fa k ((zcs fa on.toNat ot.toNat sm mr).tdiv dv)), zci G qb 10 (zU fb k ((zcs fb on.toNat ot.toNat sm mr).tdiv dv)), zci G qc 10 (zU fc k ((zcs fc on.toNat ot.toNat sm mr) / dv)), zci G qe 10 (zU fe k 0)] := hD1
  exact hret _ _ _ _ _ ⟨(k : Int), (k + 1), (zU fa k ((zcs fa on.toNat ot.toNat sm mr).tdiv dv)), (zU fb k ((zcs fb on.toNat ot.toNat sm mr).tdiv dv)), (zU fc k (zcs fc on.toNat ot.toNat sm mr / dv)), (zU fe k 0)⟩ dL_cuts_12 ⟨rfl, (show ((k : Int) = (k : Int) ∧ zcut fa fb fc fe k on.toNat ot.toNat sm mr dv ∧ (k + 1) = k + 1 ∧ (zU fa k ((zcs fa on.toNat ot.toNat sm mr).tdiv dv)) = zU fa k ((zcs fa on.toNat ot.toNat sm mr).tdiv dv) ∧ (zU fb k ((zcs fb on.toNat ot.toNat sm mr).tdiv dv)) = zU fb k ((zcs fb on.toNat ot.toNat sm mr).tdiv dv) ∧ (zU fc k (zcs fc on.toNat ot.toNat sm mr / dv)) = zU fc k (zcs fc on.toNat ot.toNat sm mr / dv) ∧ (zU fe k 0) = zU fe k 0) ∨ ((k : Int) = -1 ∧ (k + 1) = k ∧ (zU fa k ((zcs fa on.toNat ot.toNat sm mr).tdiv dv)) = fa ∧ (zU fb k ((zcs fb on.toNat ot.toNat sm mr).tdiv dv)) = fb ∧ (zU fc k (zcs fc on.toNat ot.toNat sm mr / dv)) = fc ∧ (zU fe k 0) = fe) from (Or.inl ⟨rfl, hpo_3.2.2.2, rfl, rfl, rfl, rfl, rfl⟩))⟩ (hP.sub [0, 1, 2, 3, 4, 5, 6] rfl) (hD.sub [0, 1, 2, 3, 4, 5, 6] (by decide) rfl) hS

theorem wd_L_moves_ct14 : Cond.classLink RL 14 zIS ∈ wsL_moves := by decide +kernel
set_option maxHeartbeats 4000000 in
set_option maxRecDepth 100000 in
/-- the law: moves -/
theorem c_L_moves (l : Launch) (hl0 : l.stackTraces = false) (G : zG) (sz : Nat) (h0 : Nat) (qs : Nat) (hr : Nat) (hc : Nat) (hk : Nat) (SF : Nat → Option Nat) (h1 : Nat) (qa : Nat) (qb : Nat) (qc : Nat) (qe : Nat) (fa : Nat → Int) (fb : Nat → Int) (fc : Nat → Int) (fe : Nat → Int) (k : Nat) (its : Int) (hsf : SF 0 = some h1) (I : zqI fa fb fc fe k) (hits : 0 ≤ its ∧ its ≤ 2) : Met l yL_moves wsL_moves ({ frames := 8, cells := 3, slots := 18, locals := 135 }) (va_Pc [.ref h0, .int (zI its)] (zPx G sz [(h0, .inr (4, [.ref qs, .int (zI 1), .ref hr, .ref hc, .ref hk])), zcq G qs 8 SF, (h1, .inr (3, [.ref qa, .ref qb, .ref qc, .ref qe, .int (zI (k : Int))])), zci G qa 10 fa, zci G qb 10 fb, zci G qc 10 fc, zci G qe 10 fe])) (va_Qi (fun (r : Int32) (u : (Int) × (Nat → Int) × (Nat → Int)) => r = zI u.1 ∧ ((u.1 = (k : Int) ∧ (its = 1 → zsl fa fb k) ∧ zmvC its fa fb k u.2.1 u.2.2) ∨ (u.1 = -1 ∧ u.2.1 = fa ∧ u.2.2 = fb))) (fun u => zW G (va_A [(h0, .inr (4, [.ref qs, .int (zI 1), .ref hr, .ref hc, .ref hk])), zcq G qs 8 SF, (h1, .inr (3, [.ref qa, .ref qb, .ref qc, .ref qe, .int (zI (k : Int))])), zci G qa 10 fa, zci G qb 10 fb, zci G qc 10 fc, zci G qe 10 fe] sz) ((fun (u : (Int) × (Nat → Int) × (Nat → Int)) => [(h0, .inr (4, [.ref qs, .int (zI 1), .ref hr, .ref hc, .ref hk])), zcq G qs 8 SF, (h1, .inr (3, [.ref qa, .ref qb, .ref qc, .ref qe, .int (zI (k : Int))])), zci G qa 10 u.2.1, zci G qb 10 u.2.2, zci G qc 10 fc, zci G qe 10 fe]) u)) (va_A [(h0, .inr (4, [.ref qs, .int (zI 1), .ref hr, .ref hc, .ref hk])), zcq G qs 8 SF, (h1, .inr (3, [.ref qa, .ref qb, .ref qc, .ref qe, .int (zI (k : Int))])), zci G qa 10 fa, zci G qb 10 fb, zci G qc 10 fc, zci G qe 10 fe] sz)) 3 18 (va_A [(h0, .inr (4, [.ref qs, .int (zI 1), .ref hr, .ref hc, .ref hk])), zcq G qs 8 SF, (h1, .inr (3, [.ref qa, .ref qb, .ref qc, .ref qe, .int (zI (k : Int))])), zci G qa 10 fa, zci G qb 10 fb, zci G qc 10 fc, zci G qe 10 fe] sz) := by
  refine zMh_i (post := fun (r : Int32) (u : (Int) × (Nat → Int) × (Nat → Int)) => r = zI u.1 ∧ ((u.1 = (k : Int) ∧ (its = 1 → zsl fa fb k) ∧ zmvC its fa fb k u.2.1 u.2.2) ∨ (u.1 = -1 ∧ u.2.1 = fa ∧ u.2.2 = fb))) (w1 := fun (u : (Int) × (Nat → Int) × (Nat → Int)) => [(h0, .inr (4, [.ref qs, .int (zI 1), .ref hr, .ref hc, .ref hk])), zcq G qs 8 SF, (h1, .inr (3, [.ref qa, .ref qb, .ref qc, .ref qe, .int (zI (k : Int))])), zci G qa 10 u.2.1, zci G qb 10 u.2.2, zci G qc 10 fc, zci G qe 10 fe]) (by decide) rfl (Nat.le_of_ble_eq_true rfl) ?_
  intro p e s m below meth c A Q S hN hK hP hD hS hA hE0 htab hret ls hl
  have hl : lv_has ls 3 [(0, .ref h0), (1, .int (zI its))] := hl
  refine zv_aload_n S dL_moves_0 rfl (lv_at hl 0 rfl) ?_
  refine zv_iconst S dL_moves_1 ?_
  refine zv_iload_n S dL_moves_2 rfl (lv_at hl 1 rfl) ?_
  refine zcx_Vi (As := [.int (zI 0), .int (zI its)]) (rest := []) (wr := [zci G qc 10 fc, zci G qe 10 fe]) (n := 2) S hN hK (hE0.kept hS.2.1) hP hD hS hA hl (c_X4_move l hl0 G s.heap.size h0 qs 1 hr hc hk SF h1 qa qb qc qe fa fb k 0 its (by omega) (fun _ _ => hsf) I.1.2 (fun j hj => (I.2.1 j hj).1) (fun j hj => (I.2.1 j hj).2.1) (by omega) (by omega)) gL_moves_X4_move rfl ⟨rfl, rfl⟩ (by decide +kernel) rfl ⟨Nat.le_of_ble_eq_true rfl, Nat.le_of_ble_eq_true rfl, Nat.le_of_ble_eq_true rfl, Nat.le_of_ble_eq_true rfl⟩ [0, 1, 2, 3, 4] [5, 6] rfl rfl (by decide) (by decide) (by decide) (ci := 4) rfl rfl rfl (Nat.le_of_ble_eq_true rfl) dL_moves_3 rfl (fun E_ ce_ q_ ux_ H1 locs1 hc1 hP1 hD1 hS1 hz1 hce1 hcv1 hcl1 => ?_) (fun r_ u_1 H1 locs1 hp_2 hP1 hD1 hS1 hz1 => ?_)
  · try dsimp only at hc1 hP1 hD1
    have hP1 : va_P G.1 vwCl [zci G qc 10 fc, zci G qe 10 fe, (h0, .inr (4, [.ref qs, .int (zI 1), .ref hr, .ref hc, .ref hk])), zcq G qs 8 SF, (h1, .inr (3, [.ref qa, .ref qb, .ref qc, .ref qe, .int (zI (k : Int))])), zci G qa 10 fa, zci G qb 10 fb] H1 := hP1
    have hD1 : va_D A [zci G qc 10 fc, zci G qe 10 fe, (h0, .inr (4, [.ref qs, .int (zI 1), .ref hr, .ref hc, .ref hk])), zcq G qs 8 SF, (h1, .inr (3, [.ref qa, .ref qb, .ref qc, .ref qe, .int (zI (k : Int))])), zci G qa 10 fa, zci G qb 10 fb] := hD1
    rcases hc1 with ⟨rfl, hx_0⟩ | ⟨rfl, hx_1⟩ | ⟨rfl, hx_2⟩
    · exact absurd ⟨by omega, by omega⟩ hx_0
    · exact absurd hits hx_1.2
    · refine zcatch S htab hE0 [] [] rfl (by decide) (by decide) wd_L_moves_ct14 (Or.inr (Or.inr rfl)) (fun _ h => absurd h List.not_mem_nil) hce1 hcv1 hcl1 ?_
      generalize H1 = H at hP1 hD1 hS1 hz1 ⊢
      generalize locs1 = locs at hS1 ⊢
      have hS := hS1
      have hP : va_P G.1 vwCl [zci G qc 10 fc, zci G qe 10 fe, (h0, .inr (4, [.ref qs, .int (zI 1), .ref hr, .ref hc, .ref hk])), zcq G qs 8 SF, (h1, .inr (3, [.ref qa, .ref qb, .ref qc, .ref qe, .int (zI (k : Int))])), zci G qa 10 fa, zci G qb 10 fb] H := hP1
      have hD : va_D A [zci G qc 10 fc, zci G qe 10 fe, (h0, .inr (4, [.ref qs, .int (zI 1), .ref hr, .ref hc, .ref hk])), zcq G qs 8 SF, (h1, .inr (3, [.ref qa, .ref qb, .ref qc, .ref qe, .int (zI (k : Int))])), zci G qa 10 fa, zci G qb 10 fb] := hD1
      refine zv_astore_n (lv' := [(2, .ref q_), (0, .ref h0), (1, .int (zI its))]) S dL_moves_7 rfl hl (by decide) rfl (fun ls hl => ?_)
      refine zv_iconst S dL_moves_8 ?_
      exact hret _ _ _ _ _ ⟨(-1), fa, fb⟩ dL_moves_9 ⟨rfl, (show ((-1) = (k : Int) ∧ (its = 1 → zsl fa fb k) ∧ zmvC its fa fb k fa fb) ∨ ((-1) = -1 ∧ fa = fa ∧ fb = fb) from (Or.inr ⟨rfl, rfl, rfl⟩))⟩ (hP.sub [2, 3, 4, 5, 6, 0, 1] rfl) (hD.sub [2, 3, 4, 5, 6, 0, 1] (by decide) rfl) hS
  obtain ⟨fa1_3, fb1_4⟩ := u_1
  try dsimp only at hp_2 hP1 hD1
  obtain ⟨rfl, hpo_5, hmv_6⟩ := hp_2
  generalize H1 = H at hP1 hD1 hS1 hz1 ⊢
  generalize locs1 = locs at hS1 ⊢
  have hS := hS1
  have hP : va_P G.1 vwCl [zci G qc 10 fc, zci G qe 10 fe, (h0, .inr (4, [.ref qs, .int (zI 1), .ref hr, .ref hc, .ref hk])), zcq G qs 8 SF, (h1, .inr (3, [.ref qa, .ref qb, .ref qc, .ref qe, .int (zI (k : Int))])), zci G qa 10 fa1_3, zci G qb 10 fb1_4] H := hP1
  have hD : va_D A [zci G qc 10 fc, zci G qe 10 fe, (h0, .inr (4, [.ref qs, .int (zI 1), .ref hr, .ref hc, .ref hk])), zcq G qs 8 SF, (h1, .inr (3, [.ref qa, .ref qb, .ref qc, .ref qe, .int (zI (k : Int))])), zci G qa 10 fa1_3, zci G qb 10 fb1_4] := hD1
  have hP : va_P G.1 vwCl [(h0, .inr (4, [.ref qs, .int (zI 1), .ref hr, .ref hc, .ref hk])), zcq G qs 8 SF, (h1, .inr (3, [.ref qa, .ref qb, .ref qc, .ref qe, .int (zI (k : Int))])), zci G qa 10 fa1_3, zci G qb 10 fb1_4, zci G qc 10 fc, zci G qe 10 fe] H := hP.sub [2, 3, 4, 5, 6, 0, 1] rfl
  have hD : va_D A [(h0, .inr (4, [.ref qs, .int (zI 1), .ref hr, .ref hc, .ref hk])), zcq G qs 8 SF, (h1, .inr (3, [.ref qa, .ref qb, .ref qc, .ref qe, .int (zI (k : Int))])), zci G qa 10 fa1_3, zci G qb 10 fb1_4, zci G qc 10 fc, zci G qe 10 fe] := hD.sub [2, 3, 4, 5, 6, 0, 1] (by decide) rfl
  exact hret _ _ _ _ _ ⟨(k : Int), fa1_3, fb1_4⟩ dL_moves_6 ⟨rfl, (show ((k : Int) = (k : Int) ∧ (its = 1 → zsl fa fb k) ∧ zmvC its fa fb k fa1_3 fb1_4) ∨ ((k : Int) = -1 ∧ fa1_3 = fa ∧ fb1_4 = fb) from (Or.inl ⟨rfl, hpo_5.2.2, hmv_6⟩))⟩ (hP.sub [0, 1, 2, 3, 4, 5, 6] rfl) (hD.sub [0, 1, 2, 3, 4, 5, 6] (by decide) rfl) hS

theorem wd_L_best_ct14 : Cond.classLink RL 14 zIS ∈ wsL_best := by decide +kernel
theorem wd_L_best_k24 : Cond.constant RL 24 (-1000000) ∈ wsL_best := by decide +kernel
set_option maxHeartbeats 4000000 in
set_option maxRecDepth 100000 in
/-- the law: best -/
theorem c_L_best (l : Launch) (hl0 : l.stackTraces = false) (G : zG) (sz : Nat) (h0 : Nat) (qs : Nat) (hr : Nat) (hc : Nat) (hk : Nat) (SF : Nat → Option Nat) (h1 : Nat) (qa : Nat) (qb : Nat) (qc : Nat) (qe : Nat) (fa : Nat → Int) (fb : Nat → Int) (fc : Nat → Int) (fe : Nat → Int) (k : Nat) (ra : Nat) (rb : Nat) (rc : Nat) (P : Nat → Int) (Qu : Nat → Int) (M : Nat → Int) (kk : Int) (f0 : Int) (l0 : Int) (b0 : Int) (t0 : Int) (x0 : Int) (y0 : Int) (lt : Int) (pp : Int) (qq : Int) (wt : Int) (hsf : SF 0 = some h1) (I : zqI fa fb fc fe k) (hbo : zbok lt pp qq wt) : Met l yL_best wsL_best ({ frames := 8, cells := 7, slots := 42, locals := 138 }) (va_Pc [.ref h0, .int (zI lt), .int (zI pp), .int (zI qq), .int (zI wt)] (zPx G sz [(h0, .inr (4, [.ref qs, .int (zI 1), .ref hr, .ref hc, .ref hk])), zcq G qs 8 SF, (h1, .inr (3, [.ref qa, .ref qb, .ref qc, .ref qe, .int (zI (k : Int))])), zci G qa 10 fa, zci G qb 10 fb, zci G qc 10 fc, zci G qe 10 fe, (hr, .inr (2, [.ref ra, .ref rb, .ref rc, .int (zI kk), .int (zI f0), .int (zI l0), .int (zI b0), .int (zI t0), .int (zI x0), .int (zI y0)])), zci G ra 10 P, zci G rb 10 Qu, zci G rc 10 M])) (va_Qi (fun (r : Int32) (u : (Int) × (Nat → Int) × (Nat → Int) × (Nat → Int) × (Int) × (Int) × (Int) × (Int) × (Int) × (Int) × (Int)) => r = zI u.1 ∧ ((u.1 = -1000000 ∧ znone fa fb (fun j => 1 * fc j + lt * fe j) k 2000001) ∨ ∃ bx bY, zbestc fa fb (fun j => 1 * fc j + lt * fe j) k pp qq 2000001 bx bY ∧ u.1 = zwhat (pp * bx + qq * bY) bx bY wt)) (fun u => zW G (va_A [(h0, .inr (4, [.ref qs, .int (zI 1), .ref hr, .ref hc, .ref hk])), zcq G qs 8 SF, (h1, .inr (3, [.ref qa, .ref qb, .ref qc, .ref qe, .int (zI (k : Int))])), zci G qa 10 fa, zci G qb 10 fb, zci G qc 10 fc, zci G qe 10 fe, (hr, .inr (2, [.ref ra, .ref rb, .ref rc, .int (zI kk), .int (zI f0), .int (zI l0), .int (zI b0), .int (zI t0), .int (zI x0), .int (zI y0)])), zci G ra 10 P, zci G rb 10 Qu, zci G rc 10 M] sz) ((fun (u : (Int) × (Nat → Int) × (Nat → Int) × (Nat → Int) × (Int) × (Int) × (Int) × (Int) × (Int) × (Int) × (Int)) => [(h0, .inr (4, [.ref qs, .int (zI 1), .ref hr, .ref hc, .ref hk])), zcq G qs 8 SF, (h1, .inr (3, [.ref qa, .ref qb, .ref qc, .ref qe, .int (zI (k : Int))])), zci G qa 10 fa, zci G qb 10 fb, zci G qc 10 fc, zci G qe 10 fe, (hr, .inr (2, [.ref ra, .ref rb, .ref rc, .int (zI u.2.2.2.2.1), .int (zI u.2.2.2.2.2.1), .int (zI u.2.2.2.2.2.2.1), .int (zI u.2.2.2.2.2.2.2.1), .int (zI u.2.2.2.2.2.2.2.2.1), .int (zI u.2.2.2.2.2.2.2.2.2.1), .int (zI u.2.2.2.2.2.2.2.2.2.2)])), zci G ra 10 u.2.1, zci G rb 10 u.2.2.1, zci G rc 10 u.2.2.2.1]) u)) (va_A [(h0, .inr (4, [.ref qs, .int (zI 1), .ref hr, .ref hc, .ref hk])), zcq G qs 8 SF, (h1, .inr (3, [.ref qa, .ref qb, .ref qc, .ref qe, .int (zI (k : Int))])), zci G qa 10 fa, zci G qb 10 fb, zci G qc 10 fc, zci G qe 10 fe, (hr, .inr (2, [.ref ra, .ref rb, .ref rc, .int (zI kk), .int (zI f0), .int (zI l0), .int (zI b0), .int (zI t0), .int (zI x0), .int (zI y0)])), zci G ra 10 P, zci G rb 10 Qu, zci G rc 10 M] sz)) 7 42 (va_A [(h0, .inr (4, [.ref qs, .int (zI 1), .ref hr, .ref hc, .ref hk])), zcq G qs 8 SF, (h1, .inr (3, [.ref qa, .ref qb, .ref qc, .ref qe, .int (zI (k : Int))])), zci G qa 10 fa, zci G qb 10 fb, zci G qc 10 fc, zci G qe 10 fe, (hr, .inr (2, [.ref ra, .ref rb, .ref rc, .int (zI kk), .int (zI f0), .int (zI l0), .int (zI b0), .int (zI t0), .int (zI x0), .int (zI y0)])), zci G ra 10 P, zci G rb 10 Qu, zci G rc 10 M] sz) := by
  refine zMh_i (post := fun (r : Int32) (u : (Int) × (Nat → Int) × (Nat → Int) × (Nat → Int) × (Int) × (Int) × (Int) × (Int) × (Int) × (Int) × (Int)) => r = zI u.1 ∧ ((u.1 = -1000000 ∧ znone fa fb (fun j => 1 * fc j + lt * fe j) k 2000001) ∨ ∃ bx bY, zbestc fa fb (fun j => 1 * fc j + lt * fe j) k pp qq 2000001 bx bY ∧ u.1 = zwhat (pp * bx + qq * bY) bx bY wt)) (w1 := fun (u : (Int) × (Nat → Int) × (Nat → Int) × (Nat → Int) × (Int) × (Int) × (Int) × (Int) × (Int) × (Int) × (Int)) => [(h0, .inr (4, [.ref qs, .int (zI 1), .ref hr, .ref hc, .ref hk])), zcq G qs 8 SF, (h1, .inr (3, [.ref qa, .ref qb, .ref qc, .ref qe, .int (zI (k : Int))])), zci G qa 10 fa, zci G qb 10 fb, zci G qc 10 fc, zci G qe 10 fe, (hr, .inr (2, [.ref ra, .ref rb, .ref rc, .int (zI u.2.2.2.2.1), .int (zI u.2.2.2.2.2.1), .int (zI u.2.2.2.2.2.2.1), .int (zI u.2.2.2.2.2.2.2.1), .int (zI u.2.2.2.2.2.2.2.2.1), .int (zI u.2.2.2.2.2.2.2.2.2.1), .int (zI u.2.2.2.2.2.2.2.2.2.2)])), zci G ra 10 u.2.1, zci G rb 10 u.2.2.1, zci G rc 10 u.2.2.2.1]) (by decide) rfl (Nat.le_of_ble_eq_true rfl) ?_
  intro p e s m below meth c A Q S hN hK hP hD hS hA hE0 htab hret ls hl
  have hl : lv_has ls 6 [(0, .ref h0), (1, .int (zI lt)), (2, .int (zI pp)), (3, .int (zI qq)), (4, .int (zI wt))] := hl
  refine zv_aload_n S dL_best_0 rfl (lv_at hl 0 rfl) ?_
  refine zv_iconst S dL_best_1 ?_
  refine zv_iload_n S dL_best_2 rfl (lv_at hl 1 rfl) ?_
  refine zv_iload_n S dL_best_3 rfl (lv_at hl 2 rfl) ?_
  refine zv_iload_n S dL_best_4 rfl (lv_at hl 3 rfl) ?_
  refine zv_iload S dL_best_5 (lv_at hl 4 rfl) ?_
  refine zcx_Vi (As := [.int (zI 0), .int (zI lt), .int (zI pp), .int (zI qq), .int (zI wt)]) (rest := []) (wr := []) (n := 5) S hN hK (hE0.kept hS.2.1) hP hD hS hA hl (c_X4_best l hl0 G s.heap.size h0 qs 1 hr hc hk SF h1 qa qb qc qe fa fb fc fe k ra rb rc P Qu M kk f0 l0 b0 t0 x0 y0 0 lt pp qq wt (by omega) (fun _ _ => hsf) I.1.2 (fun j hj => (I.2.1 j hj).1) (fun j hj => (I.2.1 j hj).2.1) (fun j hj => (I.2.1 j hj).2.2.1) (fun j hj => (I.2.1 j hj).2.2.2.1) (fun j hj => (I.2.1 j hj).2.2.2.2) (by omega) (by unfold zbok at hbo; omega) (by unfold zbok at hbo; omega) (by unfold zbok at hbo; omega) (by unfold zbok at hbo; omega)) gL_best_X4_best rfl ⟨rfl, rfl⟩ (by decide +kernel) rfl ⟨Nat.le_of_ble_eq_true rfl, Nat.le_of_ble_eq_true rfl, Nat.le_of_ble_eq_true rfl, Nat.le_of_ble_eq_true rfl⟩ [0, 1, 2, 3, 4, 5, 6, 7, 8, 9, 10] [] rfl rfl (by decide) (by decide) (by decide) (ci := 4) rfl rfl rfl (Nat.le_of_ble_eq_true rfl) dL_best_7 rfl (fun E_ ce_ q_ ux_ H1 locs1 hc1 hP1 hD1 hS1 hz1 hce1 hcv1 hcl1 => ?_) (fun r_ u_1 H1 locs1 hp_2 hP1 hD1 hS1 hz1 => ?_)
  · obtain ⟨P1_3, Q1_4, M1_5, kk1_6, f1_7, l1_8, b1_9, t1_10, x1_11, y1_12⟩ := ux_
    try dsimp only at hc1 hP1 hD1
    have hP1 : va_P G.1 vwCl [(h0, .inr (4, [.ref qs, .int (zI 1), .ref hr, .ref hc, .ref hk])), zcq G qs 8 SF, (h1, .inr (3, [.ref qa, .ref qb, .ref qc, .ref qe, .int (zI (k : Int))])), zci G qa 10 fa, zci G qb 10 fb, zci G qc 10 fc, zci G qe 10 fe, (hr, .inr (2, [.ref ra, .ref rb, .ref rc, .int (zI kk1_6), .int (zI f1_7), .int (zI l1_8), .int (zI b1_9), .int (zI t1_10), .int (zI x1_11), .int (zI y1_12)])), zci G ra 10 P1_3, zci G rb 10 Q1_4, zci G rc 10 M1_5] H1 := hP1
    have hD1 : va_D A [(h0, .inr (4, [.ref qs, .int (zI 1), .ref hr, .ref hc, .ref hk])), zcq G qs 8 SF, (h1, .inr (3, [.ref qa, .ref qb, .ref qc, .ref qe, .int (zI (k : Int))])), zci G qa 10 fa, zci G qb 10 fb, zci G qc 10 fc, zci G qe 10 fe, (hr, .inr (2, [.ref ra, .ref rb, .ref rc, .int (zI kk1_6), .int (zI f1_7), .int (zI l1_8), .int (zI b1_9), .int (zI t1_10), .int (zI x1_11), .int (zI y1_12)])), zci G ra 10 P1_3, zci G rb 10 Q1_4, zci G rc 10 M1_5] := hD1
    rcases hc1 with ⟨rfl, hx_0⟩ | ⟨rfl, hx_1⟩ | ⟨rfl, hx_2⟩ | ⟨rfl, hx_3⟩
    · exact absurd ⟨by omega, by omega⟩ hx_0
    · exact absurd hbo hx_1.2
    · refine zcatch S htab hE0 [] [] rfl (by decide) (by decide) wd_L_best_ct14 (Or.inr (Or.inr rfl)) (fun _ h => absurd h List.not_mem_nil) hce1 hcv1 hcl1 ?_
      generalize H1 = H at hP1 hD1 hS1 hz1 ⊢
      generalize locs1 = locs at hS1 ⊢
      have hS := hS1
      have hP : va_P G.1 vwCl [(h0, .inr (4, [.ref qs, .int (zI 1), .ref hr, .ref hc, .ref hk])), zcq G qs 8 SF, (h1, .inr (3, [.ref qa, .ref qb, .ref qc, .ref qe, .int (zI (k : Int))])), zci G qa 10 fa, zci G qb 10 fb, zci G qc 10 fc, zci G qe 10 fe, (hr, .inr (2, [.ref ra, .ref rb, .ref rc, .int (zI kk1_6), .int (zI f1_7), .int (zI l1_8), .int (zI b1_9), .int (zI t1_10), .int (zI x1_11), .int (zI y1_12)])), zci G ra 10 P1_3, zci G rb 10 Q1_4, zci G rc 10 M1_5] H := hP1
      have hD : va_D A [(h0, .inr (4, [.ref qs, .int (zI 1), .ref hr, .ref hc, .ref hk])), zcq G qs 8 SF, (h1, .inr (3, [.ref qa, .ref qb, .ref qc, .ref qe, .int (zI (k : Int))])), zci G qa 10 fa, zci G qb 10 fb, zci G qc 10 fc, zci G qe 10 fe, (hr, .inr (2, [.ref ra, .ref rb, .ref rc, .int (zI kk1_6), .int (zI f1_7), .int (zI l1_8), .int (zI b1_9), .int (zI t1_10), .int (zI x1_11), .int (zI y1_12)])), zci G ra 10 P1_3, zci G rb 10 Q1_4, zci G rc 10 M1_5] := hD1
      refine zv_astore (lv' := [(5, .ref q_), (0, .ref h0), (1, .int (zI lt)), (2, .int (zI pp)), (3, .int (zI qq)), (4, .int (zI wt))]) S dL_best_11 hl (by decide) rfl (fun ls hl => ?_)
      refine zv_ldc (v := (-1000000)) S wd_L_best_k24 (by decide) dL_best_13 ?_
      exact hret _ _ _ _ _ ⟨(-1000000), P1_3, Q1_4, M1_5, kk1_6, f1_7, l1_8, b1_9, t1_10, x1_11, y1_12⟩ dL_best_15 ⟨rfl, (show ((-1000000) = -1000000 ∧ znone fa fb (fun j => 1 * fc j + lt * fe j) k 2000001) ∨ ∃ bx bY, zbestc fa fb (fun j => 1 * fc j + lt * fe j) k pp qq 2000001 bx bY ∧ (-1000000) = zwhat (pp * bx + qq * bY) bx bY wt from (absurd (zqI_place I) hx_2.2.2))⟩ (hP.sub [0, 1, 2, 3, 4, 5, 6, 7, 8, 9, 10] rfl) (hD.sub [0, 1, 2, 3, 4, 5, 6, 7, 8, 9, 10] (by decide) rfl) hS
    · refine zcatch S htab hE0 [] [] rfl (by decide) (by decide) wd_L_best_ct14 (Or.inr (Or.inr rfl)) (fun _ h => absurd h List.not_mem_nil) hce1 hcv1 hcl1 ?_
      generalize H1 = H at hP1 hD1 hS1 hz1 ⊢
      generalize locs1 = locs at hS1 ⊢
      have hS := hS1
      have hP : va_P G.1 vwCl [(h0, .inr (4, [.ref qs, .int (zI 1), .ref hr, .ref hc, .ref hk])), zcq G qs 8 SF, (h1, .inr (3, [.ref qa, .ref qb, .ref qc, .ref qe, .int (zI (k : Int))])), zci G qa 10 fa, zci G qb 10 fb, zci G qc 10 fc, zci G qe 10 fe, (hr, .inr (2, [.ref ra, .ref rb, .ref rc, .int (zI kk1_6), .int (zI f1_7), .int (zI l1_8), .int (zI b1_9), .int (zI t1_10), .int (zI x1_11), .int (zI y1_12)])), zci G ra 10 P1_3, zci G rb 10 Q1_4, zci G rc 10 M1_5] H := hP1
      have hD : va_D A [(h0, .inr (4, [.ref qs, .int (zI 1), .ref hr, .ref hc, .ref hk])), zcq G qs 8 SF, (h1, .inr (3, [.ref qa, .ref qb, .ref qc, .ref qe, .int (zI (k : Int))])), zci G qa 10 fa, zci G qb 10 fb, zci G qc 10 fc, zci G qe 10 fe, (hr, .inr (2, [.ref ra, .ref rb, .ref rc, .int (zI kk1_6), .int (zI f1_7), .int (zI l1_8), .int (zI b1_9), .int (zI t1_10), .int (zI x1_11), .int (zI y1_12)])), zci G ra 10 P1_3, zci G rb 10 Q1_4, zci G rc 10 M1_5] := hD1
      refine zv_astore (lv' := [(5, .ref q_), (0, .ref h0), (1, .int (zI lt)), (2, .int (zI pp)), (3, .int (zI qq)), (4, .int (zI wt))]) S dL_best_11 hl (by decide) rfl (fun ls hl => ?_)
      refine zv_ldc (v := (-1000000)) S wd_L_best_k24 (by decide) dL_best_13 ?_
      exact hret _ _ _ _ _ ⟨(-1000000), P1_3, Q1_4, M1_5, kk1_6, f1_7, l1_8, b1_9, t1_10, x1_11, y1_12⟩ dL_best_15 ⟨rfl, (show ((-1000000) = -1000000 ∧ znone fa fb (fun j => 1 * fc j + lt * fe j) k 2000001) ∨ ∃ bx bY, zbestc fa fb (fun j => 1 * fc j + lt * fe j) k pp qq 2000001 bx bY ∧ (-1000000) = zwhat (pp * bx + qq * bY) bx bY wt from (Or.inl ⟨rfl, hx_3.2.2.2⟩))⟩ (hP.sub [0, 1, 2, 3, 4, 5, 6, 7, 8, 9, 10] rfl) (hD.sub [0, 1, 2, 3, 4, 5, 6, 7, 8, 9, 10] (by decide) rfl) hS
  obtain ⟨rr_13, P1_14, Q1_15, M1_16, kk1_17, f1_18, l1_19, b1_20, t1_21, x1_22, y1_23⟩ := u_1
  try dsimp only at hp_2 hP1 hD1
  obtain ⟨rfl, hpo_24, hbb_25⟩ := hp_2
  generalize H1 = H at hP1 hD1 hS1 hz1 ⊢
  generalize locs1 = locs at hS1 ⊢
  have hS := hS1
  have hP : va_P G.1 vwCl [(h0, .inr (4, [.ref qs, .int (zI 1), .ref hr, .ref hc, .ref hk])), zcq G qs 8 SF, (h1, .inr (3, [.ref qa, .ref qb, .ref qc, .ref qe, .int (zI (k : Int))])), zci G qa 10 fa, zci G qb 10 fb, zci G qc 10 fc, zci G qe 10 fe, (hr, .inr (2, [.ref ra, .ref rb, .ref rc, .int (zI kk1_17), .int (zI f1_18), .int (zI l1_19), .int (zI b1_20), .int (zI t1_21), .int (zI x1_22), .int (zI y1_23)])), zci G ra 10 P1_14, zci G rb 10 Q1_15, zci G rc 10 M1_16] H := hP1
  have hD : va_D A [(h0, .inr (4, [.ref qs, .int (zI 1), .ref hr, .ref hc, .ref hk])), zcq G qs 8 SF, (h1, .inr (3, [.ref qa, .ref qb, .ref qc, .ref qe, .int (zI (k : Int))])), zci G qa 10 fa, zci G qb 10 fb, zci G qc 10 fc, zci G qe 10 fe, (hr, .inr (2, [.ref ra, .ref rb, .ref rc, .int (zI kk1_17), .int (zI f1_18), .int (zI l1_19), .int (zI b1_20), .int (zI t1_21), .int (zI x1_22), .int (zI y1_23)])), zci G ra 10 P1_14, zci G rb 10 Q1_15, zci G rc 10 M1_16] := hD1
  exact hret _ _ _ _ _ ⟨rr_13, P1_14, Q1_15, M1_16, kk1_17, f1_18, l1_19, b1_20, t1_21, x1_22, y1_23⟩ dL_best_10 ⟨rfl, (show (rr_13 = -1000000 ∧ znone fa fb (fun j => 1 * fc j + lt * fe j) k 2000001) ∨ ∃ bx bY, zbestc fa fb (fun j => 1 * fc j + lt * fe j) k pp qq 2000001 bx bY ∧ rr_13 = zwhat (pp * bx + qq * bY) bx bY wt from (Or.inr hbb_25))⟩ (hP.sub [0, 1, 2, 3, 4, 5, 6, 7, 8, 9, 10] rfl) (hD.sub [0, 1, 2, 3, 4, 5, 6, 7, 8, 9, 10] (by decide) rfl) hS

theorem wd_L_gaps_ct14 : Cond.classLink RL 14 zIS ∈ wsL_gaps := by decide +kernel
set_option maxHeartbeats 4000000 in
set_option maxRecDepth 100000 in
/-- the law: gaps -/
theorem c_L_gaps (l : Launch) (hl0 : l.stackTraces = false) (G : zG) (sz : Nat) (h0 : Nat) (qs : Nat) (sc : Int) (hr : Nat) (hc : Nat) (hk : Nat) (qw : Nat) (ql : Nat) (n : Nat) (wg : Int) (hn : n < 2 ^ 60) : Met l yL_gaps wsL_gaps ({ frames := 8, cells := 3, slots := 18, locals := 132 }) (va_Pc [.ref h0] (zPx G sz [(h0, .inr (4, [.ref qs, .int (zI sc), .ref hr, .ref hc, .ref hk])), (hk, .inr (0, [.ref qw, .ref ql, .long (zL (n : Int)), .int (zI wg)]))])) (va_Qi (fun (r : Int32) (u : (Int) × (Int)) => r = zI u.1 ∧ ((u.1 = ((zcn (fun t => ¬ zpay (zkc n) t) 3601 : Nat) : Int) ∧ zgd (zkc n) 60 = 1) ∨ (u.1 = -1 ∧ ¬ zgd (zkc n) 60 = 1))) (fun u => zW G (va_A [(h0, .inr (4, [.ref qs, .int (zI sc), .ref hr, .ref hc, .ref hk])), (hk, .inr (0, [.ref qw, .ref ql, .long (zL (n : Int)), .int (zI wg)]))] sz) ((fun (u : (Int) × (Int)) => [(h0, .inr (4, [.ref qs, .int (zI sc), .ref hr, .ref hc, .ref hk])), (hk, .inr (0, [.ref qw, .ref ql, .long (zL (n : Int)), .int (zI u.2)]))]) u)) (va_A [(h0, .inr (4, [.ref qs, .int (zI sc), .ref hr, .ref hc, .ref hk])), (hk, .inr (0, [.ref qw, .ref ql, .long (zL (n : Int)), .int (zI wg)]))] sz)) 3 18 (va_A [(h0, .inr (4, [.ref qs, .int (zI sc), .ref hr, .ref hc, .ref hk])), (hk, .inr (0, [.ref qw, .ref ql, .long (zL (n : Int)), .int (zI wg)]))] sz) := by
  refine zMh_i (post := fun (r : Int32) (u : (Int) × (Int)) => r = zI u.1 ∧ ((u.1 = ((zcn (fun t => ¬ zpay (zkc n) t) 3601 : Nat) : Int) ∧ zgd (zkc n) 60 = 1) ∨ (u.1 = -1 ∧ ¬ zgd (zkc n) 60 = 1))) (w1 := fun (u : (Int) × (Int)) => [(h0, .inr (4, [.ref qs, .int (zI sc), .ref hr, .ref hc, .ref hk])), (hk, .inr (0, [.ref qw, .ref ql, .long (zL (n : Int)), .int (zI u.2)]))]) (by decide) rfl (Nat.le_of_ble_eq_true rfl) ?_
  intro p e s m below meth c A Q S hN hK hP hD hS hA hE0 htab hret ls hl
  have hl : lv_has ls 2 [(0, .ref h0)] := hl
  refine zv_aload_n S dL_gaps_0 rfl (lv_at hl 0 rfl) ?_
  refine zv_iconst S dL_gaps_1 ?_
  refine zcx_Vi (As := [.int (zI (-1))]) (rest := []) (wr := []) (n := 1) S hN hK (hE0.kept hS.2.1) hP hD hS hA hl (c_X4_gap l hl0 G s.heap.size h0 qs sc hr hc hk qw ql n wg (-1) hn (by omega)) gL_gaps_X4_gap rfl ⟨rfl, rfl⟩ (by decide +kernel) rfl ⟨Nat.le_of_ble_eq_true rfl, Nat.le_of_ble_eq_true rfl, Nat.le_of_ble_eq_true rfl, Nat.le_of_ble_eq_true rfl⟩ [0, 1] [] rfl rfl (by decide) (by decide) (by decide) (ci := 4) rfl rfl rfl (Nat.le_of_ble_eq_true rfl) dL_gaps_2 rfl (fun E_ ce_ q_ ux_ H1 locs1 hc1 hP1 hD1 hS1 hz1 hce1 hcv1 hcl1 => ?_) (fun r_ u_1 H1 locs1 hp_2 hP1 hD1 hS1 hz1 => ?_)
  · obtain ⟨w1_3, rfl⟩ : ∃ z, z = ux_ := ⟨_, rfl⟩
    try dsimp only at hc1 hP1 hD1
    have hP1 : va_P G.1 vwCl [(h0, .inr (4, [.ref qs, .int (zI sc), .ref hr, .ref hc, .ref hk])), (hk, .inr (0, [.ref qw, .ref ql, .long (zL (n : Int)), .int (zI w1_3)]))] H1 := hP1
    have hD1 : va_D A [(h0, .inr (4, [.ref qs, .int (zI sc), .ref hr, .ref hc, .ref hk])), (hk, .inr (0, [.ref qw, .ref ql, .long (zL (n : Int)), .int (zI w1_3)]))] := hD1
    rcases hc1 with ⟨rfl, hx_0⟩ | ⟨rfl, hx_1⟩ | ⟨rfl, hx_2⟩
    · exact absurd hx_0 (by omega)
    · refine zcatch S htab hE0 [] [] rfl (by decide) (by decide) wd_L_gaps_ct14 (Or.inr (Or.inr rfl)) (fun _ h => absurd h List.not_mem_nil) hce1 hcv1 hcl1 ?_
      generalize H1 = H at hP1 hD1 hS1 hz1 ⊢
      generalize locs1 = locs at hS1 ⊢
      have hS := hS1
      have hP : va_P G.1 vwCl [(h0, .inr (4, [.ref qs, .int (zI sc), .ref hr, .ref hc, .ref hk])), (hk, .inr (0, [.ref qw, .ref ql, .long (zL (n : Int)), .int (zI w1_3)]))] H := hP1
      have hD : va_D A [(h0, .inr (4, [.ref qs, .int (zI sc), .ref hr, .ref hc, .ref hk])), (hk, .inr (0, [.ref qw, .ref ql, .long (zL (n : Int)), .int (zI w1_3)]))] := hD1
      refine zv_astore_n (lv' := [(1, .ref q_), (0, .ref h0)]) S dL_gaps_6 rfl hl (by decide) rfl (fun ls hl => ?_)
      refine zv_iconst S dL_gaps_7 ?_
      exact hret _ _ _ _ _ ⟨(-1), w1_3⟩ dL_gaps_8 ⟨rfl, (show ((-1) = ((zcn (fun t => ¬ zpay (zkc n) t) 3601 : Nat) : Int) ∧ zgd (zkc n) 60 = 1) ∨ ((-1) = -1 ∧ ¬ zgd (zkc n) 60 = 1) from (Or.inr ⟨rfl, hx_1.2⟩))⟩ (hP.sub [0, 1] rfl) (hD.sub [0, 1] (by decide) rfl) hS
    · exact absurd rfl hx_2.2.2.1
  obtain ⟨rr_4, w1_5⟩ := u_1
  try dsimp only at hp_2 hP1 hD1
  obtain ⟨rfl, hpo_6⟩ := hp_2
  generalize H1 = H at hP1 hD1 hS1 hz1 ⊢
  generalize locs1 = locs at hS1 ⊢
  have hS := hS1
  have hP : va_P G.1 vwCl [(h0, .inr (4, [.ref qs, .int (zI sc), .ref hr, .ref hc, .ref hk])), (hk, .inr (0, [.ref qw, .ref ql, .long (zL (n : Int)), .int (zI w1_5)]))] H := hP1
  have hD : va_D A [(h0, .inr (4, [.ref qs, .int (zI sc), .ref hr, .ref hc, .ref hk])), (hk, .inr (0, [.ref qw, .ref ql, .long (zL (n : Int)), .int (zI w1_5)]))] := hD1
  exact hret _ _ _ _ _ ⟨rr_4, w1_5⟩ dL_gaps_5 ⟨rfl, (show (rr_4 = ((zcn (fun t => ¬ zpay (zkc n) t) 3601 : Nat) : Int) ∧ zgd (zkc n) 60 = 1) ∨ (rr_4 = -1 ∧ ¬ zgd (zkc n) 60 = 1) from (hpo_6.2.2.2.elim (fun z => Or.inl ⟨z.2, hpo_6.2.1⟩) (fun z => absurd rfl z.1)))⟩ (hP.sub [0, 1] rfl) (hD.sub [0, 1] (by decide) rfl) hS
