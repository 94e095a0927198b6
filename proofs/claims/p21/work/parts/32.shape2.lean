theorem wd_X3_isClosed_f24 : Cond.fieldLink RX3 24 "PointMill$Shape" "size" "I" ∈ wsX3_isClosed := by decide +kernel
theorem in_X3_isClosed_X3 : ∀ w ∈ wsX30, w ∈ wsX3_isClosed := by decide +kernel
theorem wd_X3_isClosed_f15 : Cond.fieldLink RX3 15 "PointMill$Shape" "b" "[I" ∈ wsX3_isClosed := by decide +kernel
theorem wd_X3_isClosed_f9 : Cond.fieldLink RX3 9 "PointMill$Shape" "a" "[I" ∈ wsX3_isClosed := by decide +kernel
set_option maxHeartbeats 4000000 in
set_option maxRecDepth 100000 in
/-- Shape.isClosed -/
theorem c_X3_isClosed (l : Launch) (G : zG) (sz : Nat) (h0 : Nat) (qa : Nat) (qb : Nat) (qc : Nat) (qe : Nat) (fa : Nat → Int) (fb : Nat → Int) (k : Nat) (hk : k ≤ 10) (ha : ∀ j, j < k → -60 ≤ fa j ∧ fa j ≤ 60) (hb : ∀ j, j < k → -60 ≤ fb j ∧ fb j ≤ 60) : Met l yX3_isClosed wsX3_isClosed ({ frames := 1, cells := 0, slots := 0, locals := 23 }) (va_Pc [.ref h0] (zPre G sz [(h0, .inr (3, [.ref qa, .ref qb, .ref qc, .ref qe, .int (zI (k : Int))])), zci G qa 10 fa, zci G qb 10 fb])) (va_Qi (fun (r : Int32) (u : Unit) => r = zI (zb (zpl fa fb k))) (fun u => zW G (va_A [(h0, .inr (3, [.ref qa, .ref qb, .ref qc, .ref qe, .int (zI (k : Int))])), zci G qa 10 fa, zci G qb 10 fb] sz) ((fun (u : Unit) => [(h0, .inr (3, [.ref qa, .ref qb, .ref qc, .ref qe, .int (zI (k : Int))])), zci G qa 10 fa, zci G qb 10 fb]) u)) (va_A [(h0, .inr (3, [.ref qa, .ref qb, .ref qc, .ref qe, .int (zI (k : Int))])), zci G qa 10 fa, zci G qb 10 fb] sz)) 0 0 (va_A [(h0, .inr (3, [.ref qa, .ref qb, .ref qc, .ref qe, .int (zI (k : Int))])), zci G qa 10 fa, zci G qb 10 fb] sz) := by
  refine zM_z (post := fun (r : Int32) (u : Unit) => r = zI (zb (zpl fa fb k))) (w1 := fun (u : Unit) => [(h0, .inr (3, [.ref qa, .ref qb, .ref qc, .ref qe, .int (zI (k : Int))])), zci G qa 10 fa, zci G qb 10 fb]) (plainFor_of_name (by decide)) rfl (Nat.le_of_ble_eq_true rfl) ?_
  intro p e s m below meth c A Q S hN hK hP hD hS hA hret ls hl
  have hl : lv_has ls 2 [(0, .ref h0)] := hl
  refine zv_iconst S dX3_isClosed_0 ?_
  refine zv_istore_n (lv' := [(1, .int (zI 0)), (0, .ref h0)]) S dX3_isClosed_1 rfl hl (by decide) rfl (fun ls hl => ?_)
  have LP2 : ∀ (nf : Nat) (i : Nat) (x0 : Int) (hx0 : x0 = (i : Int)) (hi : i ≤ k) (hv : zplk fa fb k i), (k - i) < nf → ∀ (H : Heap) (locs : List Loc), va_P G.1 vwCl [(h0, .inr (3, [.ref qa, .ref qb, .ref qc, .ref qe, .int (zI (k : Int))])), zci G qa 10 fa, zci G qb 10 fb] H → va_D A [(h0, .inr (3, [.ref qa, .ref qb, .ref qc, .ref qe, .int (zI (k : Int))])), zci G qa 10 fa, zci G qb 10 fb] → va_S A s.heap H locs → ∀ ls : Array Slot, lv_has ls 2 [(1, .int (zI x0)), (0, .ref h0)] → W p l e ({ frames := 1, cells := 0, slots := 0, locals := 23 }) s m ([.ref h0]).toArray below meth c H locs 0 0 Q (F0 m 2 ls []) := by
    intro nf
    induction nf with
    | zero =>
      intro i x0 hx0 hi hv hf
      exact absurd hf (Nat.not_lt_zero _)
    | succ nf ih2 =>
      intro i x0 hx0 hi hv hf H locs hP hD hS ls hl
      refine zv_iload_n S dX3_isClosed_2 rfl (lv_at hl 0 rfl) ?_
      refine zv_aload_n S dX3_isClosed_3 rfl (lv_at hl 1 rfl) ?_
      refine zv_get (C := RX3) (T := TX3) (N := 5) (ci := 3) (v := .int (zI (k : Int))) S in_X3_isClosed_X3 hK hP 0 rfl rfl 4 (by decide) wd_X3_isClosed_f24 rfl rfl dX3_isClosed_4 ?_
      refine zv_icmp_ge (tgt := 58) S (by unfold zR; omega) (by unfold zR; omega) dX3_isClosed_7 (by decide) (fun c_1 => ?_) (fun c_1 => ?_)
      · refine zv_aload_n S dX3_isClosed_58 rfl (lv_at hl 1 rfl) ?_
        refine zv_get (C := RX3) (T := TX3) (N := 5) (ci := 3) (v := .int (zI (k : Int))) S in_X3_isClosed_X3 hK hP 0 rfl rfl 4 (by decide) wd_X3_isClosed_f24 rfl rfl dX3_isClosed_59 ?_
        refine zv_if_le (tgt := 69) S (by unfold zR; omega) dX3_isClosed_62 (by decide) (fun c_2 => ?_) (fun c_2 => ?_)
        · refine zv_iconst S dX3_isClosed_69 ?_
          exact hret _ _ _ _ _ () dX3_isClosed_70 (by first | exact Or.inl rfl | exact Or.inr rfl) (congrArg zI (zb_f (fun z => absurd z.1 (by omega))).symm) (hP.sub [0, 1, 2] rfl) (hD.sub [0, 1, 2] (by decide) rfl) hS
        · refine zv_iconst S dX3_isClosed_65 ?_
          refine zv_goto (tgt := 70) S dX3_isClosed_66 (by decide) ?_
          exact hret _ _ _ _ _ () dX3_isClosed_70 (by first | exact Or.inl rfl | exact Or.inr rfl) (congrArg zI (zb_t ⟨by omega, fun j hj => hv j (by omega)⟩).symm) (hP.sub [0, 1, 2] rfl) (hD.sub [0, 1, 2] (by decide) rfl) hS
      · refine zv_aload_n S dX3_isClosed_10 rfl (lv_at hl 1 rfl) ?_
        refine zv_aload_n S dX3_isClosed_11 rfl (lv_at hl 1 rfl) ?_
        refine zv_get (C := RX3) (T := TX3) (N := 5) (ci := 3) (v := .ref qb) S in_X3_isClosed_X3 hK hP 0 rfl rfl 1 (by decide) wd_X3_isClosed_f15 rfl rfl dX3_isClosed_12 ?_
        refine zv_iload_n S dX3_isClosed_15 rfl (lv_at hl 0 rfl) ?_
        refine zv_iald S hK hP 2 0 rfl rfl i (by omega) (by omega) (by decide) dX3_isClosed_16 ?_
        refine zv_aload_n S dX3_isClosed_17 rfl (lv_at hl 1 rfl) ?_
        refine zv_get (C := RX3) (T := TX3) (N := 5) (ci := 3) (v := .ref qa) S in_X3_isClosed_X3 hK hP 0 rfl rfl 0 (by decide) wd_X3_isClosed_f9 rfl rfl dX3_isClosed_18 ?_
        refine zv_iload_n S dX3_isClosed_21 rfl (lv_at hl 0 rfl) ?_
        refine zv_iald S hK hP 1 0 rfl rfl i (by omega) (by omega) (by decide) dX3_isClosed_22 ?_
        refine zv_ineg S dX3_isClosed_23 ?_
        refine zc_Vi (As := [.int (zI (fb i)), .int (zI (-(fa i)))]) (rest := []) (wr := []) (n := 2) S hN hK hP hD hS hA hl (c_X3_isEndless l G H.size h0 qa qb qc qe fa fb k (fb i) (-(fa i)) hk ha hb (hb i (by omega)) (zneg_b (ha i (by omega)))) gX3_isClosed_X3_isEndless rfl ⟨rfl, rfl⟩ (by decide +kernel) rfl ⟨Nat.le_of_ble_eq_true rfl, Nat.le_of_ble_eq_true rfl, Nat.le_of_ble_eq_true rfl, Nat.le_of_ble_eq_true rfl⟩ [0, 1, 2] [] rfl rfl (by decide) (by decide) (by decide) (ci := 3) rfl rfl rfl (Nat.le_of_ble_eq_true rfl) dX3_isClosed_24 rfl (fun r_ u_3 H1 locs1 hp_4 hP1 hD1 hS1 hz1 => ?_)
        try dsimp only at hp_4 hP1 hD1
        subst hp_4
        generalize H1 = H at hP1 hD1 hS1 hz1 ⊢
        generalize locs1 = locs at hS1 ⊢
        have hS := hS1
        have hP : va_P G.1 vwCl [(h0, .inr (3, [.ref qa, .ref qb, .ref qc, .ref qe, .int (zI (k : Int))])), zci G qa 10 fa, zci G qb 10 fb] H := hP1
        have hD : va_D A [(h0, .inr (3, [.ref qa, .ref qb, .ref qc, .ref qe, .int (zI (k : Int))])), zci G qa 10 fa, zci G qb 10 fb] := hD1
        refine zv_ifb_ne (tgt := 50) S dX3_isClosed_27 (by decide) (fun c_5 => ?_) (fun c_5 => ?_)
        · refine zv_iconst S dX3_isClosed_50 ?_
          exact hret _ _ _ _ _ () dX3_isClosed_51 (by first | exact Or.inl rfl | exact Or.inr rfl) (congrArg zI (zb_f (zpl_no (show i < k by omega) (Or.inl c_5))).symm) (hP.sub [0, 1, 2] rfl) (hD.sub [0, 1, 2] (by decide) rfl) hS
        · refine zv_aload_n S dX3_isClosed_30 rfl (lv_at hl 1 rfl) ?_
          refine zv_aload_n S dX3_isClosed_31 rfl (lv_at hl 1 rfl) ?_
          refine zv_get (C := RX3) (T := TX3) (N := 5) (ci := 3) (v := .ref qb) S in_X3_isClosed_X3 hK hP 0 rfl rfl 1 (by decide) wd_X3_isClosed_f15 rfl rfl dX3_isClosed_32 ?_
          refine zv_iload_n S dX3_isClosed_35 rfl (lv_at hl 0 rfl) ?_
          refine zv_iald S hK hP 2 0 rfl rfl i (by omega) (by omega) (by decide) dX3_isClosed_36 ?_
          refine zv_ineg S dX3_isClosed_37 ?_
          refine zv_aload_n S dX3_isClosed_38 rfl (lv_at hl 1 rfl) ?_
          refine zv_get (C := RX3) (T := TX3) (N := 5) (ci := 3) (v := .ref qa) S in_X3_isClosed_X3 hK hP 0 rfl rfl 0 (by decide) wd_X3_isClosed_f9 rfl rfl dX3_isClosed_39 ?_
          refine zv_iload_n S dX3_isClosed_42 rfl (lv_at hl 0 rfl) ?_
          refine zv_iald S hK hP 1 0 rfl rfl i (by omega) (by omega) (by decide) dX3_isClosed_43 ?_
          refine zc_Vi (As := [.int (zI (-(fb i))), .int (zI (fa i))]) (rest := []) (wr := []) (n := 2) S hN hK hP hD hS hA hl (c_X3_isEndless l G H.size h0 qa qb qc qe fa fb k (-(fb i)) (fa i) hk ha hb (zneg_b (hb i (by omega))) (ha i (by omega))) gX3_isClosed_X3_isEndless rfl ⟨rfl, rfl⟩ (by decide +kernel) rfl ⟨Nat.le_of_ble_eq_true rfl, Nat.le_of_ble_eq_true rfl, Nat.le_of_ble_eq_true rfl, Nat.le_of_ble_eq_true rfl⟩ [0, 1, 2] [] rfl rfl (by decide) (by decide) (by decide) (ci := 3) rfl rfl rfl (Nat.le_of_ble_eq_true rfl) dX3_isClosed_44 rfl (fun r_ u_6 H1 locs1 hp_7 hP1 hD1 hS1 hz1 => ?_)
          try dsimp only at hp_7 hP1 hD1
          subst hp_7
          generalize H1 = H at hP1 hD1 hS1 hz1 ⊢
          generalize locs1 = locs at hS1 ⊢
          have hS := hS1
          have hP : va_P G.1 vwCl [(h0, .inr (3, [.ref qa, .ref qb, .ref qc, .ref qe, .int (zI (k : Int))])), zci G qa 10 fa, zci G qb 10 fb] H := hP1
          have hD : va_D A [(h0, .inr (3, [.ref qa, .ref qb, .ref qc, .ref qe, .int (zI (k : Int))])), zci G qa 10 fa, zci G qb 10 fb] := hD1
          refine zv_ifb_eq (tgt := 52) S dX3_isClosed_47 (by decide) (fun c_8 => ?_) (fun c_8 => ?_)
          · refine zv_iinc (k0 := 0) (lv' := [(1, .int (zI (x0 + 1))), (0, .ref h0)]) S dX3_isClosed_52 hl rfl (by decide) rfl (fun ls hl => ?_)
            refine zv_goto (tgt := 2) S dX3_isClosed_55 (by decide) ?_
            exact ih2 (i + 1) (x0 + 1) (by omega) (by omega) (zplk_s hv (by assumption) (by assumption)) (by omega) _ _ hP hD hS _ (lv_sub hl [0, 1] rfl)
          · refine zv_iconst S dX3_isClosed_50 ?_
            exact hret _ _ _ _ _ () dX3_isClosed_51 (by first | exact Or.inl rfl | exact Or.inr rfl) (congrArg zI (zb_f (zpl_no (show i < k by omega) (Or.inr c_8))).symm) (hP.sub [0, 1, 2] rfl) (hD.sub [0, 1, 2] (by decide) rfl) hS
  exact LP2 _ 0 0 rfl (Nat.zero_le _) zplk_0 (Nat.lt_succ_self _) _ _ hP hD hS _ (lv_sub hl [0, 1] rfl)

theorem wd_X3_swap_f24 : Cond.fieldLink RX3 24 "PointMill$Shape" "size" "I" ∈ wsX3_swap := by decide +kernel
theorem in_X3_swap_X3 : ∀ w ∈ wsX30, w ∈ wsX3_swap := by decide +kernel
theorem wd_X3_swap_f9 : Cond.fieldLink RX3 9 "PointMill$Shape" "a" "[I" ∈ wsX3_swap := by decide +kernel
theorem wd_X3_swap_f15 : Cond.fieldLink RX3 15 "PointMill$Shape" "b" "[I" ∈ wsX3_swap := by decide +kernel
set_option maxHeartbeats 4000000 in
set_option maxRecDepth 100000 in
/-- Shape.swap -/
theorem c_X3_swap (l : Launch) (G : zG) (sz : Nat) (h0 : Nat) (qa : Nat) (qb : Nat) (qc : Nat) (qe : Nat) (fa : Nat → Int) (fb : Nat → Int) (k : Nat) (hk : k ≤ 10) : Met l yX3_swap wsX3_swap ({ frames := 0, cells := 0, slots := 0, locals := 0 }) (va_Pc [.ref h0] (zPre G sz [(h0, .inr (3, [.ref qa, .ref qb, .ref qc, .ref qe, .int (zI (k : Int))])), zci G qa 10 fa, zci G qb 10 fb])) (va_Qv (fun (u : Unit) => True) (fun u => zW G (va_A [(h0, .inr (3, [.ref qa, .ref qb, .ref qc, .ref qe, .int (zI (k : Int))])), zci G qa 10 fa, zci G qb 10 fb] sz) ((fun (u : Unit) => [(h0, .inr (3, [.ref qa, .ref qb, .ref qc, .ref qe, .int (zI (k : Int))])), zci G qa 10 (zfill fb fa k), zci G qb 10 (zfill fa fb k)]) u)) (va_A [(h0, .inr (3, [.ref qa, .ref qb, .ref qc, .ref qe, .int (zI (k : Int))])), zci G qa 10 fa, zci G qb 10 fb] sz)) 0 0 (va_A [(h0, .inr (3, [.ref qa, .ref qb, .ref qc, .ref qe, .int (zI (k : Int))])), zci G qa 10 fa, zci G qb 10 fb] sz) := by
  refine zM_v (post := fun (u : Unit) => True) (w1 := fun (u : Unit) => [(h0, .inr (3, [.ref qa, .ref qb, .ref qc, .ref qe, .int (zI (k : Int))])), zci G qa 10 (zfill fb fa k), zci G qb 10 (zfill fa fb k)]) (plainFor_of_name (by decide)) rfl (Nat.le_of_ble_eq_true rfl) ?_
  intro p e s m below meth c A Q S hN hK hP hD hS hA hret ls hl
  have hl : lv_has ls 3 [(0, .ref h0)] := hl
  refine zv_iconst S dX3_swap_0 ?_
  refine zv_istore_n (lv' := [(1, .int (zI 0)), (0, .ref h0)]) S dX3_swap_1 rfl hl (by decide) rfl (fun ls hl => ?_)
  have LP2 : ∀ (nf : Nat) (i : Nat) (x0 : Int) (u1 : Nat → Int) (u2 : Nat → Int) (hx0 : x0 = (i : Int)) (hi : i ≤ k) (hu1 : u1 = zfill fb fa i) (hu2 : u2 = zfill fa fb i), (k - i) < nf → ∀ (H : Heap) (locs : List Loc), va_P G.1 vwCl [(h0, .inr (3, [.ref qa, .ref qb, .ref qc, .ref qe, .int (zI (k : Int))])), zci G qa 10 u1, zci G qb 10 u2] H → va_D A [(h0, .inr (3, [.ref qa, .ref qb, .ref qc, .ref qe, .int (zI (k : Int))])), zci G qa 10 u1, zci G qb 10 u2] → va_S A s.heap H locs → ∀ ls : Array Slot, lv_has ls 3 [(1, .int (zI x0)), (0, .ref h0)] → W p l e ({ frames := 0, cells := 0, slots := 0, locals := 0 }) s m ([.ref h0]).toArray below meth c H locs 0 0 Q (F0 m 2 ls []) := by
    intro nf
    induction nf with
    | zero =>
      intro i x0 u1 u2 hx0 hi hu1 hu2 hf
      exact absurd hf (Nat.not_lt_zero _)
    | succ nf ih2 =>
      intro i x0 u1 u2 hx0 hi hu1 hu2 hf H locs hP hD hS ls hl
      refine zv_iload_n S dX3_swap_2 rfl (lv_at hl 0 rfl) ?_
      refine zv_aload_n S dX3_swap_3 rfl (lv_at hl 1 rfl) ?_
      refine zv_get (C := RX3) (T := TX3) (N := 5) (ci := 3) (v := .int (zI (k : Int))) S in_X3_swap_X3 hK hP 0 rfl rfl 4 (by decide) wd_X3_swap_f24 rfl rfl dX3_swap_4 ?_
      refine zv_icmp_ge (tgt := 42) S (by unfold zR; omega) (by unfold zR; omega) dX3_swap_7 (by decide) (fun c_1 => ?_) (fun c_1 => ?_)
      · have e : i = k := by omega
        rw [hu1, hu2, e] at hP hD
        exact hret _ _ _ _ () dX3_swap_42 trivial (hP.sub [0, 1, 2] rfl) (hD.sub [0, 1, 2] (by decide) rfl) hS
      · refine zv_aload_n S dX3_swap_10 rfl (lv_at hl 1 rfl) ?_
        refine zv_get (C := RX3) (T := TX3) (N := 5) (ci := 3) (v := .ref qa) S in_X3_swap_X3 hK hP 0 rfl rfl 0 (by decide) wd_X3_swap_f9 rfl rfl dX3_swap_11 ?_
        refine zv_iload_n S dX3_swap_14 rfl (lv_at hl 0 rfl) ?_
        refine zv_iald S hK hP 1 0 rfl rfl i (by omega) (by omega) (by decide) dX3_swap_15 ?_
        refine zv_istore_n (lv' := [(2, .int (zI (u1 i))), (1, .int (zI x0)), (0, .ref h0)]) S dX3_swap_16 rfl hl (by decide) rfl (fun ls hl => ?_)
        refine zv_aload_n S dX3_swap_17 rfl (lv_at hl 2 rfl) ?_
        refine zv_get (C := RX3) (T := TX3) (N := 5) (ci := 3) (v := .ref qa) S in_X3_swap_X3 hK hP 0 rfl rfl 0 (by decide) wd_X3_swap_f9 rfl rfl dX3_swap_18 ?_
        refine zv_iload_n S dX3_swap_21 rfl (lv_at hl 1 rfl) ?_
        refine zv_aload_n S dX3_swap_22 rfl (lv_at hl 2 rfl) ?_
        refine zv_get (C := RX3) (T := TX3) (N := 5) (ci := 3) (v := .ref qb) S in_X3_swap_X3 hK hP 0 rfl rfl 1 (by decide) wd_X3_swap_f15 rfl rfl dX3_swap_23 ?_
        refine zv_iload_n S dX3_swap_26 rfl (lv_at hl 1 rfl) ?_
        refine zv_iald S hK hP 2 0 rfl rfl i (by omega) (by omega) (by decide) dX3_swap_27 ?_
        refine zv_iast S hK hP hD hS 1 0 rfl rfl i (by omega) (by omega) (by decide) dX3_swap_28 (fun H locs hP hD hS => ?_)
        have hP : va_P G.1 vwCl [(h0, .inr (3, [.ref qa, .ref qb, .ref qc, .ref qe, .int (zI (k : Int))])), zci G qa 10 (zU u1 i (u2 i)), zci G qb 10 u2] H := hP
        have hD : va_D A [(h0, .inr (3, [.ref qa, .ref qb, .ref qc, .ref qe, .int (zI (k : Int))])), zci G qa 10 (zU u1 i (u2 i)), zci G qb 10 u2] := hD
        refine zv_aload_n S dX3_swap_29 rfl (lv_at hl 2 rfl) ?_
        refine zv_get (C := RX3) (T := TX3) (N := 5) (ci := 3) (v := .ref qb) S in_X3_swap_X3 hK hP 0 rfl rfl 1 (by decide) wd_X3_swap_f15 rfl rfl dX3_swap_30 ?_
        refine zv_iload_n S dX3_swap_33 rfl (lv_at hl 1 rfl) ?_
        refine zv_iload_n S dX3_swap_34 rfl (lv_at hl 0 rfl) ?_
        refine zv_iast S hK hP hD hS 2 0 rfl rfl i (by omega) (by omega) (by decide) dX3_swap_35 (fun H locs hP hD hS => ?_)
        have hP : va_P G.1 vwCl [(h0, .inr (3, [.ref qa, .ref qb, .ref qc, .ref qe, .int (zI (k : Int))])), zci G qa 10 (zU u1 i (u2 i)), zci G qb 10 (zU u2 i (u1 i))] H := hP
        have hD : va_D A [(h0, .inr (3, [.ref qa, .ref qb, .ref qc, .ref qe, .int (zI (k : Int))])), zci G qa 10 (zU u1 i (u2 i)), zci G qb 10 (zU u2 i (u1 i))] := hD
        refine zv_iinc (k0 := 1) (lv' := [(1, .int (zI (x0 + 1))), (2, .int (zI (u1 i))), (0, .ref h0)]) S dX3_swap_36 hl rfl (by decide) rfl (fun ls hl => ?_)
        refine zv_goto (tgt := 2) S dX3_swap_39 (by decide) ?_
        exact ih2 (i + 1) (x0 + 1) (zU u1 i (u2 i)) (zU u2 i (u1 i)) (by omega) (by omega) (by rw [hu1]; exact zfill_next (by rw [hu2, zfill_out (Nat.le_refl i)])) (by rw [hu2]; exact zfill_next (by rw [hu1, zfill_out (Nat.le_refl i)])) (by omega) _ _ hP hD hS _ (lv_sub hl [0, 2] rfl)
  exact LP2 _ 0 0 fa fb rfl (Nat.zero_le _) zfill_0.symm zfill_0.symm (Nat.lt_succ_self _) _ _ hP hD hS _ (lv_sub hl [0, 1] rfl)

theorem wd_X3_flip_f24 : Cond.fieldLink RX3 24 "PointMill$Shape" "size" "I" ∈ wsX3_flip := by decide +kernel
theorem in_X3_flip_X3 : ∀ w ∈ wsX30, w ∈ wsX3_flip := by decide +kernel
theorem wd_X3_flip_f9 : Cond.fieldLink RX3 9 "PointMill$Shape" "a" "[I" ∈ wsX3_flip := by decide +kernel
set_option maxHeartbeats 4000000 in
set_option maxRecDepth 100000 in
/-- Shape.flip -/
theorem c_X3_flip (l : Launch) (G : zG) (sz : Nat) (h0 : Nat) (qa : Nat) (qb : Nat) (qc : Nat) (qe : Nat) (fa : Nat → Int) (k : Nat) (hk : k ≤ 10) : Met l yX3_flip wsX3_flip ({ frames := 0, cells := 0, slots := 0, locals := 0 }) (va_Pc [.ref h0] (zPre G sz [(h0, .inr (3, [.ref qa, .ref qb, .ref qc, .ref qe, .int (zI (k : Int))])), zci G qa 10 fa])) (va_Qv (fun (u : Unit) => True) (fun u => zW G (va_A [(h0, .inr (3, [.ref qa, .ref qb, .ref qc, .ref qe, .int (zI (k : Int))])), zci G qa 10 fa] sz) ((fun (u : Unit) => [(h0, .inr (3, [.ref qa, .ref qb, .ref qc, .ref qe, .int (zI (k : Int))])), zci G qa 10 (zfill (fun j => -fa j) fa k)]) u)) (va_A [(h0, .inr (3, [.ref qa, .ref qb, .ref qc, .ref qe, .int (zI (k : Int))])), zci G qa 10 fa] sz)) 0 0 (va_A [(h0, .inr (3, [.ref qa, .ref qb, .ref qc, .ref qe, .int (zI (k : Int))])), zci G qa 10 fa] sz) := by
  refine zM_v (post := fun (u : Unit) => True) (w1 := fun (u : Unit) => [(h0, .inr (3, [.ref qa, .ref qb, .ref qc, .ref qe, .int (zI (k : Int))])), zci G qa 10 (zfill (fun j => -fa j) fa k)]) (plainFor_of_name (by decide)) rfl (Nat.le_of_ble_eq_true rfl) ?_
  intro p e s m below meth c A Q S hN hK hP hD hS hA hret ls hl
  have hl : lv_has ls 2 [(0, .ref h0)] := hl
  refine zv_iconst S dX3_flip_0 ?_
  refine zv_istore_n (lv' := [(1, .int (zI 0)), (0, .ref h0)]) S dX3_flip_1 rfl hl (by decide) rfl (fun ls hl => ?_)
  have LP2 : ∀ (nf : Nat) (i : Nat) (x0 : Int) (u1 : Nat → Int) (hx0 : x0 = (i : Int)) (hi : i ≤ k) (hu1 : u1 = zfill (fun j => -fa j) fa i), (k - i) < nf → ∀ (H : Heap) (locs : List Loc), va_P G.1 vwCl [(h0, .inr (3, [.ref qa, .ref qb, .ref qc, .ref qe, .int (zI (k : Int))])), zci G qa 10 u1] H → va_D A [(h0, .inr (3, [.ref qa, .ref qb, .ref qc, .ref qe, .int (zI (k : Int))])), zci G qa 10 u1] → va_S A s.heap H locs → ∀ ls : Array Slot, lv_has ls 2 [(1, .int (zI x0)), (0, .ref h0)] → W p l e ({ frames := 0, cells := 0, slots := 0, locals := 0 }) s m ([.ref h0]).toArray below meth c H locs 0 0 Q (F0 m 2 ls []) := by
    intro nf
    induction nf with
    | zero =>
      intro i x0 u1 hx0 hi hu1 hf
      exact absurd hf (Nat.not_lt_zero _)
    | succ nf ih2 =>
      intro i x0 u1 hx0 hi hu1 hf H locs hP hD hS ls hl
      refine zv_iload_n S dX3_flip_2 rfl (lv_at hl 0 rfl) ?_
      refine zv_aload_n S dX3_flip_3 rfl (lv_at hl 1 rfl) ?_
      refine zv_get (C := RX3) (T := TX3) (N := 5) (ci := 3) (v := .int (zI (k : Int))) S in_X3_flip_X3 hK hP 0 rfl rfl 4 (by decide) wd_X3_flip_f24 rfl rfl dX3_flip_4 ?_
      refine zv_icmp_ge (tgt := 29) S (by unfold zR; omega) (by unfold zR; omega) dX3_flip_7 (by decide) (fun c_1 => ?_) (fun c_1 => ?_)
      · have e : i = k := by omega
        rw [hu1, e] at hP hD
        exact hret _ _ _ _ () dX3_flip_29 trivial (hP.sub [0, 1] rfl) (hD.sub [0, 1] (by decide) rfl) hS
      · refine zv_aload_n S dX3_flip_10 rfl (lv_at hl 1 rfl) ?_
        refine zv_get (C := RX3) (T := TX3) (N := 5) (ci := 3) (v := .ref qa) S in_X3_flip_X3 hK hP 0 rfl rfl 0 (by decide) wd_X3_flip_f9 rfl rfl dX3_flip_11 ?_
        refine zv_iload_n S dX3_flip_14 rfl (lv_at hl 0 rfl) ?_
        refine zv_aload_n S dX3_flip_15 rfl (lv_at hl 1 rfl) ?_
        refine zv_get (C := RX3) (T := TX3) (N := 5) (ci := 3) (v := .ref qa) S in_X3_flip_X3 hK hP 0 rfl rfl 0 (by decide) wd_X3_flip_f9 rfl rfl dX3_flip_16 ?_
        refine zv_iload_n S dX3_flip_19 rfl (lv_at hl 0 rfl) ?_
        refine zv_iald S hK hP 1 0 rfl rfl i (by omega) (by omega) (by decide) dX3_flip_20 ?_
        refine zv_ineg S dX3_flip_21 ?_
        refine zv_iast S hK hP hD hS 1 0 rfl rfl i (by omega) (by omega) (by decide) dX3_flip_22 (fun H locs hP hD hS => ?_)
        have hP : va_P G.1 vwCl [(h0, .inr (3, [.ref qa, .ref qb, .ref qc, .ref qe, .int (zI (k : Int))])), zci G qa 10 (zU u1 i (-(u1 i)))] H := hP
        have hD : va_D A [(h0, .inr (3, [.ref qa, .ref qb, .ref qc, .ref qe, .int (zI (k : Int))])), zci G qa 10 (zU u1 i (-(u1 i)))] := hD
        refine zv_iinc (k0 := 0) (lv' := [(1, .int (zI (x0 + 1))), (0, .ref h0)]) S dX3_flip_23 hl rfl (by decide) rfl (fun ls hl => ?_)
        refine zv_goto (tgt := 2) S dX3_flip_26 (by decide) ?_
        exact ih2 (i + 1) (x0 + 1) (zU u1 i (-(u1 i))) (by omega) (by omega) (by rw [hu1]; exact zfill_next (by rw [zfill_out (Nat.le_refl i)])) (by omega) _ _ hP hD hS _ (lv_sub hl [0, 1] rfl)
  exact LP2 _ 0 0 fa rfl (Nat.zero_le _) zfill_0.symm (Nat.lt_succ_self _) _ _ hP hD hS _ (lv_sub hl [0, 1] rfl)

theorem wd_X3_slide_f24 : Cond.fieldLink RX3 24 "PointMill$Shape" "size" "I" ∈ wsX3_slide := by decide +kernel
theorem in_X3_slide_X3 : ∀ w ∈ wsX30, w ∈ wsX3_slide := by decide +kernel
theorem wd_X3_slide_f15 : Cond.fieldLink RX3 15 "PointMill$Shape" "b" "[I" ∈ wsX3_slide := by decide +kernel
theorem wd_X3_slide_f9 : Cond.fieldLink RX3 9 "PointMill$Shape" "a" "[I" ∈ wsX3_slide := by decide +kernel
set_option maxHeartbeats 4000000 in
set_option maxRecDepth 100000 in
/-- Shape.slide -/
theorem c_X3_slide (l : Launch) (G : zG) (sz : Nat) (h0 : Nat) (qa : Nat) (qb : Nat) (qc : Nat) (qe : Nat) (fa : Nat → Int) (fb : Nat → Int) (k : Nat) (hk : k ≤ 10) (ha : ∀ j, j < k → -60 ≤ fa j ∧ fa j ≤ 60) (hb : ∀ j, j < k → -60 ≤ fb j ∧ fb j ≤ 60) : Met l yX3_slide wsX3_slide ({ frames := 1, cells := 0, slots := 0, locals := 20 }) (va_Pc [.ref h0] (zPre G sz [(h0, .inr (3, [.ref qa, .ref qb, .ref qc, .ref qe, .int (zI (k : Int))])), zci G qa 10 fa, zci G qb 10 fb])) (va_Qi (fun (r : Int32) (u : (Nat → Int)) => r = zI (zb (zsl fa fb k)) ∧ (zsl fa fb k → u = zfill (fun j => fb j - fa j) fb k) ∧ (¬ zsl fa fb k → u = fb)) (fun u => zW G (va_A [(h0, .inr (3, [.ref qa, .ref qb, .ref qc, .ref qe, .int (zI (k : Int))])), zci G qa 10 fa, zci G qb 10 fb] sz) ((fun (u : (Nat → Int)) => [(h0, .inr (3, [.ref qa, .ref qb, .ref qc, .ref qe, .int (zI (k : Int))])), zci G qa 10 fa, zci G qb 10 u]) u)) (va_A [(h0, .inr (3, [.ref qa, .ref qb, .ref qc, .ref qe, .int (zI (k : Int))])), zci G qa 10 fa, zci G qb 10 fb] sz)) 0 0 (va_A [(h0, .inr (3, [.ref qa, .ref qb, .ref qc, .ref qe, .int (zI (k : Int))])), zci G qa 10 fa, zci G qb 10 fb] sz) := by
  refine zM_z (post := fun (r : Int32) (u : (Nat → Int)) => r = zI (zb (zsl fa fb k)) ∧ (zsl fa fb k → u = zfill (fun j => fb j - fa j) fb k) ∧ (¬ zsl fa fb k → u = fb)) (w1 := fun (u : (Nat → Int)) => [(h0, .inr (3, [.ref qa, .ref qb, .ref qc, .ref qe, .int (zI (k : Int))])), zci G qa 10 fa, zci G qb 10 u]) (plainFor_of_name (by decide)) rfl (Nat.le_of_ble_eq_true rfl) ?_
  intro p e s m below meth c A Q S hN hK hP hD hS hA hret ls hl
  have hl : lv_has ls 2 [(0, .ref h0)] := hl
  refine zv_iconst S dX3_slide_0 ?_
  refine zv_istore_n (lv' := [(1, .int (zI 0)), (0, .ref h0)]) S dX3_slide_1 rfl hl (by decide) rfl (fun ls hl => ?_)
  have LP2 : ∀ (nf : Nat) (i : Nat) (x0 : Int) (hx0 : x0 = (i : Int)) (hi : i ≤ k) (hv : zsl fa fb i), (k - i) < nf → ∀ (H : Heap) (locs : List Loc), va_P G.1 vwCl [(h0, .inr (3, [.ref qa, .ref qb, .ref qc, .ref qe, .int (zI (k : Int))])), zci G qa 10 fa, zci G qb 10 fb] H → va_D A [(h0, .inr (3, [.ref qa, .ref qb, .ref qc, .ref qe, .int (zI (k : Int))])), zci G qa 10 fa, zci G qb 10 fb] → va_S A s.heap H locs → ∀ ls : Array Slot, lv_has ls 2 [(1, .int (zI x0)), (0, .ref h0)] → W p l e ({ frames := 1, cells := 0, slots := 0, locals := 20 }) s m ([.ref h0]).toArray below meth c H locs 0 0 Q (F0 m 2 ls []) := by
    intro nf
    induction nf with
    | zero =>
      intro i x0 hx0 hi hv hf
      exact absurd hf (Nat.not_lt_zero _)
    | succ nf ih2 =>
      intro i x0 hx0 hi hv hf H locs hP hD hS ls hl
      refine zv_iload_n S dX3_slide_2 rfl (lv_at hl 0 rfl) ?_
      refine zv_aload_n S dX3_slide_3 rfl (lv_at hl 1 rfl) ?_
      refine zv_get (C := RX3) (T := TX3) (N := 5) (ci := 3) (v := .int (zI (k : Int))) S in_X3_slide_X3 hK hP 0 rfl rfl 4 (by decide) wd_X3_slide_f24 rfl rfl dX3_slide_4 ?_
      refine zv_icmp_ge (tgt := 37) S (by unfold zR; omega) (by unfold zR; omega) dX3_slide_7 (by decide) (fun c_1 => ?_) (fun c_1 => ?_)
      · refine zv_iconst S dX3_slide_37 ?_
        refine zv_istore_n (lv' := [(1, .int (zI 0)), (0, .ref h0)]) S dX3_slide_38 rfl hl (by decide) rfl (fun ls hl => ?_)
        have LP39 : ∀ (nf : Nat) (i2 : Nat) (x1 : Int) (u1 : Nat → Int) (hx1 : x1 = (i2 : Int)) (hi2 : i2 ≤ k) (hu1 : u1 = zfill (fun j => fb j - fa j) fb i2), (k - i2) < nf → ∀ (H : Heap) (locs : List Loc), va_P G.1 vwCl [(h0, .inr (3, [.ref qa, .ref qb, .ref qc, .ref qe, .int (zI (k : Int))])), zci G qa 10 fa, zci G qb 10 u1] H → va_D A [(h0, .inr (3, [.ref qa, .ref qb, .ref qc, .ref qe, .int (zI (k : Int))])), zci G qa 10 fa, zci G qb 10 u1] → va_S A s.heap H locs → ∀ ls : Array Slot, lv_has ls 2 [(1, .int (zI x1)), (0, .ref h0)] → W p l e ({ frames := 1, cells := 0, slots := 0, locals := 20 }) s m ([.ref h0]).toArray below meth c H locs 0 0 Q (F0 m 39 ls []) := by
          intro nf
          induction nf with
          | zero =>
            intro i2 x1 u1 hx1 hi2 hu1 hf
            exact absurd hf (Nat.not_lt_zero _)
          | succ nf ih39 =>
            intro i2 x1 u1 hx1 hi2 hu1 hf H locs hP hD hS ls hl
            refine zv_iload_n S dX3_slide_39 rfl (lv_at hl 0 rfl) ?_
            refine zv_aload_n S dX3_slide_40 rfl (lv_at hl 1 rfl) ?_
            refine zv_get (C := RX3) (T := TX3) (N := 5) (ci := 3) (v := .int (zI (k : Int))) S in_X3_slide_X3 hK hP 0 rfl rfl 4 (by decide) wd_X3_slide_f24 rfl rfl dX3_slide_41 ?_
            refine zv_icmp_ge (tgt := 68) S (by unfold zR; omega) (by unfold zR; omega) dX3_slide_44 (by decide) (fun c_2 => ?_) (fun c_2 => ?_)
            · refine zv_iconst S dX3_slide_68 ?_
              exact hret _ _ _ _ _ u1 dX3_slide_69 (by first | exact Or.inl rfl | exact Or.inr rfl) ⟨(show zI 1 = zI (zb (zsl fa fb k)) from (congrArg zI (zb_t (fun j hj => hv j (by omega))).symm)), (show zsl fa fb k → u1 = zfill (fun j => fb j - fa j) fb k from (fun _ => by rw [hu1, show i2 = k by omega])), (show ¬ zsl fa fb k → u1 = fb from (fun z => absurd (fun j hj => hv j (by omega)) z))⟩ (hP.sub [0, 1, 2] rfl) (hD.sub [0, 1, 2] (by decide) rfl) hS
            · refine zv_aload_n S dX3_slide_47 rfl (lv_at hl 1 rfl) ?_
              refine zv_get (C := RX3) (T := TX3) (N := 5) (ci := 3) (v := .ref qb) S in_X3_slide_X3 hK hP 0 rfl rfl 1 (by decide) wd_X3_slide_f15 rfl rfl dX3_slide_48 ?_
              refine zv_iload_n S dX3_slide_51 rfl (lv_at hl 0 rfl) ?_
              refine zv_dup2_11 S dX3_slide_52 rfl rfl ?_
              refine zv_iald S hK hP 2 0 rfl rfl i2 (by omega) (by omega) (by decide) dX3_slide_53 ?_
              refine zv_aload_n S dX3_slide_54 rfl (lv_at hl 1 rfl) ?_
              refine zv_get (C := RX3) (T := TX3) (N := 5) (ci := 3) (v := .ref qa) S in_X3_slide_X3 hK hP 0 rfl rfl 0 (by decide) wd_X3_slide_f9 rfl rfl dX3_slide_55 ?_
              refine zv_iload_n S dX3_slide_58 rfl (lv_at hl 0 rfl) ?_
              refine zv_iald S hK hP 1 0 rfl rfl i2 (by omega) (by omega) (by decide) dX3_slide_59 ?_
              refine zv_isub S dX3_slide_60 ?_
              refine zv_iast S hK hP hD hS 2 0 rfl rfl i2 (by omega) (by omega) (by decide) dX3_slide_61 (fun H locs hP hD hS => ?_)
              have hP : va_P G.1 vwCl [(h0, .inr (3, [.ref qa, .ref qb, .ref qc, .ref qe, .int (zI (k : Int))])), zci G qa 10 fa, zci G qb 10 (zU u1 i2 ((u1 i2) - (fa i2)))] H := hP
              have hD : va_D A [(h0, .inr (3, [.ref qa, .ref qb, .ref qc, .ref qe, .int (zI (k : Int))])), zci G qa 10 fa, zci G qb 10 (zU u1 i2 ((u1 i2) - (fa i2)))] := hD
              refine zv_iinc (k0 := 0) (lv' := [(1, .int (zI (x1 + 1))), (0, .ref h0)]) S dX3_slide_62 hl rfl (by decide) rfl (fun ls hl => ?_)
              refine zv_goto (tgt := 39) S dX3_slide_65 (by decide) ?_
              exact ih39 (i2 + 1) (x1 + 1) (zU u1 i2 ((u1 i2) - (fa i2))) (by omega) (by omega) (by rw [hu1]; exact zfill_next (by rw [zfill_out (Nat.le_refl i2)])) (by omega) _ _ hP hD hS _ (lv_sub hl [0, 1] rfl)
        exact LP39 _ 0 0 fb rfl (Nat.zero_le _) zfill_0.symm (Nat.lt_succ_self _) _ _ hP hD hS _ (lv_sub hl [0, 1] rfl)
      · refine zv_aload_n S dX3_slide_10 rfl (lv_at hl 1 rfl) ?_
        refine zv_get (C := RX3) (T := TX3) (N := 5) (ci := 3) (v := .ref qb) S in_X3_slide_X3 hK hP 0 rfl rfl 1 (by decide) wd_X3_slide_f15 rfl rfl dX3_slide_11 ?_
        refine zv_iload_n S dX3_slide_14 rfl (lv_at hl 0 rfl) ?_
        refine zv_iald S hK hP 2 0 rfl rfl i (by omega) (by omega) (by decide) dX3_slide_15 ?_
        refine zv_aload_n S dX3_slide_16 rfl (lv_at hl 1 rfl) ?_
        refine zv_get (C := RX3) (T := TX3) (N := 5) (ci := 3) (v := .ref qa) S in_X3_slide_X3 hK hP 0 rfl rfl 0 (by decide) wd_X3_slide_f9 rfl rfl dX3_slide_17 ?_
        refine zv_iload_n S dX3_slide_20 rfl (lv_at hl 0 rfl) ?_
        refine zv_iald S hK hP 1 0 rfl rfl i (by omega) (by omega) (by decide) dX3_slide_21 ?_
        have h1 := ha i (by omega)
        have h2 := hb i (by omega)
        refine zv_isub S dX3_slide_22 ?_
        refine zc_Si (As := [.int (zI ((fb i) - (fa i)))]) (rest := []) (wr := [(h0, .inr (3, [.ref qa, .ref qb, .ref qc, .ref qe, .int (zI (k : Int))])), zci G qa 10 fa, zci G qb 10 fb]) (n := 1) S hN hK hP hD hS hA hl (c_X3_isFactor l G H.size ((fb i) - (fa i)) (by omega)) gX3_slide_X3_isFactor rfl ⟨rfl, rfl⟩ (by decide +kernel) rfl ⟨Nat.le_of_ble_eq_true rfl, Nat.le_of_ble_eq_true rfl, Nat.le_of_ble_eq_true rfl, Nat.le_of_ble_eq_true rfl⟩ [] [0, 1, 2] rfl rfl (by decide) (by decide) (by decide) (Nat.le_of_ble_eq_true rfl) dX3_slide_23 rfl (fun r_ u_3 H1 locs1 hp_4 hP1 hD1 hS1 hz1 => ?_)
        try dsimp only at hp_4 hP1 hD1
        subst hp_4
        generalize H1 = H at hP1 hD1 hS1 hz1 ⊢
        generalize locs1 = locs at hS1 ⊢
        have hS := hS1
        have hP : va_P G.1 vwCl [(h0, .inr (3, [.ref qa, .ref qb, .ref qc, .ref qe, .int (zI (k : Int))])), zci G qa 10 fa, zci G qb 10 fb] H := hP1
        have hD : va_D A [(h0, .inr (3, [.ref qa, .ref qb, .ref qc, .ref qe, .int (zI (k : Int))])), zci G qa 10 fa, zci G qb 10 fb] := hD1
        refine zv_ifb_ne (tgt := 31) S dX3_slide_26 (by decide) (fun c_5 => ?_) (fun c_5 => ?_)
        · refine zv_iinc (k0 := 0) (lv' := [(1, .int (zI (x0 + 1))), (0, .ref h0)]) S dX3_slide_31 hl rfl (by decide) rfl (fun ls hl => ?_)
          refine zv_goto (tgt := 2) S dX3_slide_34 (by decide) ?_
          exact ih2 (i + 1) (x0 + 1) (by omega) (by omega) (zsl_s hv (by assumption)) (by omega) _ _ hP hD hS _ (lv_sub hl [0, 1] rfl)
        · refine zv_iconst S dX3_slide_29 ?_
          exact hret _ _ _ _ _ fb dX3_slide_30 (by first | exact Or.inl rfl | exact Or.inr rfl) ⟨(show zI 0 = zI (zb (zsl fa fb k)) from (congrArg zI (zb_f (fun z => c_5 (z i (by omega)))).symm)), (show zsl fa fb k → fb = zfill (fun j => fb j - fa j) fb k from (fun z => absurd (z i (by omega)) c_5)), (show ¬ zsl fa fb k → fb = fb from (fun _ => rfl))⟩ (hP.sub [0, 1, 2] rfl) (hD.sub [0, 1, 2] (by decide) rfl) hS
  exact LP2 _ 0 0 rfl (Nat.zero_le _) zsl_0 (Nat.lt_succ_self _) _ _ hP hD hS _ (lv_sub hl [0, 1] rfl)

theorem wd_X3_appendCut_f21 : Cond.fieldLink RX3 21 "PointMill$Shape" "e" "[I" ∈ wsX3_appendCut := by decide +kernel
theorem in_X3_appendCut_X3 : ∀ w ∈ wsX30, w ∈ wsX3_appendCut := by decide +kernel
theorem wd_X3_appendCut_f9 : Cond.fieldLink RX3 9 "PointMill$Shape" "a" "[I" ∈ wsX3_appendCut := by decide +kernel
theorem wd_X3_appendCut_f15 : Cond.fieldLink RX3 15 "PointMill$Shape" "b" "[I" ∈ wsX3_appendCut := by decide +kernel
theorem wd_X3_appendCut_f18 : Cond.fieldLink RX3 18 "PointMill$Shape" "c" "[I" ∈ wsX3_appendCut := by decide +kernel
theorem wd_X3_appendCut_m41 : Cond.methodLink RX3 41 Lib.Math.abs.name ∈ wsX3_appendCut := by decide +kernel
theorem wd_X3_appendCut_sabs : Cond.static Lib.Math.abs.name ∈ wsX3_appendCut := by decide +kernel
theorem wd_X3_appendCut_iM : Cond.initialized "java/lang/Math" ∈ wsX3_appendCut := by decide +kernel
theorem wd_X3_appendCut_cabs : Cond.code Lib.Math.abs.name Lib.Math.abs.code 1 (some .int) ∈ wsX3_appendCut := by decide +kernel
set_option maxHeartbeats 4000000 in
set_option maxRecDepth 100000 in
/-- Shape.appendCut where there is room -/
theorem c_X3_appendCut (l : Launch) (G : zG) (sz : Nat) (h0 : Nat) (qa : Nat) (qb : Nat) (qc : Nat) (qe : Nat) (fa : Nat → Int) (fb : Nat → Int) (fc : Nat → Int) (fe : Nat → Int) (k : Nat) (o : Nat) (t : Nat) (sm : Int) (mr : Int) (dv : Int) (hk : k < 10) (ho : o < k) (ht : t < k) (hsm : 0 ≤ sm ∧ sm ≤ 9) (hmr : 0 ≤ mr ∧ mr ≤ 9) (hdv : 1 ≤ dv ∧ dv ≤ 20) (ha : ∀ j, j < k → -60 ≤ fa j ∧ fa j ≤ 60) (hb : ∀ j, j < k → -60 ≤ fb j ∧ fb j ≤ 60) (hc : ∀ j, j < k → -999 ≤ fc j ∧ fc j ≤ 999) (he : ∀ j, j < k → -9 ≤ fe j ∧ fe j ≤ 9) : Met l yX3_appendCut wsX3_appendCut ({ frames := 1, cells := 0, slots := 0, locals := 24 }) (va_Pc [.ref h0, .int (zI (o : Int)), .int (zI sm), .int (zI (t : Int)), .int (zI mr), .int (zI dv)] (zPre G sz [(h0, .inr (3, [.ref qa, .ref qb, .ref qc, .ref qe, .int (zI (k : Int))])), zci G qa 10 fa, zci G qb 10 fb, zci G qc 10 fc, zci G qe 10 fe])) (va_Qi (fun (r : Int32) (u : (Int) × (Nat → Int) × (Nat → Int) × (Nat → Int) × (Nat → Int) × (Int)) => r = zI u.1 ∧ (zcut fa fb fc fe k o t sm mr dv → u.1 = (k : Int) ∧ u.2.1 = zU fa k ((sm * fa o + mr * fa t).tdiv dv) ∧ u.2.2.1 = zU fb k ((sm * fb o + mr * fb t).tdiv dv) ∧ u.2.2.2.1 = zU fc k ((sm * fc o + mr * fc t) / dv) ∧ u.2.2.2.2.1 = zU fe k 0 ∧ u.2.2.2.2.2 = (k : Int) + 1) ∧ (¬ zcut fa fb fc fe k o t sm mr dv → u.1 = -1 ∧ u.2.1 = fa ∧ u.2.2.1 = fb ∧ u.2.2.2.1 = fc ∧ u.2.2.2.2.1 = fe ∧ u.2.2.2.2.2 = (k : Int))) (fun u => zW G (va_A [(h0, .inr (3, [.ref qa, .ref qb, .ref qc, .ref qe, .int (zI (k : Int))])), zci G qa 10 fa, zci G qb 10 fb, zci G qc 10 fc, zci G qe 10 fe] sz) ((fun (u : (Int) × (Nat → Int) × (Nat → Int) × (Nat → Int) × (Nat → Int) × (Int)) => [(h0, .inr (3, [.ref qa, .ref qb, .ref qc, .ref qe, .int (zI u.2.2.2.2.2)])), zci G qa 10 u.2.1, zci G qb 10 u.2.2.1, zci G qc 10 u.2.2.2.1, zci G qe 10 u.2.2.2.2.1]) u)) (va_A [(h0, .inr (3, [.ref qa, .ref qb, .ref qc, .ref qe, .int (zI (k : Int))])), zci G qa 10 fa, zci G qb 10 fb, zci G qc 10 fc, zci G qe 10 fe] sz)) 0 0 (va_A [(h0, .inr (3, [.ref qa, .ref qb, .ref qc, .ref qe, .int (zI (k : Int))])), zci G qa 10 fa, zci G qb 10 fb, zci G qc 10 fc, zci G qe 10 fe] sz) := by
  refine zM_i (post := fun (r : Int32) (u : (Int) × (Nat → Int) × (Nat → Int) × (Nat → Int) × (Nat → Int) × (Int)) => r = zI u.1 ∧ (zcut fa fb fc fe k o t sm mr dv → u.1 = (k : Int) ∧ u.2.1 = zU fa k ((sm * fa o + mr * fa t).tdiv dv) ∧ u.2.2.1 = zU fb k ((sm * fb o + mr * fb t).tdiv dv) ∧ u.2.2.2.1 = zU fc k ((sm * fc o + mr * fc t) / dv) ∧ u.2.2.2.2.1 = zU fe k 0 ∧ u.2.2.2.2.2 = (k : Int) + 1) ∧ (¬ zcut fa fb fc fe k o t sm mr dv → u.1 = -1 ∧ u.2.1 = fa ∧ u.2.2.1 = fb ∧ u.2.2.2.1 = fc ∧ u.2.2.2.2.1 = fe ∧ u.2.2.2.2.2 = (k : Int))) (w1 := fun (u : (Int) × (Nat → Int) × (Nat → Int) × (Nat → Int) × (Nat → Int) × (Int)) => [(h0, .inr (3, [.ref qa, .ref qb, .ref qc, .ref qe, .int (zI u.2.2.2.2.2)])), zci G qa 10 u.2.1, zci G qb 10 u.2.2.1, zci G qc 10 u.2.2.2.1, zci G qe 10 u.2.2.2.2.1]) (plainFor_of_name (by decide)) rfl (Nat.le_of_ble_eq_true rfl) ?_
  intro p e s m below meth c A Q S hN hK hP hD hS hA hret ls hl
  have hl : lv_has ls 9 [(0, .ref h0), (1, .int (zI (o : Int))), (2, .int (zI sm)), (3, .int (zI (t : Int))), (4, .int (zI mr)), (5, .int (zI dv))] := hl
  refine zv_aload_n S dX3_appendCut_0 rfl (lv_at hl 0 rfl) ?_
  refine zv_iload_n S dX3_appendCut_1 rfl (lv_at hl 1 rfl) ?_
  refine zc_Vi (As := [.int (zI (o : Int))]) (rest := []) (wr := [zci G qa 10 fa, zci G qb 10 fb, zci G qc 10 fc, zci G qe 10 fe]) (n := 1) S hN hK hP hD hS hA hl (c_X3_has l G s.heap.size h0 qa qb qc qe k (o : Int) (by omega) (by omega)) gX3_appendCut_X3_has rfl ⟨rfl, rfl⟩ (by decide +kernel) rfl ⟨Nat.le_of_ble_eq_true rfl, Nat.le_of_ble_eq_true rfl, Nat.le_of_ble_eq_true rfl, Nat.le_of_ble_eq_true rfl⟩ [0] [1, 2, 3, 4] rfl rfl (by decide) (by decide) (by decide) (ci := 3) rfl rfl rfl (Nat.le_of_ble_eq_true rfl) dX3_appendCut_2 rfl (fun r_ u_1 H1 locs1 hp_2 hP1 hD1 hS1 hz1 => ?_)
  try dsimp only at hp_2 hP1 hD1
  subst hp_2
  generalize H1 = H at hP1 hD1 hS1 hz1 ⊢
  generalize locs1 = locs at hS1 ⊢
  have hS := hS1
  have hP : va_P G.1 vwCl [zci G qa 10 fa, zci G qb 10 fb, zci G qc 10 fc, zci G qe 10 fe, (h0, .inr (3, [.ref qa, .ref qb, .ref qc, .ref qe, .int (zI (k : Int))]))] H := hP1
  have hD : va_D A [zci G qa 10 fa, zci G qb 10 fb, zci G qc 10 fc, zci G qe 10 fe, (h0, .inr (3, [.ref qa, .ref qb, .ref qc, .ref qe, .int (zI (k : Int))]))] := hD1
  refine zv_ifb_eq (tgt := 40) S dX3_appendCut_5 (by decide) (fun c_3 => ?_) (fun c_3 => ?_)
  · exact absurd ⟨by omega, by omega⟩ c_3
  · refine zv_aload_n S dX3_appendCut_8 rfl (lv_at hl 0 rfl) ?_
    refine zv_iload_n S dX3_appendCut_9 rfl (lv_at hl 3 rfl) ?_
    refine zc_Vi (As := [.int (zI (t : Int))]) (rest := []) (wr := [zci G qa 10 fa, zci G qb 10 fb, zci G qc 10 fc, zci G qe 10 fe]) (n := 1) S hN hK hP hD hS hA hl (c_X3_has l G H.size h0 qa qb qc qe k (t : Int) (by omega) (by omega)) gX3_appendCut_X3_has rfl ⟨rfl, rfl⟩ (by decide +kernel) rfl ⟨Nat.le_of_ble_eq_true rfl, Nat.le_of_ble_eq_true rfl, Nat.le_of_ble_eq_true rfl, Nat.le_of_ble_eq_true rfl⟩ [4] [0, 1, 2, 3] rfl rfl (by decide) (by decide) (by decide) (ci := 3) rfl rfl rfl (Nat.le_of_ble_eq_true rfl) dX3_appendCut_10 rfl (fun r_ u_4 H1 locs1 hp_5 hP1 hD1 hS1 hz1 => ?_)
    try dsimp only at hp_5 hP1 hD1
    subst hp_5
    generalize H1 = H at hP1 hD1 hS1 hz1 ⊢
    generalize locs1 = locs at hS1 ⊢
    have hS := hS1
    have hP : va_P G.1 vwCl [zci G qa 10 fa, zci G qb 10 fb, zci G qc 10 fc, zci G qe 10 fe, (h0, .inr (3, [.ref qa, .ref qb, .ref qc, .ref qe, .int (zI (k : Int))]))] H := hP1
    have hD : va_D A [zci G qa 10 fa, zci G qb 10 fb, zci G qc 10 fc, zci G qe 10 fe, (h0, .inr (3, [.ref qa, .ref qb, .ref qc, .ref qe, .int (zI (k : Int))]))] := hD1
    refine zv_ifb_eq (tgt := 40) S dX3_appendCut_13 (by decide) (fun c_6 => ?_) (fun c_6 => ?_)
    · exact absurd ⟨by omega, by omega⟩ c_6
    · refine zv_iload S dX3_appendCut_16 (lv_at hl 5 rfl) ?_
      refine zv_iconst S dX3_appendCut_18 ?_
      refine zv_icmp_lt (tgt := 40) S (by unfold zR; omega) (by unfold zR; omega) dX3_appendCut_19 (by decide) (fun c_7 => ?_) (fun c_7 => ?_)
      · exact absurd c_7 (by omega)
      · refine zv_aload_n S dX3_appendCut_22 rfl (lv_at hl 0 rfl) ?_
        refine zv_get (C := RX3) (T := TX3) (N := 5) (ci := 3) (v := .ref qe) S in_X3_appendCut_X3 hK hP 4 rfl rfl 3 (by decide) wd_X3_appendCut_f21 rfl rfl dX3_appendCut_23 ?_
        refine zv_iload_n S dX3_appendCut_26 rfl (lv_at hl 1 rfl) ?_
        refine zv_iald S hK hP 3 0 rfl rfl o rfl (by omega) (by decide) dX3_appendCut_27 ?_
        have e1 := he o ho
        refine zv_if_ne (tgt := 40) S (by unfold zR; omega) dX3_appendCut_28 (by decide) (fun c_8 => ?_) (fun c_8 => ?_)
        · refine zv_iconst S dX3_appendCut_40 ?_
          exact hret _ _ _ _ _ ⟨(-1), fa, fb, fc, fe, (k : Int)⟩ dX3_appendCut_41 ⟨rfl, (show zcut fa fb fc fe k o t sm mr dv → (-1) = (k : Int) ∧ fa = zU fa k ((sm * fa o + mr * fa t).tdiv dv) ∧ fb = zU fb k ((sm * fb o + mr * fb t).tdiv dv) ∧ fc = zU fc k ((sm * fc o + mr * fc t) / dv) ∧ fe = zU fe k 0 ∧ (k : Int) = (k : Int) + 1 from (fun z => absurd z (by unfold zcut zcs; omega))), (show ¬ zcut fa fb fc fe k o t sm mr dv → (-1) = -1 ∧ fa = fa ∧ fb = fb ∧ fc = fc ∧ fe = fe ∧ (k : Int) = (k : Int) from (fun _ => ⟨rfl, rfl, rfl, rfl, rfl, rfl⟩))⟩ (hP.sub [4, 0, 1, 2, 3] rfl) (hD.sub [4, 0, 1, 2, 3] (by decide) rfl) hS
        · refine zv_aload_n S dX3_appendCut_31 rfl (lv_at hl 0 rfl) ?_
          refine zv_get (C := RX3) (T := TX3) (N := 5) (ci := 3) (v := .ref qe) S in_X3_appendCut_X3 hK hP 4 rfl rfl 3 (by decide) wd_X3_appendCut_f21 rfl rfl dX3_appendCut_32 ?_
          refine zv_iload_n S dX3_appendCut_35 rfl (lv_at hl 3 rfl) ?_
          refine zv_iald S hK hP 3 0 rfl rfl t rfl (by omega) (by decide) dX3_appendCut_36 ?_
          have e2 := he t ht
          refine zv_if_eq (tgt := 42) S (by unfold zR; omega) dX3_appendCut_37 (by decide) (fun c_9 => ?_) (fun c_9 => ?_)
          · refine zv_iload_n S dX3_appendCut_42 rfl (lv_at hl 2 rfl) ?_
            refine zv_aload_n S dX3_appendCut_43 rfl (lv_at hl 0 rfl) ?_
            refine zv_get (C := RX3) (T := TX3) (N := 5) (ci := 3) (v := .ref qa) S in_X3_appendCut_X3 hK hP 4 rfl rfl 0 (by decide) wd_X3_appendCut_f9 rfl rfl dX3_appendCut_44 ?_
            refine zv_iload_n S dX3_appendCut_47 rfl (lv_at hl 1 rfl) ?_
            refine zv_iald S hK hP 0 0 rfl rfl o rfl (by omega) (by decide) dX3_appendCut_48 ?_
            refine zv_imul S dX3_appendCut_49 ?_
            refine zv_iload S dX3_appendCut_50 (lv_at hl 4 rfl) ?_
            refine zv_aload_n S dX3_appendCut_52 rfl (lv_at hl 0 rfl) ?_
            refine zv_get (C := RX3) (T := TX3) (N := 5) (ci := 3) (v := .ref qa) S in_X3_appendCut_X3 hK hP 4 rfl rfl 0 (by decide) wd_X3_appendCut_f9 rfl rfl dX3_appendCut_53 ?_
            refine zv_iload_n S dX3_appendCut_56 rfl (lv_at hl 3 rfl) ?_
            refine zv_iald S hK hP 0 0 rfl rfl t rfl (by omega) (by decide) dX3_appendCut_57 ?_
            refine zv_imul S dX3_appendCut_58 ?_
            refine zv_iadd S dX3_appendCut_59 ?_
            have k1 := zcs_b (ha o ho) (ha t ht) hsm hmr
            unfold zcs at k1
            refine zv_istore (lv' := [(6, .int (zI ((sm * (fa o)) + (mr * (fa t))))), (0, .ref h0), (1, .int (zI (o : Int))), (2, .int (zI sm)), (3, .int (zI (t : Int))), (4, .int (zI mr)), (5, .int (zI dv))]) S dX3_appendCut_60 hl (by decide) rfl (fun ls hl => ?_)
            refine zv_iload_n S dX3_appendCut_62 rfl (lv_at hl 3 rfl) ?_
            refine zv_aload_n S dX3_appendCut_63 rfl (lv_at hl 1 rfl) ?_
            refine zv_get (C := RX3) (T := TX3) (N := 5) (ci := 3) (v := .ref qb) S in_X3_appendCut_X3 hK hP 4 rfl rfl 1 (by decide) wd_X3_appendCut_f15 rfl rfl dX3_appendCut_64 ?_
            refine zv_iload_n S dX3_appendCut_67 rfl (lv_at hl 2 rfl) ?_
            refine zv_iald S hK hP 1 0 rfl rfl o rfl (by omega) (by decide) dX3_appendCut_68 ?_
            refine zv_imul S dX3_appendCut_69 ?_
            refine zv_iload S dX3_appendCut_70 (lv_at hl 5 rfl) ?_
            refine zv_aload_n S dX3_appendCut_72 rfl (lv_at hl 1 rfl) ?_
            refine zv_get (C := RX3) (T := TX3) (N := 5) (ci := 3) (v := .ref qb) S in_X3_appendCut_X3 hK hP 4 rfl rfl 1 (by decide) wd_X3_appendCut_f15 rfl rfl dX3_appendCut_73 ?_
            refine zv_iload_n S dX3_appendCut_76 rfl (lv_at hl 4 rfl) ?_
            refine zv_iald S hK hP 1 0 rfl rfl t rfl (by omega) (by decide) dX3_appendCut_77 ?_
            refine zv_imul S dX3_appendCut_78 ?_
            refine zv_iadd S dX3_appendCut_79 ?_
            have k2 := zcs_b (hb o ho) (hb t ht) hsm hmr
            unfold zcs at k2
            refine zv_istore (lv' := [(7, .int (zI ((sm * (fb o)) + (mr * (fb t))))), (6, .int (zI ((sm * (fa o)) + (mr * (fa t))))), (0, .ref h0), (1, .int (zI (o : Int))), (2, .int (zI sm)), (3, .int (zI (t : Int))), (4, .int (zI mr)), (5, .int (zI dv))]) S dX3_appendCut_80 hl (by decide) rfl (fun ls hl => ?_)
            refine zv_iload_n S dX3_appendCut_82 rfl (lv_at hl 4 rfl) ?_
            refine zv_aload_n S dX3_appendCut_83 rfl (lv_at hl 2 rfl) ?_
            refine zv_get (C := RX3) (T := TX3) (N := 5) (ci := 3) (v := .ref qc) S in_X3_appendCut_X3 hK hP 4 rfl rfl 2 (by decide) wd_X3_appendCut_f18 rfl rfl dX3_appendCut_84 ?_
            refine zv_iload_n S dX3_appendCut_87 rfl (lv_at hl 3 rfl) ?_
            refine zv_iald S hK hP 2 0 rfl rfl o rfl (by omega) (by decide) dX3_appendCut_88 ?_
            refine zv_imul S dX3_appendCut_89 ?_
            refine zv_iload S dX3_appendCut_90 (lv_at hl 6 rfl) ?_
            refine zv_aload_n S dX3_appendCut_92 rfl (lv_at hl 2 rfl) ?_
            refine zv_get (C := RX3) (T := TX3) (N := 5) (ci := 3) (v := .ref qc) S in_X3_appendCut_X3 hK hP 4 rfl rfl 2 (by decide) wd_X3_appendCut_f18 rfl rfl dX3_appendCut_93 ?_
            refine zv_iload_n S dX3_appendCut_96 rfl (lv_at hl 5 rfl) ?_
            refine zv_iald S hK hP 2 0 rfl rfl t rfl (by omega) (by decide) dX3_appendCut_97 ?_
            refine zv_imul S dX3_appendCut_98 ?_
            refine zv_iadd S dX3_appendCut_99 ?_
            have k3 := zcs_b (hc o ho) (hc t ht) hsm hmr
            unfold zcs at k3
            refine zv_iload S dX3_appendCut_100 (lv_at hl 7 rfl) ?_
            refine zc_Si (As := [.int (zI ((sm * (fc o)) + (mr * (fc t)))), .int (zI dv)]) (rest := []) (wr := [zci G qa 10 fa, zci G qb 10 fb, zci G qc 10 fc, zci G qe 10 fe, (h0, .inr (3, [.ref qa, .ref qb, .ref qc, .ref qe, .int (zI (k : Int))]))]) (n := 2) S hN hK hP hD hS hA hl (c_J9_floorDiv_7cf53 l G H.size ((sm * (fc o)) + (mr * (fc t))) dv (by omega) (by omega)) gX3_appendCut_J9_floorDiv_7cf53 rfl ⟨rfl, rfl⟩ (by decide +kernel) rfl ⟨Nat.le_of_ble_eq_true rfl, Nat.le_of_ble_eq_true rfl, Nat.le_of_ble_eq_true rfl, Nat.le_of_ble_eq_true rfl⟩ [] [0, 1, 2, 3, 4] rfl rfl (by decide) (by decide) (by decide) (Nat.le_of_ble_eq_true rfl) dX3_appendCut_102 rfl (fun r_ u_10 H1 locs1 hp_11 hP1 hD1 hS1 hz1 => ?_)
            try dsimp only at hp_11 hP1 hD1
            subst hp_11
            generalize H1 = H at hP1 hD1 hS1 hz1 ⊢
            generalize locs1 = locs at hS1 ⊢
            have hS := hS1
            have hP : va_P G.1 vwCl [zci G qa 10 fa, zci G qb 10 fb, zci G qc 10 fc, zci G qe 10 fe, (h0, .inr (3, [.ref qa, .ref qb, .ref qc, .ref qe, .int (zI (k : Int))]))] H := hP1
            have hD : va_D A [zci G qa 10 fa, zci G qb 10 fb, zci G qc 10 fc, zci G qe 10 fe, (h0, .inr (3, [.ref qa, .ref qb, .ref qc, .ref qe, .int (zI (k : Int))]))] := hD1
            have k4 := zdivb (show 0 < dv by omega) k3.1 k3.2
            refine zv_istore (lv' := [(8, .int (zI (((sm * (fc o)) + (mr * (fc t))) / dv))), (7, .int (zI ((sm * (fb o)) + (mr * (fb t))))), (6, .int (zI ((sm * (fa o)) + (mr * (fa t))))), (0, .ref h0), (1, .int (zI (o : Int))), (2, .int (zI sm)), (3, .int (zI (t : Int))), (4, .int (zI mr)), (5, .int (zI dv))]) S dX3_appendCut_105 hl (by decide) rfl (fun ls hl => ?_)
            refine zv_iload S dX3_appendCut_107 (lv_at hl 2 rfl) ?_
            refine zv_iload S dX3_appendCut_109 (lv_at hl 8 rfl) ?_
            refine zv_irem S (by unfold zR; omega) (by unfold zR; omega) (by omega) (by omega) dX3_appendCut_111 ?_
            have l1 := ztdivb (y := dv) k1.1 k1.2
            have m1 := ztd (x := (sm * fa o + mr * fa t)) (show 0 < dv by omega)
            refine zv_if_ne (tgt := 133) S (by unfold zR; omega) dX3_appendCut_112 (by decide) (fun c_12 => ?_) (fun c_12 => ?_)
            · refine zv_iconst S dX3_appendCut_133 ?_
              exact hret _ _ _ _ _ ⟨(-1), fa, fb, fc, fe, (k : Int)⟩ dX3_appendCut_134 ⟨rfl, (show zcut fa fb fc fe k o t sm mr dv → (-1) = (k : Int) ∧ fa = zU fa k ((sm * fa o + mr * fa t).tdiv dv) ∧ fb = zU fb k ((sm * fb o + mr * fb t).tdiv dv) ∧ fc = zU fc k ((sm * fc o + mr * fc t) / dv) ∧ fe = zU fe k 0 ∧ (k : Int) = (k : Int) + 1 from (fun z => absurd z (by unfold zcut zcs; omega))), (show ¬ zcut fa fb fc fe k o t sm mr dv → (-1) = -1 ∧ fa = fa ∧ fb = fb ∧ fc = fc ∧ fe = fe ∧ (k : Int) = (k : Int) from (fun _ => ⟨rfl, rfl, rfl, rfl, rfl, rfl⟩))⟩ (hP.sub [4, 0, 1, 2, 3] rfl) (hD.sub [4, 0, 1, 2, 3] (by decide) rfl) hS
            · refine zv_iload S dX3_appendCut_115 (lv_at hl 1 rfl) ?_
              refine zv_iload S dX3_appendCut_117 (lv_at hl 8 rfl) ?_
              refine zv_irem S (by unfold zR; omega) (by unfold zR; omega) (by omega) (by omega) dX3_appendCut_119 ?_
              have l2 := ztdivb (y := dv) k2.1 k2.2
              have m2 := ztd (x := (sm * fb o + mr * fb t)) (show 0 < dv by omega)
              refine zv_if_ne (tgt := 133) S (by unfold zR; omega) dX3_appendCut_120 (by decide) (fun c_13 => ?_) (fun c_13 => ?_)
              · refine zv_iconst S dX3_appendCut_133 ?_
                exact hret _ _ _ _ _ ⟨(-1), fa, fb, fc, fe, (k : Int)⟩ dX3_appendCut_134 ⟨rfl, (show zcut fa fb fc fe k o t sm mr dv → (-1) = (k : Int) ∧ fa = zU fa k ((sm * fa o + mr * fa t).tdiv dv) ∧ fb = zU fb k ((sm * fb o + mr * fb t).tdiv dv) ∧ fc = zU fc k ((sm * fc o + mr * fc t) / dv) ∧ fe = zU fe k 0 ∧ (k : Int) = (k : Int) + 1 from (fun z => absurd z (by unfold zcut zcs; omega))), (show ¬ zcut fa fb fc fe k o t sm mr dv → (-1) = -1 ∧ fa = fa ∧ fb = fb ∧ fc = fc ∧ fe = fe ∧ (k : Int) = (k : Int) from (fun _ => ⟨rfl, rfl, rfl, rfl, rfl, rfl⟩))⟩ (hP.sub [4, 0, 1, 2, 3] rfl) (hD.sub [4, 0, 1, 2, 3] (by decide) rfl) hS
              · refine zv_iload S dX3_appendCut_123 (lv_at hl 2 rfl) ?_
                refine zv_if_ne (tgt := 135) S (by unfold zR; omega) dX3_appendCut_125 (by decide) (fun c_14 => ?_) (fun c_14 => ?_)
                · have l1 := ztdivb (y := dv) k1.1 k1.2
                  refine zv_iload S dX3_appendCut_135 (lv_at hl 2 rfl) ?_
                  refine zv_iload S dX3_appendCut_137 (lv_at hl 8 rfl) ?_
                  refine zv_idiv S (by unfold zR; omega) (by unfold zR; omega) (by omega) (by omega) dX3_appendCut_139 ?_
                  refine zc_Si (As := [.int (zI (((sm * (fa o)) + (mr * (fa t))).tdiv dv))]) (rest := []) (wr := [zci G qa 10 fa, zci G qb 10 fb, zci G qc 10 fc, zci G qe 10 fe, (h0, .inr (3, [.ref qa, .ref qb, .ref qc, .ref qe, .int (zI (k : Int))]))]) (n := 1) S hN hK hP hD hS hA hl (c_X3_isFactor l G H.size (((sm * (fa o)) + (mr * (fa t))).tdiv dv) (by omega)) gX3_appendCut_X3_isFactor rfl ⟨rfl, rfl⟩ (by decide +kernel) rfl ⟨Nat.le_of_ble_eq_true rfl, Nat.le_of_ble_eq_true rfl, Nat.le_of_ble_eq_true rfl, Nat.le_of_ble_eq_true rfl⟩ [] [0, 1, 2, 3, 4] rfl rfl (by decide) (by decide) (by decide) (Nat.le_of_ble_eq_true rfl) dX3_appendCut_140 rfl (fun r_ u_15 H1 locs1 hp_16 hP1 hD1 hS1 hz1 => ?_)
                  try dsimp only at hp_16 hP1 hD1
                  subst hp_16
                  generalize H1 = H at hP1 hD1 hS1 hz1 ⊢
                  generalize locs1 = locs at hS1 ⊢
                  have hS := hS1
                  have hP : va_P G.1 vwCl [zci G qa 10 fa, zci G qb 10 fb, zci G qc 10 fc, zci G qe 10 fe, (h0, .inr (3, [.ref qa, .ref qb, .ref qc, .ref qe, .int (zI (k : Int))]))] H := hP1
                  have hD : va_D A [zci G qa 10 fa, zci G qb 10 fb, zci G qc 10 fc, zci G qe 10 fe, (h0, .inr (3, [.ref qa, .ref qb, .ref qc, .ref qe, .int (zI (k : Int))]))] := hD1
                  refine zv_ifb_eq (tgt := 168) S dX3_appendCut_143 (by decide) (fun c_17 => ?_) (fun c_17 => ?_)
                  · refine zv_iconst S dX3_appendCut_168 ?_
                    exact hret _ _ _ _ _ ⟨(-1), fa, fb, fc, fe, (k : Int)⟩ dX3_appendCut_169 ⟨rfl, (show zcut fa fb fc fe k o t sm mr dv → (-1) = (k : Int) ∧ fa = zU fa k ((sm * fa o + mr * fa t).tdiv dv) ∧ fb = zU fb k ((sm * fb o + mr * fb t).tdiv dv) ∧ fc = zU fc k ((sm * fc o + mr * fc t) / dv) ∧ fe = zU fe k 0 ∧ (k : Int) = (k : Int) + 1 from (fun z => absurd z (by unfold zcut zcs; omega))), (show ¬ zcut fa fb fc fe k o t sm mr dv → (-1) = -1 ∧ fa = fa ∧ fb = fb ∧ fc = fc ∧ fe = fe ∧ (k : Int) = (k : Int) from (fun _ => ⟨rfl, rfl, rfl, rfl, rfl, rfl⟩))⟩ (hP.sub [4, 0, 1, 2, 3] rfl) (hD.sub [4, 0, 1, 2, 3] (by decide) rfl) hS
                  · have l2 := ztdivb (y := dv) k2.1 k2.2
                    refine zv_iload S dX3_appendCut_146 (lv_at hl 1 rfl) ?_
                    refine zv_iload S dX3_appendCut_148 (lv_at hl 8 rfl) ?_
                    refine zv_idiv S (by unfold zR; omega) (by unfold zR; omega) (by omega) (by omega) dX3_appendCut_150 ?_
                    refine zc_Si (As := [.int (zI (((sm * (fb o)) + (mr * (fb t))).tdiv dv))]) (rest := []) (wr := [zci G qa 10 fa, zci G qb 10 fb, zci G qc 10 fc, zci G qe 10 fe, (h0, .inr (3, [.ref qa, .ref qb, .ref qc, .ref qe, .int (zI (k : Int))]))]) (n := 1) S hN hK hP hD hS hA hl (c_X3_isFactor l G H.size (((sm * (fb o)) + (mr * (fb t))).tdiv dv) (by omega)) gX3_appendCut_X3_isFactor rfl ⟨rfl, rfl⟩ (by decide +kernel) rfl ⟨Nat.le_of_ble_eq_true rfl, Nat.le_of_ble_eq_true rfl, Nat.le_of_ble_eq_true rfl, Nat.le_of_ble_eq_true rfl⟩ [] [0, 1, 2, 3, 4] rfl rfl (by decide) (by decide) (by decide) (Nat.le_of_ble_eq_true rfl) dX3_appendCut_151 rfl (fun r_ u_18 H1 locs1 hp_19 hP1 hD1 hS1 hz1 => ?_)
                    try dsimp only at hp_19 hP1 hD1
                    subst hp_19
                    generalize H1 = H at hP1 hD1 hS1 hz1 ⊢
                    generalize locs1 = locs at hS1 ⊢
                    have hS := hS1
                    have hP : va_P G.1 vwCl [zci G qa 10 fa, zci G qb 10 fb, zci G qc 10 fc, zci G qe 10 fe, (h0, .inr (3, [.ref qa, .ref qb, .ref qc, .ref qe, .int (zI (k : Int))]))] H := hP1
                    have hD : va_D A [zci G qa 10 fa, zci G qb 10 fb, zci G qc 10 fc, zci G qe 10 fe, (h0, .inr (3, [.ref qa, .ref qb, .ref qc, .ref qe, .int (zI (k : Int))]))] := hD1
                    refine zv_ifb_eq (tgt := 168) S dX3_appendCut_154 (by decide) (fun c_20 => ?_) (fun c_20 => ?_)
                    · refine zv_iconst S dX3_appendCut_168 ?_
                      exact hret _ _ _ _ _ ⟨(-1), fa, fb, fc, fe, (k : Int)⟩ dX3_appendCut_169 ⟨rfl, (show zcut fa fb fc fe k o t sm mr dv → (-1) = (k : Int) ∧ fa = zU fa k ((sm * fa o + mr * fa t).tdiv dv) ∧ fb = zU fb k ((sm * fb o + mr * fb t).tdiv dv) ∧ fc = zU fc k ((sm * fc o + mr * fc t) / dv) ∧ fe = zU fe k 0 ∧ (k : Int) = (k : Int) + 1 from (fun z => absurd z (by unfold zcut zcs; omega))), (show ¬ zcut fa fb fc fe k o t sm mr dv → (-1) = -1 ∧ fa = fa ∧ fb = fb ∧ fc = fc ∧ fe = fe ∧ (k : Int) = (k : Int) from (fun _ => ⟨rfl, rfl, rfl, rfl, rfl, rfl⟩))⟩ (hP.sub [4, 0, 1, 2, 3] rfl) (hD.sub [4, 0, 1, 2, 3] (by decide) rfl) hS
                    · refine zv_iload S dX3_appendCut_157 (lv_at hl 0 rfl) ?_
                      refine zv_abs S hl (by unfold zR; omega) wd_X3_appendCut_m41 wd_X3_appendCut_sabs wd_X3_appendCut_iM wd_X3_appendCut_cabs (by decide) (Nat.le_of_ble_eq_true rfl) (Nat.le_of_ble_eq_true rfl) (Nat.le_of_ble_eq_true rfl) dX3_appendCut_159 ?_
                      refine zv_sipush (v := 999) S dX3_appendCut_162 (by decide) ?_
                      refine zv_icmp_le (tgt := 170) S (by unfold zR zabs; split <;> omega) (by unfold zR; omega) dX3_appendCut_165 (by decide) (fun c_21 => ?_) (fun c_21 => ?_)
                      · refine zv_aload_n S dX3_appendCut_170 rfl (lv_at hl 3 rfl) ?_
                        refine zv_iload S dX3_appendCut_171 (lv_at hl 2 rfl) ?_
                        refine zv_iload S dX3_appendCut_173 (lv_at hl 8 rfl) ?_
                        refine zv_idiv S (by unfold zR; omega) (by unfold zR; omega) (by omega) (by omega) dX3_appendCut_175 ?_
                        refine zv_iload S dX3_appendCut_176 (lv_at hl 1 rfl) ?_
                        refine zv_iload S dX3_appendCut_178 (lv_at hl 8 rfl) ?_
                        refine zv_idiv S (by unfold zR; omega) (by unfold zR; omega) (by omega) (by omega) dX3_appendCut_180 ?_
                        refine zv_iload S dX3_appendCut_181 (lv_at hl 0 rfl) ?_
                        refine zv_iconst S dX3_appendCut_183 ?_
                        refine zc_Vi (As := [.int (zI (((sm * (fa o)) + (mr * (fa t))).tdiv dv)), .int (zI (((sm * (fb o)) + (mr * (fb t))).tdiv dv)), .int (zI (((sm * (fc o)) + (mr * (fc t))) / dv)), .int (zI 0)]) (rest := []) (wr := []) (n := 4) S hN hK hP hD hS hA hl (c_X3_append l G H.size h0 qa qb qc qe fa fb fc fe k (((sm * (fa o)) + (mr * (fa t))).tdiv dv) (((sm * (fb o)) + (mr * (fb t))).tdiv dv) (((sm * (fc o)) + (mr * (fc t))) / dv) 0 (by omega)) gX3_appendCut_X3_append rfl ⟨rfl, rfl⟩ (by decide +kernel) rfl ⟨Nat.le_of_ble_eq_true rfl, Nat.le_of_ble_eq_true rfl, Nat.le_of_ble_eq_true rfl, Nat.le_of_ble_eq_true rfl⟩ [4, 0, 1, 2, 3] [] rfl rfl (by decide) (by decide) (by decide) (ci := 3) rfl rfl rfl (Nat.le_of_ble_eq_true rfl) dX3_appendCut_184 rfl (fun r_ u_22 H1 locs1 hp_23 hP1 hD1 hS1 hz1 => ?_)
                        try dsimp only at hp_23 hP1 hD1
                        subst hp_23
                        generalize H1 = H at hP1 hD1 hS1 hz1 ⊢
                        generalize locs1 = locs at hS1 ⊢
                        have hS := hS1
                        have hP : va_P G.1 vwCl [(h0, .inr (3, [.ref qa, .ref qb, .ref qc, .ref qe, .int (zI ((k : Int) + 1))])), zci G qa 10 (zU fa k (((sm * (fa o)) + (mr * (fa t))).tdiv dv)), zci G qb 10 (zU fb k (((sm * (fb o)) + (mr * (fb t))).tdiv dv)), zci G qc 10 (zU fc k (((sm * (fc o)) + (mr * (fc t))) / dv)), zci G qe 10 (zU fe k 0)] H := hP1
                        have hD : va_D A [(h0, .inr (3, [.ref qa, .ref qb, .ref qc, .ref qe, .int (zI ((k : Int) + 1))])), zci G qa 10 (zU fa k (((sm * (fa o)) + (mr * (fa t))).tdiv dv)), zci G qb 10 (zU fb k (((sm * (fb o)) + (mr * (fb t))).tdiv dv)), zci G qc 10 (zU fc k (((sm * (fc o)) + (mr * (fc t))) / dv)), zci G qe 10 (zU fe k 0)] := hD1
                        exact hret _ _ _ _ _ ⟨(k : Int), (zU fa k ((sm * fa o + mr * fa t).tdiv dv)), (zU fb k ((sm * fb o + mr * fb t).tdiv dv)), (zU fc k ((sm * fc o + mr * fc t) / dv)), (zU fe k 0), ((k : Int) + 1)⟩ dX3_appendCut_187 ⟨rfl, (show zcut fa fb fc fe k o t sm mr dv → (k : Int) = (k : Int) ∧ (zU fa k ((sm * fa o + mr * fa t).tdiv dv)) = zU fa k ((sm * fa o + mr * fa t).tdiv dv) ∧ (zU fb k ((sm * fb o + mr * fb t).tdiv dv)) = zU fb k ((sm * fb o + mr * fb t).tdiv dv) ∧ (zU fc k ((sm * fc o + mr * fc t) / dv)) = zU fc k ((sm * fc o + mr * fc t) / dv) ∧ (zU fe k 0) = zU fe k 0 ∧ ((k : Int) + 1) = (k : Int) + 1 from (fun _ => ⟨rfl, rfl, rfl, rfl, rfl, rfl⟩)), (show ¬ zcut fa fb fc fe k o t sm mr dv → (k : Int) = -1 ∧ (zU fa k ((sm * fa o + mr * fa t).tdiv dv)) = fa ∧ (zU fb k ((sm * fb o + mr * fb t).tdiv dv)) = fb ∧ (zU fc k ((sm * fc o + mr * fc t) / dv)) = fc ∧ (zU fe k 0) = fe ∧ ((k : Int) + 1) = (k : Int) from (fun z => absurd (by unfold zcut zcs; have k6 := zabs_le.mp c_21; omega) z))⟩ (hP.sub [0, 1, 2, 3, 4] rfl) (hD.sub [0, 1, 2, 3, 4] (by decide) rfl) hS
                      · refine zv_iconst S dX3_appendCut_168 ?_
                        exact hret _ _ _ _ _ ⟨(-1), fa, fb, fc, fe, (k : Int)⟩ dX3_appendCut_169 ⟨rfl, (show zcut fa fb fc fe k o t sm mr dv → (-1) = (k : Int) ∧ fa = zU fa k ((sm * fa o + mr * fa t).tdiv dv) ∧ fb = zU fb k ((sm * fb o + mr * fb t).tdiv dv) ∧ fc = zU fc k ((sm * fc o + mr * fc t) / dv) ∧ fe = zU fe k 0 ∧ (k : Int) = (k : Int) + 1 from (fun z => absurd z (by unfold zcut zcs; rw [zabs_le] at c_21; omega))), (show ¬ zcut fa fb fc fe k o t sm mr dv → (-1) = -1 ∧ fa = fa ∧ fb = fb ∧ fc = fc ∧ fe = fe ∧ (k : Int) = (k : Int) from (fun _ => ⟨rfl, rfl, rfl, rfl, rfl, rfl⟩))⟩ (hP.sub [4, 0, 1, 2, 3] rfl) (hD.sub [4, 0, 1, 2, 3] (by decide) rfl) hS
                · refine zv_iload S dX3_appendCut_128 (lv_at hl 1 rfl) ?_
                  refine zv_if_ne (tgt := 135) S (by unfold zR; omega) dX3_appendCut_130 (by decide) (fun c_24 => ?_) (fun c_24 => ?_)
                  · have l1 := ztdivb (y := dv) k1.1 k1.2
                    refine zv_iload S dX3_appendCut_135 (lv_at hl 2 rfl) ?_
                    refine zv_iload S dX3_appendCut_137 (lv_at hl 8 rfl) ?_
                    refine zv_idiv S (by unfold zR; omega) (by unfold zR; omega) (by omega) (by omega) dX3_appendCut_139 ?_
                    refine zc_Si (As := [.int (zI (((sm * (fa o)) + (mr * (fa t))).tdiv dv))]) (rest := []) (wr := [zci G qa 10 fa, zci G qb 10 fb, zci G qc 10 fc, zci G qe 10 fe, (h0, .inr (3, [.ref qa, .ref qb, .ref qc, .ref qe, .int (zI (k : Int))]))]) (n := 1) S hN hK hP hD hS hA hl (c_X3_isFactor l G H.size (((sm * (fa o)) + (mr * (fa t))).tdiv dv) (by omega)) gX3_appendCut_X3_isFactor rfl ⟨rfl, rfl⟩ (by decide +kernel) rfl ⟨Nat.le_of_ble_eq_true rfl, Nat.le_of_ble_eq_true rfl, Nat.le_of_ble_eq_true rfl, Nat.le_of_ble_eq_true rfl⟩ [] [0, 1, 2, 3, 4] rfl rfl (by decide) (by decide) (by decide) (Nat.le_of_ble_eq_true rfl) dX3_appendCut_140 rfl (fun r_ u_25 H1 locs1 hp_26 hP1 hD1 hS1 hz1 => ?_)
                    try dsimp only at hp_26 hP1 hD1
                    subst hp_26
                    generalize H1 = H at hP1 hD1 hS1 hz1 ⊢
                    generalize locs1 = locs at hS1 ⊢
                    have hS := hS1
                    have hP : va_P G.1 vwCl [zci G qa 10 fa, zci G qb 10 fb, zci G qc 10 fc, zci G qe 10 fe, (h0, .inr (3, [.ref qa, .ref qb, .ref qc, .ref qe, .int (zI (k : Int))]))] H := hP1
                    have hD : va_D A [zci G qa 10 fa, zci G qb 10 fb, zci G qc 10 fc, zci G qe 10 fe, (h0, .inr (3, [.ref qa, .ref qb, .ref qc, .ref qe, .int (zI (k : Int))]))] := hD1
                    refine zv_ifb_eq (tgt := 168) S dX3_appendCut_143 (by decide) (fun c_27 => ?_) (fun c_27 => ?_)
                    · refine zv_iconst S dX3_appendCut_168 ?_
                      exact hret _ _ _ _ _ ⟨(-1), fa, fb, fc, fe, (k : Int)⟩ dX3_appendCut_169 ⟨rfl, (show zcut fa fb fc fe k o t sm mr dv → (-1) = (k : Int) ∧ fa = zU fa k ((sm * fa o + mr * fa t).tdiv dv) ∧ fb = zU fb k ((sm * fb o + mr * fb t).tdiv dv) ∧ fc = zU fc k ((sm * fc o + mr * fc t) / dv) ∧ fe = zU fe k 0 ∧ (k : Int) = (k : Int) + 1 from (fun z => absurd z (by unfold zcut zcs; omega))), (show ¬ zcut fa fb fc fe k o t sm mr dv → (-1) = -1 ∧ fa = fa ∧ fb = fb ∧ fc = fc ∧ fe = fe ∧ (k : Int) = (k : Int) from (fun _ => ⟨rfl, rfl, rfl, rfl, rfl, rfl⟩))⟩ (hP.sub [4, 0, 1, 2, 3] rfl) (hD.sub [4, 0, 1, 2, 3] (by decide) rfl) hS
                    · have l2 := ztdivb (y := dv) k2.1 k2.2
                      refine zv_iload S dX3_appendCut_146 (lv_at hl 1 rfl) ?_
                      refine zv_iload S dX3_appendCut_148 (lv_at hl 8 rfl) ?_
                      refine zv_idiv S (by unfold zR; omega) (by unfold zR; omega) (by omega) (by omega) dX3_appendCut_150 ?_
                      refine zc_Si (As := [.int (zI (((sm * (fb o)) + (mr * (fb t))).tdiv dv))]) (rest := []) (wr := [zci G qa 10 fa, zci G qb 10 fb, zci G qc 10 fc, zci G qe 10 fe, (h0, .inr (3, [.ref qa, .ref qb, .ref qc, .ref qe, .int (zI (k : Int))]))]) (n := 1) S hN hK hP hD hS hA hl (c_X3_isFactor l G H.size (((sm * (fb o)) + (mr * (fb t))).tdiv dv) (by omega)) gX3_appendCut_X3_isFactor rfl ⟨rfl, rfl⟩ (by decide +kernel) rfl ⟨Nat.le_of_ble_eq_true rfl, Nat.le_of_ble_eq_true rfl, Nat.le_of_ble_eq_true rfl, Nat.le_of_ble_eq_true rfl⟩ [] [0, 1, 2, 3, 4] rfl rfl (by decide) (by decide) (by decide) (Nat.le_of_ble_eq_true rfl) dX3_appendCut_151 rfl (fun r_ u_28 H1 locs1 hp_29 hP1 hD1 hS1 hz1 => ?_)
                      try dsimp only at hp_29 hP1 hD1
                      subst hp_29
                      generalize H1 = H at hP1 hD1 hS1 hz1 ⊢
                      generalize locs1 = locs at hS1 ⊢
                      have hS := hS1
                      have hP : va_P G.1 vwCl [zci G qa 10 fa, zci G qb 10 fb, zci G qc 10 fc, zci G qe 10 fe, (h0, .inr (3, [.ref qa, .ref qb, .ref qc, .ref qe, .int (zI (k : Int))]))] H := hP1
                      have hD : va_D A [zci G qa 10 fa, zci G qb 10 fb, zci G qc 10 fc, zci G qe 10 fe, (h0, .inr (3, [.ref qa, .ref qb, .ref qc, .ref qe, .int (zI (k : Int))]))] := hD1
                      refine zv_ifb_eq (tgt := 168) S dX3_appendCut_154 (by decide) (fun c_30 => ?_) (fun c_30 => ?_)
                      · refine zv_iconst S dX3_appendCut_168 ?_
                        exact hret _ _ _ _ _ ⟨(-1), fa, fb, fc, fe, (k : Int)⟩ dX3_appendCut_169 ⟨rfl, (show zcut fa fb fc fe k o t sm mr dv → (-1) = (k : Int) ∧ fa = zU fa k ((sm * fa o + mr * fa t).tdiv dv) ∧ fb = zU fb k ((sm * fb o + mr * fb t).tdiv dv) ∧ fc = zU fc k ((sm * fc o + mr * fc t) / dv) ∧ fe = zU fe k 0 ∧ (k : Int) = (k : Int) + 1 from (fun z => absurd z (by unfold zcut zcs; omega))), (show ¬ zcut fa fb fc fe k o t sm mr dv → (-1) = -1 ∧ fa = fa ∧ fb = fb ∧ fc = fc ∧ fe = fe ∧ (k : Int) = (k : Int) from (fun _ => ⟨rfl, rfl, rfl, rfl, rfl, rfl⟩))⟩ (hP.sub [4, 0, 1, 2, 3] rfl) (hD.sub [4, 0, 1, 2, 3] (by decide) rfl) hS
                      · refine zv_iload S dX3_appendCut_157 (lv_at hl 0 rfl) ?_
                        refine zv_abs S hl (by unfold zR; omega) wd_X3_appendCut_m41 wd_X3_appendCut_sabs wd_X3_appendCut_iM wd_X3_appendCut_cabs (by decide) (Nat.le_of_ble_eq_true rfl) (Nat.le_of_ble_eq_true rfl) (Nat.le_of_ble_eq_true rfl) dX3_appendCut_159 ?_
                        refine zv_sipush (v := 999) S dX3_appendCut_162 (by decide) ?_
                        refine zv_icmp_le (tgt := 170) S (by unfold zR zabs; split <;> omega) (by unfold zR; omega) dX3_appendCut_165 (by decide) (fun c_31 => ?_) (fun c_31 => ?_)
                        · refine zv_aload_n S dX3_appendCut_170 rfl (lv_at hl 3 rfl) ?_
                          refine zv_iload S dX3_appendCut_171 (lv_at hl 2 rfl) ?_
                          refine zv_iload S dX3_appendCut_173 (lv_at hl 8 rfl) ?_
                          refine zv_idiv S (by unfold zR; omega) (by unfold zR; omega) (by omega) (by omega) dX3_appendCut_175 ?_
                          refine zv_iload S dX3_appendCut_176 (lv_at hl 1 rfl) ?_
                          refine zv_iload S dX3_appendCut_178 (lv_at hl 8 rfl) ?_
                          refine zv_idiv S (by unfold zR; omega) (by unfold zR; omega) (by omega) (by omega) dX3_appendCut_180 ?_
                          refine zv_iload S dX3_appendCut_181 (lv_at hl 0 rfl) ?_
                          refine zv_iconst S dX3_appendCut_183 ?_
                          refine zc_Vi (As := [.int (zI (((sm * (fa o)) + (mr * (fa t))).tdiv dv)), .int (zI (((sm * (fb o)) + (mr * (fb t))).tdiv dv)), .int (zI (((sm * (fc o)) + (mr * (fc t))) / dv)), .int (zI 0)]) (rest := []) (wr := []) (n := 4) S hN hK hP hD hS hA hl (c_X3_append l G H.size h0 qa qb qc qe fa fb fc fe k (((sm * (fa o)) + (mr * (fa t))).tdiv dv) (((sm * (fb o)) + (mr * (fb t))).tdiv dv) (((sm * (fc o)) + (mr * (fc t))) / dv) 0 (by omega)) gX3_appendCut_X3_append rfl ⟨rfl, rfl⟩ (by decide +kernel) rfl ⟨Nat.le_of_ble_eq_true rfl, Nat.le_of_ble_eq_true rfl, Nat.le_of_ble_eq_true rfl, Nat.le_of_ble_eq_true rfl⟩ [4, 0, 1, 2, 3] [] rfl rfl (by decide) (by decide) (by decide) (ci := 3) rfl rfl rfl (Nat.le_of_ble_eq_true rfl) dX3_appendCut_184 rfl (fun r_ u_32 H1 locs1 hp_33 hP1 hD1 hS1 hz1 => ?_)
                          try dsimp only at hp_33 hP1 hD1
                          subst hp_33
                          generalize H1 = H at hP1 hD1 hS1 hz1 ⊢
                          generalize locs1 = locs at hS1 ⊢
                          have hS := hS1
                          have hP : va_P G.1 vwCl [(h0, .inr (3, [.ref qa, .ref qb, .ref qc, .ref qe, .int (zI ((k : Int) + 1))])), zci G qa 10 (zU fa k (((sm * (fa o)) + (mr * (fa t))).tdiv dv)), zci G qb 10 (zU fb k (((sm * (fb o)) + (mr * (fb t))).tdiv dv)), zci G qc 10 (zU fc k (((sm * (fc o)) + (mr * (fc t))) / dv)), zci G qe 10 (zU fe k 0)] H := hP1
                          have hD : va_D A [(h0, .inr (3, [.ref qa, .ref qb, .ref qc, .ref qe, .int (zI ((k : Int) + 1))])), zci G qa 10 (zU fa k (((sm * (fa o)) + (mr * (fa t))).tdiv dv)), zci G qb 10 (zU fb k (((sm * (fb o)) + (mr * (fb t))).tdiv dv)), zci G qc 10 (zU fc k (((sm * (fc o)) + (mr * (fc t))) / dv)), zci G qe 10 (zU fe k 0)] := hD1
                          exact hret _ _ _ _ _ ⟨(k : Int), (zU fa k ((sm * fa o + mr * fa t).tdiv dv)), (zU fb k ((sm * fb o + mr * fb t).tdiv dv)), (zU fc k ((sm * fc o + mr * fc t) / dv)), (zU fe k 0), ((k : Int) + 1)⟩ dX3_appendCut_187 ⟨rfl, (show zcut fa fb fc fe k o t sm mr dv → (k : Int) = (k : Int) ∧ (zU fa k ((sm * fa o + mr * fa t).tdiv dv)) = zU fa k ((sm * fa o + mr * fa t).tdiv dv) ∧ (zU fb k ((sm * fb o + mr * fb t).tdiv dv)) = zU fb k ((sm * fb o + mr * fb t).tdiv dv) ∧ (zU fc k ((sm * fc o + mr * fc t) / dv)) = zU fc k ((sm * fc o + mr * fc t) / dv) ∧ (zU fe k 0) = zU fe k 0 ∧ ((k : Int) + 1) = (k : Int) + 1 from (fun _ => ⟨rfl, rfl, rfl, rfl, rfl, rfl⟩)), (show ¬ zcut fa fb fc fe k o t sm mr dv → (k : Int) = -1 ∧ (zU fa k ((sm * fa o + mr * fa t).tdiv dv)) = fa ∧ (zU fb k ((sm * fb o + mr * fb t).tdiv dv)) = fb ∧ (zU fc k ((sm * fc o + mr * fc t) / dv)) = fc ∧ (zU fe k 0) = fe ∧ ((k : Int) + 1) = (k : Int) from (fun z => absurd (by unfold zcut zcs; have k6 := zabs_le.mp c_31; omega) z))⟩ (hP.sub [0, 1, 2, 3, 4] rfl) (hD.sub [0, 1, 2, 3, 4] (by decide) rfl) hS
                        · refine zv_iconst S dX3_appendCut_168 ?_
                          exact hret _ _ _ _ _ ⟨(-1), fa, fb, fc, fe, (k : Int)⟩ dX3_appendCut_169 ⟨rfl, (show zcut fa fb fc fe k o t sm mr dv → (-1) = (k : Int) ∧ fa = zU fa k ((sm * fa o + mr * fa t).tdiv dv) ∧ fb = zU fb k ((sm * fb o + mr * fb t).tdiv dv) ∧ fc = zU fc k ((sm * fc o + mr * fc t) / dv) ∧ fe = zU fe k 0 ∧ (k : Int) = (k : Int) + 1 from (fun z => absurd z (by unfold zcut zcs; rw [zabs_le] at c_31; omega))), (show ¬ zcut fa fb fc fe k o t sm mr dv → (-1) = -1 ∧ fa = fa ∧ fb = fb ∧ fc = fc ∧ fe = fe ∧ (k : Int) = (k : Int) from (fun _ => ⟨rfl, rfl, rfl, rfl, rfl, rfl⟩))⟩ (hP.sub [4, 0, 1, 2, 3] rfl) (hD.sub [4, 0, 1, 2, 3] (by decide) rfl) hS
                  · refine zv_iconst S dX3_appendCut_133 ?_
                    exact hret _ _ _ _ _ ⟨(-1), fa, fb, fc, fe, (k : Int)⟩ dX3_appendCut_134 ⟨rfl, (show zcut fa fb fc fe k o t sm mr dv → (-1) = (k : Int) ∧ fa = zU fa k ((sm * fa o + mr * fa t).tdiv dv) ∧ fb = zU fb k ((sm * fb o + mr * fb t).tdiv dv) ∧ fc = zU fc k ((sm * fc o + mr * fc t) / dv) ∧ fe = zU fe k 0 ∧ (k : Int) = (k : Int) + 1 from (fun z => absurd z (by unfold zcut zcs; omega))), (show ¬ zcut fa fb fc fe k o t sm mr dv → (-1) = -1 ∧ fa = fa ∧ fb = fb ∧ fc = fc ∧ fe = fe ∧ (k : Int) = (k : Int) from (fun _ => ⟨rfl, rfl, rfl, rfl, rfl, rfl⟩))⟩ (hP.sub [4, 0, 1, 2, 3] rfl) (hD.sub [4, 0, 1, 2, 3] (by decide) rfl) hS
          · refine zv_iconst S dX3_appendCut_40 ?_
            exact hret _ _ _ _ _ ⟨(-1), fa, fb, fc, fe, (k : Int)⟩ dX3_appendCut_41 ⟨rfl, (show zcut fa fb fc fe k o t sm mr dv → (-1) = (k : Int) ∧ fa = zU fa k ((sm * fa o + mr * fa t).tdiv dv) ∧ fb = zU fb k ((sm * fb o + mr * fb t).tdiv dv) ∧ fc = zU fc k ((sm * fc o + mr * fc t) / dv) ∧ fe = zU fe k 0 ∧ (k : Int) = (k : Int) + 1 from (fun z => absurd z (by unfold zcut zcs; omega))), (show ¬ zcut fa fb fc fe k o t sm mr dv → (-1) = -1 ∧ fa = fa ∧ fb = fb ∧ fc = fc ∧ fe = fe ∧ (k : Int) = (k : Int) from (fun _ => ⟨rfl, rfl, rfl, rfl, rfl, rfl⟩))⟩ (hP.sub [4, 0, 1, 2, 3] rfl) (hD.sub [4, 0, 1, 2, 3] (by decide) rfl) hS

theorem wd_X3_appendCut_full_f21 : Cond.fieldLink RX3 21 "PointMill$Shape" "e" "[I" ∈ wsX3_appendCut := by decide +kernel
theorem in_X3_appendCut_full_X3 : ∀ w ∈ wsX30, w ∈ wsX3_appendCut := by decide +kernel
theorem wd_X3_appendCut_full_f9 : Cond.fieldLink RX3 9 "PointMill$Shape" "a" "[I" ∈ wsX3_appendCut := by decide +kernel
theorem wd_X3_appendCut_full_f15 : Cond.fieldLink RX3 15 "PointMill$Shape" "b" "[I" ∈ wsX3_appendCut := by decide +kernel
theorem wd_X3_appendCut_full_f18 : Cond.fieldLink RX3 18 "PointMill$Shape" "c" "[I" ∈ wsX3_appendCut := by decide +kernel
theorem wd_X3_appendCut_full_m41 : Cond.methodLink RX3 41 Lib.Math.abs.name ∈ wsX3_appendCut := by decide +kernel
theorem wd_X3_appendCut_full_sabs : Cond.static Lib.Math.abs.name ∈ wsX3_appendCut := by decide +kernel
theorem wd_X3_appendCut_full_iM : Cond.initialized "java/lang/Math" ∈ wsX3_appendCut := by decide +kernel
theorem wd_X3_appendCut_full_cabs : Cond.code Lib.Math.abs.name Lib.Math.abs.code 1 (some .int) ∈ wsX3_appendCut := by decide +kernel
set_option maxHeartbeats 4000000 in
set_option maxRecDepth 100000 in
/-- Shape.appendCut where there is none -/
theorem c_X3_appendCut_full (l : Launch) (G : zG) (sz : Nat) (h0 : Nat) (qa : Nat) (qb : Nat) (qc : Nat) (qe : Nat) (fa : Nat → Int) (fb : Nat → Int) (fc : Nat → Int) (fe : Nat → Int) (k : Nat) (o : Nat) (t : Nat) (sm : Int) (mr : Int) (dv : Int) (hk : k = 10) (ho : o < k) (ht : t < k) (hsm : 0 ≤ sm ∧ sm ≤ 9) (hmr : 0 ≤ mr ∧ mr ≤ 9) (hdv : 1 ≤ dv ∧ dv ≤ 20) (ha : ∀ j, j < k → -60 ≤ fa j ∧ fa j ≤ 60) (hb : ∀ j, j < k → -60 ≤ fb j ∧ fb j ≤ 60) (hc : ∀ j, j < k → -999 ≤ fc j ∧ fc j ≤ 999) (he : ∀ j, j < k → -9 ≤ fe j ∧ fe j ≤ 9) : Met l yX3_appendCut wsX3_appendCut ({ frames := 1, cells := 0, slots := 0, locals := 24 }) (va_Pc [.ref h0, .int (zI (o : Int)), .int (zI sm), .int (zI (t : Int)), .int (zI mr), .int (zI dv)] (zPre G sz [(h0, .inr (3, [.ref qa, .ref qb, .ref qc, .ref qe, .int (zI (k : Int))])), zci G qa 10 fa, zci G qb 10 fb, zci G qc 10 fc, zci G qe 10 fe])) (va_Qi (fun (r : Int32) (u : Unit) => r = zI (-1)) (fun u => zW G (va_A [(h0, .inr (3, [.ref qa, .ref qb, .ref qc, .ref qe, .int (zI (k : Int))])), zci G qa 10 fa, zci G qb 10 fb, zci G qc 10 fc, zci G qe 10 fe] sz) ((fun (u : Unit) => [(h0, .inr (3, [.ref qa, .ref qb, .ref qc, .ref qe, .int (zI (k : Int))])), zci G qa 10 fa, zci G qb 10 fb, zci G qc 10 fc, zci G qe 10 fe]) u)) (va_A [(h0, .inr (3, [.ref qa, .ref qb, .ref qc, .ref qe, .int (zI (k : Int))])), zci G qa 10 fa, zci G qb 10 fb, zci G qc 10 fc, zci G qe 10 fe] sz)) 0 0 (va_A [(h0, .inr (3, [.ref qa, .ref qb, .ref qc, .ref qe, .int (zI (k : Int))])), zci G qa 10 fa, zci G qb 10 fb, zci G qc 10 fc, zci G qe 10 fe] sz) := by
  refine zM_i (post := fun (r : Int32) (u : Unit) => r = zI (-1)) (w1 := fun (u : Unit) => [(h0, .inr (3, [.ref qa, .ref qb, .ref qc, .ref qe, .int (zI (k : Int))])), zci G qa 10 fa, zci G qb 10 fb, zci G qc 10 fc, zci G qe 10 fe]) (plainFor_of_name (by decide)) rfl (Nat.le_of_ble_eq_true rfl) ?_
  intro p e s m below meth c A Q S hN hK hP hD hS hA hret ls hl
  have hl : lv_has ls 9 [(0, .ref h0), (1, .int (zI (o : Int))), (2, .int (zI sm)), (3, .int (zI (t : Int))), (4, .int (zI mr)), (5, .int (zI dv))] := hl
  refine zv_aload_n S dX3_appendCut_0 rfl (lv_at hl 0 rfl) ?_
  refine zv_iload_n S dX3_appendCut_1 rfl (lv_at hl 1 rfl) ?_
  refine zc_Vi (As := [.int (zI (o : Int))]) (rest := []) (wr := [zci G qa 10 fa, zci G qb 10 fb, zci G qc 10 fc, zci G qe 10 fe]) (n := 1) S hN hK hP hD hS hA hl (c_X3_has l G s.heap.size h0 qa qb qc qe k (o : Int) (by omega) (by omega)) gX3_appendCut_X3_has rfl ⟨rfl, rfl⟩ (by decide +kernel) rfl ⟨Nat.le_of_ble_eq_true rfl, Nat.le_of_ble_eq_true rfl, Nat.le_of_ble_eq_true rfl, Nat.le_of_ble_eq_true rfl⟩ [0] [1, 2, 3, 4] rfl rfl (by decide) (by decide) (by decide) (ci := 3) rfl rfl rfl (Nat.le_of_ble_eq_true rfl) dX3_appendCut_2 rfl (fun r_ u_1 H1 locs1 hp_2 hP1 hD1 hS1 hz1 => ?_)
  try dsimp only at hp_2 hP1 hD1
  subst hp_2
  generalize H1 = H at hP1 hD1 hS1 hz1 ⊢
  generalize locs1 = locs at hS1 ⊢
  have hS := hS1
  have hP : va_P G.1 vwCl [zci G qa 10 fa, zci G qb 10 fb, zci G qc 10 fc, zci G qe 10 fe, (h0, .inr (3, [.ref qa, .ref qb, .ref qc, .ref qe, .int (zI (k : Int))]))] H := hP1
  have hD : va_D A [zci G qa 10 fa, zci G qb 10 fb, zci G qc 10 fc, zci G qe 10 fe, (h0, .inr (3, [.ref qa, .ref qb, .ref qc, .ref qe, .int (zI (k : Int))]))] := hD1
  refine zv_ifb_eq (tgt := 40) S dX3_appendCut_5 (by decide) (fun c_3 => ?_) (fun c_3 => ?_)
  · exact absurd ⟨by omega, by omega⟩ c_3
  · refine zv_aload_n S dX3_appendCut_8 rfl (lv_at hl 0 rfl) ?_
    refine zv_iload_n S dX3_appendCut_9 rfl (lv_at hl 3 rfl) ?_
    refine zc_Vi (As := [.int (zI (t : Int))]) (rest := []) (wr := [zci G qa 10 fa, zci G qb 10 fb, zci G qc 10 fc, zci G qe 10 fe]) (n := 1) S hN hK hP hD hS hA hl (c_X3_has l G H.size h0 qa qb qc qe k (t : Int) (by omega) (by omega)) gX3_appendCut_X3_has rfl ⟨rfl, rfl⟩ (by decide +kernel) rfl ⟨Nat.le_of_ble_eq_true rfl, Nat.le_of_ble_eq_true rfl, Nat.le_of_ble_eq_true rfl, Nat.le_of_ble_eq_true rfl⟩ [4] [0, 1, 2, 3] rfl rfl (by decide) (by decide) (by decide) (ci := 3) rfl rfl rfl (Nat.le_of_ble_eq_true rfl) dX3_appendCut_10 rfl (fun r_ u_4 H1 locs1 hp_5 hP1 hD1 hS1 hz1 => ?_)
    try dsimp only at hp_5 hP1 hD1
    subst hp_5
    generalize H1 = H at hP1 hD1 hS1 hz1 ⊢
    generalize locs1 = locs at hS1 ⊢
    have hS := hS1
    have hP : va_P G.1 vwCl [zci G qa 10 fa, zci G qb 10 fb, zci G qc 10 fc, zci G qe 10 fe, (h0, .inr (3, [.ref qa, .ref qb, .ref qc, .ref qe, .int (zI (k : Int))]))] H := hP1
    have hD : va_D A [zci G qa 10 fa, zci G qb 10 fb, zci G qc 10 fc, zci G qe 10 fe, (h0, .inr (3, [.ref qa, .ref qb, .ref qc, .ref qe, .int (zI (k : Int))]))] := hD1
    refine zv_ifb_eq (tgt := 40) S dX3_appendCut_13 (by decide) (fun c_6 => ?_) (fun c_6 => ?_)
    · exact absurd ⟨by omega, by omega⟩ c_6
    · refine zv_iload S dX3_appendCut_16 (lv_at hl 5 rfl) ?_
      refine zv_iconst S dX3_appendCut_18 ?_
      refine zv_icmp_lt (tgt := 40) S (by unfold zR; omega) (by unfold zR; omega) dX3_appendCut_19 (by decide) (fun c_7 => ?_) (fun c_7 => ?_)
      · exact absurd c_7 (by omega)
      · refine zv_aload_n S dX3_appendCut_22 rfl (lv_at hl 0 rfl) ?_
        refine zv_get (C := RX3) (T := TX3) (N := 5) (ci := 3) (v := .ref qe) S in_X3_appendCut_full_X3 hK hP 4 rfl rfl 3 (by decide) wd_X3_appendCut_full_f21 rfl rfl dX3_appendCut_23 ?_
        refine zv_iload_n S dX3_appendCut_26 rfl (lv_at hl 1 rfl) ?_
        refine zv_iald S hK hP 3 0 rfl rfl o rfl (by omega) (by decide) dX3_appendCut_27 ?_
        have e1 := he o ho
        refine zv_if_ne (tgt := 40) S (by unfold zR; omega) dX3_appendCut_28 (by decide) (fun c_8 => ?_) (fun c_8 => ?_)
        · refine zv_iconst S dX3_appendCut_40 ?_
          exact hret _ _ _ _ _ () dX3_appendCut_41 rfl (hP.sub [4, 0, 1, 2, 3] rfl) (hD.sub [4, 0, 1, 2, 3] (by decide) rfl) hS
        · refine zv_aload_n S dX3_appendCut_31 rfl (lv_at hl 0 rfl) ?_
          refine zv_get (C := RX3) (T := TX3) (N := 5) (ci := 3) (v := .ref qe) S in_X3_appendCut_full_X3 hK hP 4 rfl rfl 3 (by decide) wd_X3_appendCut_full_f21 rfl rfl dX3_appendCut_32 ?_
          refine zv_iload_n S dX3_appendCut_35 rfl (lv_at hl 3 rfl) ?_
          refine zv_iald S hK hP 3 0 rfl rfl t rfl (by omega) (by decide) dX3_appendCut_36 ?_
          have e2 := he t ht
          refine zv_if_eq (tgt := 42) S (by unfold zR; omega) dX3_appendCut_37 (by decide) (fun c_9 => ?_) (fun c_9 => ?_)
          · refine zv_iload_n S dX3_appendCut_42 rfl (lv_at hl 2 rfl) ?_
            refine zv_aload_n S dX3_appendCut_43 rfl (lv_at hl 0 rfl) ?_
            refine zv_get (C := RX3) (T := TX3) (N := 5) (ci := 3) (v := .ref qa) S in_X3_appendCut_full_X3 hK hP 4 rfl rfl 0 (by decide) wd_X3_appendCut_full_f9 rfl rfl dX3_appendCut_44 ?_
            refine zv_iload_n S dX3_appendCut_47 rfl (lv_at hl 1 rfl) ?_
            refine zv_iald S hK hP 0 0 rfl rfl o rfl (by omega) (by decide) dX3_appendCut_48 ?_
            refine zv_imul S dX3_appendCut_49 ?_
            refine zv_iload S dX3_appendCut_50 (lv_at hl 4 rfl) ?_
            refine zv_aload_n S dX3_appendCut_52 rfl (lv_at hl 0 rfl) ?_
            refine zv_get (C := RX3) (T := TX3) (N := 5) (ci := 3) (v := .ref qa) S in_X3_appendCut_full_X3 hK hP 4 rfl rfl 0 (by decide) wd_X3_appendCut_full_f9 rfl rfl dX3_appendCut_53 ?_
            refine zv_iload_n S dX3_appendCut_56 rfl (lv_at hl 3 rfl) ?_
            refine zv_iald S hK hP 0 0 rfl rfl t rfl (by omega) (by decide) dX3_appendCut_57 ?_
            refine zv_imul S dX3_appendCut_58 ?_
            refine zv_iadd S dX3_appendCut_59 ?_
            have k1 := zcs_b (ha o ho) (ha t ht) hsm hmr
            unfold zcs at k1
            refine zv_istore (lv' := [(6, .int (zI ((sm * (fa o)) + (mr * (fa t))))), (0, .ref h0), (1, .int (zI (o : Int))), (2, .int (zI sm)), (3, .int (zI (t : Int))), (4, .int (zI mr)), (5, .int (zI dv))]) S dX3_appendCut_60 hl (by decide) rfl (fun ls hl => ?_)
            refine zv_iload_n S dX3_appendCut_62 rfl (lv_at hl 3 rfl) ?_
            refine zv_aload_n S dX3_appendCut_63 rfl (lv_at hl 1 rfl) ?_
            refine zv_get (C := RX3) (T := TX3) (N := 5) (ci := 3) (v := .ref qb) S in_X3_appendCut_full_X3 hK hP 4 rfl rfl 1 (by decide) wd_X3_appendCut_full_f15 rfl rfl dX3_appendCut_64 ?_
            refine zv_iload_n S dX3_appendCut_67 rfl (lv_at hl 2 rfl) ?_
            refine zv_iald S hK hP 1 0 rfl rfl o rfl (by omega) (by decide) dX3_appendCut_68 ?_
            refine zv_imul S dX3_appendCut_69 ?_
            refine zv_iload S dX3_appendCut_70 (lv_at hl 5 rfl) ?_
            refine zv_aload_n S dX3_appendCut_72 rfl (lv_at hl 1 rfl) ?_
            refine zv_get (C := RX3) (T := TX3) (N := 5) (ci := 3) (v := .ref qb) S in_X3_appendCut_full_X3 hK hP 4 rfl rfl 1 (by decide) wd_X3_appendCut_full_f15 rfl rfl dX3_appendCut_73 ?_
            refine zv_iload_n S dX3_appendCut_76 rfl (lv_at hl 4 rfl) ?_
            refine zv_iald S hK hP 1 0 rfl rfl t rfl (by omega) (by decide) dX3_appendCut_77 ?_
            refine zv_imul S dX3_appendCut_78 ?_
            refine zv_iadd S dX3_appendCut_79 ?_
            have k2 := zcs_b (hb o ho) (hb t ht) hsm hmr
            unfold zcs at k2
            refine zv_istore (lv' := [(7, .int (zI ((sm * (fb o)) + (mr * (fb t))))), (6, .int (zI ((sm * (fa o)) + (mr * (fa t))))), (0, .ref h0), (1, .int (zI (o : Int))), (2, .int (zI sm)), (3, .int (zI (t : Int))), (4, .int (zI mr)), (5, .int (zI dv))]) S dX3_appendCut_80 hl (by decide) rfl (fun ls hl => ?_)
            refine zv_iload_n S dX3_appendCut_82 rfl (lv_at hl 4 rfl) ?_
            refine zv_aload_n S dX3_appendCut_83 rfl (lv_at hl 2 rfl) ?_
            refine zv_get (C := RX3) (T := TX3) (N := 5) (ci := 3) (v := .ref qc) S in_X3_appendCut_full_X3 hK hP 4 rfl rfl 2 (by decide) wd_X3_appendCut_full_f18 rfl rfl dX3_appendCut_84 ?_
            refine zv_iload_n S dX3_appendCut_87 rfl (lv_at hl 3 rfl) ?_
            refine zv_iald S hK hP 2 0 rfl rfl o rfl (by omega) (by decide) dX3_appendCut_88 ?_
            refine zv_imul S dX3_appendCut_89 ?_
            refine zv_iload S dX3_appendCut_90 (lv_at hl 6 rfl) ?_
            refine zv_aload_n S dX3_appendCut_92 rfl (lv_at hl 2 rfl) ?_
            refine zv_get (C := RX3) (T := TX3) (N := 5) (ci := 3) (v := .ref qc) S in_X3_appendCut_full_X3 hK hP 4 rfl rfl 2 (by decide) wd_X3_appendCut_full_f18 rfl rfl dX3_appendCut_93 ?_
            refine zv_iload_n S dX3_appendCut_96 rfl (lv_at hl 5 rfl) ?_
            refine zv_iald S hK hP 2 0 rfl rfl t rfl (by omega) (by decide) dX3_appendCut_97 ?_
            refine zv_imul S dX3_appendCut_98 ?_
            refine zv_iadd S dX3_appendCut_99 ?_
            have k3 := zcs_b (hc o ho) (hc t ht) hsm hmr
            unfold zcs at k3
            refine zv_iload S dX3_appendCut_100 (lv_at hl 7 rfl) ?_
            refine zc_Si (As := [.int (zI ((sm * (fc o)) + (mr * (fc t)))), .int (zI dv)]) (rest := []) (wr := [zci G qa 10 fa, zci G qb 10 fb, zci G qc 10 fc, zci G qe 10 fe, (h0, .inr (3, [.ref qa, .ref qb, .ref qc, .ref qe, .int (zI (k : Int))]))]) (n := 2) S hN hK hP hD hS hA hl (c_J9_floorDiv_7cf53 l G H.size ((sm * (fc o)) + (mr * (fc t))) dv (by omega) (by omega)) gX3_appendCut_J9_floorDiv_7cf53 rfl ⟨rfl, rfl⟩ (by decide +kernel) rfl ⟨Nat.le_of_ble_eq_true rfl, Nat.le_of_ble_eq_true rfl, Nat.le_of_ble_eq_true rfl, Nat.le_of_ble_eq_true rfl⟩ [] [0, 1, 2, 3, 4] rfl rfl (by decide) (by decide) (by decide) (Nat.le_of_ble_eq_true rfl) dX3_appendCut_102 rfl (fun r_ u_10 H1 locs1 hp_11 hP1 hD1 hS1 hz1 => ?_)
            try dsimp only at hp_11 hP1 hD1
            subst hp_11
            generalize H1 = H at hP1 hD1 hS1 hz1 ⊢
            generalize locs1 = locs at hS1 ⊢
            have hS := hS1
            have hP : va_P G.1 vwCl [zci G qa 10 fa, zci G qb 10 fb, zci G qc 10 fc, zci G qe 10 fe, (h0, .inr (3, [.ref qa, .ref qb, .ref qc, .ref qe, .int (zI (k : Int))]))] H := hP1
            have hD : va_D A [zci G qa 10 fa, zci G qb 10 fb, zci G qc 10 fc, zci G qe 10 fe, (h0, .inr (3, [.ref qa, .ref qb, .ref qc, .ref qe, .int (zI (k : Int))]))] := hD1
            have k4 := zdivb (show 0 < dv by omega) k3.1 k3.2
            refine zv_istore (lv' := [(8, .int (zI (((sm * (fc o)) + (mr * (fc t))) / dv))), (7, .int (zI ((sm * (fb o)) + (mr * (fb t))))), (6, .int (zI ((sm * (fa o)) + (mr * (fa t))))), (0, .ref h0), (1, .int (zI (o : Int))), (2, .int (zI sm)), (3, .int (zI (t : Int))), (4, .int (zI mr)), (5, .int (zI dv))]) S dX3_appendCut_105 hl (by decide) rfl (fun ls hl => ?_)
            refine zv_iload S dX3_appendCut_107 (lv_at hl 2 rfl) ?_
            refine zv_iload S dX3_appendCut_109 (lv_at hl 8 rfl) ?_
            refine zv_irem S (by unfold zR; omega) (by unfold zR; omega) (by omega) (by omega) dX3_appendCut_111 ?_
            have l1 := ztdivb (y := dv) k1.1 k1.2
            have m1 := ztd (x := (sm * fa o + mr * fa t)) (show 0 < dv by omega)
            refine zv_if_ne (tgt := 133) S (by unfold zR; omega) dX3_appendCut_112 (by decide) (fun c_12 => ?_) (fun c_12 => ?_)
            · refine zv_iconst S dX3_appendCut_133 ?_
              exact hret _ _ _ _ _ () dX3_appendCut_134 rfl (hP.sub [4, 0, 1, 2, 3] rfl) (hD.sub [4, 0, 1, 2, 3] (by decide) rfl) hS
            · refine zv_iload S dX3_appendCut_115 (lv_at hl 1 rfl) ?_
              refine zv_iload S dX3_appendCut_117 (lv_at hl 8 rfl) ?_
              refine zv_irem S (by unfold zR; omega) (by unfold zR; omega) (by omega) (by omega) dX3_appendCut_119 ?_
              have l2 := ztdivb (y := dv) k2.1 k2.2
              have m2 := ztd (x := (sm * fb o + mr * fb t)) (show 0 < dv by omega)
              refine zv_if_ne (tgt := 133) S (by unfold zR; omega) dX3_appendCut_120 (by decide) (fun c_13 => ?_) (fun c_13 => ?_)
              · refine zv_iconst S dX3_appendCut_133 ?_
                exact hret _ _ _ _ _ () dX3_appendCut_134 rfl (hP.sub [4, 0, 1, 2, 3] rfl) (hD.sub [4, 0, 1, 2, 3] (by decide) rfl) hS
              · refine zv_iload S dX3_appendCut_123 (lv_at hl 2 rfl) ?_
                refine zv_if_ne (tgt := 135) S (by unfold zR; omega) dX3_appendCut_125 (by decide) (fun c_14 => ?_) (fun c_14 => ?_)
                · have l1 := ztdivb (y := dv) k1.1 k1.2
                  refine zv_iload S dX3_appendCut_135 (lv_at hl 2 rfl) ?_
                  refine zv_iload S dX3_appendCut_137 (lv_at hl 8 rfl) ?_
                  refine zv_idiv S (by unfold zR; omega) (by unfold zR; omega) (by omega) (by omega) dX3_appendCut_139 ?_
                  refine zc_Si (As := [.int (zI (((sm * (fa o)) + (mr * (fa t))).tdiv dv))]) (rest := []) (wr := [zci G qa 10 fa, zci G qb 10 fb, zci G qc 10 fc, zci G qe 10 fe, (h0, .inr (3, [.ref qa, .ref qb, .ref qc, .ref qe, .int (zI (k : Int))]))]) (n := 1) S hN hK hP hD hS hA hl (c_X3_isFactor l G H.size (((sm * (fa o)) + (mr * (fa t))).tdiv dv) (by omega)) gX3_appendCut_X3_isFactor rfl ⟨rfl, rfl⟩ (by decide +kernel) rfl ⟨Nat.le_of_ble_eq_true rfl, Nat.le_of_ble_eq_true rfl, Nat.le_of_ble_eq_true rfl, Nat.le_of_ble_eq_true rfl⟩ [] [0, 1, 2, 3, 4] rfl rfl (by decide) (by decide) (by decide) (Nat.le_of_ble_eq_true rfl) dX3_appendCut_140 rfl (fun r_ u_15 H1 locs1 hp_16 hP1 hD1 hS1 hz1 => ?_)
                  try dsimp only at hp_16 hP1 hD1
                  subst hp_16
                  generalize H1 = H at hP1 hD1 hS1 hz1 ⊢
                  generalize locs1 = locs at hS1 ⊢
                  have hS := hS1
                  have hP : va_P G.1 vwCl [zci G qa 10 fa, zci G qb 10 fb, zci G qc 10 fc, zci G qe 10 fe, (h0, .inr (3, [.ref qa, .ref qb, .ref qc, .ref qe, .int (zI (k : Int))]))] H := hP1
                  have hD : va_D A [zci G qa 10 fa, zci G qb 10 fb, zci G qc 10 fc, zci G qe 10 fe, (h0, .inr (3, [.ref qa, .ref qb, .ref qc, .ref qe, .int (zI (k : Int))]))] := hD1
                  refine zv_ifb_eq (tgt := 168) S dX3_appendCut_143 (by decide) (fun c_17 => ?_) (fun c_17 => ?_)
                  · refine zv_iconst S dX3_appendCut_168 ?_
                    exact hret _ _ _ _ _ () dX3_appendCut_169 rfl (hP.sub [4, 0, 1, 2, 3] rfl) (hD.sub [4, 0, 1, 2, 3] (by decide) rfl) hS
                  · have l2 := ztdivb (y := dv) k2.1 k2.2
                    refine zv_iload S dX3_appendCut_146 (lv_at hl 1 rfl) ?_
                    refine zv_iload S dX3_appendCut_148 (lv_at hl 8 rfl) ?_
                    refine zv_idiv S (by unfold zR; omega) (by unfold zR; omega) (by omega) (by omega) dX3_appendCut_150 ?_
                    refine zc_Si (As := [.int (zI (((sm * (fb o)) + (mr * (fb t))).tdiv dv))]) (rest := []) (wr := [zci G qa 10 fa, zci G qb 10 fb, zci G qc 10 fc, zci G qe 10 fe, (h0, .inr (3, [.ref qa, .ref qb, .ref qc, .ref qe, .int (zI (k : Int))]))]) (n := 1) S hN hK hP hD hS hA hl (c_X3_isFactor l G H.size (((sm * (fb o)) + (mr * (fb t))).tdiv dv) (by omega)) gX3_appendCut_X3_isFactor rfl ⟨rfl, rfl⟩ (by decide +kernel) rfl ⟨Nat.le_of_ble_eq_true rfl, Nat.le_of_ble_eq_true rfl, Nat.le_of_ble_eq_true rfl, Nat.le_of_ble_eq_true rfl⟩ [] [0, 1, 2, 3, 4] rfl rfl (by decide) (by decide) (by decide) (Nat.le_of_ble_eq_true rfl) dX3_appendCut_151 rfl (fun r_ u_18 H1 locs1 hp_19 hP1 hD1 hS1 hz1 => ?_)
                    try dsimp only at hp_19 hP1 hD1
                    subst hp_19
                    generalize H1 = H at hP1 hD1 hS1 hz1 ⊢
                    generalize locs1 = locs at hS1 ⊢
                    have hS := hS1
                    have hP : va_P G.1 vwCl [zci G qa 10 fa, zci G qb 10 fb, zci G qc 10 fc, zci G qe 10 fe, (h0, .inr (3, [.ref qa, .ref qb, .ref qc, .ref qe, .int (zI (k : Int))]))] H := hP1
                    have hD : va_D A [zci G qa 10 fa, zci G qb 10 fb, zci G qc 10 fc, zci G qe 10 fe, (h0, .inr (3, [.ref qa, .ref qb, .ref qc, .ref qe, .int (zI (k : Int))]))] := hD1
                    refine zv_ifb_eq (tgt := 168) S dX3_appendCut_154 (by decide) (fun c_20 => ?_) (fun c_20 => ?_)
                    · refine zv_iconst S dX3_appendCut_168 ?_
                      exact hret _ _ _ _ _ () dX3_appendCut_169 rfl (hP.sub [4, 0, 1, 2, 3] rfl) (hD.sub [4, 0, 1, 2, 3] (by decide) rfl) hS
                    · refine zv_iload S dX3_appendCut_157 (lv_at hl 0 rfl) ?_
                      refine zv_abs S hl (by unfold zR; omega) wd_X3_appendCut_full_m41 wd_X3_appendCut_full_sabs wd_X3_appendCut_full_iM wd_X3_appendCut_full_cabs (by decide) (Nat.le_of_ble_eq_true rfl) (Nat.le_of_ble_eq_true rfl) (Nat.le_of_ble_eq_true rfl) dX3_appendCut_159 ?_
                      refine zv_sipush (v := 999) S dX3_appendCut_162 (by decide) ?_
                      refine zv_icmp_le (tgt := 170) S (by unfold zR zabs; split <;> omega) (by unfold zR; omega) dX3_appendCut_165 (by decide) (fun c_21 => ?_) (fun c_21 => ?_)
                      · refine zv_aload_n S dX3_appendCut_170 rfl (lv_at hl 3 rfl) ?_
                        refine zv_iload S dX3_appendCut_171 (lv_at hl 2 rfl) ?_
                        refine zv_iload S dX3_appendCut_173 (lv_at hl 8 rfl) ?_
                        refine zv_idiv S (by unfold zR; omega) (by unfold zR; omega) (by omega) (by omega) dX3_appendCut_175 ?_
                        refine zv_iload S dX3_appendCut_176 (lv_at hl 1 rfl) ?_
                        refine zv_iload S dX3_appendCut_178 (lv_at hl 8 rfl) ?_
                        refine zv_idiv S (by unfold zR; omega) (by unfold zR; omega) (by omega) (by omega) dX3_appendCut_180 ?_
                        refine zv_iload S dX3_appendCut_181 (lv_at hl 0 rfl) ?_
                        refine zv_iconst S dX3_appendCut_183 ?_
                        refine zc_Vi (As := [.int (zI (((sm * (fa o)) + (mr * (fa t))).tdiv dv)), .int (zI (((sm * (fb o)) + (mr * (fb t))).tdiv dv)), .int (zI (((sm * (fc o)) + (mr * (fc t))) / dv)), .int (zI 0)]) (rest := []) (wr := [zci G qa 10 fa, zci G qb 10 fb, zci G qc 10 fc, zci G qe 10 fe]) (n := 4) S hN hK hP hD hS hA hl (c_X3_append_full l G H.size h0 qa qb qc qe k (((sm * (fa o)) + (mr * (fa t))).tdiv dv) (((sm * (fb o)) + (mr * (fb t))).tdiv dv) (((sm * (fc o)) + (mr * (fc t))) / dv) 0 (by omega)) gX3_appendCut_X3_append rfl ⟨rfl, rfl⟩ (by decide +kernel) rfl ⟨Nat.le_of_ble_eq_true rfl, Nat.le_of_ble_eq_true rfl, Nat.le_of_ble_eq_true rfl, Nat.le_of_ble_eq_true rfl⟩ [4] [0, 1, 2, 3] rfl rfl (by decide) (by decide) (by decide) (ci := 3) rfl rfl rfl (Nat.le_of_ble_eq_true rfl) dX3_appendCut_184 rfl (fun r_ u_22 H1 locs1 hp_23 hP1 hD1 hS1 hz1 => ?_)
                        try dsimp only at hp_23 hP1 hD1
                        subst hp_23
                        generalize H1 = H at hP1 hD1 hS1 hz1 ⊢
                        generalize locs1 = locs at hS1 ⊢
                        have hS := hS1
                        have hP : va_P G.1 vwCl [zci G qa 10 fa, zci G qb 10 fb, zci G qc 10 fc, zci G qe 10 fe, (h0, .inr (3, [.ref qa, .ref qb, .ref qc, .ref qe, .int (zI (k : Int))]))] H := hP1
                        have hD : va_D A [zci G qa 10 fa, zci G qb 10 fb, zci G qc 10 fc, zci G qe 10 fe, (h0, .inr (3, [.ref qa, .ref qb, .ref qc, .ref qe, .int (zI (k : Int))]))] := hD1
                        exact hret _ _ _ _ _ () dX3_appendCut_187 rfl (hP.sub [4, 0, 1, 2, 3] rfl) (hD.sub [4, 0, 1, 2, 3] (by decide) rfl) hS
                      · refine zv_iconst S dX3_appendCut_168 ?_
                        exact hret _ _ _ _ _ () dX3_appendCut_169 rfl (hP.sub [4, 0, 1, 2, 3] rfl) (hD.sub [4, 0, 1, 2, 3] (by decide) rfl) hS
                · refine zv_iload S dX3_appendCut_128 (lv_at hl 1 rfl) ?_
                  refine zv_if_ne (tgt := 135) S (by unfold zR; omega) dX3_appendCut_130 (by decide) (fun c_24 => ?_) (fun c_24 => ?_)
                  · have l1 := ztdivb (y := dv) k1.1 k1.2
                    refine zv_iload S dX3_appendCut_135 (lv_at hl 2 rfl) ?_
                    refine zv_iload S dX3_appendCut_137 (lv_at hl 8 rfl) ?_
                    refine zv_idiv S (by unfold zR; omega) (by unfold zR; omega) (by omega) (by omega) dX3_appendCut_139 ?_
                    refine zc_Si (As := [.int (zI (((sm * (fa o)) + (mr * (fa t))).tdiv dv))]) (rest := []) (wr := [zci G qa 10 fa, zci G qb 10 fb, zci G qc 10 fc, zci G qe 10 fe, (h0, .inr (3, [.ref qa, .ref qb, .ref qc, .ref qe, .int (zI (k : Int))]))]) (n := 1) S hN hK hP hD hS hA hl (c_X3_isFactor l G H.size (((sm * (fa o)) + (mr * (fa t))).tdiv dv) (by omega)) gX3_appendCut_X3_isFactor rfl ⟨rfl, rfl⟩ (by decide +kernel) rfl ⟨Nat.le_of_ble_eq_true rfl, Nat.le_of_ble_eq_true rfl, Nat.le_of_ble_eq_true rfl, Nat.le_of_ble_eq_true rfl⟩ [] [0, 1, 2, 3, 4] rfl rfl (by decide) (by decide) (by decide) (Nat.le_of_ble_eq_true rfl) dX3_appendCut_140 rfl (fun r_ u_25 H1 locs1 hp_26 hP1 hD1 hS1 hz1 => ?_)
                    try dsimp only at hp_26 hP1 hD1
                    subst hp_26
                    generalize H1 = H at hP1 hD1 hS1 hz1 ⊢
                    generalize locs1 = locs at hS1 ⊢
                    have hS := hS1
                    have hP : va_P G.1 vwCl [zci G qa 10 fa, zci G qb 10 fb, zci G qc 10 fc, zci G qe 10 fe, (h0, .inr (3, [.ref qa, .ref qb, .ref qc, .ref qe, .int (zI (k : Int))]))] H := hP1
                    have hD : va_D A [zci G qa 10 fa, zci G qb 10 fb, zci G qc 10 fc, zci G qe 10 fe, (h0, .inr (3, [.ref qa, .ref qb, .ref qc, .ref qe, .int (zI (k : Int))]))] := hD1
                    refine zv_ifb_eq (tgt := 168) S dX3_appendCut_143 (by decide) (fun c_27 => ?_) (fun c_27 => ?_)
                    · refine zv_iconst S dX3_appendCut_168 ?_
                      exact hret _ _ _ _ _ () dX3_appendCut_169 rfl (hP.sub [4, 0, 1, 2, 3] rfl) (hD.sub [4, 0, 1, 2, 3] (by decide) rfl) hS
                    · have l2 := ztdivb (y := dv) k2.1 k2.2
                      refine zv_iload S dX3_appendCut_146 (lv_at hl 1 rfl) ?_
                      refine zv_iload S dX3_appendCut_148 (lv_at hl 8 rfl) ?_
                      refine zv_idiv S (by unfold zR; omega) (by unfold zR; omega) (by omega) (by omega) dX3_appendCut_150 ?_
                      refine zc_Si (As := [.int (zI (((sm * (fb o)) + (mr * (fb t))).tdiv dv))]) (rest := []) (wr := [zci G qa 10 fa, zci G qb 10 fb, zci G qc 10 fc, zci G qe 10 fe, (h0, .inr (3, [.ref qa, .ref qb, .ref qc, .ref qe, .int (zI (k : Int))]))]) (n := 1) S hN hK hP hD hS hA hl (c_X3_isFactor l G H.size (((sm * (fb o)) + (mr * (fb t))).tdiv dv) (by omega)) gX3_appendCut_X3_isFactor rfl ⟨rfl, rfl⟩ (by decide +kernel) rfl ⟨Nat.le_of_ble_eq_true rfl, Nat.le_of_ble_eq_true rfl, Nat.le_of_ble_eq_true rfl, Nat.le_of_ble_eq_true rfl⟩ [] [0, 1, 2, 3, 4] rfl rfl (by decide) (by decide) (by decide) (Nat.le_of_ble_eq_true rfl) dX3_appendCut_151 rfl (fun r_ u_28 H1 locs1 hp_29 hP1 hD1 hS1 hz1 => ?_)
                      try dsimp only at hp_29 hP1 hD1
                      subst hp_29
                      generalize H1 = H at hP1 hD1 hS1 hz1 ⊢
                      generalize locs1 = locs at hS1 ⊢
                      have hS := hS1
                      have hP : va_P G.1 vwCl [zci G qa 10 fa, zci G qb 10 fb, zci G qc 10 fc, zci G qe 10 fe, (h0, .inr (3, [.ref qa, .ref qb, .ref qc, .ref qe, .int (zI (k : Int))]))] H := hP1
                      have hD : va_D A [zci G qa 10 fa, zci G qb 10 fb, zci G qc 10 fc, zci G qe 10 fe, (h0, .inr (3, [.ref qa, .ref qb, .ref qc, .ref qe, .int (zI (k : Int))]))] := hD1
                      refine zv_ifb_eq (tgt := 168) S dX3_appendCut_154 (by decide) (fun c_30 => ?_) (fun c_30 => ?_)
                      · refine zv_iconst S dX3_appendCut_168 ?_
                        exact hret _ _ _ _ _ () dX3_appendCut_169 rfl (hP.sub [4, 0, 1, 2, 3] rfl) (hD.sub [4, 0, 1, 2, 3] (by decide) rfl) hS
                      · refine zv_iload S dX3_appendCut_157 (lv_at hl 0 rfl) ?_
                        refine zv_abs S hl (by unfold zR; omega) wd_X3_appendCut_full_m41 wd_X3_appendCut_full_sabs wd_X3_appendCut_full_iM wd_X3_appendCut_full_cabs (by decide) (Nat.le_of_ble_eq_true rfl) (Nat.le_of_ble_eq_true rfl) (Nat.le_of_ble_eq_true rfl) dX3_appendCut_159 ?_
                        refine zv_sipush (v := 999) S dX3_appendCut_162 (by decide) ?_
                        refine zv_icmp_le (tgt := 170) S (by unfold zR zabs; split <;> omega) (by unfold zR; omega) dX3_appendCut_165 (by decide) (fun c_31 => ?_) (fun c_31 => ?_)
                        · refine zv_aload_n S dX3_appendCut_170 rfl (lv_at hl 3 rfl) ?_
                          refine zv_iload S dX3_appendCut_171 (lv_at hl 2 rfl) ?_
                          refine zv_iload S dX3_appendCut_173 (lv_at hl 8 rfl) ?_
                          refine zv_idiv S (by unfold zR; omega) (by unfold zR; omega) (by omega) (by omega) dX3_appendCut_175 ?_
                          refine zv_iload S dX3_appendCut_176 (lv_at hl 1 rfl) ?_
                          refine zv_iload S dX3_appendCut_178 (lv_at hl 8 rfl) ?_
                          refine zv_idiv S (by unfold zR; omega) (by unfold zR; omega) (by omega) (by omega) dX3_appendCut_180 ?_
                          refine zv_iload S dX3_appendCut_181 (lv_at hl 0 rfl) ?_
                          refine zv_iconst S dX3_appendCut_183 ?_
                          refine zc_Vi (As := [.int (zI (((sm * (fa o)) + (mr * (fa t))).tdiv dv)), .int (zI (((sm * (fb o)) + (mr * (fb t))).tdiv dv)), .int (zI (((sm * (fc o)) + (mr * (fc t))) / dv)), .int (zI 0)]) (rest := []) (wr := [zci G qa 10 fa, zci G qb 10 fb, zci G qc 10 fc, zci G qe 10 fe]) (n := 4) S hN hK hP hD hS hA hl (c_X3_append_full l G H.size h0 qa qb qc qe k (((sm * (fa o)) + (mr * (fa t))).tdiv dv) (((sm * (fb o)) + (mr * (fb t))).tdiv dv) (((sm * (fc o)) + (mr * (fc t))) / dv) 0 (by omega)) gX3_appendCut_X3_append rfl ⟨rfl, rfl⟩ (by decide +kernel) rfl ⟨Nat.le_of_ble_eq_true rfl, Nat.le_of_ble_eq_true rfl, Nat.le_of_ble_eq_true rfl, Nat.le_of_ble_eq_true rfl⟩ [4] [0, 1, 2, 3] rfl rfl (by decide) (by decide) (by decide) (ci := 3) rfl rfl rfl (Nat.le_of_ble_eq_true rfl) dX3_appendCut_184 rfl (fun r_ u_32 H1 locs1 hp_33 hP1 hD1 hS1 hz1 => ?_)
                          try dsimp only at hp_33 hP1 hD1
                          subst hp_33
                          generalize H1 = H at hP1 hD1 hS1 hz1 ⊢
                          generalize locs1 = locs at hS1 ⊢
                          have hS := hS1
                          have hP : va_P G.1 vwCl [zci G qa 10 fa, zci G qb 10 fb, zci G qc 10 fc, zci G qe 10 fe, (h0, .inr (3, [.ref qa, .ref qb, .ref qc, .ref qe, .int (zI (k : Int))]))] H := hP1
                          have hD : va_D A [zci G qa 10 fa, zci G qb 10 fb, zci G qc 10 fc, zci G qe 10 fe, (h0, .inr (3, [.ref qa, .ref qb, .ref qc, .ref qe, .int (zI (k : Int))]))] := hD1
                          exact hret _ _ _ _ _ () dX3_appendCut_187 rfl (hP.sub [4, 0, 1, 2, 3] rfl) (hD.sub [4, 0, 1, 2, 3] (by decide) rfl) hS
                        · refine zv_iconst S dX3_appendCut_168 ?_
                          exact hret _ _ _ _ _ () dX3_appendCut_169 rfl (hP.sub [4, 0, 1, 2, 3] rfl) (hD.sub [4, 0, 1, 2, 3] (by decide) rfl) hS
                  · refine zv_iconst S dX3_appendCut_133 ?_
                    exact hret _ _ _ _ _ () dX3_appendCut_134 rfl (hP.sub [4, 0, 1, 2, 3] rfl) (hD.sub [4, 0, 1, 2, 3] (by decide) rfl) hS
          · refine zv_iconst S dX3_appendCut_40 ?_
            exact hret _ _ _ _ _ () dX3_appendCut_41 rfl (hP.sub [4, 0, 1, 2, 3] rfl) (hD.sub [4, 0, 1, 2, 3] (by decide) rfl) hS
