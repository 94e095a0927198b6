theorem wd_X0_commonDivisor_stX4_greatestDivisor : Cond.static yX4_greatestDivisor ∈ wsX0_commonDivisor := by decide +kernel
theorem wd_X0_commonDivisor_inX4 : Cond.initialized RX4 ∈ wsX0_commonDivisor := by decide +kernel
set_option maxHeartbeats 4000000 in
set_option maxRecDepth 100000 in
/-- Coins.commonDivisor -/
theorem c_X0_commonDivisor (l : Launch) (G : zG) (sz : Nat) (h0 : Nat) (qw : Nat) (ql : Nat) (n : Nat) (wg : Int) (hn : n < 2 ^ 60) : Met l yX0_commonDivisor wsX0_commonDivisor ({ frames := 2, cells := 0, slots := 0, locals := 38 }) (va_Pc [.ref h0] (zPre G sz [(h0, .inr (0, [.ref qw, .ref ql, .long (zL (n : Int)), .int (zI wg)]))])) (va_Qi (fun (r : Int32) (u : Unit) => r = zI ((zgd (zkc n) 60 : Nat) : Int)) (fun u => zW G (va_A [(h0, .inr (0, [.ref qw, .ref ql, .long (zL (n : Int)), .int (zI wg)]))] sz) ((fun (u : Unit) => [(h0, .inr (0, [.ref qw, .ref ql, .long (zL (n : Int)), .int (zI wg)]))]) u)) (va_A [(h0, .inr (0, [.ref qw, .ref ql, .long (zL (n : Int)), .int (zI wg)]))] sz)) 0 0 (va_A [(h0, .inr (0, [.ref qw, .ref ql, .long (zL (n : Int)), .int (zI wg)]))] sz) := by
  refine zM_i (post := fun (r : Int32) (u : Unit) => r = zI ((zgd (zkc n) 60 : Nat) : Int)) (w1 := fun (u : Unit) => [(h0, .inr (0, [.ref qw, .ref ql, .long (zL (n : Int)), .int (zI wg)]))]) (plainFor_of_name (by decide)) rfl (Nat.le_of_ble_eq_true rfl) ?_
  intro p e s m below meth c A Q S hN hK hP hD hS hA hret ls hl
  have hl : lv_has ls 3 [(0, .ref h0)] := hl
  refine zv_iconst S dX0_commonDivisor_0 ?_
  refine zv_istore_n (lv' := [(1, .int (zI 0)), (0, .ref h0)]) S dX0_commonDivisor_1 rfl hl (by decide) rfl (fun ls hl => ?_)
  refine zv_iconst S dX0_commonDivisor_2 ?_
  refine zv_istore_n (lv' := [(2, .int (zI 1)), (1, .int (zI 0)), (0, .ref h0)]) S dX0_commonDivisor_3 rfl hl (by decide) rfl (fun ls hl => ?_)
  have LP4 : ∀ (nf : Nat) (j : Nat) (v2 : Int) (dv : Int) (hv2 : v2 = (j : Int) + 1) (hj : j ≤ 60) (hdv : dv = ((zgd (zkc n) j : Nat) : Int)), (60 - j) < nf → ∀ (H : Heap) (locs : List Loc), va_P G.1 vwCl [(h0, .inr (0, [.ref qw, .ref ql, .long (zL (n : Int)), .int (zI wg)]))] H → va_D A [(h0, .inr (0, [.ref qw, .ref ql, .long (zL (n : Int)), .int (zI wg)]))] → va_S A s.heap H locs → ∀ ls : Array Slot, lv_has ls 3 [(2, .int (zI v2)), (1, .int (zI dv)), (0, .ref h0)] → W p l e ({ frames := 2, cells := 0, slots := 0, locals := 38 }) s m ([.ref h0]).toArray below meth c H locs 0 0 Q (F0 m 4 ls []) := by
    intro nf
    induction nf with
    | zero =>
      intro j v2 dv hv2 hj hdv hf
      exact absurd hf (Nat.not_lt_zero _)
    | succ nf ih4 =>
      intro j v2 dv hv2 hj hdv hf H locs hP hD hS ls hl
      refine zv_iload_n S dX0_commonDivisor_4 rfl (lv_at hl 0 rfl) ?_
      refine zv_bipush (v := 60) S dX0_commonDivisor_5 (by decide) ?_
      refine zv_icmp_gt (tgt := 30) S (by unfold zR; omega) (by unfold zR; omega) dX0_commonDivisor_7 (by decide) (fun c_1 => ?_) (fun c_1 => ?_)
      · refine zv_iload_n S dX0_commonDivisor_30 rfl (lv_at hl 1 rfl) ?_
        exact hret _ _ _ _ _ () dX0_commonDivisor_31 (by rw [hdv, show j = 60 by omega]) (hP.sub [0] rfl) (hD.sub [0] (by decide) rfl) hS
      · refine zv_aload_n S dX0_commonDivisor_10 rfl (lv_at hl 2 rfl) ?_
        refine zv_iload_n S dX0_commonDivisor_11 rfl (lv_at hl 0 rfl) ?_
        refine zc_Vi (As := [.int (zI v2)]) (rest := []) (wr := []) (n := 1) S hN hK hP hD hS hA hl (c_X0_has l G H.size h0 qw ql n wg v2 hn (by omega)) gX0_commonDivisor_X0_has rfl ⟨rfl, rfl⟩ (by decide +kernel) rfl ⟨Nat.le_of_ble_eq_true rfl, Nat.le_of_ble_eq_true rfl, Nat.le_of_ble_eq_true rfl, Nat.le_of_ble_eq_true rfl⟩ [0] [] rfl rfl (by decide) (by decide) (by decide) (ci := 0) rfl rfl rfl (Nat.le_of_ble_eq_true rfl) dX0_commonDivisor_12 rfl (fun r_ u_2 H1 locs1 hp_3 hP1 hD1 hS1 hz1 => ?_)
        try dsimp only at hp_3 hP1 hD1
        subst hp_3
        generalize H1 = H at hP1 hD1 hS1 hz1 ⊢
        generalize locs1 = locs at hS1 ⊢
        have hS := hS1
        have hP : va_P G.1 vwCl [(h0, .inr (0, [.ref qw, .ref ql, .long (zL (n : Int)), .int (zI wg)]))] H := hP1
        have hD : va_D A [(h0, .inr (0, [.ref qw, .ref ql, .long (zL (n : Int)), .int (zI wg)]))] := hD1
        refine zv_ifb_eq (tgt := 24) S dX0_commonDivisor_15 (by decide) (fun c_4 => ?_) (fun c_4 => ?_)
        · refine zv_iinc (k0 := 0) (lv' := [(2, .int (zI (v2 + 1))), (1, .int (zI dv)), (0, .ref h0)]) S dX0_commonDivisor_24 hl rfl (by decide) rfl (fun ls hl => ?_)
          refine zv_goto (tgt := 4) S dX0_commonDivisor_27 (by decide) ?_
          exact ih4 (j + 1) (v2 + 1) dv (by omega) (by omega) (zgd_b hv2 hdv c_4) (by omega) _ _ hP hD hS _ (lv_sub hl [0, 1, 2] rfl)
        · refine zv_iload_n S dX0_commonDivisor_18 rfl (lv_at hl 1 rfl) ?_
          refine zv_iload_n S dX0_commonDivisor_19 rfl (lv_at hl 0 rfl) ?_
          have hg := zgd_le (zkc n) j
          refine zc_Ni (As := [.int (zI dv), .int (zI v2)]) (rest := []) (wr := [(h0, .inr (0, [.ref qw, .ref ql, .long (zL (n : Int)), .int (zI wg)]))]) (n := 2) S hN hK hP hD hS hA hl (c_X4_greatestDivisor l G H.size dv v2 (by omega) (by omega)) ggX0_commonDivisor_X4_greatestDivisor (List.mem_of_getElem? (i := 17) rfl) wd_X0_commonDivisor_stX4_greatestDivisor wd_X0_commonDivisor_inX4 rfl ⟨rfl, rfl⟩ (by decide +kernel) rfl ⟨Nat.le_of_ble_eq_true rfl, Nat.le_of_ble_eq_true rfl, Nat.le_of_ble_eq_true rfl, Nat.le_of_ble_eq_true rfl⟩ [] [0] rfl rfl (by decide) (by decide) (by decide) (Nat.le_of_ble_eq_true rfl) dX0_commonDivisor_20 rfl (fun r_ u_5 H1 locs1 hp_6 hP1 hD1 hS1 hz1 => ?_)
          try dsimp only at hp_6 hP1 hD1
          subst hp_6
          generalize H1 = H at hP1 hD1 hS1 hz1 ⊢
          generalize locs1 = locs at hS1 ⊢
          have hS := hS1
          have hP : va_P G.1 vwCl [(h0, .inr (0, [.ref qw, .ref ql, .long (zL (n : Int)), .int (zI wg)]))] H := hP1
          have hD : va_D A [(h0, .inr (0, [.ref qw, .ref ql, .long (zL (n : Int)), .int (zI wg)]))] := hD1
          refine zv_istore_n (lv' := [(1, .int (zI ((Nat.gcd dv.natAbs v2.natAbs : Nat) : Int))), (2, .int (zI v2)), (0, .ref h0)]) S dX0_commonDivisor_23 rfl hl (by decide) rfl (fun ls hl => ?_)
          refine zv_iinc (k0 := 1) (lv' := [(2, .int (zI (v2 + 1))), (1, .int (zI ((Nat.gcd dv.natAbs v2.natAbs : Nat) : Int))), (0, .ref h0)]) S dX0_commonDivisor_24 hl rfl (by decide) rfl (fun ls hl => ?_)
          refine zv_goto (tgt := 4) S dX0_commonDivisor_27 (by decide) ?_
          exact ih4 (j + 1) (v2 + 1) ((Nat.gcd dv.natAbs v2.natAbs : Nat) : Int) (by omega) (by omega) (zgd_a hv2 hdv c_4) (by omega) _ _ hP hD hS _ (lv_sub hl [0, 1, 2] rfl)
  exact LP4 _ 0 1 0 rfl (by decide) rfl (Nat.lt_succ_self _) _ _ hP hD hS _ (lv_sub hl [0, 1, 2] rfl)

theorem wd_X0_waysToPay_f9 : Cond.fieldLink RX0 9 "PointMill$Coins" "waysTo" "[J" ∈ wsX0_waysToPay := by decide +kernel
theorem in_X0_waysToPay_X0 : ∀ w ∈ wsX00, w ∈ wsX0_waysToPay := by decide +kernel
set_option maxHeartbeats 4000000 in
set_option maxRecDepth 100000 in
/-- Coins.waysToPay -/
theorem c_X0_waysToPay (l : Launch) (G : zG) (sz : Nat) (h0 : Nat) (qw : Nat) (ql : Nat) (n : Nat) (wg : Int) (W0 : Nat → Int) (tt : Nat) (hn : n < 2 ^ 60) (htt : tt ≤ 1000) : Met l yX0_waysToPay wsX0_waysToPay ({ frames := 1, cells := 0, slots := 0, locals := 21 }) (va_Pc [.ref h0, .int (zI (tt : Int))] (zPre G sz [(h0, .inr (0, [.ref qw, .ref ql, .long (zL (n : Int)), .int (zI wg)])), zcl G qw 1001 W0])) (va_Ql (fun (r : Int64) (u : (Nat → Int)) => r = zL (zws (zkc n) tt 60 tt)) (fun u => zW G (va_A [(h0, .inr (0, [.ref qw, .ref ql, .long (zL (n : Int)), .int (zI wg)])), zcl G qw 1001 W0] sz) ((fun (u : (Nat → Int)) => [(h0, .inr (0, [.ref qw, .ref ql, .long (zL (n : Int)), .int (zI wg)])), zcl G qw 1001 u]) u)) (va_A [(h0, .inr (0, [.ref qw, .ref ql, .long (zL (n : Int)), .int (zI wg)])), zcl G qw 1001 W0] sz)) 0 0 (va_A [(h0, .inr (0, [.ref qw, .ref ql, .long (zL (n : Int)), .int (zI wg)])), zcl G qw 1001 W0] sz) := by
  refine zM_l (post := fun (r : Int64) (u : (Nat → Int)) => r = zL (zws (zkc n) tt 60 tt)) (w1 := fun (u : (Nat → Int)) => [(h0, .inr (0, [.ref qw, .ref ql, .long (zL (n : Int)), .int (zI wg)])), zcl G qw 1001 u]) (plainFor_of_name (by decide)) rfl (Nat.le_of_ble_eq_true rfl) ?_
  intro p e s m below meth c A Q S hN hK hP hD hS hA hret ls hl
  have hl : lv_has ls 4 [(0, .ref h0), (1, .int (zI (tt : Int)))] := hl
  refine zv_iload_n S dX0_waysToPay_0 rfl (lv_at hl 1 rfl) ?_
  refine zv_if_lt (tgt := 11) S (by unfold zR; omega) dX0_waysToPay_1 (by decide) (fun c_1 => ?_) (fun c_1 => ?_)
  · exact absurd c_1 (by omega)
  · refine zv_iload_n S dX0_waysToPay_4 rfl (lv_at hl 1 rfl) ?_
    refine zv_sipush (v := 1000) S dX0_waysToPay_5 (by decide) ?_
    refine zv_icmp_le (tgt := 13) S (by unfold zR; omega) (by unfold zR; omega) dX0_waysToPay_8 (by decide) (fun c_2 => ?_) (fun c_2 => ?_)
    · refine zv_iconst S dX0_waysToPay_13 ?_
      refine zv_istore_n (lv' := [(2, .int (zI 1)), (0, .ref h0), (1, .int (zI (tt : Int)))]) S dX0_waysToPay_14 rfl hl (by decide) rfl (fun ls hl => ?_)
      have LP15 : ∀ (nf : Nat) (j : Nat) (v2 : Int) (W1 : Nat → Int) (hv2 : v2 = (j : Int) + 1) (hj : j ≤ tt) (hW1 : ∀ i, 1 ≤ i → i < j + 1 → W1 i = 0), (tt - j) < nf → ∀ (H : Heap) (locs : List Loc), va_P G.1 vwCl [(h0, .inr (0, [.ref qw, .ref ql, .long (zL (n : Int)), .int (zI wg)])), zcl G qw 1001 W1] H → va_D A [(h0, .inr (0, [.ref qw, .ref ql, .long (zL (n : Int)), .int (zI wg)])), zcl G qw 1001 W1] → va_S A s.heap H locs → ∀ ls : Array Slot, lv_has ls 4 [(2, .int (zI v2)), (0, .ref h0), (1, .int (zI (tt : Int)))] → W p l e ({ frames := 1, cells := 0, slots := 0, locals := 21 }) s m ([.ref h0, .int (zI (tt : Int))]).toArray below meth c H locs 0 0 Q (F0 m 15 ls []) := by
        intro nf
        induction nf with
        | zero =>
          intro j v2 W1 hv2 hj hW1 hf
          exact absurd hf (Nat.not_lt_zero _)
        | succ nf ih15 =>
          intro j v2 W1 hv2 hj hW1 hf H locs hP hD hS ls hl
          refine zv_iload_n S dX0_waysToPay_15 rfl (lv_at hl 0 rfl) ?_
          refine zv_iload_n S dX0_waysToPay_16 rfl (lv_at hl 2 rfl) ?_
          refine zv_icmp_gt (tgt := 33) S (by unfold zR; omega) (by unfold zR; omega) dX0_waysToPay_17 (by decide) (fun c_3 => ?_) (fun c_3 => ?_)
          · refine zv_aload_n S dX0_waysToPay_33 rfl (lv_at hl 1 rfl) ?_
            refine zv_get (C := RX0) (T := TX0) (N := 4) (ci := 0) (v := .ref qw) S in_X0_waysToPay_X0 hK hP 0 rfl rfl 0 (by decide) wd_X0_waysToPay_f9 rfl rfl dX0_waysToPay_34 ?_
            refine zv_iconst S dX0_waysToPay_37 ?_
            refine zv_lconst (v := 1) S dX0_waysToPay_38 (by decide) ?_
            refine zv_last S hK hP hD hS 1 1 rfl rfl 0 rfl (by decide) (by decide) dX0_waysToPay_39 (fun H locs hP hD hS => ?_)
            have hP : va_P G.1 vwCl [(h0, .inr (0, [.ref qw, .ref ql, .long (zL (n : Int)), .int (zI wg)])), zcl G qw 1001 (zU W1 0 1)] H := hP
            have hD : va_D A [(h0, .inr (0, [.ref qw, .ref ql, .long (zL (n : Int)), .int (zI wg)])), zcl G qw 1001 (zU W1 0 1)] := hD
            refine zv_iconst S dX0_waysToPay_40 ?_
            refine zv_istore_n (lv' := [(2, .int (zI 1)), (0, .ref h0), (1, .int (zI (tt : Int)))]) S dX0_waysToPay_41 rfl hl (by decide) rfl (fun ls hl => ?_)
            have LP42 : ∀ (nf : Nat) (j2 : Nat) (v3 : Int) (W2 : Nat → Int) (hv3 : v3 = (j2 : Int) + 1) (hj2 : j2 ≤ 60) (hW2 : zal tt W2 (zws (zkc n) tt j2)), (60 - j2) < nf → ∀ (H : Heap) (locs : List Loc), va_P G.1 vwCl [(h0, .inr (0, [.ref qw, .ref ql, .long (zL (n : Int)), .int (zI wg)])), zcl G qw 1001 W2] H → va_D A [(h0, .inr (0, [.ref qw, .ref ql, .long (zL (n : Int)), .int (zI wg)])), zcl G qw 1001 W2] → va_S A s.heap H locs → ∀ ls : Array Slot, lv_has ls 4 [(2, .int (zI v3)), (0, .ref h0), (1, .int (zI (tt : Int)))] → W p l e ({ frames := 1, cells := 0, slots := 0, locals := 21 }) s m ([.ref h0, .int (zI (tt : Int))]).toArray below meth c H locs 0 0 Q (F0 m 42 ls []) := by
              intro nf
              induction nf with
              | zero =>
                intro j2 v3 W2 hv3 hj2 hW2 hf
                exact absurd hf (Nat.not_lt_zero _)
              | succ nf ih42 =>
                intro j2 v3 W2 hv3 hj2 hW2 hf H locs hP hD hS ls hl
                refine zv_iload_n S dX0_waysToPay_42 rfl (lv_at hl 0 rfl) ?_
                refine zv_bipush (v := 60) S dX0_waysToPay_43 (by decide) ?_
                refine zv_icmp_gt (tgt := 92) S (by unfold zR; omega) (by unfold zR; omega) dX0_waysToPay_45 (by decide) (fun c_4 => ?_) (fun c_4 => ?_)
                · refine zv_aload_n S dX0_waysToPay_92 rfl (lv_at hl 1 rfl) ?_
                  refine zv_get (C := RX0) (T := TX0) (N := 4) (ci := 0) (v := .ref qw) S in_X0_waysToPay_X0 hK hP 0 rfl rfl 0 (by decide) wd_X0_waysToPay_f9 rfl rfl dX0_waysToPay_93 ?_
                  refine zv_iload_n S dX0_waysToPay_96 rfl (lv_at hl 2 rfl) ?_
                  refine zv_lald S hK hP 1 1 rfl rfl tt rfl (by omega) (by decide) dX0_waysToPay_97 ?_
                  exact hret _ _ _ _ _ W2 dX0_waysToPay_98 (show zL (W2 tt) = zL (zws (zkc n) tt 60 tt) from (congrArg zL (by rw [hW2 tt (Nat.le_refl _), show j2 = 60 by omega]))) (hP.sub [0, 1] rfl) (hD.sub [0, 1] (by decide) rfl) hS
                · refine zv_aload_n S dX0_waysToPay_48 rfl (lv_at hl 1 rfl) ?_
                  refine zv_iload_n S dX0_waysToPay_49 rfl (lv_at hl 0 rfl) ?_
                  refine zc_Vi (As := [.int (zI v3)]) (rest := []) (wr := [zcl G qw 1001 W2]) (n := 1) S hN hK hP hD hS hA hl (c_X0_has l G H.size h0 qw ql n wg v3 hn (by omega)) gX0_waysToPay_X0_has rfl ⟨rfl, rfl⟩ (by decide +kernel) rfl ⟨Nat.le_of_ble_eq_true rfl, Nat.le_of_ble_eq_true rfl, Nat.le_of_ble_eq_true rfl, Nat.le_of_ble_eq_true rfl⟩ [0] [1] rfl rfl (by decide) (by decide) (by decide) (ci := 0) rfl rfl rfl (Nat.le_of_ble_eq_true rfl) dX0_waysToPay_50 rfl (fun r_ u_5 H1 locs1 hp_6 hP1 hD1 hS1 hz1 => ?_)
                  try dsimp only at hp_6 hP1 hD1
                  subst hp_6
                  generalize H1 = H at hP1 hD1 hS1 hz1 ⊢
                  generalize locs1 = locs at hS1 ⊢
                  have hS := hS1
                  have hP : va_P G.1 vwCl [zcl G qw 1001 W2, (h0, .inr (0, [.ref qw, .ref ql, .long (zL (n : Int)), .int (zI wg)]))] H := hP1
                  have hD : va_D A [zcl G qw 1001 W2, (h0, .inr (0, [.ref qw, .ref ql, .long (zL (n : Int)), .int (zI wg)]))] := hD1
                  refine zv_ifb_eq (tgt := 86) S dX0_waysToPay_53 (by decide) (fun c_7 => ?_) (fun c_7 => ?_)
                  · refine zv_iinc (k0 := 0) (lv' := [(2, .int (zI (v3 + 1))), (0, .ref h0), (1, .int (zI (tt : Int)))]) S dX0_waysToPay_86 hl rfl (by decide) rfl (fun ls hl => ?_)
                    refine zv_goto (tgt := 42) S dX0_waysToPay_89 (by decide) ?_
                    exact ih42 (j2 + 1) (v3 + 1) W2 (by omega) (by omega) (by rw [zws_f (fun z => c_7 ((zkc_s hv3).mp z))]; exact hW2) (by omega) _ _ (hP.sub [1, 0] rfl) (hD.sub [1, 0] (by decide) rfl) hS _ (lv_sub hl [0, 1, 2] rfl)
                  · refine zv_iload_n S dX0_waysToPay_56 rfl (lv_at hl 0 rfl) ?_
                    refine zv_istore_n (lv' := [(3, .int (zI v3)), (2, .int (zI v3)), (0, .ref h0), (1, .int (zI (tt : Int)))]) S dX0_waysToPay_57 rfl hl (by decide) rfl (fun ls hl => ?_)
                    have LP58 : ∀ (nf : Nat) (t : Nat) (v4 : Int) (W3 : Nat → Int) (hv4 : v4 = ((j2 + 1 + t : Nat) : Int)) (ht : t ≤ tt + 1 - (j2 + 1)) (hW3 : zal tt W3 (zwi (zws (zkc n) tt j2) (j2 + 1) t)), (tt + 1 - (j2 + 1) - t) < nf → ∀ (H : Heap) (locs : List Loc), va_P G.1 vwCl [zcl G qw 1001 W3, (h0, .inr (0, [.ref qw, .ref ql, .long (zL (n : Int)), .int (zI wg)]))] H → va_D A [zcl G qw 1001 W3, (h0, .inr (0, [.ref qw, .ref ql, .long (zL (n : Int)), .int (zI wg)]))] → va_S A s.heap H locs → ∀ ls : Array Slot, lv_has ls 4 [(3, .int (zI v4)), (2, .int (zI v3)), (0, .ref h0), (1, .int (zI (tt : Int)))] → W p l e ({ frames := 1, cells := 0, slots := 0, locals := 21 }) s m ([.ref h0, .int (zI (tt : Int))]).toArray below meth c H locs 0 0 Q (F0 m 58 ls []) := by
                      intro nf
                      induction nf with
                      | zero =>
                        intro t v4 W3 hv4 ht hW3 hf
                        exact absurd hf (Nat.not_lt_zero _)
                      | succ nf ih58 =>
                        intro t v4 W3 hv4 ht hW3 hf H locs hP hD hS ls hl
                        refine zv_iload_n S dX0_waysToPay_58 rfl (lv_at hl 0 rfl) ?_
                        refine zv_iload_n S dX0_waysToPay_59 rfl (lv_at hl 3 rfl) ?_
                        refine zv_icmp_gt (tgt := 86) S (by unfold zR; omega) (by unfold zR; omega) dX0_waysToPay_60 (by decide) (fun c_8 => ?_) (fun c_8 => ?_)
                        · refine zv_iinc (k0 := 1) (lv' := [(2, .int (zI (v3 + 1))), (3, .int (zI v4)), (0, .ref h0), (1, .int (zI (tt : Int)))]) S dX0_waysToPay_86 hl rfl (by decide) rfl (fun ls hl => ?_)
                          refine zv_goto (tgt := 42) S dX0_waysToPay_89 (by decide) ?_
                          exact ih42 (j2 + 1) (v3 + 1) W3 (by omega) (by omega) (by rw [zws_t ((zkc_s hv3).mpr c_7)]; rw [show t = tt + 1 - (j2 + 1) by omega] at hW3; exact hW3) (by omega) _ _ (hP.sub [1, 0] rfl) (hD.sub [1, 0] (by decide) rfl) hS _ (lv_sub hl [0, 2, 3] rfl)
                        · refine zv_aload_n S dX0_waysToPay_63 rfl (lv_at hl 2 rfl) ?_
                          refine zv_get (C := RX0) (T := TX0) (N := 4) (ci := 0) (v := .ref qw) S in_X0_waysToPay_X0 hK hP 1 rfl rfl 0 (by decide) wd_X0_waysToPay_f9 rfl rfl dX0_waysToPay_64 ?_
                          refine zv_iload_n S dX0_waysToPay_67 rfl (lv_at hl 0 rfl) ?_
                          refine zv_dup2_11 S dX0_waysToPay_68 rfl rfl ?_
                          refine zv_lald S hK hP 0 1 rfl rfl (j2 + 1 + t) hv4 (by omega) (by decide) dX0_waysToPay_69 ?_
                          refine zv_aload_n S dX0_waysToPay_70 rfl (lv_at hl 2 rfl) ?_
                          refine zv_get (C := RX0) (T := TX0) (N := 4) (ci := 0) (v := .ref qw) S in_X0_waysToPay_X0 hK hP 1 rfl rfl 0 (by decide) wd_X0_waysToPay_f9 rfl rfl dX0_waysToPay_71 ?_
                          refine zv_iload_n S dX0_waysToPay_74 rfl (lv_at hl 0 rfl) ?_
                          refine zv_iload_n S dX0_waysToPay_75 rfl (lv_at hl 1 rfl) ?_
                          refine zv_isub S dX0_waysToPay_76 ?_
                          refine zv_lald S hK hP 0 1 rfl rfl t (by omega) (by omega) (by decide) dX0_waysToPay_77 ?_
                          refine zv_ladd S dX0_waysToPay_78 ?_
                          refine zv_last S hK hP hD hS 0 1 rfl rfl (j2 + 1 + t) hv4 (by omega) (by decide) dX0_waysToPay_79 (fun H locs hP hD hS => ?_)
                          have hP : va_P G.1 vwCl [zcl G qw 1001 (zU W3 (j2 + 1 + t) ((W3 (j2 + 1 + t)) + (W3 t))), (h0, .inr (0, [.ref qw, .ref ql, .long (zL (n : Int)), .int (zI wg)]))] H := hP
                          have hD : va_D A [zcl G qw 1001 (zU W3 (j2 + 1 + t) ((W3 (j2 + 1 + t)) + (W3 t))), (h0, .inr (0, [.ref qw, .ref ql, .long (zL (n : Int)), .int (zI wg)]))] := hD
                          refine zv_iinc (k0 := 0) (lv' := [(3, .int (zI (v4 + 1))), (2, .int (zI v3)), (0, .ref h0), (1, .int (zI (tt : Int)))]) S dX0_waysToPay_80 hl rfl (by decide) rfl (fun ls hl => ?_)
                          refine zv_goto (tgt := 58) S dX0_waysToPay_83 (by decide) ?_
                          exact ih58 (t + 1) (v4 + 1) (zU W3 (j2 + 1 + t) ((W3 (j2 + 1 + t)) + (W3 t))) (by omega) (by omega) (zal_wi (by omega) hW3 (by omega)) (by omega) _ _ hP hD hS _ (lv_sub hl [0, 1, 2, 3] rfl)
                    exact LP58 _ 0 v3 W2 (by omega) (Nat.zero_le _) hW2 (Nat.lt_succ_self _) _ _ hP hD hS _ (lv_sub hl [0, 1, 2, 3] rfl)
            exact LP42 _ 0 1 (zU W1 0 1) rfl (by decide) (zz_base hW1 (by omega)) (Nat.lt_succ_self _) _ _ hP hD hS _ (lv_sub hl [0, 1, 2] rfl)
          · refine zv_aload_n S dX0_waysToPay_20 rfl (lv_at hl 1 rfl) ?_
            refine zv_get (C := RX0) (T := TX0) (N := 4) (ci := 0) (v := .ref qw) S in_X0_waysToPay_X0 hK hP 0 rfl rfl 0 (by decide) wd_X0_waysToPay_f9 rfl rfl dX0_waysToPay_21 ?_
            refine zv_iload_n S dX0_waysToPay_24 rfl (lv_at hl 0 rfl) ?_
            refine zv_lconst (v := 0) S dX0_waysToPay_25 (by decide) ?_
            refine zv_last S hK hP hD hS 1 1 rfl rfl (j + 1) (by omega) (by omega) (by decide) dX0_waysToPay_26 (fun H locs hP hD hS => ?_)
            have hP : va_P G.1 vwCl [(h0, .inr (0, [.ref qw, .ref ql, .long (zL (n : Int)), .int (zI wg)])), zcl G qw 1001 (zU W1 (j + 1) 0)] H := hP
            have hD : va_D A [(h0, .inr (0, [.ref qw, .ref ql, .long (zL (n : Int)), .int (zI wg)])), zcl G qw 1001 (zU W1 (j + 1) 0)] := hD
            refine zv_iinc (k0 := 0) (lv' := [(2, .int (zI (v2 + 1))), (0, .ref h0), (1, .int (zI (tt : Int)))]) S dX0_waysToPay_27 hl rfl (by decide) rfl (fun ls hl => ?_)
            refine zv_goto (tgt := 15) S dX0_waysToPay_30 (by decide) ?_
            exact ih15 (j + 1) (v2 + 1) (zU W1 (j + 1) 0) (by omega) (by omega) (zz_s hW1) (by omega) _ _ hP hD hS _ (lv_sub hl [0, 1, 2] rfl)
      exact LP15 _ 0 1 W0 rfl (Nat.zero_le _) zz_0 (Nat.lt_succ_self _) _ _ hP hD hS _ (lv_sub hl [0, 1, 2] rfl)
    · exact absurd c_2 (by omega)
