theorem wd_X0_lookForGaps_f19 : Cond.fieldLink RX0 19 "PointMill$Coins" "values" "J" ∈ wsX0_lookForGaps := by decide +kernel
theorem in_X0_lookForGaps_X0 : ∀ w ∈ wsX00, w ∈ wsX0_lookForGaps := by decide +kernel
theorem wd_X0_lookForGaps_f37 : Cond.fieldLink RX0 37 "PointMill$Coins" "wantedGap" "I" ∈ wsX0_lookForGaps := by decide +kernel
set_option maxHeartbeats 4000000 in
set_option maxRecDepth 100000 in
/-- Coins.lookForGaps -/
theorem c_X0_lookForGaps (l : Launch) (G : zG) (sz : Nat) (h0 : Nat) (qw : Nat) (ql : Nat) (n : Nat) (wg : Int) (pl : Int) (hn : n < 2 ^ 60) (hpl : -2147483648 ≤ pl ∧ pl < 2147483648) : Met l yX0_lookForGaps wsX0_lookForGaps ({ frames := 0, cells := 0, slots := 0, locals := 0 }) (va_Pc [.ref h0, .int (zI pl)] (zPre G sz [(h0, .inr (0, [.ref qw, .ref ql, .long (zL (n : Int)), .int (zI wg)]))])) (va_Qi (fun (r : Int32) (u : (Int)) => r = zI ((zcn (fun t => ¬ zpay (zkc n) t) 3601 : Nat) : Int) ∧ (zgap (zkc n) 3601 pl u)) (fun u => zW G (va_A [(h0, .inr (0, [.ref qw, .ref ql, .long (zL (n : Int)), .int (zI wg)]))] sz) ((fun (u : (Int)) => [(h0, .inr (0, [.ref qw, .ref ql, .long (zL (n : Int)), .int (zI u)]))]) u)) (va_A [(h0, .inr (0, [.ref qw, .ref ql, .long (zL (n : Int)), .int (zI wg)]))] sz)) 0 0 (va_A [(h0, .inr (0, [.ref qw, .ref ql, .long (zL (n : Int)), .int (zI wg)]))] sz) := by
  refine zM_i (post := fun (r : Int32) (u : (Int)) => r = zI ((zcn (fun t => ¬ zpay (zkc n) t) 3601 : Nat) : Int) ∧ (zgap (zkc n) 3601 pl u)) (w1 := fun (u : (Int)) => [(h0, .inr (0, [.ref qw, .ref ql, .long (zL (n : Int)), .int (zI u)]))]) (plainFor_of_name (by decide)) rfl (Nat.le_of_ble_eq_true rfl) ?_
  intro p e s m below meth c A Q S hN hK hP hD hS hA hret ls hl
  have hl : lv_has ls 8 [(0, .ref h0), (1, .int (zI pl))] := hl
  refine zv_iconst S dX0_lookForGaps_0 ?_
  refine zv_istore_n (lv' := [(2, .int (zI 0)), (0, .ref h0), (1, .int (zI pl))]) S dX0_lookForGaps_1 rfl hl (by decide) rfl (fun ls hl => ?_)
  refine zv_lconst (v := 1) S dX0_lookForGaps_2 (by decide) ?_
  refine zv_lstore_n (lv' := [(3, .long (zL 1)), (2, .int (zI 0)), (0, .ref h0), (1, .int (zI pl))]) S dX0_lookForGaps_3 rfl hl (by decide) rfl (fun ls hl => ?_)
  refine zv_iconst S dX0_lookForGaps_4 ?_
  refine zv_istore (lv' := [(5, .int (zI 1)), (3, .long (zL 1)), (2, .int (zI 0)), (0, .ref h0), (1, .int (zI pl))]) S dX0_lookForGaps_5 hl (by decide) rfl (fun ls hl => ?_)
  have LP7 : ∀ (nf : Nat) (sm : Nat) (A1 : Nat) (v5 : Int) (fd : Int) (g1 : Int) (hv5 : v5 = (sm : Int)) (hsm : 1 ≤ sm ∧ sm ≤ 3601) (hA1 : zwin (zkc n) sm A1) (hfd : fd = ((zcn (fun t => ¬ zpay (zkc n) t) sm : Nat) : Int)) (hg1 : zgap (zkc n) sm pl g1) (hfb : 0 ≤ fd ∧ fd ≤ (sm : Int)), (3601 - sm) < nf → ∀ (H : Heap) (locs : List Loc), va_P G.1 vwCl [(h0, .inr (0, [.ref qw, .ref ql, .long (zL (n : Int)), .int (zI g1)]))] H → va_D A [(h0, .inr (0, [.ref qw, .ref ql, .long (zL (n : Int)), .int (zI g1)]))] → va_S A s.heap H locs → ∀ ls : Array Slot, lv_has ls 8 [(5, .int (zI v5)), (3, .long (zL (A1 : Int))), (2, .int (zI fd)), (0, .ref h0), (1, .int (zI pl))] → W p l e ({ frames := 0, cells := 0, slots := 0, locals := 0 }) s m ([.ref h0, .int (zI pl)]).toArray below meth c H locs 0 0 Q (F0 m 7 ls []) := by
    intro nf
    induction nf with
    | zero =>
      intro sm A1 v5 fd g1 hv5 hsm hA1 hfd hg1 hfb hf
      exact absurd hf (Nat.not_lt_zero _)
    | succ nf ih7 =>
      intro sm A1 v5 fd g1 hv5 hsm hA1 hfd hg1 hfb hf H locs hP hD hS ls hl
      refine zv_iload S dX0_lookForGaps_7 (lv_at hl 0 rfl) ?_
      refine zv_sipush (v := 3600) S dX0_lookForGaps_9 (by decide) ?_
      refine zv_icmp_gt (tgt := 59) S (by unfold zR; omega) (by unfold zR; omega) dX0_lookForGaps_12 (by decide) (fun c_1 => ?_) (fun c_1 => ?_)
      · refine zv_iload_n S dX0_lookForGaps_59 rfl (lv_at hl 2 rfl) ?_
        exact hret _ _ _ _ _ g1 dX0_lookForGaps_60 ⟨(show zI fd = zI ((zcn (fun t => ¬ zpay (zkc n) t) 3601 : Nat) : Int) from (by rw [hfd, show sm = 3601 by omega])), (show zgap (zkc n) 3601 pl g1 from (by rw [show (3601 : Nat) = sm by omega]; exact hg1))⟩ (hP.sub [0] rfl) (hD.sub [0] (by decide) rfl) hS
      · refine zv_lconst (v := 1) S dX0_lookForGaps_15 (by decide) ?_
        refine zv_lstore (lv' := [(6, .long (zL 1)), (5, .int (zI v5)), (3, .long (zL (A1 : Int))), (2, .int (zI fd)), (0, .ref h0), (1, .int (zI pl))]) S dX0_lookForGaps_16 hl (by decide) rfl (fun ls hl => ?_)
        refine zv_lload_n S dX0_lookForGaps_18 rfl (lv_at hl 2 rfl) ?_
        refine zv_aload_n S dX0_lookForGaps_19 rfl (lv_at hl 4 rfl) ?_
        refine zv_get (C := RX0) (T := TX0) (N := 4) (ci := 0) (v := .long (zL (n : Int))) S in_X0_lookForGaps_X0 hK hP 0 rfl rfl 2 (by decide) wd_X0_lookForGaps_f19 rfl rfl dX0_lookForGaps_20 ?_
        refine zv_land (a := A1) (b := n) S dX0_lookForGaps_23 ?_
        refine zv_lconst (v := 0) S dX0_lookForGaps_24 (by decide) ?_
        refine zv_lif_ne (tgt := 46) S (by unfold zS; have := @Nat.and_le_right A1 n; omega) (by unfold zS; have := @Nat.and_le_right A1 n; omega) dX0_lookForGaps_25 dX0_lookForGaps_26 (by decide) (fun c_2 => ?_) (fun c_2 => ?_)
        · refine zv_lload_n S dX0_lookForGaps_46 rfl (lv_at hl 2 rfl) ?_
          refine zv_iconst S dX0_lookForGaps_47 ?_
          refine zv_lshl (a := A1) S 1 rfl (by decide) dX0_lookForGaps_48 ?_
          refine zv_lload S dX0_lookForGaps_49 (lv_at hl 0 rfl) ?_
          refine zv_lor (a := (A1 * 2 ^ 1)) (b := 1) S dX0_lookForGaps_51 ?_
          refine zv_lstore_n (lv' := [(3, .long (zL (((A1 * 2 ^ 1) ||| 1 : Nat) : Int))), (6, .long (zL 1)), (5, .int (zI v5)), (2, .int (zI fd)), (0, .ref h0), (1, .int (zI pl))]) S dX0_lookForGaps_52 rfl hl (by decide) rfl (fun ls hl => ?_)
          refine zv_iinc (k0 := 2) (lv' := [(5, .int (zI (v5 + 1))), (3, .long (zL (((A1 * 2 ^ 1) ||| 1 : Nat) : Int))), (6, .long (zL 1)), (2, .int (zI fd)), (0, .ref h0), (1, .int (zI pl))]) S dX0_lookForGaps_53 hl rfl (by decide) rfl (fun ls hl => ?_)
          refine zv_goto (tgt := 7) S dX0_lookForGaps_56 (by decide) ?_
          exact ih7 (sm + 1) ((A1 * 2 ^ 1) ||| 1) (v5 + 1) fd g1 (by omega) (by omega) (zwin_s hA1 (by decide) ⟨fun _ => (Classical.byContradiction fun z => c_2 ((zhit hn hsm.1 hA1).mpr z)), fun _ => rfl⟩) (zcn_same hfd (Classical.byContradiction fun z => c_2 ((zhit hn hsm.1 hA1).mpr z))) (zgap_p hg1 (Classical.byContradiction fun z => c_2 ((zhit hn hsm.1 hA1).mpr z))) (by omega) (by omega) _ _ hP hD hS _ (lv_sub hl [0, 1, 3, 4, 5] rfl)
        · refine zv_lconst (v := 0) S dX0_lookForGaps_29 (by decide) ?_
          refine zv_lstore (lv' := [(6, .long (zL 0)), (5, .int (zI v5)), (3, .long (zL (A1 : Int))), (2, .int (zI fd)), (0, .ref h0), (1, .int (zI pl))]) S dX0_lookForGaps_30 hl (by decide) rfl (fun ls hl => ?_)
          refine zv_iload_n S dX0_lookForGaps_32 rfl (lv_at hl 3 rfl) ?_
          refine zv_iload_n S dX0_lookForGaps_33 rfl (lv_at hl 5 rfl) ?_
          refine zv_icmp_ne (tgt := 43) S (by unfold zR; omega) (by unfold zR; omega) dX0_lookForGaps_34 (by decide) (fun c_3 => ?_) (fun c_3 => ?_)
          · refine zv_iinc (k0 := 3) (lv' := [(2, .int (zI (fd + 1))), (6, .long (zL 0)), (5, .int (zI v5)), (3, .long (zL (A1 : Int))), (0, .ref h0), (1, .int (zI pl))]) S dX0_lookForGaps_43 hl rfl (by decide) rfl (fun ls hl => ?_)
            refine zv_lload_n S dX0_lookForGaps_46 rfl (lv_at hl 3 rfl) ?_
            refine zv_iconst S dX0_lookForGaps_47 ?_
            refine zv_lshl (a := A1) S 1 rfl (by decide) dX0_lookForGaps_48 ?_
            refine zv_lload S dX0_lookForGaps_49 (lv_at hl 1 rfl) ?_
            refine zv_lor (a := (A1 * 2 ^ 1)) (b := 0) S dX0_lookForGaps_51 ?_
            refine zv_lstore_n (lv' := [(3, .long (zL (((A1 * 2 ^ 1) ||| 0 : Nat) : Int))), (2, .int (zI (fd + 1))), (6, .long (zL 0)), (5, .int (zI v5)), (0, .ref h0), (1, .int (zI pl))]) S dX0_lookForGaps_52 rfl hl (by decide) rfl (fun ls hl => ?_)
            refine zv_iinc (k0 := 3) (lv' := [(5, .int (zI (v5 + 1))), (3, .long (zL (((A1 * 2 ^ 1) ||| 0 : Nat) : Int))), (2, .int (zI (fd + 1))), (6, .long (zL 0)), (0, .ref h0), (1, .int (zI pl))]) S dX0_lookForGaps_53 hl rfl (by decide) rfl (fun ls hl => ?_)
            refine zv_goto (tgt := 7) S dX0_lookForGaps_56 (by decide) ?_
            exact ih7 (sm + 1) ((A1 * 2 ^ 1) ||| 0) (v5 + 1) (fd + 1) g1 (by omega) (by omega) (zwin_s hA1 (by decide) ⟨fun z => absurd z (by decide), fun z => absurd z ((zhit hn hsm.1 hA1).mp c_2)⟩) (zcn_up hfd ((zhit hn hsm.1 hA1).mp c_2)) (zgap_n hg1 (by rw [← hfd]; exact c_3)) (by omega) (by omega) _ _ hP hD hS _ (lv_sub hl [0, 1, 2, 4, 5] rfl)
          · refine zv_aload_n S dX0_lookForGaps_37 rfl (lv_at hl 4 rfl) ?_
            refine zv_iload S dX0_lookForGaps_38 (lv_at hl 1 rfl) ?_
            refine zv_put (C := RX0) (T := TX0) (N := 4) (ci := 0) (v := .int (zI v5)) S in_X0_lookForGaps_X0 tyX0 tyX0_ok nmX0 hK hP hD hS 0 rfl rfl 3 (by decide) wd_X0_lookForGaps_f37 rfl rfl rfl rfl (Nat.le_of_ble_eq_true rfl) dX0_lookForGaps_40 (fun H locs hP hD hS => ?_)
            have hP : va_P G.1 vwCl [(h0, .inr (0, [.ref qw, .ref ql, .long (zL (n : Int)), .int (zI v5)]))] H := hP
            have hD : va_D A [(h0, .inr (0, [.ref qw, .ref ql, .long (zL (n : Int)), .int (zI v5)]))] := hD
            refine zv_iinc (k0 := 3) (lv' := [(2, .int (zI (fd + 1))), (6, .long (zL 0)), (5, .int (zI v5)), (3, .long (zL (A1 : Int))), (0, .ref h0), (1, .int (zI pl))]) S dX0_lookForGaps_43 hl rfl (by decide) rfl (fun ls hl => ?_)
            refine zv_lload_n S dX0_lookForGaps_46 rfl (lv_at hl 3 rfl) ?_
            refine zv_iconst S dX0_lookForGaps_47 ?_
            refine zv_lshl (a := A1) S 1 rfl (by decide) dX0_lookForGaps_48 ?_
            refine zv_lload S dX0_lookForGaps_49 (lv_at hl 1 rfl) ?_
            refine zv_lor (a := (A1 * 2 ^ 1)) (b := 0) S dX0_lookForGaps_51 ?_
            refine zv_lstore_n (lv' := [(3, .long (zL (((A1 * 2 ^ 1) ||| 0 : Nat) : Int))), (2, .int (zI (fd + 1))), (6, .long (zL 0)), (5, .int (zI v5)), (0, .ref h0), (1, .int (zI pl))]) S dX0_lookForGaps_52 rfl hl (by decide) rfl (fun ls hl => ?_)
            refine zv_iinc (k0 := 3) (lv' := [(5, .int (zI (v5 + 1))), (3, .long (zL (((A1 * 2 ^ 1) ||| 0 : Nat) : Int))), (2, .int (zI (fd + 1))), (6, .long (zL 0)), (0, .ref h0), (1, .int (zI pl))]) S dX0_lookForGaps_53 hl rfl (by decide) rfl (fun ls hl => ?_)
            refine zv_goto (tgt := 7) S dX0_lookForGaps_56 (by decide) ?_
            exact ih7 (sm + 1) ((A1 * 2 ^ 1) ||| 0) (v5 + 1) (fd + 1) v5 (by omega) (by omega) (zwin_s hA1 (by decide) ⟨fun z => absurd z (by decide), fun z => absurd z ((zhit hn hsm.1 hA1).mp c_2)⟩) (zcn_up hfd ((zhit hn hsm.1 hA1).mp c_2)) (by rw [hv5]; exact zgap_y ((zhit hn hsm.1 hA1).mp c_2) (by rw [← hfd]; exact c_3)) (by omega) (by omega) _ _ hP hD hS _ (lv_sub hl [0, 1, 2, 4, 5] rfl)
  exact LP7 _ 1 1 1 0 wg rfl (by decide) (zwin_1 _) zcn_1 zgap_1 (by decide) (Nat.lt_succ_self _) _ _ hP hD hS _ (lv_sub hl [0, 1, 2, 3, 4] rfl)

set_option maxHeartbeats 4000000 in
set_option maxRecDepth 100000 in
/-- Coins.leastCoin -/
theorem c_X0_leastCoin (l : Launch) (G : zG) (sz : Nat) (h0 : Nat) (qw : Nat) (ql : Nat) (n : Nat) (wg : Int) (hn : n < 2 ^ 60) : Met l yX0_leastCoin wsX0_leastCoin ({ frames := 1, cells := 0, slots := 0, locals := 21 }) (va_Pc [.ref h0] (zPre G sz [(h0, .inr (0, [.ref qw, .ref ql, .long (zL (n : Int)), .int (zI wg)]))])) (va_Qi (fun (r : Int32) (u : (Nat)) => r = zI (u : Int) ∧ (zlc n u)) (fun u => zW G (va_A [(h0, .inr (0, [.ref qw, .ref ql, .long (zL (n : Int)), .int (zI wg)]))] sz) ((fun (u : (Nat)) => [(h0, .inr (0, [.ref qw, .ref ql, .long (zL (n : Int)), .int (zI wg)]))]) u)) (va_A [(h0, .inr (0, [.ref qw, .ref ql, .long (zL (n : Int)), .int (zI wg)]))] sz)) 0 0 (va_A [(h0, .inr (0, [.ref qw, .ref ql, .long (zL (n : Int)), .int (zI wg)]))] sz) := by
  refine zM_i (post := fun (r : Int32) (u : (Nat)) => r = zI (u : Int) ∧ (zlc n u)) (w1 := fun (u : (Nat)) => [(h0, .inr (0, [.ref qw, .ref ql, .long (zL (n : Int)), .int (zI wg)]))]) (plainFor_of_name (by decide)) rfl (Nat.le_of_ble_eq_true rfl) ?_
  intro p e s m below meth c A Q S hN hK hP hD hS hA hret ls hl
  have hl : lv_has ls 2 [(0, .ref h0)] := hl
  refine zv_iconst S dX0_leastCoin_0 ?_
  refine zv_istore_n (lv' := [(1, .int (zI 1)), (0, .ref h0)]) S dX0_leastCoin_1 rfl hl (by decide) rfl (fun ls hl => ?_)
  have LP2 : ∀ (nf : Nat) (j : Nat) (v1 : Int) (hv1 : v1 = (j : Int) + 1) (hj : j ≤ 60) (hno : ∀ u, 1 ≤ u → u < j + 1 → ¬ zkc n u), (60 - j) < nf → ∀ (H : Heap) (locs : List Loc), va_P G.1 vwCl [(h0, .inr (0, [.ref qw, .ref ql, .long (zL (n : Int)), .int (zI wg)]))] H → va_D A [(h0, .inr (0, [.ref qw, .ref ql, .long (zL (n : Int)), .int (zI wg)]))] → va_S A s.heap H locs → ∀ ls : Array Slot, lv_has ls 2 [(1, .int (zI v1)), (0, .ref h0)] → W p l e ({ frames := 1, cells := 0, slots := 0, locals := 21 }) s m ([.ref h0]).toArray below meth c H locs 0 0 Q (F0 m 2 ls []) := by
    intro nf
    induction nf with
    | zero =>
      intro j v1 hv1 hj hno hf
      exact absurd hf (Nat.not_lt_zero _)
    | succ nf ih2 =>
      intro j v1 hv1 hj hno hf H locs hP hD hS ls hl
      refine zv_iload_n S dX0_leastCoin_2 rfl (lv_at hl 0 rfl) ?_
      refine zv_bipush (v := 60) S dX0_leastCoin_3 (by decide) ?_
      refine zv_icmp_gt (tgt := 24) S (by unfold zR; omega) (by unfold zR; omega) dX0_leastCoin_5 (by decide) (fun c_1 => ?_) (fun c_1 => ?_)
      · refine zv_iconst S dX0_leastCoin_24 ?_
        exact hret _ _ _ _ _ 1 dX0_leastCoin_25 ⟨rfl, (show zlc n 1 from ⟨⟨by decide, by decide⟩, (fun u a b => absurd a (by omega)), Or.inr (fun u a b => hno u a (by omega))⟩)⟩ (hP.sub [0] rfl) (hD.sub [0] (by decide) rfl) hS
      · refine zv_aload_n S dX0_leastCoin_8 rfl (lv_at hl 1 rfl) ?_
        refine zv_iload_n S dX0_leastCoin_9 rfl (lv_at hl 0 rfl) ?_
        refine zc_Vi (As := [.int (zI v1)]) (rest := []) (wr := []) (n := 1) S hN hK hP hD hS hA hl (c_X0_has l G H.size h0 qw ql n wg v1 hn (by omega)) gX0_leastCoin_X0_has rfl ⟨rfl, rfl⟩ (by decide +kernel) rfl ⟨Nat.le_of_ble_eq_true rfl, Nat.le_of_ble_eq_true rfl, Nat.le_of_ble_eq_true rfl, Nat.le_of_ble_eq_true rfl⟩ [0] [] rfl rfl (by decide) (by decide) (by decide) (ci := 0) rfl rfl rfl (Nat.le_of_ble_eq_true rfl) dX0_leastCoin_10 rfl (fun r_ u_2 H1 locs1 hp_3 hP1 hD1 hS1 hz1 => ?_)
        try dsimp only at hp_3 hP1 hD1
        subst hp_3
        generalize H1 = H at hP1 hD1 hS1 hz1 ⊢
        generalize locs1 = locs at hS1 ⊢
        have hS := hS1
        have hP : va_P G.1 vwCl [(h0, .inr (0, [.ref qw, .ref ql, .long (zL (n : Int)), .int (zI wg)]))] H := hP1
        have hD : va_D A [(h0, .inr (0, [.ref qw, .ref ql, .long (zL (n : Int)), .int (zI wg)]))] := hD1
        refine zv_ifb_eq (tgt := 18) S dX0_leastCoin_13 (by decide) (fun c_4 => ?_) (fun c_4 => ?_)
        · refine zv_iinc (k0 := 0) (lv' := [(1, .int (zI (v1 + 1))), (0, .ref h0)]) S dX0_leastCoin_18 hl rfl (by decide) rfl (fun ls hl => ?_)
          refine zv_goto (tgt := 2) S dX0_leastCoin_21 (by decide) ?_
          exact ih2 (j + 1) (v1 + 1) (by omega) (by omega) (znc_s hv1 hno c_4) (by omega) _ _ hP hD hS _ (lv_sub hl [0, 1] rfl)
        · refine zv_iload_n S dX0_leastCoin_16 rfl (lv_at hl 0 rfl) ?_
          exact hret _ _ _ _ _ (j + 1) dX0_leastCoin_17 ⟨(show zI v1 = zI ((j + 1) : Int) from (congrArg zI (by omega))), (show zlc n (j + 1) from ⟨⟨by omega, by omega⟩, hno, Or.inl ((zkc_s hv1).mpr c_4)⟩)⟩ (hP.sub [0] rfl) (hD.sub [0] (by decide) rfl) hS
  exact LP2 _ 0 1 rfl (by decide) (fun u a b => absurd a (by omega)) (Nat.lt_succ_self _) _ _ hP hD hS _ (lv_sub hl [0, 1] rfl)
