theorem wd_X5_gap_f51 : Cond.fieldLink RX5 51 "PointMillModel" "thrown" "I" ∈ wsX5_gap := by decide +kernel
theorem in_X5_gap_X5 : ∀ w ∈ wsX50, w ∈ wsX5_gap := by decide +kernel
theorem wd_X5_gap_f42 : Cond.fieldLink RX5 42 "PointMillModel" "isPaid" "[Z" ∈ wsX5_gap := by decide +kernel
set_option maxHeartbeats 4000000 in
set_option maxRecDepth 100000 in
/-- the model: gap -/
theorem c_X5_gap (l : Launch) (G : zG) (sz : Nat) (h0 : Nat) (th : Int) (sh : Int) (ym : Nat) (ya : Nat) (yb : Nat) (yc : Nat) (ye : Nat) (yp : Nat) (yq : Nat) (yo : Nat) (ro : Int) (fi : Int) (la : Int) (lo : Int) (hi : Int) (co : Int) (yk : Nat) (yw : Nat) (yi : Nat) (ge : Int) (yx : Nat) (yy : Nat) (ir : Int) (K : Nat → Int) (Ip : Nat → Int) (pl : Int) (hKb : ∀ j, j < 61 → K j = 0 ∨ K j = 1) (hpl : -2147483648 ≤ pl ∧ pl < 2147483648) : Met l yX5_gap wsX5_gap ({ frames := 2, cells := 0, slots := 0, locals := 46 }) (va_Pc [.ref h0, .int (zI pl)] (zPre G sz [(h0, .inr (5, [.int (zI th), .int (zI sh), .ref ym, .ref ya, .ref yb, .ref yc, .ref ye, .ref yp, .ref yq, .ref yo, .int (zI ro), .long (zL fi), .long (zL la), .long (zL lo), .long (zL hi), .int (zI co), .ref yk, .ref yw, .ref yi, .int (zI ge), .ref yx, .ref yy, .int (zI ir)])), zcz G yk 61 K, zcz G yi 3601 Ip])) (va_Qi (fun (r : Int32) (u : (Int) × (Int) × (Nat → Int)) => r = zI u.1 ∧ (zgapR K pl u.1 u.2.1)) (fun u => zW G (va_A [(h0, .inr (5, [.int (zI th), .int (zI sh), .ref ym, .ref ya, .ref yb, .ref yc, .ref ye, .ref yp, .ref yq, .ref yo, .int (zI ro), .long (zL fi), .long (zL la), .long (zL lo), .long (zL hi), .int (zI co), .ref yk, .ref yw, .ref yi, .int (zI ge), .ref yx, .ref yy, .int (zI ir)])), zcz G yk 61 K, zcz G yi 3601 Ip] sz) ((fun (u : (Int) × (Int) × (Nat → Int)) => [(h0, .inr (5, [.int (zI u.2.1), .int (zI sh), .ref ym, .ref ya, .ref yb, .ref yc, .ref ye, .ref yp, .ref yq, .ref yo, .int (zI ro), .long (zL fi), .long (zL la), .long (zL lo), .long (zL hi), .int (zI co), .ref yk, .ref yw, .ref yi, .int (zI ge), .ref yx, .ref yy, .int (zI ir)])), zcz G yk 61 K, zcz G yi 3601 u.2.2]) u)) (va_A [(h0, .inr (5, [.int (zI th), .int (zI sh), .ref ym, .ref ya, .ref yb, .ref yc, .ref ye, .ref yp, .ref yq, .ref yo, .int (zI ro), .long (zL fi), .long (zL la), .long (zL lo), .long (zL hi), .int (zI co), .ref yk, .ref yw, .ref yi, .int (zI ge), .ref yx, .ref yy, .int (zI ir)])), zcz G yk 61 K, zcz G yi 3601 Ip] sz)) 0 0 (va_A [(h0, .inr (5, [.int (zI th), .int (zI sh), .ref ym, .ref ya, .ref yb, .ref yc, .ref ye, .ref yp, .ref yq, .ref yo, .int (zI ro), .long (zL fi), .long (zL la), .long (zL lo), .long (zL hi), .int (zI co), .ref yk, .ref yw, .ref yi, .int (zI ge), .ref yx, .ref yy, .int (zI ir)])), zcz G yk 61 K, zcz G yi 3601 Ip] sz) := by
  refine zM_i (post := fun (r : Int32) (u : (Int) × (Int) × (Nat → Int)) => r = zI u.1 ∧ (zgapR K pl u.1 u.2.1)) (w1 := fun (u : (Int) × (Int) × (Nat → Int)) => [(h0, .inr (5, [.int (zI u.2.1), .int (zI sh), .ref ym, .ref ya, .ref yb, .ref yc, .ref ye, .ref yp, .ref yq, .ref yo, .int (zI ro), .long (zL fi), .long (zL la), .long (zL lo), .long (zL hi), .int (zI co), .ref yk, .ref yw, .ref yi, .int (zI ge), .ref yx, .ref yy, .int (zI ir)])), zcz G yk 61 K, zcz G yi 3601 u.2.2]) (plainFor_of_name (by decide)) rfl (Nat.le_of_ble_eq_true rfl) ?_
  intro p e s m below meth c A Q S hN hK hP hD hS hA hret ls hl
  have hl : lv_has ls 4 [(0, .ref h0), (1, .int (zI pl))] := hl
  refine zv_iload_n S dX5_gap_0 rfl (lv_at hl 1 rfl) ?_
  refine zv_iconst S dX5_gap_1 ?_
  refine zv_icmp_lt (tgt := 12) S (by unfold zR; omega) (by unfold zR; omega) dX5_gap_2 (by decide) (fun c_1 => ?_) (fun c_1 => ?_)
  · refine zv_aload_n S dX5_gap_12 rfl (lv_at hl 0 rfl) ?_
    refine zv_iload_n S dX5_gap_13 rfl (lv_at hl 1 rfl) ?_
    refine zv_iconst S dX5_gap_14 ?_
    refine zv_icmp_ge (tgt := 22) S (by unfold zR; omega) (by unfold zR; omega) dX5_gap_15 (by decide) (fun c_2 => ?_) (fun c_2 => ?_)
    · refine zv_iconst S dX5_gap_22 ?_
      refine zv_put (C := RX5) (T := TX5) (N := 23) (ci := 5) (v := .int (zI 2)) S in_X5_gap_X5 tyX5 tyX5_ok nmX5 hK hP hD hS 0 rfl rfl 0 (by decide) wd_X5_gap_f51 rfl rfl rfl rfl (Nat.le_of_ble_eq_true rfl) dX5_gap_23 (fun H locs hP hD hS => ?_)
      have hP : va_P G.1 vwCl [(h0, .inr (5, [.int (zI 2), .int (zI sh), .ref ym, .ref ya, .ref yb, .ref yc, .ref ye, .ref yp, .ref yq, .ref yo, .int (zI ro), .long (zL fi), .long (zL la), .long (zL lo), .long (zL hi), .int (zI co), .ref yk, .ref yw, .ref yi, .int (zI ge), .ref yx, .ref yy, .int (zI ir)])), zcz G yk 61 K, zcz G yi 3601 Ip] H := hP
      have hD : va_D A [(h0, .inr (5, [.int (zI 2), .int (zI sh), .ref ym, .ref ya, .ref yb, .ref yc, .ref ye, .ref yp, .ref yq, .ref yo, .int (zI ro), .long (zL fi), .long (zL la), .long (zL lo), .long (zL hi), .int (zI co), .ref yk, .ref yw, .ref yi, .int (zI ge), .ref yx, .ref yy, .int (zI ir)])), zcz G yk 61 K, zcz G yi 3601 Ip] := hD
      refine zv_iconst S dX5_gap_26 ?_
      exact hret _ _ _ _ _ ⟨0, 2, Ip⟩ dX5_gap_27 ⟨rfl, (show zgapR K pl 0 2 from (Or.inr (Or.inl ⟨rfl, by omega, by first | exact hN | (exact absurd (show pl < -1 by omega) (by omega))⟩)))⟩ (hP.sub [0, 1, 2] rfl) (hD.sub [0, 1, 2] (by decide) rfl) hS
    · refine zv_iconst S dX5_gap_18 ?_
      refine zv_goto (tgt := 23) S dX5_gap_19 (by decide) ?_
      refine zv_put (C := RX5) (T := TX5) (N := 23) (ci := 5) (v := .int (zI 1)) S in_X5_gap_X5 tyX5 tyX5_ok nmX5 hK hP hD hS 0 rfl rfl 0 (by decide) wd_X5_gap_f51 rfl rfl rfl rfl (Nat.le_of_ble_eq_true rfl) dX5_gap_23 (fun H locs hP hD hS => ?_)
      have hP : va_P G.1 vwCl [(h0, .inr (5, [.int (zI 1), .int (zI sh), .ref ym, .ref ya, .ref yb, .ref yc, .ref ye, .ref yp, .ref yq, .ref yo, .int (zI ro), .long (zL fi), .long (zL la), .long (zL lo), .long (zL hi), .int (zI co), .ref yk, .ref yw, .ref yi, .int (zI ge), .ref yx, .ref yy, .int (zI ir)])), zcz G yk 61 K, zcz G yi 3601 Ip] H := hP
      have hD : va_D A [(h0, .inr (5, [.int (zI 1), .int (zI sh), .ref ym, .ref ya, .ref yb, .ref yc, .ref ye, .ref yp, .ref yq, .ref yo, .int (zI ro), .long (zL fi), .long (zL la), .long (zL lo), .long (zL hi), .int (zI co), .ref yk, .ref yw, .ref yi, .int (zI ge), .ref yx, .ref yy, .int (zI ir)])), zcz G yk 61 K, zcz G yi 3601 Ip] := hD
      refine zv_iconst S dX5_gap_26 ?_
      exact hret _ _ _ _ _ ⟨0, 1, Ip⟩ dX5_gap_27 ⟨rfl, (show zgapR K pl 0 1 from (Or.inl ⟨rfl, by omega⟩))⟩ (hP.sub [0, 1, 2] rfl) (hD.sub [0, 1, 2] (by decide) rfl) hS
  · refine zv_aload_n S dX5_gap_5 rfl (lv_at hl 0 rfl) ?_
    refine zc_Vi (As := []) (rest := []) (wr := [zcz G yi 3601 Ip]) (n := 0) S hN hK hP hD hS hA hl (c_X5_hasEnd l G s.heap.size h0 th sh ym ya yb yc ye yp yq yo ro fi la lo hi co yk yw yi ge yx yy ir K (by omega)) gX5_gap_X5_hasEnd rfl ⟨rfl, rfl⟩ (by decide +kernel) rfl ⟨Nat.le_of_ble_eq_true rfl, Nat.le_of_ble_eq_true rfl, Nat.le_of_ble_eq_true rfl, Nat.le_of_ble_eq_true rfl⟩ [0, 1] [2] rfl rfl (by decide) (by decide) (by decide) (ci := 5) rfl rfl rfl (Nat.le_of_ble_eq_true rfl) dX5_gap_6 rfl (fun r_ u_3 H1 locs1 hp_4 hP1 hD1 hS1 hz1 => ?_)
    try dsimp only at hp_4 hP1 hD1
    subst hp_4
    generalize H1 = H at hP1 hD1 hS1 hz1 ⊢
    generalize locs1 = locs at hS1 ⊢
    have hS := hS1
    have hP : va_P G.1 vwCl [zcz G yi 3601 Ip, (h0, .inr (5, [.int (zI th), .int (zI sh), .ref ym, .ref ya, .ref yb, .ref yc, .ref ye, .ref yp, .ref yq, .ref yo, .int (zI ro), .long (zL fi), .long (zL la), .long (zL lo), .long (zL hi), .int (zI co), .ref yk, .ref yw, .ref yi, .int (zI ge), .ref yx, .ref yy, .int (zI ir)])), zcz G yk 61 K] H := hP1
    have hD : va_D A [zcz G yi 3601 Ip, (h0, .inr (5, [.int (zI th), .int (zI sh), .ref ym, .ref ya, .ref yb, .ref yc, .ref ye, .ref yp, .ref yq, .ref yo, .int (zI ro), .long (zL fi), .long (zL la), .long (zL lo), .long (zL hi), .int (zI co), .ref yk, .ref yw, .ref yi, .int (zI ge), .ref yx, .ref yy, .int (zI ir)])), zcz G yk 61 K] := hD1
    refine zv_ifb_ne (tgt := 28) S dX5_gap_9 (by decide) (fun c_5 => ?_) (fun c_5 => ?_)
    · refine zv_aload_n S dX5_gap_28 rfl (lv_at hl 0 rfl) ?_
      refine zc_Vv (As := []) (rest := []) (wr := []) (n := 0) S hN hK hP hD hS hA hl (c_X5_pays l G H.size h0 th sh ym ya yb yc ye yp yq yo ro fi la lo hi co yk yw yi ge yx yy ir K Ip hKb) gX5_gap_X5_pays rfl ⟨rfl, rfl⟩ (by decide +kernel) rfl ⟨Nat.le_of_ble_eq_true rfl, Nat.le_of_ble_eq_true rfl, Nat.le_of_ble_eq_true rfl, Nat.le_of_ble_eq_true rfl⟩ [1, 2, 0] [] rfl rfl (by decide) (by decide) (by decide) (ci := 5) rfl rfl rfl (Nat.le_of_ble_eq_true rfl) dX5_gap_29 rfl (fun u_6 H1 locs1 hp_7 hP1 hD1 hS1 hz1 => ?_)
      obtain ⟨I1_8, rfl⟩ : ∃ z, z = u_6 := ⟨_, rfl⟩
      try dsimp only at hp_7 hP1 hD1
      have hI_9 := hp_7
      generalize H1 = H at hP1 hD1 hS1 hz1 ⊢
      generalize locs1 = locs at hS1 ⊢
      have hS := hS1
      have hP : va_P G.1 vwCl [(h0, .inr (5, [.int (zI th), .int (zI sh), .ref ym, .ref ya, .ref yb, .ref yc, .ref ye, .ref yp, .ref yq, .ref yo, .int (zI ro), .long (zL fi), .long (zL la), .long (zL lo), .long (zL hi), .int (zI co), .ref yk, .ref yw, .ref yi, .int (zI ge), .ref yx, .ref yy, .int (zI ir)])), zcz G yk 61 K, zcz G yi 3601 I1_8] H := hP1
      have hD : va_D A [(h0, .inr (5, [.int (zI th), .int (zI sh), .ref ym, .ref ya, .ref yb, .ref yc, .ref ye, .ref yp, .ref yq, .ref yo, .int (zI ro), .long (zL fi), .long (zL la), .long (zL lo), .long (zL hi), .int (zI co), .ref yk, .ref yw, .ref yi, .int (zI ge), .ref yx, .ref yy, .int (zI ir)])), zcz G yk 61 K, zcz G yi 3601 I1_8] := hD1
      refine zv_iconst S dX5_gap_32 ?_
      refine zv_istore_n (lv' := [(2, .int (zI 0)), (0, .ref h0), (1, .int (zI pl))]) S dX5_gap_33 rfl hl (by decide) rfl (fun ls hl => ?_)
      refine zv_iconst S dX5_gap_34 ?_
      refine zv_istore_n (lv' := [(3, .int (zI 0)), (2, .int (zI 0)), (0, .ref h0), (1, .int (zI pl))]) S dX5_gap_35 rfl hl (by decide) rfl (fun ls hl => ?_)
      have LP36 : ∀ (nf : Nat) (s1 : Nat) (v3 : Int) (nn : Int) (hv3 : v3 = (s1 : Int)) (hs1 : s1 ≤ 3601) (hn : nn = ((zcn (fun t => ¬ zpay (zkm K) t) s1 : Nat) : Int)) (hnp : pl < 0 ∨ nn ≤ pl) (hnb : 0 ≤ nn ∧ nn ≤ (s1 : Int)), (3601 - s1) < nf → ∀ (H : Heap) (locs : List Loc), va_P G.1 vwCl [(h0, .inr (5, [.int (zI th), .int (zI sh), .ref ym, .ref ya, .ref yb, .ref yc, .ref ye, .ref yp, .ref yq, .ref yo, .int (zI ro), .long (zL fi), .long (zL la), .long (zL lo), .long (zL hi), .int (zI co), .ref yk, .ref yw, .ref yi, .int (zI ge), .ref yx, .ref yy, .int (zI ir)])), zcz G yk 61 K, zcz G yi 3601 I1_8] H → va_D A [(h0, .inr (5, [.int (zI th), .int (zI sh), .ref ym, .ref ya, .ref yb, .ref yc, .ref ye, .ref yp, .ref yq, .ref yo, .int (zI ro), .long (zL fi), .long (zL la), .long (zL lo), .long (zL hi), .int (zI co), .ref yk, .ref yw, .ref yi, .int (zI ge), .ref yx, .ref yy, .int (zI ir)])), zcz G yk 61 K, zcz G yi 3601 I1_8] → va_S A s.heap H locs → ∀ ls : Array Slot, lv_has ls 4 [(3, .int (zI v3)), (2, .int (zI nn)), (0, .ref h0), (1, .int (zI pl))] → W p l e ({ frames := 2, cells := 0, slots := 0, locals := 46 }) s m ([.ref h0, .int (zI pl)]).toArray below meth c H locs 0 0 Q (F0 m 36 ls []) := by
        intro nf
        induction nf with
        | zero =>
          intro s1 v3 nn hv3 hs1 hn hnp hnb hf
          exact absurd hf (Nat.not_lt_zero _)
        | succ nf ih36 =>
          intro s1 v3 nn hv3 hs1 hn hnp hnb hf H locs hP hD hS ls hl
          refine zv_iload_n S dX5_gap_36 rfl (lv_at hl 0 rfl) ?_
          refine zv_sipush (v := 3600) S dX5_gap_37 (by decide) ?_
          refine zv_icmp_gt (tgt := 73) S (by unfold zR; omega) (by unfold zR; omega) dX5_gap_40 (by decide) (fun c_10 => ?_) (fun c_10 => ?_)
          · refine zv_aload_n S dX5_gap_73 rfl (lv_at hl 2 rfl) ?_
            refine zv_iload_n S dX5_gap_74 rfl (lv_at hl 3 rfl) ?_
            refine zv_iconst S dX5_gap_75 ?_
            refine zv_icmp_ne (tgt := 83) S (by unfold zR; omega) (by unfold zR; omega) dX5_gap_76 (by decide) (fun c_11 => ?_) (fun c_11 => ?_)
            · refine zv_iconst S dX5_gap_83 ?_
              refine zv_put (C := RX5) (T := TX5) (N := 23) (ci := 5) (v := .int (zI 1)) S in_X5_gap_X5 tyX5 tyX5_ok nmX5 hK hP hD hS 0 rfl rfl 0 (by decide) wd_X5_gap_f51 rfl rfl rfl rfl (Nat.le_of_ble_eq_true rfl) dX5_gap_84 (fun H locs hP hD hS => ?_)
              have hP : va_P G.1 vwCl [(h0, .inr (5, [.int (zI 1), .int (zI sh), .ref ym, .ref ya, .ref yb, .ref yc, .ref ye, .ref yp, .ref yq, .ref yo, .int (zI ro), .long (zL fi), .long (zL la), .long (zL lo), .long (zL hi), .int (zI co), .ref yk, .ref yw, .ref yi, .int (zI ge), .ref yx, .ref yy, .int (zI ir)])), zcz G yk 61 K, zcz G yi 3601 I1_8] H := hP
              have hD : va_D A [(h0, .inr (5, [.int (zI 1), .int (zI sh), .ref ym, .ref ya, .ref yb, .ref yc, .ref ye, .ref yp, .ref yq, .ref yo, .int (zI ro), .long (zL fi), .long (zL la), .long (zL lo), .long (zL hi), .int (zI co), .ref yk, .ref yw, .ref yi, .int (zI ge), .ref yx, .ref yy, .int (zI ir)])), zcz G yk 61 K, zcz G yi 3601 I1_8] := hD
              refine zv_aload_n S dX5_gap_87 rfl (lv_at hl 2 rfl) ?_
              refine zv_get (C := RX5) (T := TX5) (N := 23) (ci := 5) (v := .int (zI 1)) S in_X5_gap_X5 hK hP 0 rfl rfl 0 (by decide) wd_X5_gap_f51 rfl rfl dX5_gap_88 ?_
              refine zv_if_eq (tgt := 98) S (by unfold zR; omega) dX5_gap_91 (by decide) (fun c_12 => ?_) (fun c_12 => ?_)
              · exact absurd c_12 (by omega)
              · refine zv_iconst S dX5_gap_94 ?_
                refine zv_goto (tgt := 99) S dX5_gap_95 (by decide) ?_
                exact hret _ _ _ _ _ ⟨0, 1, I1_8⟩ dX5_gap_99 ⟨rfl, (show zgapR K pl 0 1 from (Or.inr (Or.inr (Or.inr (Or.inr ⟨rfl, c_5, by omega, by have q := hn.trans (by rw [show s1 = 3601 by omega]); omega⟩)))))⟩ (hP.sub [0, 1, 2] rfl) (hD.sub [0, 1, 2] (by decide) rfl) hS
            · refine zv_iconst S dX5_gap_79 ?_
              refine zv_goto (tgt := 84) S dX5_gap_80 (by decide) ?_
              refine zv_put (C := RX5) (T := TX5) (N := 23) (ci := 5) (v := .int (zI 0)) S in_X5_gap_X5 tyX5 tyX5_ok nmX5 hK hP hD hS 0 rfl rfl 0 (by decide) wd_X5_gap_f51 rfl rfl rfl rfl (Nat.le_of_ble_eq_true rfl) dX5_gap_84 (fun H locs hP hD hS => ?_)
              have hP : va_P G.1 vwCl [(h0, .inr (5, [.int (zI 0), .int (zI sh), .ref ym, .ref ya, .ref yb, .ref yc, .ref ye, .ref yp, .ref yq, .ref yo, .int (zI ro), .long (zL fi), .long (zL la), .long (zL lo), .long (zL hi), .int (zI co), .ref yk, .ref yw, .ref yi, .int (zI ge), .ref yx, .ref yy, .int (zI ir)])), zcz G yk 61 K, zcz G yi 3601 I1_8] H := hP
              have hD : va_D A [(h0, .inr (5, [.int (zI 0), .int (zI sh), .ref ym, .ref ya, .ref yb, .ref yc, .ref ye, .ref yp, .ref yq, .ref yo, .int (zI ro), .long (zL fi), .long (zL la), .long (zL lo), .long (zL hi), .int (zI co), .ref yk, .ref yw, .ref yi, .int (zI ge), .ref yx, .ref yy, .int (zI ir)])), zcz G yk 61 K, zcz G yi 3601 I1_8] := hD
              refine zv_aload_n S dX5_gap_87 rfl (lv_at hl 2 rfl) ?_
              refine zv_get (C := RX5) (T := TX5) (N := 23) (ci := 5) (v := .int (zI 0)) S in_X5_gap_X5 hK hP 0 rfl rfl 0 (by decide) wd_X5_gap_f51 rfl rfl dX5_gap_88 ?_
              refine zv_if_eq (tgt := 98) S (by unfold zR; omega) dX5_gap_91 (by decide) (fun c_13 => ?_) (fun c_13 => ?_)
              · refine zv_iload_n S dX5_gap_98 rfl (lv_at hl 1 rfl) ?_
                exact hret _ _ _ _ _ ⟨nn, 0, I1_8⟩ dX5_gap_99 ⟨rfl, (show zgapR K pl nn 0 from (Or.inr (Or.inr (Or.inl ⟨rfl, c_5, by omega, hn.trans (by rw [show s1 = 3601 by omega])⟩))))⟩ (hP.sub [0, 1, 2] rfl) (hD.sub [0, 1, 2] (by decide) rfl) hS
              · exact absurd c_13 (by omega)
          · refine zv_aload_n S dX5_gap_43 rfl (lv_at hl 2 rfl) ?_
            refine zv_get (C := RX5) (T := TX5) (N := 23) (ci := 5) (v := .ref yi) S in_X5_gap_X5 hK hP 0 rfl rfl 18 (by decide) wd_X5_gap_f42 rfl rfl dX5_gap_44 ?_
            refine zv_iload_n S dX5_gap_47 rfl (lv_at hl 0 rfl) ?_
            refine zv_zald S hK hP 2 2 rfl rfl s1 hv3 (by omega) (by decide) dX5_gap_48 ?_
            have ki : I1_8 s1 = 0 ∨ I1_8 s1 = 1 := by rw [hI_9 s1 (by omega)]; exact zb_01 _
            refine zv_if_ne (tgt := 67) S (by unfold zR; omega) dX5_gap_49 (by decide) (fun c_14 => ?_) (fun c_14 => ?_)
            · refine zv_iinc (k0 := 0) (lv' := [(3, .int (zI (v3 + 1))), (2, .int (zI nn)), (0, .ref h0), (1, .int (zI pl))]) S dX5_gap_67 hl rfl (by decide) rfl (fun ls hl => ?_)
              refine zv_goto (tgt := 36) S dX5_gap_70 (by decide) ?_
              exact ih36 (s1 + 1) (v3 + 1) nn (by omega) (by omega) (zcn_same hn (zb_iff1.mp ((hI_9 s1 (by omega)).symm.trans (by omega)))) (by omega) (by omega) (by omega) _ _ hP hD hS _ (lv_sub hl [0, 1, 2, 3] rfl)
            · refine zv_iload_n S dX5_gap_52 rfl (lv_at hl 1 rfl) ?_
              refine zv_iload_n S dX5_gap_53 rfl (lv_at hl 3 rfl) ?_
              refine zv_icmp_ne (tgt := 64) S (by unfold zR; omega) (by unfold zR; omega) dX5_gap_54 (by decide) (fun c_15 => ?_) (fun c_15 => ?_)
              · refine zv_iinc (k0 := 1) (lv' := [(2, .int (zI (nn + 1))), (3, .int (zI v3)), (0, .ref h0), (1, .int (zI pl))]) S dX5_gap_64 hl rfl (by decide) rfl (fun ls hl => ?_)
                refine zv_iinc (k0 := 1) (lv' := [(3, .int (zI (v3 + 1))), (2, .int (zI (nn + 1))), (0, .ref h0), (1, .int (zI pl))]) S dX5_gap_67 hl rfl (by decide) rfl (fun ls hl => ?_)
                refine zv_goto (tgt := 36) S dX5_gap_70 (by decide) ?_
                exact ih36 (s1 + 1) (v3 + 1) (nn + 1) (by omega) (by omega) (zcn_up hn (fun z => by have e := (hI_9 s1 (by omega)).trans (zb_t z); omega)) (by omega) (by omega) (by omega) _ _ hP hD hS _ (lv_sub hl [0, 1, 2, 3] rfl)
              · refine zv_aload_n S dX5_gap_57 rfl (lv_at hl 2 rfl) ?_
                refine zv_iconst S dX5_gap_58 ?_
                refine zv_put (C := RX5) (T := TX5) (N := 23) (ci := 5) (v := .int (zI 0)) S in_X5_gap_X5 tyX5 tyX5_ok nmX5 hK hP hD hS 0 rfl rfl 0 (by decide) wd_X5_gap_f51 rfl rfl rfl rfl (Nat.le_of_ble_eq_true rfl) dX5_gap_59 (fun H locs hP hD hS => ?_)
                have hP : va_P G.1 vwCl [(h0, .inr (5, [.int (zI 0), .int (zI sh), .ref ym, .ref ya, .ref yb, .ref yc, .ref ye, .ref yp, .ref yq, .ref yo, .int (zI ro), .long (zL fi), .long (zL la), .long (zL lo), .long (zL hi), .int (zI co), .ref yk, .ref yw, .ref yi, .int (zI ge), .ref yx, .ref yy, .int (zI ir)])), zcz G yk 61 K, zcz G yi 3601 I1_8] H := hP
                have hD : va_D A [(h0, .inr (5, [.int (zI 0), .int (zI sh), .ref ym, .ref ya, .ref yb, .ref yc, .ref ye, .ref yp, .ref yq, .ref yo, .int (zI ro), .long (zL fi), .long (zL la), .long (zL lo), .long (zL hi), .int (zI co), .ref yk, .ref yw, .ref yi, .int (zI ge), .ref yx, .ref yy, .int (zI ir)])), zcz G yk 61 K, zcz G yi 3601 I1_8] := hD
                refine zv_iload_n S dX5_gap_62 rfl (lv_at hl 0 rfl) ?_
                exact hret _ _ _ _ _ ⟨v3, 0, I1_8⟩ dX5_gap_63 ⟨rfl, (show zgapR K pl v3 0 from (Or.inr (Or.inr (Or.inr (Or.inl ⟨rfl, c_5, by omega, s1, by omega, (fun z => by have e := (hI_9 s1 (by omega)).trans (zb_t z); omega), by omega, hv3⟩)))))⟩ (hP.sub [0, 1, 2] rfl) (hD.sub [0, 1, 2] (by decide) rfl) hS
      exact LP36 _ 0 0 0 rfl (by decide) rfl (by omega) (by decide) (Nat.lt_succ_self _) _ _ hP hD hS _ (lv_sub hl [0, 1, 2, 3] rfl)
    · refine zv_aload_n S dX5_gap_12 rfl (lv_at hl 0 rfl) ?_
      refine zv_iload_n S dX5_gap_13 rfl (lv_at hl 1 rfl) ?_
      refine zv_iconst S dX5_gap_14 ?_
      refine zv_icmp_ge (tgt := 22) S (by unfold zR; omega) (by unfold zR; omega) dX5_gap_15 (by decide) (fun c_16 => ?_) (fun c_16 => ?_)
      · refine zv_iconst S dX5_gap_22 ?_
        refine zv_put (C := RX5) (T := TX5) (N := 23) (ci := 5) (v := .int (zI 2)) S in_X5_gap_X5 tyX5 tyX5_ok nmX5 hK hP hD hS 1 rfl rfl 0 (by decide) wd_X5_gap_f51 rfl rfl rfl rfl (Nat.le_of_ble_eq_true rfl) dX5_gap_23 (fun H locs hP hD hS => ?_)
        have hP : va_P G.1 vwCl [zcz G yi 3601 Ip, (h0, .inr (5, [.int (zI 2), .int (zI sh), .ref ym, .ref ya, .ref yb, .ref yc, .ref ye, .ref yp, .ref yq, .ref yo, .int (zI ro), .long (zL fi), .long (zL la), .long (zL lo), .long (zL hi), .int (zI co), .ref yk, .ref yw, .ref yi, .int (zI ge), .ref yx, .ref yy, .int (zI ir)])), zcz G yk 61 K] H := hP
        have hD : va_D A [zcz G yi 3601 Ip, (h0, .inr (5, [.int (zI 2), .int (zI sh), .ref ym, .ref ya, .ref yb, .ref yc, .ref ye, .ref yp, .ref yq, .ref yo, .int (zI ro), .long (zL fi), .long (zL la), .long (zL lo), .long (zL hi), .int (zI co), .ref yk, .ref yw, .ref yi, .int (zI ge), .ref yx, .ref yy, .int (zI ir)])), zcz G yk 61 K] := hD
        refine zv_iconst S dX5_gap_26 ?_
        exact hret _ _ _ _ _ ⟨0, 2, Ip⟩ dX5_gap_27 ⟨rfl, (show zgapR K pl 0 2 from (Or.inr (Or.inl ⟨rfl, by omega, by first | exact c_5 | (exact absurd (show pl < -1 by omega) (by omega))⟩)))⟩ (hP.sub [1, 2, 0] rfl) (hD.sub [1, 2, 0] (by decide) rfl) hS
      · refine zv_iconst S dX5_gap_18 ?_
        refine zv_goto (tgt := 23) S dX5_gap_19 (by decide) ?_
        refine zv_put (C := RX5) (T := TX5) (N := 23) (ci := 5) (v := .int (zI 1)) S in_X5_gap_X5 tyX5 tyX5_ok nmX5 hK hP hD hS 1 rfl rfl 0 (by decide) wd_X5_gap_f51 rfl rfl rfl rfl (Nat.le_of_ble_eq_true rfl) dX5_gap_23 (fun H locs hP hD hS => ?_)
        have hP : va_P G.1 vwCl [zcz G yi 3601 Ip, (h0, .inr (5, [.int (zI 1), .int (zI sh), .ref ym, .ref ya, .ref yb, .ref yc, .ref ye, .ref yp, .ref yq, .ref yo, .int (zI ro), .long (zL fi), .long (zL la), .long (zL lo), .long (zL hi), .int (zI co), .ref yk, .ref yw, .ref yi, .int (zI ge), .ref yx, .ref yy, .int (zI ir)])), zcz G yk 61 K] H := hP
        have hD : va_D A [zcz G yi 3601 Ip, (h0, .inr (5, [.int (zI 1), .int (zI sh), .ref ym, .ref ya, .ref yb, .ref yc, .ref ye, .ref yp, .ref yq, .ref yo, .int (zI ro), .long (zL fi), .long (zL la), .long (zL lo), .long (zL hi), .int (zI co), .ref yk, .ref yw, .ref yi, .int (zI ge), .ref yx, .ref yy, .int (zI ir)])), zcz G yk 61 K] := hD
        refine zv_iconst S dX5_gap_26 ?_
        exact hret _ _ _ _ _ ⟨0, 1, Ip⟩ dX5_gap_27 ⟨rfl, (show zgapR K pl 0 1 from (Or.inl ⟨rfl, by omega⟩))⟩ (hP.sub [1, 2, 0] rfl) (hD.sub [1, 2, 0] (by decide) rfl) hS

theorem wd_X5_greatestGap_f51 : Cond.fieldLink RX5 51 "PointMillModel" "thrown" "I" ∈ wsX5_greatestGap := by decide +kernel
theorem in_X5_greatestGap_X5 : ∀ w ∈ wsX50, w ∈ wsX5_greatestGap := by decide +kernel
theorem wd_X5_greatestGap_f42 : Cond.fieldLink RX5 42 "PointMillModel" "isPaid" "[Z" ∈ wsX5_greatestGap := by decide +kernel
set_option maxHeartbeats 4000000 in
set_option maxRecDepth 100000 in
/-- the model: greatestGap -/
theorem c_X5_greatestGap (l : Launch) (G : zG) (sz : Nat) (h0 : Nat) (th : Int) (sh : Int) (ym : Nat) (ya : Nat) (yb : Nat) (yc : Nat) (ye : Nat) (yp : Nat) (yq : Nat) (yo : Nat) (ro : Int) (fi : Int) (la : Int) (lo : Int) (hi : Int) (co : Int) (yk : Nat) (yw : Nat) (yi : Nat) (ge : Int) (yx : Nat) (yy : Nat) (ir : Int) (K : Nat → Int) (Ip : Nat → Int) (hKb : ∀ j, j < 61 → K j = 0 ∨ K j = 1) : Met l yX5_greatestGap wsX5_greatestGap ({ frames := 2, cells := 0, slots := 0, locals := 46 }) (va_Pc [.ref h0] (zPre G sz [(h0, .inr (5, [.int (zI th), .int (zI sh), .ref ym, .ref ya, .ref yb, .ref yc, .ref ye, .ref yp, .ref yq, .ref yo, .int (zI ro), .long (zL fi), .long (zL la), .long (zL lo), .long (zL hi), .int (zI co), .ref yk, .ref yw, .ref yi, .int (zI ge), .ref yx, .ref yy, .int (zI ir)])), zcz G yk 61 K, zcz G yi 3601 Ip])) (va_Qi (fun (r : Int32) (u : (Int) × (Int) × (Nat → Int)) => r = zI u.1 ∧ (zgreatR K u.1 u.2.1)) (fun u => zW G (va_A [(h0, .inr (5, [.int (zI th), .int (zI sh), .ref ym, .ref ya, .ref yb, .ref yc, .ref ye, .ref yp, .ref yq, .ref yo, .int (zI ro), .long (zL fi), .long (zL la), .long (zL lo), .long (zL hi), .int (zI co), .ref yk, .ref yw, .ref yi, .int (zI ge), .ref yx, .ref yy, .int (zI ir)])), zcz G yk 61 K, zcz G yi 3601 Ip] sz) ((fun (u : (Int) × (Int) × (Nat → Int)) => [(h0, .inr (5, [.int (zI u.2.1), .int (zI sh), .ref ym, .ref ya, .ref yb, .ref yc, .ref ye, .ref yp, .ref yq, .ref yo, .int (zI ro), .long (zL fi), .long (zL la), .long (zL lo), .long (zL hi), .int (zI co), .ref yk, .ref yw, .ref yi, .int (zI ge), .ref yx, .ref yy, .int (zI ir)])), zcz G yk 61 K, zcz G yi 3601 u.2.2]) u)) (va_A [(h0, .inr (5, [.int (zI th), .int (zI sh), .ref ym, .ref ya, .ref yb, .ref yc, .ref ye, .ref yp, .ref yq, .ref yo, .int (zI ro), .long (zL fi), .long (zL la), .long (zL lo), .long (zL hi), .int (zI co), .ref yk, .ref yw, .ref yi, .int (zI ge), .ref yx, .ref yy, .int (zI ir)])), zcz G yk 61 K, zcz G yi 3601 Ip] sz)) 0 0 (va_A [(h0, .inr (5, [.int (zI th), .int (zI sh), .ref ym, .ref ya, .ref yb, .ref yc, .ref ye, .ref yp, .ref yq, .ref yo, .int (zI ro), .long (zL fi), .long (zL la), .long (zL lo), .long (zL hi), .int (zI co), .ref yk, .ref yw, .ref yi, .int (zI ge), .ref yx, .ref yy, .int (zI ir)])), zcz G yk 61 K, zcz G yi 3601 Ip] sz) := by
  refine zM_i (post := fun (r : Int32) (u : (Int) × (Int) × (Nat → Int)) => r = zI u.1 ∧ (zgreatR K u.1 u.2.1)) (w1 := fun (u : (Int) × (Int) × (Nat → Int)) => [(h0, .inr (5, [.int (zI u.2.1), .int (zI sh), .ref ym, .ref ya, .ref yb, .ref yc, .ref ye, .ref yp, .ref yq, .ref yo, .int (zI ro), .long (zL fi), .long (zL la), .long (zL lo), .long (zL hi), .int (zI co), .ref yk, .ref yw, .ref yi, .int (zI ge), .ref yx, .ref yy, .int (zI ir)])), zcz G yk 61 K, zcz G yi 3601 u.2.2]) (plainFor_of_name (by decide)) rfl (Nat.le_of_ble_eq_true rfl) ?_
  intro p e s m below meth c A Q S hN hK hP hD hS hA hret ls hl
  have hl : lv_has ls 3 [(0, .ref h0)] := hl
  refine zv_aload_n S dX5_greatestGap_0 rfl (lv_at hl 0 rfl) ?_
  refine zv_aload_n S dX5_greatestGap_1 rfl (lv_at hl 0 rfl) ?_
  refine zc_Vi (As := []) (rest := [.ref h0]) (wr := [zcz G yi 3601 Ip]) (n := 0) S hN hK hP hD hS hA hl (c_X5_hasEnd l G s.heap.size h0 th sh ym ya yb yc ye yp yq yo ro fi la lo hi co yk yw yi ge yx yy ir K (by omega)) gX5_greatestGap_X5_hasEnd rfl ⟨rfl, rfl⟩ (by decide +kernel) rfl ⟨Nat.le_of_ble_eq_true rfl, Nat.le_of_ble_eq_true rfl, Nat.le_of_ble_eq_true rfl, Nat.le_of_ble_eq_true rfl⟩ [0, 1] [2] rfl rfl (by decide) (by decide) (by decide) (ci := 5) rfl rfl rfl (Nat.le_of_ble_eq_true rfl) dX5_greatestGap_2 rfl (fun r_ u_1 H1 locs1 hp_2 hP1 hD1 hS1 hz1 => ?_)
  try dsimp only at hp_2 hP1 hD1
  subst hp_2
  generalize H1 = H at hP1 hD1 hS1 hz1 ⊢
  generalize locs1 = locs at hS1 ⊢
  have hS := hS1
  have hP : va_P G.1 vwCl [zcz G yi 3601 Ip, (h0, .inr (5, [.int (zI th), .int (zI sh), .ref ym, .ref ya, .ref yb, .ref yc, .ref ye, .ref yp, .ref yq, .ref yo, .int (zI ro), .long (zL fi), .long (zL la), .long (zL lo), .long (zL hi), .int (zI co), .ref yk, .ref yw, .ref yi, .int (zI ge), .ref yx, .ref yy, .int (zI ir)])), zcz G yk 61 K] H := hP1
  have hD : va_D A [zcz G yi 3601 Ip, (h0, .inr (5, [.int (zI th), .int (zI sh), .ref ym, .ref ya, .ref yb, .ref yc, .ref ye, .ref yp, .ref yq, .ref yo, .int (zI ro), .long (zL fi), .long (zL la), .long (zL lo), .long (zL hi), .int (zI co), .ref yk, .ref yw, .ref yi, .int (zI ge), .ref yx, .ref yy, .int (zI ir)])), zcz G yk 61 K] := hD1
  refine zv_ifb_eq (tgt := 12) S dX5_greatestGap_5 (by decide) (fun c_3 => ?_) (fun c_3 => ?_)
  · refine zv_iconst S dX5_greatestGap_12 ?_
    refine zv_put (C := RX5) (T := TX5) (N := 23) (ci := 5) (v := .int (zI 1)) S in_X5_greatestGap_X5 tyX5 tyX5_ok nmX5 hK hP hD hS 1 rfl rfl 0 (by decide) wd_X5_greatestGap_f51 rfl rfl rfl rfl (Nat.le_of_ble_eq_true rfl) dX5_greatestGap_13 (fun H locs hP hD hS => ?_)
    have hP : va_P G.1 vwCl [zcz G yi 3601 Ip, (h0, .inr (5, [.int (zI 1), .int (zI sh), .ref ym, .ref ya, .ref yb, .ref yc, .ref ye, .ref yp, .ref yq, .ref yo, .int (zI ro), .long (zL fi), .long (zL la), .long (zL lo), .long (zL hi), .int (zI co), .ref yk, .ref yw, .ref yi, .int (zI ge), .ref yx, .ref yy, .int (zI ir)])), zcz G yk 61 K] H := hP
    have hD : va_D A [zcz G yi 3601 Ip, (h0, .inr (5, [.int (zI 1), .int (zI sh), .ref ym, .ref ya, .ref yb, .ref yc, .ref ye, .ref yp, .ref yq, .ref yo, .int (zI ro), .long (zL fi), .long (zL la), .long (zL lo), .long (zL hi), .int (zI co), .ref yk, .ref yw, .ref yi, .int (zI ge), .ref yx, .ref yy, .int (zI ir)])), zcz G yk 61 K] := hD
    refine zv_aload_n S dX5_greatestGap_16 rfl (lv_at hl 0 rfl) ?_
    refine zv_get (C := RX5) (T := TX5) (N := 23) (ci := 5) (v := .int (zI 1)) S in_X5_greatestGap_X5 hK hP 1 rfl rfl 0 (by decide) wd_X5_greatestGap_f51 rfl rfl dX5_greatestGap_17 ?_
    refine zv_if_eq (tgt := 25) S (by unfold zR; omega) dX5_greatestGap_20 (by decide) (fun c_4 => ?_) (fun c_4 => ?_)
    · exact absurd c_4 (by omega)
    · refine zv_iconst S dX5_greatestGap_23 ?_
      exact hret _ _ _ _ _ ⟨0, 1, Ip⟩ dX5_greatestGap_24 ⟨rfl, (show zgreatR K 0 1 from (Or.inl ⟨rfl, c_3⟩))⟩ (hP.sub [1, 2, 0] rfl) (hD.sub [1, 2, 0] (by decide) rfl) hS
  · refine zv_iconst S dX5_greatestGap_8 ?_
    refine zv_goto (tgt := 13) S dX5_greatestGap_9 (by decide) ?_
    refine zv_put (C := RX5) (T := TX5) (N := 23) (ci := 5) (v := .int (zI 0)) S in_X5_greatestGap_X5 tyX5 tyX5_ok nmX5 hK hP hD hS 1 rfl rfl 0 (by decide) wd_X5_greatestGap_f51 rfl rfl rfl rfl (Nat.le_of_ble_eq_true rfl) dX5_greatestGap_13 (fun H locs hP hD hS => ?_)
    have hP : va_P G.1 vwCl [zcz G yi 3601 Ip, (h0, .inr (5, [.int (zI 0), .int (zI sh), .ref ym, .ref ya, .ref yb, .ref yc, .ref ye, .ref yp, .ref yq, .ref yo, .int (zI ro), .long (zL fi), .long (zL la), .long (zL lo), .long (zL hi), .int (zI co), .ref yk, .ref yw, .ref yi, .int (zI ge), .ref yx, .ref yy, .int (zI ir)])), zcz G yk 61 K] H := hP
    have hD : va_D A [zcz G yi 3601 Ip, (h0, .inr (5, [.int (zI 0), .int (zI sh), .ref ym, .ref ya, .ref yb, .ref yc, .ref ye, .ref yp, .ref yq, .ref yo, .int (zI ro), .long (zL fi), .long (zL la), .long (zL lo), .long (zL hi), .int (zI co), .ref yk, .ref yw, .ref yi, .int (zI ge), .ref yx, .ref yy, .int (zI ir)])), zcz G yk 61 K] := hD
    refine zv_aload_n S dX5_greatestGap_16 rfl (lv_at hl 0 rfl) ?_
    refine zv_get (C := RX5) (T := TX5) (N := 23) (ci := 5) (v := .int (zI 0)) S in_X5_greatestGap_X5 hK hP 1 rfl rfl 0 (by decide) wd_X5_greatestGap_f51 rfl rfl dX5_greatestGap_17 ?_
    refine zv_if_eq (tgt := 25) S (by unfold zR; omega) dX5_greatestGap_20 (by decide) (fun c_5 => ?_) (fun c_5 => ?_)
    · refine zv_aload_n S dX5_greatestGap_25 rfl (lv_at hl 0 rfl) ?_
      refine zc_Vv (As := []) (rest := []) (wr := []) (n := 0) S hN hK hP hD hS hA hl (c_X5_pays l G H.size h0 0 sh ym ya yb yc ye yp yq yo ro fi la lo hi co yk yw yi ge yx yy ir K Ip hKb) gX5_greatestGap_X5_pays rfl ⟨rfl, rfl⟩ (by decide +kernel) rfl ⟨Nat.le_of_ble_eq_true rfl, Nat.le_of_ble_eq_true rfl, Nat.le_of_ble_eq_true rfl, Nat.le_of_ble_eq_true rfl⟩ [1, 2, 0] [] rfl rfl (by decide) (by decide) (by decide) (ci := 5) rfl rfl rfl (Nat.le_of_ble_eq_true rfl) dX5_greatestGap_26 rfl (fun u_6 H1 locs1 hp_7 hP1 hD1 hS1 hz1 => ?_)
      obtain ⟨I1_8, rfl⟩ : ∃ z, z = u_6 := ⟨_, rfl⟩
      try dsimp only at hp_7 hP1 hD1
      have hI_9 := hp_7
      generalize H1 = H at hP1 hD1 hS1 hz1 ⊢
      generalize locs1 = locs at hS1 ⊢
      have hS := hS1
      have hP : va_P G.1 vwCl [(h0, .inr (5, [.int (zI 0), .int (zI sh), .ref ym, .ref ya, .ref yb, .ref yc, .ref ye, .ref yp, .ref yq, .ref yo, .int (zI ro), .long (zL fi), .long (zL la), .long (zL lo), .long (zL hi), .int (zI co), .ref yk, .ref yw, .ref yi, .int (zI ge), .ref yx, .ref yy, .int (zI ir)])), zcz G yk 61 K, zcz G yi 3601 I1_8] H := hP1
      have hD : va_D A [(h0, .inr (5, [.int (zI 0), .int (zI sh), .ref ym, .ref ya, .ref yb, .ref yc, .ref ye, .ref yp, .ref yq, .ref yo, .int (zI ro), .long (zL fi), .long (zL la), .long (zL lo), .long (zL hi), .int (zI co), .ref yk, .ref yw, .ref yi, .int (zI ge), .ref yx, .ref yy, .int (zI ir)])), zcz G yk 61 K, zcz G yi 3601 I1_8] := hD1
      refine zv_iconst S dX5_greatestGap_29 ?_
      refine zv_istore_n (lv' := [(1, .int (zI (-1))), (0, .ref h0)]) S dX5_greatestGap_30 rfl hl (by decide) rfl (fun ls hl => ?_)
      refine zv_iconst S dX5_greatestGap_31 ?_
      refine zv_istore_n (lv' := [(2, .int (zI 0)), (1, .int (zI (-1))), (0, .ref h0)]) S dX5_greatestGap_32 rfl hl (by decide) rfl (fun ls hl => ?_)
      have LP33 : ∀ (nf : Nat) (s1 : Nat) (v2 : Int) (ff : Int) (hv2 : v2 = (s1 : Int)) (hs1 : s1 ≤ 3601) (hff : zgr (zkm K) s1 ff), (3601 - s1) < nf → ∀ (H : Heap) (locs : List Loc), va_P G.1 vwCl [(h0, .inr (5, [.int (zI 0), .int (zI sh), .ref ym, .ref ya, .ref yb, .ref yc, .ref ye, .ref yp, .ref yq, .ref yo, .int (zI ro), .long (zL fi), .long (zL la), .long (zL lo), .long (zL hi), .int (zI co), .ref yk, .ref yw, .ref yi, .int (zI ge), .ref yx, .ref yy, .int (zI ir)])), zcz G yk 61 K, zcz G yi 3601 I1_8] H → va_D A [(h0, .inr (5, [.int (zI 0), .int (zI sh), .ref ym, .ref ya, .ref yb, .ref yc, .ref ye, .ref yp, .ref yq, .ref yo, .int (zI ro), .long (zL fi), .long (zL la), .long (zL lo), .long (zL hi), .int (zI co), .ref yk, .ref yw, .ref yi, .int (zI ge), .ref yx, .ref yy, .int (zI ir)])), zcz G yk 61 K, zcz G yi 3601 I1_8] → va_S A s.heap H locs → ∀ ls : Array Slot, lv_has ls 3 [(2, .int (zI v2)), (1, .int (zI ff)), (0, .ref h0)] → W p l e ({ frames := 2, cells := 0, slots := 0, locals := 46 }) s m ([.ref h0]).toArray below meth c H locs 0 0 Q (F0 m 33 ls []) := by
        intro nf
        induction nf with
        | zero =>
          intro s1 v2 ff hv2 hs1 hff hf
          exact absurd hf (Nat.not_lt_zero _)
        | succ nf ih33 =>
          intro s1 v2 ff hv2 hs1 hff hf H locs hP hD hS ls hl
          refine zv_iload_n S dX5_greatestGap_33 rfl (lv_at hl 0 rfl) ?_
          refine zv_sipush (v := 3600) S dX5_greatestGap_34 (by decide) ?_
          refine zv_icmp_gt (tgt := 61) S (by unfold zR; omega) (by unfold zR; omega) dX5_greatestGap_37 (by decide) (fun c_10 => ?_) (fun c_10 => ?_)
          · refine zv_iload_n S dX5_greatestGap_61 rfl (lv_at hl 1 rfl) ?_
            exact hret _ _ _ _ _ ⟨ff, 0, I1_8⟩ dX5_greatestGap_62 ⟨rfl, (show zgreatR K ff 0 from (Or.inr ⟨rfl, c_3, by rw [show (3601 : Nat) = s1 by omega]; exact hff⟩))⟩ (hP.sub [0, 1, 2] rfl) (hD.sub [0, 1, 2] (by decide) rfl) hS
          · refine zv_aload_n S dX5_greatestGap_40 rfl (lv_at hl 2 rfl) ?_
            refine zv_get (C := RX5) (T := TX5) (N := 23) (ci := 5) (v := .ref yi) S in_X5_greatestGap_X5 hK hP 0 rfl rfl 18 (by decide) wd_X5_greatestGap_f42 rfl rfl dX5_greatestGap_41 ?_
            refine zv_iload_n S dX5_greatestGap_44 rfl (lv_at hl 0 rfl) ?_
            refine zv_zald S hK hP 2 2 rfl rfl s1 hv2 (by omega) (by decide) dX5_greatestGap_45 ?_
            have ki : I1_8 s1 = 0 ∨ I1_8 s1 = 1 := by rw [hI_9 s1 (by omega)]; exact zb_01 _
            refine zv_if_eq (tgt := 53) S (by unfold zR; omega) dX5_greatestGap_46 (by decide) (fun c_11 => ?_) (fun c_11 => ?_)
            · refine zv_iload_n S dX5_greatestGap_53 rfl (lv_at hl 0 rfl) ?_
              refine zv_istore_n (lv' := [(1, .int (zI v2)), (2, .int (zI v2)), (0, .ref h0)]) S dX5_greatestGap_54 rfl hl (by decide) rfl (fun ls hl => ?_)
              refine zv_iinc (k0 := 1) (lv' := [(2, .int (zI (v2 + 1))), (1, .int (zI v2)), (0, .ref h0)]) S dX5_greatestGap_55 hl rfl (by decide) rfl (fun ls hl => ?_)
              refine zv_goto (tgt := 33) S dX5_greatestGap_58 (by decide) ?_
              exact ih33 (s1 + 1) (v2 + 1) v2 (by omega) (by omega) (by rw [hv2]; exact zgr_n (fun z => by have e := (hI_9 s1 (by omega)).trans (zb_t z); omega)) (by omega) _ _ hP hD hS _ (lv_sub hl [0, 1, 2] rfl)
            · refine zv_iload_n S dX5_greatestGap_49 rfl (lv_at hl 1 rfl) ?_
              refine zv_goto (tgt := 54) S dX5_greatestGap_50 (by decide) ?_
              refine zv_istore_n (lv' := [(1, .int (zI ff)), (2, .int (zI v2)), (0, .ref h0)]) S dX5_greatestGap_54 rfl hl (by decide) rfl (fun ls hl => ?_)
              refine zv_iinc (k0 := 1) (lv' := [(2, .int (zI (v2 + 1))), (1, .int (zI ff)), (0, .ref h0)]) S dX5_greatestGap_55 hl rfl (by decide) rfl (fun ls hl => ?_)
              refine zv_goto (tgt := 33) S dX5_greatestGap_58 (by decide) ?_
              exact ih33 (s1 + 1) (v2 + 1) ff (by omega) (by omega) (zgr_p hff (zb_iff1.mp ((hI_9 s1 (by omega)).symm.trans (by omega)))) (by omega) _ _ hP hD hS _ (lv_sub hl [0, 1, 2] rfl)
      exact LP33 _ 0 0 (-1) rfl (by decide) zgr_0 (Nat.lt_succ_self _) _ _ hP hD hS _ (lv_sub hl [0, 1, 2] rfl)
    · exact absurd c_5 (by omega)

theorem wd_X5_tables_f51 : Cond.fieldLink RX5 51 "PointMillModel" "thrown" "I" ∈ wsX5_tables := by decide +kernel
theorem in_X5_tables_X5 : ∀ w ∈ wsX50, w ∈ wsX5_tables := by decide +kernel
set_option maxHeartbeats 4000000 in
set_option maxRecDepth 100000 in
/-- the model: tables -/
theorem c_X5_tables (l : Launch) (G : zG) (sz : Nat) (h0 : Nat) (th : Int) (sh : Int) (ym : Nat) (ya : Nat) (yb : Nat) (yc : Nat) (ye : Nat) (yp : Nat) (yq : Nat) (yo : Nat) (ro : Int) (fi : Int) (la : Int) (lo : Int) (hi : Int) (co : Int) (yk : Nat) (yw : Nat) (yi : Nat) (ge : Int) (yx : Nat) (yy : Nat) (ir : Int) (ta : Int) (tb : Int) (tl : Int) (tx : Int) (h1 : -2147483648 ≤ ta ∧ ta < 2147483648) (h2 : -2147483648 ≤ tb ∧ tb < 2147483648) (h3 : -2147483648 ≤ tl ∧ tl < 2147483648) (h4 : -2147483648 ≤ tx ∧ tx < 2147483648) : Met l yX5_tables wsX5_tables ({ frames := 1, cells := 0, slots := 0, locals := 22 }) (va_Pc [.ref h0, .int (zI ta), .int (zI tb), .int (zI tl), .int (zI tx)] (zPre G sz [(h0, .inr (5, [.int (zI th), .int (zI sh), .ref ym, .ref ya, .ref yb, .ref yc, .ref ye, .ref yp, .ref yq, .ref yo, .int (zI ro), .long (zL fi), .long (zL la), .long (zL lo), .long (zL hi), .int (zI co), .ref yk, .ref yw, .ref yi, .int (zI ge), .ref yx, .ref yy, .int (zI ir)]))])) (va_Qi (fun (r : Int32) (u : (Int) × (Int)) => r = zI u.1 ∧ (ztabR ta tb tl tx u.1 u.2)) (fun u => zW G (va_A [(h0, .inr (5, [.int (zI th), .int (zI sh), .ref ym, .ref ya, .ref yb, .ref yc, .ref ye, .ref yp, .ref yq, .ref yo, .int (zI ro), .long (zL fi), .long (zL la), .long (zL lo), .long (zL hi), .int (zI co), .ref yk, .ref yw, .ref yi, .int (zI ge), .ref yx, .ref yy, .int (zI ir)]))] sz) ((fun (u : (Int) × (Int)) => [(h0, .inr (5, [.int (zI u.2), .int (zI sh), .ref ym, .ref ya, .ref yb, .ref yc, .ref ye, .ref yp, .ref yq, .ref yo, .int (zI ro), .long (zL fi), .long (zL la), .long (zL lo), .long (zL hi), .int (zI co), .ref yk, .ref yw, .ref yi, .int (zI ge), .ref yx, .ref yy, .int (zI ir)]))]) u)) (va_A [(h0, .inr (5, [.int (zI th), .int (zI sh), .ref ym, .ref ya, .ref yb, .ref yc, .ref ye, .ref yp, .ref yq, .ref yo, .int (zI ro), .long (zL fi), .long (zL la), .long (zL lo), .long (zL hi), .int (zI co), .ref yk, .ref yw, .ref yi, .int (zI ge), .ref yx, .ref yy, .int (zI ir)]))] sz)) 0 0 (va_A [(h0, .inr (5, [.int (zI th), .int (zI sh), .ref ym, .ref ya, .ref yb, .ref yc, .ref ye, .ref yp, .ref yq, .ref yo, .int (zI ro), .long (zL fi), .long (zL la), .long (zL lo), .long (zL hi), .int (zI co), .ref yk, .ref yw, .ref yi, .int (zI ge), .ref yx, .ref yy, .int (zI ir)]))] sz) := by
  refine zM_i (post := fun (r : Int32) (u : (Int) × (Int)) => r = zI u.1 ∧ (ztabR ta tb tl tx u.1 u.2)) (w1 := fun (u : (Int) × (Int)) => [(h0, .inr (5, [.int (zI u.2), .int (zI sh), .ref ym, .ref ya, .ref yb, .ref yc, .ref ye, .ref yp, .ref yq, .ref yo, .int (zI ro), .long (zL fi), .long (zL la), .long (zL lo), .long (zL hi), .int (zI co), .ref yk, .ref yw, .ref yi, .int (zI ge), .ref yx, .ref yy, .int (zI ir)]))]) (plainFor_of_name (by decide)) rfl (Nat.le_of_ble_eq_true rfl) ?_
  intro p e s m below meth c A Q S hN hK hP hD hS hA hret ls hl
  have hl : lv_has ls 9 [(0, .ref h0), (1, .int (zI ta)), (2, .int (zI tb)), (3, .int (zI tl)), (4, .int (zI tx))] := hl
  have JN47 : ∀ (tn : Int) (htn : tn = 1 ∧ ¬ ((0 ≤ ta ∧ ta ≤ 60) ∧ (0 ≤ tb ∧ tb ≤ 60) ∧ (0 ≤ tl ∧ tl ≤ 60) ∧ (0 ≤ tx ∧ tx ≤ 60)) ∨ tn = 0 ∧ ((0 ≤ ta ∧ ta ≤ 60) ∧ (0 ≤ tb ∧ tb ≤ 60) ∧ (0 ≤ tl ∧ tl ≤ 60) ∧ (0 ≤ tx ∧ tx ≤ 60))) (H : Heap) (locs : List Loc), va_P G.1 vwCl [(h0, .inr (5, [.int (zI th), .int (zI sh), .ref ym, .ref ya, .ref yb, .ref yc, .ref ye, .ref yp, .ref yq, .ref yo, .int (zI ro), .long (zL fi), .long (zL la), .long (zL lo), .long (zL hi), .int (zI co), .ref yk, .ref yw, .ref yi, .int (zI ge), .ref yx, .ref yy, .int (zI ir)]))] H → va_D A [(h0, .inr (5, [.int (zI th), .int (zI sh), .ref ym, .ref ya, .ref yb, .ref yc, .ref ye, .ref yp, .ref yq, .ref yo, .int (zI ro), .long (zL fi), .long (zL la), .long (zL lo), .long (zL hi), .int (zI co), .ref yk, .ref yw, .ref yi, .int (zI ge), .ref yx, .ref yy, .int (zI ir)]))] → va_S A s.heap H locs → ∀ ls : Array Slot, lv_has ls 9 [(0, .ref h0), (1, .int (zI ta)), (2, .int (zI tb)), (3, .int (zI tl)), (4, .int (zI tx))] → W p l e ({ frames := 1, cells := 0, slots := 0, locals := 22 }) s m ([.ref h0, .int (zI ta), .int (zI tb), .int (zI tl), .int (zI tx)]).toArray below meth c H locs 0 0 Q (F0 m 47 ls [.int (zI tn), .ref h0]) := by
    intro tn htn H locs hP hD hS ls hl
    refine zv_put (C := RX5) (T := TX5) (N := 23) (ci := 5) (v := .int (zI tn)) S in_X5_tables_X5 tyX5 tyX5_ok nmX5 hK hP hD hS 0 rfl rfl 0 (by decide) wd_X5_tables_f51 rfl rfl rfl rfl (Nat.le_of_ble_eq_true rfl) dX5_tables_47 (fun H locs hP hD hS => ?_)
    have hP : va_P G.1 vwCl [(h0, .inr (5, [.int (zI tn), .int (zI sh), .ref ym, .ref ya, .ref yb, .ref yc, .ref ye, .ref yp, .ref yq, .ref yo, .int (zI ro), .long (zL fi), .long (zL la), .long (zL lo), .long (zL hi), .int (zI co), .ref yk, .ref yw, .ref yi, .int (zI ge), .ref yx, .ref yy, .int (zI ir)]))] H := hP
    have hD : va_D A [(h0, .inr (5, [.int (zI tn), .int (zI sh), .ref ym, .ref ya, .ref yb, .ref yc, .ref ye, .ref yp, .ref yq, .ref yo, .int (zI ro), .long (zL fi), .long (zL la), .long (zL lo), .long (zL hi), .int (zI co), .ref yk, .ref yw, .ref yi, .int (zI ge), .ref yx, .ref yy, .int (zI ir)]))] := hD
    refine zv_aload_n S dX5_tables_50 rfl (lv_at hl 0 rfl) ?_
    refine zv_get (C := RX5) (T := TX5) (N := 23) (ci := 5) (v := .int (zI tn)) S in_X5_tables_X5 hK hP 0 rfl rfl 0 (by decide) wd_X5_tables_f51 rfl rfl dX5_tables_51 ?_
    refine zv_if_eq (tgt := 59) S (by unfold zR; omega) dX5_tables_54 (by decide) (fun c_1 => ?_) (fun c_1 => ?_)
    · have hok : tn = 0 ∧ ((0 ≤ ta ∧ ta ≤ 60) ∧ (0 ≤ tb ∧ tb ≤ 60) ∧ (0 ≤ tl ∧ tl ≤ 60) ∧ (0 ≤ tx ∧ tx ≤ 60)) := by omega
      refine zv_iload_n S dX5_tables_59 rfl (lv_at hl 1 rfl) ?_
      refine zv_iload_n S dX5_tables_60 rfl (lv_at hl 2 rfl) ?_
      refine zv_iadd S dX5_tables_61 ?_
      refine zv_iload_n S dX5_tables_62 rfl (lv_at hl 3 rfl) ?_
      refine zv_isub S dX5_tables_63 ?_
      refine zv_iload S dX5_tables_64 (lv_at hl 4 rfl) ?_
      refine zv_isub S dX5_tables_66 ?_
      refine zv_istore (lv' := [(5, .int (zI (((ta + tb) - tl) - tx))), (0, .ref h0), (1, .int (zI ta)), (2, .int (zI tb)), (3, .int (zI tl)), (4, .int (zI tx))]) S dX5_tables_67 hl (by decide) rfl (fun ls hl => ?_)
      refine zv_iconst S dX5_tables_69 ?_
      refine zv_istore (lv' := [(6, .int (zI 0)), (5, .int (zI (((ta + tb) - tl) - tx))), (0, .ref h0), (1, .int (zI ta)), (2, .int (zI tb)), (3, .int (zI tl)), (4, .int (zI tx))]) S dX5_tables_70 hl (by decide) rfl (fun ls hl => ?_)
      refine zv_iconst S dX5_tables_72 ?_
      refine zv_istore (lv' := [(7, .int (zI 0)), (6, .int (zI 0)), (5, .int (zI (((ta + tb) - tl) - tx))), (0, .ref h0), (1, .int (zI ta)), (2, .int (zI tb)), (3, .int (zI tl)), (4, .int (zI tx))]) S dX5_tables_73 hl (by decide) rfl (fun ls hl => ?_)
      have LP75 : ∀ (nf : Nat) (i : Nat) (v7 : Int) (nn : Int) (hv7 : v7 = (i : Int)) (hik : v7 ≤ ta + 1 ∧ v7 ≤ tl + 1) (hnn : (ta + tb - tl - tx) < 0 ∨ nn = zts ta tx (ta + tb - tl - tx) i), (61 - i) < nf → ∀ (H : Heap) (locs : List Loc), va_P G.1 vwCl [(h0, .inr (5, [.int (zI tn), .int (zI sh), .ref ym, .ref ya, .ref yb, .ref yc, .ref ye, .ref yp, .ref yq, .ref yo, .int (zI ro), .long (zL fi), .long (zL la), .long (zL lo), .long (zL hi), .int (zI co), .ref yk, .ref yw, .ref yi, .int (zI ge), .ref yx, .ref yy, .int (zI ir)]))] H → va_D A [(h0, .inr (5, [.int (zI tn), .int (zI sh), .ref ym, .ref ya, .ref yb, .ref yc, .ref ye, .ref yp, .ref yq, .ref yo, .int (zI ro), .long (zL fi), .long (zL la), .long (zL lo), .long (zL hi), .int (zI co), .ref yk, .ref yw, .ref yi, .int (zI ge), .ref yx, .ref yy, .int (zI ir)]))] → va_S A s.heap H locs → ∀ ls : Array Slot, lv_has ls 9 [(7, .int (zI v7)), (6, .int (zI nn)), (5, .int (zI (((ta + tb) - tl) - tx))), (0, .ref h0), (1, .int (zI ta)), (2, .int (zI tb)), (3, .int (zI tl)), (4, .int (zI tx))] → W p l e ({ frames := 1, cells := 0, slots := 0, locals := 22 }) s m ([.ref h0, .int (zI ta), .int (zI tb), .int (zI tl), .int (zI tx)]).toArray below meth c H locs 0 0 Q (F0 m 75 ls []) := by
        intro nf
        induction nf with
        | zero =>
          intro i v7 nn hv7 hik hnn hf
          exact absurd hf (Nat.not_lt_zero _)
        | succ nf ih75 =>
          intro i v7 nn hv7 hik hnn hf H locs hP hD hS ls hl
          refine zv_iload S dX5_tables_75 (lv_at hl 0 rfl) ?_
          refine zv_iload_n S dX5_tables_77 rfl (lv_at hl 4 rfl) ?_
          refine zv_icmp_gt (tgt := 140) S (by unfold zR; omega) (by unfold zR; omega) dX5_tables_78 (by decide) (fun c_2 => ?_) (fun c_2 => ?_)
          · refine zv_iload S dX5_tables_140 (lv_at hl 2 rfl) ?_
            refine zv_if_ge (tgt := 149) S (by unfold zR; omega) dX5_tables_142 (by decide) (fun c_3 => ?_) (fun c_3 => ?_)
            · refine zv_iload S dX5_tables_149 (lv_at hl 1 rfl) ?_
              exact hret _ _ _ _ _ ⟨nn, tn⟩ dX5_tables_151 ⟨rfl, (show ztabR ta tb tl tx nn tn from (Or.inr ⟨by omega, by omega, Or.inr ⟨by omega, by have e : i = (zmin ta tl).toNat + 1 := (by unfold zmin; split <;> omega); rw [← e]; rcases hnn with h | h; exact absurd h (by omega); exact h⟩⟩))⟩ (hP.sub [0] rfl) (hD.sub [0] (by decide) rfl) hS
            · refine zv_iconst S dX5_tables_145 ?_
              refine zv_goto (tgt := 151) S dX5_tables_146 (by decide) ?_
              exact hret _ _ _ _ _ ⟨0, tn⟩ dX5_tables_151 ⟨rfl, (show ztabR ta tb tl tx 0 tn from (Or.inr ⟨by omega, by omega, Or.inl ⟨by omega, rfl⟩⟩))⟩ (hP.sub [0] rfl) (hD.sub [0] (by decide) rfl) hS
          · refine zv_iload S dX5_tables_81 (lv_at hl 0 rfl) ?_
            refine zv_iload_n S dX5_tables_83 rfl (lv_at hl 6 rfl) ?_
            refine zv_icmp_gt (tgt := 140) S (by unfold zR; omega) (by unfold zR; omega) dX5_tables_84 (by decide) (fun c_4 => ?_) (fun c_4 => ?_)
            · refine zv_iload S dX5_tables_140 (lv_at hl 2 rfl) ?_
              refine zv_if_ge (tgt := 149) S (by unfold zR; omega) dX5_tables_142 (by decide) (fun c_5 => ?_) (fun c_5 => ?_)
              · refine zv_iload S dX5_tables_149 (lv_at hl 1 rfl) ?_
                exact hret _ _ _ _ _ ⟨nn, tn⟩ dX5_tables_151 ⟨rfl, (show ztabR ta tb tl tx nn tn from (Or.inr ⟨by omega, by omega, Or.inr ⟨by omega, by have e : i = (zmin ta tl).toNat + 1 := (by unfold zmin; split <;> omega); rw [← e]; rcases hnn with h | h; exact absurd h (by omega); exact h⟩⟩))⟩ (hP.sub [0] rfl) (hD.sub [0] (by decide) rfl) hS
              · refine zv_iconst S dX5_tables_145 ?_
                refine zv_goto (tgt := 151) S dX5_tables_146 (by decide) ?_
                exact hret _ _ _ _ _ ⟨0, tn⟩ dX5_tables_151 ⟨rfl, (show ztabR ta tb tl tx 0 tn from (Or.inr ⟨by omega, by omega, Or.inl ⟨by omega, rfl⟩⟩))⟩ (hP.sub [0] rfl) (hD.sub [0] (by decide) rfl) hS
            · refine zv_iconst S dX5_tables_87 ?_
              refine zv_istore (lv' := [(8, .int (zI 0)), (7, .int (zI v7)), (6, .int (zI nn)), (5, .int (zI (((ta + tb) - tl) - tx))), (0, .ref h0), (1, .int (zI ta)), (2, .int (zI tb)), (3, .int (zI tl)), (4, .int (zI tx))]) S dX5_tables_88 hl (by decide) rfl (fun ls hl => ?_)
              have LP90 : ∀ (nf : Nat) (j : Nat) (v8 : Int) (n2 : Int) (hv8 : v8 = (j : Int)) (hjk : v8 ≤ ta - v7 + 1 ∧ v8 ≤ tx + 1) (hn2 : (ta + tb - tl - tx) < 0 ∨ n2 = nn + zmax 0 (v8 - zmax 0 (ta - v7 - (ta + tb - tl - tx)))), (61 - j) < nf → ∀ (H : Heap) (locs : List Loc), va_P G.1 vwCl [(h0, .inr (5, [.int (zI tn), .int (zI sh), .ref ym, .ref ya, .ref yb, .ref yc, .ref ye, .ref yp, .ref yq, .ref yo, .int (zI ro), .long (zL fi), .long (zL la), .long (zL lo), .long (zL hi), .int (zI co), .ref yk, .ref yw, .ref yi, .int (zI ge), .ref yx, .ref yy, .int (zI ir)]))] H → va_D A [(h0, .inr (5, [.int (zI tn), .int (zI sh), .ref ym, .ref ya, .ref yb, .ref yc, .ref ye, .ref yp, .ref yq, .ref yo, .int (zI ro), .long (zL fi), .long (zL la), .long (zL lo), .long (zL hi), .int (zI co), .ref yk, .ref yw, .ref yi, .int (zI ge), .ref yx, .ref yy, .int (zI ir)]))] → va_S A s.heap H locs → ∀ ls : Array Slot, lv_has ls 9 [(8, .int (zI v8)), (7, .int (zI v7)), (6, .int (zI n2)), (5, .int (zI (((ta + tb) - tl) - tx))), (0, .ref h0), (1, .int (zI ta)), (2, .int (zI tb)), (3, .int (zI tl)), (4, .int (zI tx))] → W p l e ({ frames := 1, cells := 0, slots := 0, locals := 22 }) s m ([.ref h0, .int (zI ta), .int (zI tb), .int (zI tl), .int (zI tx)]).toArray below meth c H locs 0 0 Q (F0 m 90 ls []) := by
                intro nf
                induction nf with
                | zero =>
                  intro j v8 n2 hv8 hjk hn2 hf
                  exact absurd hf (Nat.not_lt_zero _)
                | succ nf ih90 =>
                  intro j v8 n2 hv8 hjk hn2 hf H locs hP hD hS ls hl
                  refine zv_iload S dX5_tables_90 (lv_at hl 0 rfl) ?_
                  refine zv_iload_n S dX5_tables_92 rfl (lv_at hl 5 rfl) ?_
                  refine zv_iload S dX5_tables_93 (lv_at hl 1 rfl) ?_
                  refine zv_isub S dX5_tables_95 ?_
                  refine zv_icmp_gt (tgt := 134) S (by unfold zR; omega) (by unfold zR; omega) dX5_tables_96 (by decide) (fun c_6 => ?_) (fun c_6 => ?_)
                  · refine zv_iinc (k0 := 1) (lv' := [(7, .int (zI (v7 + 1))), (8, .int (zI v8)), (6, .int (zI n2)), (5, .int (zI (((ta + tb) - tl) - tx))), (0, .ref h0), (1, .int (zI ta)), (2, .int (zI tb)), (3, .int (zI tl)), (4, .int (zI tx))]) S dX5_tables_134 hl rfl (by decide) rfl (fun ls hl => ?_)
                    refine zv_goto (tgt := 75) S dX5_tables_137 (by decide) ?_
                    exact ih75 (i + 1) (v7 + 1) n2 (by omega) (by omega) (zts_up hv7 hnn hn2 (by unfold zmin; split <;> omega)) (by omega) _ _ hP hD hS _ (lv_sub hl [0, 2, 3, 4, 5, 6, 7, 8] rfl)
                  · refine zv_iload S dX5_tables_99 (lv_at hl 0 rfl) ?_
                    refine zv_iload S dX5_tables_101 (lv_at hl 8 rfl) ?_
                    refine zv_icmp_gt (tgt := 134) S (by unfold zR; omega) (by unfold zR; omega) dX5_tables_103 (by decide) (fun c_7 => ?_) (fun c_7 => ?_)
                    · refine zv_iinc (k0 := 1) (lv' := [(7, .int (zI (v7 + 1))), (8, .int (zI v8)), (6, .int (zI n2)), (5, .int (zI (((ta + tb) - tl) - tx))), (0, .ref h0), (1, .int (zI ta)), (2, .int (zI tb)), (3, .int (zI tl)), (4, .int (zI tx))]) S dX5_tables_134 hl rfl (by decide) rfl (fun ls hl => ?_)
                      refine zv_goto (tgt := 75) S dX5_tables_137 (by decide) ?_
                      exact ih75 (i + 1) (v7 + 1) n2 (by omega) (by omega) (zts_up hv7 hnn hn2 (by unfold zmin; split <;> omega)) (by omega) _ _ hP hD hS _ (lv_sub hl [0, 2, 3, 4, 5, 6, 7, 8] rfl)
                    · have JN125 : ∀ (bt : Int) (hbt : bt = 1 ∧ ta - v7 - v8 ≤ (ta + tb - tl - tx) ∨ bt = 0 ∧ ¬ ta - v7 - v8 ≤ (ta + tb - tl - tx)) (H : Heap) (locs : List Loc), va_P G.1 vwCl [(h0, .inr (5, [.int (zI tn), .int (zI sh), .ref ym, .ref ya, .ref yb, .ref yc, .ref ye, .ref yp, .ref yq, .ref yo, .int (zI ro), .long (zL fi), .long (zL la), .long (zL lo), .long (zL hi), .int (zI co), .ref yk, .ref yw, .ref yi, .int (zI ge), .ref yx, .ref yy, .int (zI ir)]))] H → va_D A [(h0, .inr (5, [.int (zI tn), .int (zI sh), .ref ym, .ref ya, .ref yb, .ref yc, .ref ye, .ref yp, .ref yq, .ref yo, .int (zI ro), .long (zL fi), .long (zL la), .long (zL lo), .long (zL hi), .int (zI co), .ref yk, .ref yw, .ref yi, .int (zI ge), .ref yx, .ref yy, .int (zI ir)]))] → va_S A s.heap H locs → ∀ ls : Array Slot, lv_has ls 9 [(8, .int (zI v8)), (7, .int (zI v7)), (6, .int (zI n2)), (5, .int (zI (((ta + tb) - tl) - tx))), (0, .ref h0), (1, .int (zI ta)), (2, .int (zI tb)), (3, .int (zI tl)), (4, .int (zI tx))] → W p l e ({ frames := 1, cells := 0, slots := 0, locals := 22 }) s m ([.ref h0, .int (zI ta), .int (zI tb), .int (zI tl), .int (zI tx)]).toArray below meth c H locs 0 0 Q (F0 m 125 ls [.int (zI bt), .int (zI n2)]) := by
                        intro bt hbt H locs hP hD hS ls hl
                        refine zv_iadd S dX5_tables_125 ?_
                        refine zv_istore (lv' := [(6, .int (zI (n2 + bt))), (8, .int (zI v8)), (7, .int (zI v7)), (5, .int (zI (((ta + tb) - tl) - tx))), (0, .ref h0), (1, .int (zI ta)), (2, .int (zI tb)), (3, .int (zI tl)), (4, .int (zI tx))]) S dX5_tables_126 hl (by decide) rfl (fun ls hl => ?_)
                        refine zv_iinc (k0 := 1) (lv' := [(8, .int (zI (v8 + 1))), (6, .int (zI (n2 + bt))), (7, .int (zI v7)), (5, .int (zI (((ta + tb) - tl) - tx))), (0, .ref h0), (1, .int (zI ta)), (2, .int (zI tb)), (3, .int (zI tl)), (4, .int (zI tx))]) S dX5_tables_128 hl rfl (by decide) rfl (fun ls hl => ?_)
                        refine zv_goto (tgt := 90) S dX5_tables_131 (by decide) ?_
                        exact ih90 (j + 1) (v8 + 1) (n2 + bt) (by omega) (by omega) (by rcases hn2 with h | h; exact Or.inl h; refine Or.inr ?_; rw [h]; unfold zmax; split <;> (try split) <;> (try split) <;> omega) (by omega) _ _ hP hD hS _ (lv_sub hl [0, 2, 1, 3, 4, 5, 6, 7, 8] rfl)
                      refine zv_iload S dX5_tables_106 (lv_at hl 2 rfl) ?_
                      refine zv_iload S dX5_tables_108 (lv_at hl 3 rfl) ?_
                      refine zv_iload_n S dX5_tables_110 rfl (lv_at hl 5 rfl) ?_
                      refine zv_iload S dX5_tables_111 (lv_at hl 1 rfl) ?_
                      refine zv_isub S dX5_tables_113 ?_
                      refine zv_iload S dX5_tables_114 (lv_at hl 0 rfl) ?_
                      refine zv_isub S dX5_tables_116 ?_
                      refine zv_icmp_lt (tgt := 124) S (by unfold zR; omega) (by unfold zR; omega) dX5_tables_117 (by decide) (fun c_8 => ?_) (fun c_8 => ?_)
                      · refine zv_iconst S dX5_tables_124 ?_
                        exact JN125 0 (by omega) _ _ hP hD hS _ (lv_sub hl [0, 1, 2, 3, 4, 5, 6, 7, 8] rfl)
                      · refine zv_iconst S dX5_tables_120 ?_
                        refine zv_goto (tgt := 125) S dX5_tables_121 (by decide) ?_
                        exact JN125 1 (by omega) _ _ hP hD hS _ (lv_sub hl [0, 1, 2, 3, 4, 5, 6, 7, 8] rfl)
              exact LP90 _ 0 0 nn rfl (by omega) (Or.inr (by unfold zmax; split <;> (try split) <;> omega)) (Nat.lt_succ_self _) _ _ hP hD hS _ (lv_sub hl [0, 1, 2, 3, 4, 5, 6, 7, 8] rfl)
      exact LP75 _ 0 0 0 rfl (by omega) (Or.inr rfl) (Nat.lt_succ_self _) _ _ hP hD hS _ (lv_sub hl [0, 1, 2, 3, 4, 5, 6, 7] rfl)
    · refine zv_iconst S dX5_tables_57 ?_
      exact hret _ _ _ _ _ ⟨0, tn⟩ dX5_tables_58 ⟨rfl, (show ztabR ta tb tl tx 0 tn from (Or.inl (by omega)))⟩ (hP.sub [0] rfl) (hD.sub [0] (by decide) rfl) hS
  refine zv_aload_n S dX5_tables_0 rfl (lv_at hl 0 rfl) ?_
  refine zv_iload_n S dX5_tables_1 rfl (lv_at hl 1 rfl) ?_
  refine zv_iconst S dX5_tables_2 ?_
  refine zv_bipush (v := 60) S dX5_tables_3 (by decide) ?_
  refine zc_Si (As := [.int (zI ta), .int (zI 0), .int (zI 60)]) (rest := [.ref h0]) (wr := [(h0, .inr (5, [.int (zI th), .int (zI sh), .ref ym, .ref ya, .ref yb, .ref yc, .ref ye, .ref yp, .ref yq, .ref yo, .int (zI ro), .long (zL fi), .long (zL la), .long (zL lo), .long (zL hi), .int (zI co), .ref yk, .ref yw, .ref yi, .int (zI ge), .ref yx, .ref yy, .int (zI ir)]))]) (n := 3) S hN hK hP hD hS hA hl (c_X5_in l G s.heap.size ta 0 60 (by omega) (by omega) (by omega)) gX5_tables_X5_in rfl ⟨rfl, rfl⟩ (by decide +kernel) rfl ⟨Nat.le_of_ble_eq_true rfl, Nat.le_of_ble_eq_true rfl, Nat.le_of_ble_eq_true rfl, Nat.le_of_ble_eq_true rfl⟩ [] [0] rfl rfl (by decide) (by decide) (by decide) (Nat.le_of_ble_eq_true rfl) dX5_tables_5 rfl (fun r_ u_9 H1 locs1 hp_10 hP1 hD1 hS1 hz1 => ?_)
  try dsimp only at hp_10 hP1 hD1
  subst hp_10
  generalize H1 = H at hP1 hD1 hS1 hz1 ⊢
  generalize locs1 = locs at hS1 ⊢
  have hS := hS1
  have hP : va_P G.1 vwCl [(h0, .inr (5, [.int (zI th), .int (zI sh), .ref ym, .ref ya, .ref yb, .ref yc, .ref ye, .ref yp, .ref yq, .ref yo, .int (zI ro), .long (zL fi), .long (zL la), .long (zL lo), .long (zL hi), .int (zI co), .ref yk, .ref yw, .ref yi, .int (zI ge), .ref yx, .ref yy, .int (zI ir)]))] H := hP1
  have hD : va_D A [(h0, .inr (5, [.int (zI th), .int (zI sh), .ref ym, .ref ya, .ref yb, .ref yc, .ref ye, .ref yp, .ref yq, .ref yo, .int (zI ro), .long (zL fi), .long (zL la), .long (zL lo), .long (zL hi), .int (zI co), .ref yk, .ref yw, .ref yi, .int (zI ge), .ref yx, .ref yy, .int (zI ir)]))] := hD1
  refine zv_ifb_eq (tgt := 46) S dX5_tables_8 (by decide) (fun c_11 => ?_) (fun c_11 => ?_)
  · refine zv_iconst S dX5_tables_46 ?_
    exact JN47 1 (by omega) _ _ hP hD hS _ (lv_sub hl [0, 1, 2, 3, 4] rfl)
  · refine zv_iload_n S dX5_tables_11 rfl (lv_at hl 2 rfl) ?_
    refine zv_iconst S dX5_tables_12 ?_
    refine zv_bipush (v := 60) S dX5_tables_13 (by decide) ?_
    refine zc_Si (As := [.int (zI tb), .int (zI 0), .int (zI 60)]) (rest := [.ref h0]) (wr := [(h0, .inr (5, [.int (zI th), .int (zI sh), .ref ym, .ref ya, .ref yb, .ref yc, .ref ye, .ref yp, .ref yq, .ref yo, .int (zI ro), .long (zL fi), .long (zL la), .long (zL lo), .long (zL hi), .int (zI co), .ref yk, .ref yw, .ref yi, .int (zI ge), .ref yx, .ref yy, .int (zI ir)]))]) (n := 3) S hN hK hP hD hS hA hl (c_X5_in l G H.size tb 0 60 (by omega) (by omega) (by omega)) gX5_tables_X5_in rfl ⟨rfl, rfl⟩ (by decide +kernel) rfl ⟨Nat.le_of_ble_eq_true rfl, Nat.le_of_ble_eq_true rfl, Nat.le_of_ble_eq_true rfl, Nat.le_of_ble_eq_true rfl⟩ [] [0] rfl rfl (by decide) (by decide) (by decide) (Nat.le_of_ble_eq_true rfl) dX5_tables_15 rfl (fun r_ u_12 H1 locs1 hp_13 hP1 hD1 hS1 hz1 => ?_)
    try dsimp only at hp_13 hP1 hD1
    subst hp_13
    generalize H1 = H at hP1 hD1 hS1 hz1 ⊢
    generalize locs1 = locs at hS1 ⊢
    have hS := hS1
    have hP : va_P G.1 vwCl [(h0, .inr (5, [.int (zI th), .int (zI sh), .ref ym, .ref ya, .ref yb, .ref yc, .ref ye, .ref yp, .ref yq, .ref yo, .int (zI ro), .long (zL fi), .long (zL la), .long (zL lo), .long (zL hi), .int (zI co), .ref yk, .ref yw, .ref yi, .int (zI ge), .ref yx, .ref yy, .int (zI ir)]))] H := hP1
    have hD : va_D A [(h0, .inr (5, [.int (zI th), .int (zI sh), .ref ym, .ref ya, .ref yb, .ref yc, .ref ye, .ref yp, .ref yq, .ref yo, .int (zI ro), .long (zL fi), .long (zL la), .long (zL lo), .long (zL hi), .int (zI co), .ref yk, .ref yw, .ref yi, .int (zI ge), .ref yx, .ref yy, .int (zI ir)]))] := hD1
    refine zv_ifb_eq (tgt := 46) S dX5_tables_18 (by decide) (fun c_14 => ?_) (fun c_14 => ?_)
    · refine zv_iconst S dX5_tables_46 ?_
      exact JN47 1 (by omega) _ _ hP hD hS _ (lv_sub hl [0, 1, 2, 3, 4] rfl)
    · refine zv_iload_n S dX5_tables_21 rfl (lv_at hl 3 rfl) ?_
      refine zv_iconst S dX5_tables_22 ?_
      refine zv_bipush (v := 60) S dX5_tables_23 (by decide) ?_
      refine zc_Si (As := [.int (zI tl), .int (zI 0), .int (zI 60)]) (rest := [.ref h0]) (wr := [(h0, .inr (5, [.int (zI th), .int (zI sh), .ref ym, .ref ya, .ref yb, .ref yc, .ref ye, .ref yp, .ref yq, .ref yo, .int (zI ro), .long (zL fi), .long (zL la), .long (zL lo), .long (zL hi), .int (zI co), .ref yk, .ref yw, .ref yi, .int (zI ge), .ref yx, .ref yy, .int (zI ir)]))]) (n := 3) S hN hK hP hD hS hA hl (c_X5_in l G H.size tl 0 60 (by omega) (by omega) (by omega)) gX5_tables_X5_in rfl ⟨rfl, rfl⟩ (by decide +kernel) rfl ⟨Nat.le_of_ble_eq_true rfl, Nat.le_of_ble_eq_true rfl, Nat.le_of_ble_eq_true rfl, Nat.le_of_ble_eq_true rfl⟩ [] [0] rfl rfl (by decide) (by decide) (by decide) (Nat.le_of_ble_eq_true rfl) dX5_tables_25 rfl (fun r_ u_15 H1 locs1 hp_16 hP1 hD1 hS1 hz1 => ?_)
      try dsimp only at hp_16 hP1 hD1
      subst hp_16
      generalize H1 = H at hP1 hD1 hS1 hz1 ⊢
      generalize locs1 = locs at hS1 ⊢
      have hS := hS1
      have hP : va_P G.1 vwCl [(h0, .inr (5, [.int (zI th), .int (zI sh), .ref ym, .ref ya, .ref yb, .ref yc, .ref ye, .ref yp, .ref yq, .ref yo, .int (zI ro), .long (zL fi), .long (zL la), .long (zL lo), .long (zL hi), .int (zI co), .ref yk, .ref yw, .ref yi, .int (zI ge), .ref yx, .ref yy, .int (zI ir)]))] H := hP1
      have hD : va_D A [(h0, .inr (5, [.int (zI th), .int (zI sh), .ref ym, .ref ya, .ref yb, .ref yc, .ref ye, .ref yp, .ref yq, .ref yo, .int (zI ro), .long (zL fi), .long (zL la), .long (zL lo), .long (zL hi), .int (zI co), .ref yk, .ref yw, .ref yi, .int (zI ge), .ref yx, .ref yy, .int (zI ir)]))] := hD1
      refine zv_ifb_eq (tgt := 46) S dX5_tables_28 (by decide) (fun c_17 => ?_) (fun c_17 => ?_)
      · refine zv_iconst S dX5_tables_46 ?_
        exact JN47 1 (by omega) _ _ hP hD hS _ (lv_sub hl [0, 1, 2, 3, 4] rfl)
      · refine zv_iload S dX5_tables_31 (lv_at hl 4 rfl) ?_
        refine zv_iconst S dX5_tables_33 ?_
        refine zv_bipush (v := 60) S dX5_tables_34 (by decide) ?_
        refine zc_Si (As := [.int (zI tx), .int (zI 0), .int (zI 60)]) (rest := [.ref h0]) (wr := [(h0, .inr (5, [.int (zI th), .int (zI sh), .ref ym, .ref ya, .ref yb, .ref yc, .ref ye, .ref yp, .ref yq, .ref yo, .int (zI ro), .long (zL fi), .long (zL la), .long (zL lo), .long (zL hi), .int (zI co), .ref yk, .ref yw, .ref yi, .int (zI ge), .ref yx, .ref yy, .int (zI ir)]))]) (n := 3) S hN hK hP hD hS hA hl (c_X5_in l G H.size tx 0 60 (by omega) (by omega) (by omega)) gX5_tables_X5_in rfl ⟨rfl, rfl⟩ (by decide +kernel) rfl ⟨Nat.le_of_ble_eq_true rfl, Nat.le_of_ble_eq_true rfl, Nat.le_of_ble_eq_true rfl, Nat.le_of_ble_eq_true rfl⟩ [] [0] rfl rfl (by decide) (by decide) (by decide) (Nat.le_of_ble_eq_true rfl) dX5_tables_36 rfl (fun r_ u_18 H1 locs1 hp_19 hP1 hD1 hS1 hz1 => ?_)
        try dsimp only at hp_19 hP1 hD1
        subst hp_19
        generalize H1 = H at hP1 hD1 hS1 hz1 ⊢
        generalize locs1 = locs at hS1 ⊢
        have hS := hS1
        have hP : va_P G.1 vwCl [(h0, .inr (5, [.int (zI th), .int (zI sh), .ref ym, .ref ya, .ref yb, .ref yc, .ref ye, .ref yp, .ref yq, .ref yo, .int (zI ro), .long (zL fi), .long (zL la), .long (zL lo), .long (zL hi), .int (zI co), .ref yk, .ref yw, .ref yi, .int (zI ge), .ref yx, .ref yy, .int (zI ir)]))] H := hP1
        have hD : va_D A [(h0, .inr (5, [.int (zI th), .int (zI sh), .ref ym, .ref ya, .ref yb, .ref yc, .ref ye, .ref yp, .ref yq, .ref yo, .int (zI ro), .long (zL fi), .long (zL la), .long (zL lo), .long (zL hi), .int (zI co), .ref yk, .ref yw, .ref yi, .int (zI ge), .ref yx, .ref yy, .int (zI ir)]))] := hD1
        refine zv_ifb_eq (tgt := 46) S dX5_tables_39 (by decide) (fun c_20 => ?_) (fun c_20 => ?_)
        · refine zv_iconst S dX5_tables_46 ?_
          exact JN47 1 (by omega) _ _ hP hD hS _ (lv_sub hl [0, 1, 2, 3, 4] rfl)
        · refine zv_iconst S dX5_tables_42 ?_
          refine zv_goto (tgt := 47) S dX5_tables_43 (by decide) ?_
          exact JN47 0 (by omega) _ _ hP hD hS _ (lv_sub hl [0, 1, 2, 3, 4] rfl)

set_option maxHeartbeats 4000000 in
set_option maxRecDepth 100000 in
/-- the model: isCone -/
theorem c_X5_isCone (l : Launch) (G : zG) (sz : Nat) (x : Int) (y : Int) (v : Int) (w : Int) (h1 : -2147483648 ≤ x ∧ x < 2147483648) (h2 : -2147483648 ≤ y ∧ y < 2147483648) (h3 : -2147483648 ≤ v ∧ v < 2147483648) (h4 : -2147483648 ≤ w ∧ w < 2147483648) : Met l yX5_isCone wsX5_isCone ({ frames := 1, cells := 0, slots := 0, locals := 22 }) (va_Pc [.int (zI x), .int (zI y), .int (zI v), .int (zI w)] (zPre G sz [])) (va_Qi (fun (r : Int32) (u : Unit) => r = zI (zb (zcnm x y v w))) (fun u => zW G (va_A [] sz) ((fun (u : Unit) => []) u)) (va_A [] sz)) 0 0 (va_A [] sz) := by
  refine zM_z (post := fun (r : Int32) (u : Unit) => r = zI (zb (zcnm x y v w))) (w1 := fun (u : Unit) => []) (plainFor_of_name (by decide)) rfl (Nat.le_of_ble_eq_true rfl) ?_
  intro p e s m below meth c A Q S hN hK hP hD hS hA hret ls hl
  have hl : lv_has ls 4 [(0, .int (zI x)), (1, .int (zI y)), (2, .int (zI v)), (3, .int (zI w))] := hl
  refine zv_iload_n S dX5_isCone_0 rfl (lv_at hl 0 rfl) ?_
  refine zv_bipush (v := (-20)) S dX5_isCone_1 (by decide) ?_
  refine zv_bipush (v := 20) S dX5_isCone_3 (by decide) ?_
  refine zc_Si (As := [.int (zI x), .int (zI (-20)), .int (zI 20)]) (rest := []) (wr := []) (n := 3) S hN hK hP hD hS hA hl (c_X5_in l G s.heap.size x (-20) 20 (by omega) (by omega) (by omega)) gX5_isCone_X5_in rfl ⟨rfl, rfl⟩ (by decide +kernel) rfl ⟨Nat.le_of_ble_eq_true rfl, Nat.le_of_ble_eq_true rfl, Nat.le_of_ble_eq_true rfl, Nat.le_of_ble_eq_true rfl⟩ [] [] rfl rfl (by decide) (by decide) (by decide) (Nat.le_of_ble_eq_true rfl) dX5_isCone_5 rfl (fun r_ u_1 H1 locs1 hp_2 hP1 hD1 hS1 hz1 => ?_)
  try dsimp only at hp_2 hP1 hD1
  subst hp_2
  generalize H1 = H at hP1 hD1 hS1 hz1 ⊢
  generalize locs1 = locs at hS1 ⊢
  have hS := hS1
  have hP : va_P G.1 vwCl [] H := hP1
  have hD : va_D A [] := hD1
  refine zv_ifb_eq (tgt := 57) S dX5_isCone_8 (by decide) (fun c_3 => ?_) (fun c_3 => ?_)
  · refine zv_iconst S dX5_isCone_57 ?_
    exact hret _ _ _ _ _ () dX5_isCone_58 (by first | exact Or.inl rfl | exact Or.inr rfl) (congrArg zI (zb_f (fun z => c_3 z.1)).symm) (hP.sub [] rfl) (hD.sub [] (by decide) rfl) hS
  · refine zv_iload_n S dX5_isCone_11 rfl (lv_at hl 1 rfl) ?_
    refine zv_bipush (v := (-20)) S dX5_isCone_12 (by decide) ?_
    refine zv_bipush (v := 20) S dX5_isCone_14 (by decide) ?_
    refine zc_Si (As := [.int (zI y), .int (zI (-20)), .int (zI 20)]) (rest := []) (wr := []) (n := 3) S hN hK hP hD hS hA hl (c_X5_in l G H.size y (-20) 20 (by omega) (by omega) (by omega)) gX5_isCone_X5_in rfl ⟨rfl, rfl⟩ (by decide +kernel) rfl ⟨Nat.le_of_ble_eq_true rfl, Nat.le_of_ble_eq_true rfl, Nat.le_of_ble_eq_true rfl, Nat.le_of_ble_eq_true rfl⟩ [] [] rfl rfl (by decide) (by decide) (by decide) (Nat.le_of_ble_eq_true rfl) dX5_isCone_16 rfl (fun r_ u_4 H1 locs1 hp_5 hP1 hD1 hS1 hz1 => ?_)
    try dsimp only at hp_5 hP1 hD1
    subst hp_5
    generalize H1 = H at hP1 hD1 hS1 hz1 ⊢
    generalize locs1 = locs at hS1 ⊢
    have hS := hS1
    have hP : va_P G.1 vwCl [] H := hP1
    have hD : va_D A [] := hD1
    refine zv_ifb_eq (tgt := 57) S dX5_isCone_19 (by decide) (fun c_6 => ?_) (fun c_6 => ?_)
    · refine zv_iconst S dX5_isCone_57 ?_
      exact hret _ _ _ _ _ () dX5_isCone_58 (by first | exact Or.inl rfl | exact Or.inr rfl) (congrArg zI (zb_f (fun z => c_6 z.2.1)).symm) (hP.sub [] rfl) (hD.sub [] (by decide) rfl) hS
    · refine zv_iload_n S dX5_isCone_22 rfl (lv_at hl 2 rfl) ?_
      refine zv_bipush (v := (-20)) S dX5_isCone_23 (by decide) ?_
      refine zv_bipush (v := 20) S dX5_isCone_25 (by decide) ?_
      refine zc_Si (As := [.int (zI v), .int (zI (-20)), .int (zI 20)]) (rest := []) (wr := []) (n := 3) S hN hK hP hD hS hA hl (c_X5_in l G H.size v (-20) 20 (by omega) (by omega) (by omega)) gX5_isCone_X5_in rfl ⟨rfl, rfl⟩ (by decide +kernel) rfl ⟨Nat.le_of_ble_eq_true rfl, Nat.le_of_ble_eq_true rfl, Nat.le_of_ble_eq_true rfl, Nat.le_of_ble_eq_true rfl⟩ [] [] rfl rfl (by decide) (by decide) (by decide) (Nat.le_of_ble_eq_true rfl) dX5_isCone_27 rfl (fun r_ u_7 H1 locs1 hp_8 hP1 hD1 hS1 hz1 => ?_)
      try dsimp only at hp_8 hP1 hD1
      subst hp_8
      generalize H1 = H at hP1 hD1 hS1 hz1 ⊢
      generalize locs1 = locs at hS1 ⊢
      have hS := hS1
      have hP : va_P G.1 vwCl [] H := hP1
      have hD : va_D A [] := hD1
      refine zv_ifb_eq (tgt := 57) S dX5_isCone_30 (by decide) (fun c_9 => ?_) (fun c_9 => ?_)
      · refine zv_iconst S dX5_isCone_57 ?_
        exact hret _ _ _ _ _ () dX5_isCone_58 (by first | exact Or.inl rfl | exact Or.inr rfl) (congrArg zI (zb_f (fun z => c_9 z.2.2.1)).symm) (hP.sub [] rfl) (hD.sub [] (by decide) rfl) hS
      · refine zv_iload_n S dX5_isCone_33 rfl (lv_at hl 3 rfl) ?_
        refine zv_bipush (v := (-20)) S dX5_isCone_34 (by decide) ?_
        refine zv_bipush (v := 20) S dX5_isCone_36 (by decide) ?_
        refine zc_Si (As := [.int (zI w), .int (zI (-20)), .int (zI 20)]) (rest := []) (wr := []) (n := 3) S hN hK hP hD hS hA hl (c_X5_in l G H.size w (-20) 20 (by omega) (by omega) (by omega)) gX5_isCone_X5_in rfl ⟨rfl, rfl⟩ (by decide +kernel) rfl ⟨Nat.le_of_ble_eq_true rfl, Nat.le_of_ble_eq_true rfl, Nat.le_of_ble_eq_true rfl, Nat.le_of_ble_eq_true rfl⟩ [] [] rfl rfl (by decide) (by decide) (by decide) (Nat.le_of_ble_eq_true rfl) dX5_isCone_38 rfl (fun r_ u_10 H1 locs1 hp_11 hP1 hD1 hS1 hz1 => ?_)
        try dsimp only at hp_11 hP1 hD1
        subst hp_11
        generalize H1 = H at hP1 hD1 hS1 hz1 ⊢
        generalize locs1 = locs at hS1 ⊢
        have hS := hS1
        have hP : va_P G.1 vwCl [] H := hP1
        have hD : va_D A [] := hD1
        refine zv_ifb_eq (tgt := 57) S dX5_isCone_41 (by decide) (fun c_12 => ?_) (fun c_12 => ?_)
        · refine zv_iconst S dX5_isCone_57 ?_
          exact hret _ _ _ _ _ () dX5_isCone_58 (by first | exact Or.inl rfl | exact Or.inr rfl) (congrArg zI (zb_f (fun z => c_12 z.2.2.2.1)).symm) (hP.sub [] rfl) (hD.sub [] (by decide) rfl) hS
        · have m1 := zmulb (a := x) (b := w) (A := 20) (B := 20) (by omega) (by omega) (by omega) (by omega)
          have m2 := zmulb (a := y) (b := v) (A := 20) (B := 20) (by omega) (by omega) (by omega) (by omega)
          refine zv_iload_n S dX5_isCone_44 rfl (lv_at hl 0 rfl) ?_
          refine zv_iload_n S dX5_isCone_45 rfl (lv_at hl 3 rfl) ?_
          refine zv_imul S dX5_isCone_46 ?_
          refine zv_iload_n S dX5_isCone_47 rfl (lv_at hl 1 rfl) ?_
          refine zv_iload_n S dX5_isCone_48 rfl (lv_at hl 2 rfl) ?_
          refine zv_imul S dX5_isCone_49 ?_
          refine zv_icmp_eq (tgt := 57) S (by unfold zR; omega) (by unfold zR; omega) dX5_isCone_50 (by decide) (fun c_13 => ?_) (fun c_13 => ?_)
          · refine zv_iconst S dX5_isCone_57 ?_
            exact hret _ _ _ _ _ () dX5_isCone_58 (by first | exact Or.inl rfl | exact Or.inr rfl) (congrArg zI (zb_f (fun z => z.2.2.2.2 (by omega))).symm) (hP.sub [] rfl) (hD.sub [] (by decide) rfl) hS
          · refine zv_iconst S dX5_isCone_53 ?_
            refine zv_goto (tgt := 58) S dX5_isCone_54 (by decide) ?_
            exact hret _ _ _ _ _ () dX5_isCone_58 (by first | exact Or.inl rfl | exact Or.inr rfl) (congrArg zI (zb_t ⟨c_3, c_6, c_9, c_12, by omega⟩).symm) (hP.sub [] rfl) (hD.sub [] (by decide) rfl) hS

theorem wd_X5_index_f51 : Cond.fieldLink RX5 51 "PointMillModel" "thrown" "I" ∈ wsX5_index := by decide +kernel
theorem in_X5_index_X5 : ∀ w ∈ wsX50, w ∈ wsX5_index := by decide +kernel
set_option maxHeartbeats 4000000 in
set_option maxRecDepth 100000 in
/-- the model: index -/
theorem c_X5_index (l : Launch) (G : zG) (sz : Nat) (h0 : Nat) (th : Int) (sh : Int) (ym : Nat) (ya : Nat) (yb : Nat) (yc : Nat) (ye : Nat) (yp : Nat) (yq : Nat) (yo : Nat) (ro : Int) (fi : Int) (la : Int) (lo : Int) (hi : Int) (co : Int) (yk : Nat) (yw : Nat) (yi : Nat) (ge : Int) (yx : Nat) (yy : Nat) (ir : Int) (x : Int) (y : Int) (v : Int) (w : Int) (h1 : -2147483648 ≤ x ∧ x < 2147483648) (h2 : -2147483648 ≤ y ∧ y < 2147483648) (h3 : -2147483648 ≤ v ∧ v < 2147483648) (h4 : -2147483648 ≤ w ∧ w < 2147483648) : Met l yX5_index wsX5_index ({ frames := 2, cells := 0, slots := 0, locals := 45 }) (va_Pc [.ref h0, .int (zI x), .int (zI y), .int (zI v), .int (zI w)] (zPre G sz [(h0, .inr (5, [.int (zI th), .int (zI sh), .ref ym, .ref ya, .ref yb, .ref yc, .ref ye, .ref yp, .ref yq, .ref yo, .int (zI ro), .long (zL fi), .long (zL la), .long (zL lo), .long (zL hi), .int (zI co), .ref yk, .ref yw, .ref yi, .int (zI ge), .ref yx, .ref yy, .int (zI ir)]))])) (va_Qi (fun (r : Int32) (u : (Int) × (Int)) => r = zI u.1 ∧ (zindR x y v w u.1 u.2)) (fun u => zW G (va_A [(h0, .inr (5, [.int (zI th), .int (zI sh), .ref ym, .ref ya, .ref yb, .ref yc, .ref ye, .ref yp, .ref yq, .ref yo, .int (zI ro), .long (zL fi), .long (zL la), .long (zL lo), .long (zL hi), .int (zI co), .ref yk, .ref yw, .ref yi, .int (zI ge), .ref yx, .ref yy, .int (zI ir)]))] sz) ((fun (u : (Int) × (Int)) => [(h0, .inr (5, [.int (zI u.2), .int (zI sh), .ref ym, .ref ya, .ref yb, .ref yc, .ref ye, .ref yp, .ref yq, .ref yo, .int (zI ro), .long (zL fi), .long (zL la), .long (zL lo), .long (zL hi), .int (zI co), .ref yk, .ref yw, .ref yi, .int (zI ge), .ref yx, .ref yy, .int (zI ir)]))]) u)) (va_A [(h0, .inr (5, [.int (zI th), .int (zI sh), .ref ym, .ref ya, .ref yb, .ref yc, .ref ye, .ref yp, .ref yq, .ref yo, .int (zI ro), .long (zL fi), .long (zL la), .long (zL lo), .long (zL hi), .int (zI co), .ref yk, .ref yw, .ref yi, .int (zI ge), .ref yx, .ref yy, .int (zI ir)]))] sz)) 0 0 (va_A [(h0, .inr (5, [.int (zI th), .int (zI sh), .ref ym, .ref ya, .ref yb, .ref yc, .ref ye, .ref yp, .ref yq, .ref yo, .int (zI ro), .long (zL fi), .long (zL la), .long (zL lo), .long (zL hi), .int (zI co), .ref yk, .ref yw, .ref yi, .int (zI ge), .ref yx, .ref yy, .int (zI ir)]))] sz) := by
  refine zM_i (post := fun (r : Int32) (u : (Int) × (Int)) => r = zI u.1 ∧ (zindR x y v w u.1 u.2)) (w1 := fun (u : (Int) × (Int)) => [(h0, .inr (5, [.int (zI u.2), .int (zI sh), .ref ym, .ref ya, .ref yb, .ref yc, .ref ye, .ref yp, .ref yq, .ref yo, .int (zI ro), .long (zL fi), .long (zL la), .long (zL lo), .long (zL hi), .int (zI co), .ref yk, .ref yw, .ref yi, .int (zI ge), .ref yx, .ref yy, .int (zI ir)]))]) (plainFor_of_name (by decide)) rfl (Nat.le_of_ble_eq_true rfl) ?_
  intro p e s m below meth c A Q S hN hK hP hD hS hA hret ls hl
  have hl : lv_has ls 6 [(0, .ref h0), (1, .int (zI x)), (2, .int (zI y)), (3, .int (zI v)), (4, .int (zI w))] := hl
  refine zv_aload_n S dX5_index_0 rfl (lv_at hl 0 rfl) ?_
  refine zv_iload_n S dX5_index_1 rfl (lv_at hl 1 rfl) ?_
  refine zv_iload_n S dX5_index_2 rfl (lv_at hl 2 rfl) ?_
  refine zv_iload_n S dX5_index_3 rfl (lv_at hl 3 rfl) ?_
  refine zv_iload S dX5_index_4 (lv_at hl 4 rfl) ?_
  refine zc_Si (As := [.int (zI x), .int (zI y), .int (zI v), .int (zI w)]) (rest := [.ref h0]) (wr := [(h0, .inr (5, [.int (zI th), .int (zI sh), .ref ym, .ref ya, .ref yb, .ref yc, .ref ye, .ref yp, .ref yq, .ref yo, .int (zI ro), .long (zL fi), .long (zL la), .long (zL lo), .long (zL hi), .int (zI co), .ref yk, .ref yw, .ref yi, .int (zI ge), .ref yx, .ref yy, .int (zI ir)]))]) (n := 4) S hN hK hP hD hS hA hl (c_X5_isCone l G s.heap.size x y v w (by omega) (by omega) (by omega) (by omega)) gX5_index_X5_isCone rfl ⟨rfl, rfl⟩ (by decide +kernel) rfl ⟨Nat.le_of_ble_eq_true rfl, Nat.le_of_ble_eq_true rfl, Nat.le_of_ble_eq_true rfl, Nat.le_of_ble_eq_true rfl⟩ [] [0] rfl rfl (by decide) (by decide) (by decide) (Nat.le_of_ble_eq_true rfl) dX5_index_6 rfl (fun r_ u_1 H1 locs1 hp_2 hP1 hD1 hS1 hz1 => ?_)
  try dsimp only at hp_2 hP1 hD1
  subst hp_2
  generalize H1 = H at hP1 hD1 hS1 hz1 ⊢
  generalize locs1 = locs at hS1 ⊢
  have hS := hS1
  have hP : va_P G.1 vwCl [(h0, .inr (5, [.int (zI th), .int (zI sh), .ref ym, .ref ya, .ref yb, .ref yc, .ref ye, .ref yp, .ref yq, .ref yo, .int (zI ro), .long (zL fi), .long (zL la), .long (zL lo), .long (zL hi), .int (zI co), .ref yk, .ref yw, .ref yi, .int (zI ge), .ref yx, .ref yy, .int (zI ir)]))] H := hP1
  have hD : va_D A [(h0, .inr (5, [.int (zI th), .int (zI sh), .ref ym, .ref ya, .ref yb, .ref yc, .ref ye, .ref yp, .ref yq, .ref yo, .int (zI ro), .long (zL fi), .long (zL la), .long (zL lo), .long (zL hi), .int (zI co), .ref yk, .ref yw, .ref yi, .int (zI ge), .ref yx, .ref yy, .int (zI ir)]))] := hD1
  refine zv_ifb_eq (tgt := 16) S dX5_index_9 (by decide) (fun c_3 => ?_) (fun c_3 => ?_)
  · refine zv_iconst S dX5_index_16 ?_
    refine zv_put (C := RX5) (T := TX5) (N := 23) (ci := 5) (v := .int (zI 1)) S in_X5_index_X5 tyX5 tyX5_ok nmX5 hK hP hD hS 0 rfl rfl 0 (by decide) wd_X5_index_f51 rfl rfl rfl rfl (Nat.le_of_ble_eq_true rfl) dX5_index_17 (fun H locs hP hD hS => ?_)
    have hP : va_P G.1 vwCl [(h0, .inr (5, [.int (zI 1), .int (zI sh), .ref ym, .ref ya, .ref yb, .ref yc, .ref ye, .ref yp, .ref yq, .ref yo, .int (zI ro), .long (zL fi), .long (zL la), .long (zL lo), .long (zL hi), .int (zI co), .ref yk, .ref yw, .ref yi, .int (zI ge), .ref yx, .ref yy, .int (zI ir)]))] H := hP
    have hD : va_D A [(h0, .inr (5, [.int (zI 1), .int (zI sh), .ref ym, .ref ya, .ref yb, .ref yc, .ref ye, .ref yp, .ref yq, .ref yo, .int (zI ro), .long (zL fi), .long (zL la), .long (zL lo), .long (zL hi), .int (zI co), .ref yk, .ref yw, .ref yi, .int (zI ge), .ref yx, .ref yy, .int (zI ir)]))] := hD
    refine zv_aload_n S dX5_index_20 rfl (lv_at hl 0 rfl) ?_
    refine zv_get (C := RX5) (T := TX5) (N := 23) (ci := 5) (v := .int (zI 1)) S in_X5_index_X5 hK hP 0 rfl rfl 0 (by decide) wd_X5_index_f51 rfl rfl dX5_index_21 ?_
    refine zv_if_eq (tgt := 29) S (by unfold zR; omega) dX5_index_24 (by decide) (fun c_4 => ?_) (fun c_4 => ?_)
    · exact absurd c_4 (by omega)
    · refine zv_iconst S dX5_index_27 ?_
      exact hret _ _ _ _ _ ⟨0, 1⟩ dX5_index_28 ⟨rfl, (show zindR x y v w 0 1 from (Or.inl ⟨rfl, c_3⟩))⟩ (hP.sub [0] rfl) (hD.sub [0] (by decide) rfl) hS
  · refine zv_iconst S dX5_index_12 ?_
    refine zv_goto (tgt := 17) S dX5_index_13 (by decide) ?_
    refine zv_put (C := RX5) (T := TX5) (N := 23) (ci := 5) (v := .int (zI 0)) S in_X5_index_X5 tyX5 tyX5_ok nmX5 hK hP hD hS 0 rfl rfl 0 (by decide) wd_X5_index_f51 rfl rfl rfl rfl (Nat.le_of_ble_eq_true rfl) dX5_index_17 (fun H locs hP hD hS => ?_)
    have hP : va_P G.1 vwCl [(h0, .inr (5, [.int (zI 0), .int (zI sh), .ref ym, .ref ya, .ref yb, .ref yc, .ref ye, .ref yp, .ref yq, .ref yo, .int (zI ro), .long (zL fi), .long (zL la), .long (zL lo), .long (zL hi), .int (zI co), .ref yk, .ref yw, .ref yi, .int (zI ge), .ref yx, .ref yy, .int (zI ir)]))] H := hP
    have hD : va_D A [(h0, .inr (5, [.int (zI 0), .int (zI sh), .ref ym, .ref ya, .ref yb, .ref yc, .ref ye, .ref yp, .ref yq, .ref yo, .int (zI ro), .long (zL fi), .long (zL la), .long (zL lo), .long (zL hi), .int (zI co), .ref yk, .ref yw, .ref yi, .int (zI ge), .ref yx, .ref yy, .int (zI ir)]))] := hD
    refine zv_aload_n S dX5_index_20 rfl (lv_at hl 0 rfl) ?_
    refine zv_get (C := RX5) (T := TX5) (N := 23) (ci := 5) (v := .int (zI 0)) S in_X5_index_X5 hK hP 0 rfl rfl 0 (by decide) wd_X5_index_f51 rfl rfl dX5_index_21 ?_
    refine zv_if_eq (tgt := 29) S (by unfold zR; omega) dX5_index_24 (by decide) (fun c_5 => ?_) (fun c_5 => ?_)
    · have hc := c_3
      have hc1 := hc.1
      have hc2 := hc.2.1
      have hc3 := hc.2.2.1
      have hc4 := hc.2.2.2.1
      have m1 := zmulb (a := x) (b := w) (A := 20) (B := 20) (by omega) (by omega) (by omega) (by omega)
      have m2 := zmulb (a := y) (b := v) (A := 20) (B := 20) (by omega) (by omega) (by omega) (by omega)
      have nz := zcnm_nz hc
      have g1 := zg2_pos nz.1
      have g2 := zg2_pos nz.2
      have g3 := zg2_le nz.1 hc1 hc2
      have g4 := zg2_le nz.2 hc3 hc4
      unfold zg2 at g1 g2 g3 g4
      have g5 := Int.mul_pos g1 g2
      have g6 := (zmulb (A := 20) (B := 20) (by omega) g3 (by omega) g4).2
      have g7 := ztdivb (x := x * w - y * v) (y := (((Nat.gcd x.natAbs y.natAbs : Nat) : Int) * ((Nat.gcd v.natAbs w.natAbs : Nat) : Int))) (A := 800) (by omega) (by omega)
      refine zv_iload_n S dX5_index_29 rfl (lv_at hl 1 rfl) ?_
      refine zv_iload S dX5_index_30 (lv_at hl 4 rfl) ?_
      refine zv_imul S dX5_index_32 ?_
      refine zv_iload_n S dX5_index_33 rfl (lv_at hl 2 rfl) ?_
      refine zv_iload_n S dX5_index_34 rfl (lv_at hl 3 rfl) ?_
      refine zv_imul S dX5_index_35 ?_
      refine zv_isub S dX5_index_36 ?_
      refine zv_iload_n S dX5_index_37 rfl (lv_at hl 1 rfl) ?_
      refine zv_iload_n S dX5_index_38 rfl (lv_at hl 2 rfl) ?_
      refine zc_Si (As := [.int (zI x), .int (zI y)]) (rest := [.int (zI ((x * w) - (y * v)))]) (wr := [(h0, .inr (5, [.int (zI 0), .int (zI sh), .ref ym, .ref ya, .ref yb, .ref yc, .ref ye, .ref yp, .ref yq, .ref yo, .int (zI ro), .long (zL fi), .long (zL la), .long (zL lo), .long (zL hi), .int (zI co), .ref yk, .ref yw, .ref yi, .int (zI ge), .ref yx, .ref yy, .int (zI ir)]))]) (n := 2) S hN hK hP hD hS hA hl (c_X5_common l G H.size x y (by omega) (by omega)) gX5_index_X5_common rfl ⟨rfl, rfl⟩ (by decide +kernel) rfl ⟨Nat.le_of_ble_eq_true rfl, Nat.le_of_ble_eq_true rfl, Nat.le_of_ble_eq_true rfl, Nat.le_of_ble_eq_true rfl⟩ [] [0] rfl rfl (by decide) (by decide) (by decide) (Nat.le_of_ble_eq_true rfl) dX5_index_39 rfl (fun r_ u_6 H1 locs1 hp_7 hP1 hD1 hS1 hz1 => ?_)
      try dsimp only at hp_7 hP1 hD1
      subst hp_7
      generalize H1 = H at hP1 hD1 hS1 hz1 ⊢
      generalize locs1 = locs at hS1 ⊢
      have hS := hS1
      have hP : va_P G.1 vwCl [(h0, .inr (5, [.int (zI 0), .int (zI sh), .ref ym, .ref ya, .ref yb, .ref yc, .ref ye, .ref yp, .ref yq, .ref yo, .int (zI ro), .long (zL fi), .long (zL la), .long (zL lo), .long (zL hi), .int (zI co), .ref yk, .ref yw, .ref yi, .int (zI ge), .ref yx, .ref yy, .int (zI ir)]))] H := hP1
      have hD : va_D A [(h0, .inr (5, [.int (zI 0), .int (zI sh), .ref ym, .ref ya, .ref yb, .ref yc, .ref ye, .ref yp, .ref yq, .ref yo, .int (zI ro), .long (zL fi), .long (zL la), .long (zL lo), .long (zL hi), .int (zI co), .ref yk, .ref yw, .ref yi, .int (zI ge), .ref yx, .ref yy, .int (zI ir)]))] := hD1
      refine zv_iload_n S dX5_index_42 rfl (lv_at hl 3 rfl) ?_
      refine zv_iload S dX5_index_43 (lv_at hl 4 rfl) ?_
      refine zc_Si (As := [.int (zI v), .int (zI w)]) (rest := [.int (zI ((Nat.gcd x.natAbs y.natAbs : Nat) : Int)), .int (zI ((x * w) - (y * v)))]) (wr := [(h0, .inr (5, [.int (zI 0), .int (zI sh), .ref ym, .ref ya, .ref yb, .ref yc, .ref ye, .ref yp, .ref yq, .ref yo, .int (zI ro), .long (zL fi), .long (zL la), .long (zL lo), .long (zL hi), .int (zI co), .ref yk, .ref yw, .ref yi, .int (zI ge), .ref yx, .ref yy, .int (zI ir)]))]) (n := 2) S hN hK hP hD hS hA hl (c_X5_common l G H.size v w (by omega) (by omega)) gX5_index_X5_common rfl ⟨rfl, rfl⟩ (by decide +kernel) rfl ⟨Nat.le_of_ble_eq_true rfl, Nat.le_of_ble_eq_true rfl, Nat.le_of_ble_eq_true rfl, Nat.le_of_ble_eq_true rfl⟩ [] [0] rfl rfl (by decide) (by decide) (by decide) (Nat.le_of_ble_eq_true rfl) dX5_index_45 rfl (fun r_ u_8 H1 locs1 hp_9 hP1 hD1 hS1 hz1 => ?_)
      try dsimp only at hp_9 hP1 hD1
      subst hp_9
      generalize H1 = H at hP1 hD1 hS1 hz1 ⊢
      generalize locs1 = locs at hS1 ⊢
      have hS := hS1
      have hP : va_P G.1 vwCl [(h0, .inr (5, [.int (zI 0), .int (zI sh), .ref ym, .ref ya, .ref yb, .ref yc, .ref ye, .ref yp, .ref yq, .ref yo, .int (zI ro), .long (zL fi), .long (zL la), .long (zL lo), .long (zL hi), .int (zI co), .ref yk, .ref yw, .ref yi, .int (zI ge), .ref yx, .ref yy, .int (zI ir)]))] H := hP1
      have hD : va_D A [(h0, .inr (5, [.int (zI 0), .int (zI sh), .ref ym, .ref ya, .ref yb, .ref yc, .ref ye, .ref yp, .ref yq, .ref yo, .int (zI ro), .long (zL fi), .long (zL la), .long (zL lo), .long (zL hi), .int (zI co), .ref yk, .ref yw, .ref yi, .int (zI ge), .ref yx, .ref yy, .int (zI ir)]))] := hD1
      refine zv_imul S dX5_index_48 ?_
      refine zv_idiv S (by unfold zR; omega) (by unfold zR; omega) (by omega) (by omega) dX5_index_49 ?_
      refine zv_istore (lv' := [(5, .int (zI (((x * w) - (y * v)).tdiv (((Nat.gcd x.natAbs y.natAbs : Nat) : Int) * ((Nat.gcd v.natAbs w.natAbs : Nat) : Int))))), (0, .ref h0), (1, .int (zI x)), (2, .int (zI y)), (3, .int (zI v)), (4, .int (zI w))]) S dX5_index_50 hl (by decide) rfl (fun ls hl => ?_)
      refine zv_iload S dX5_index_52 (lv_at hl 0 rfl) ?_
      refine zv_if_ge (tgt := 63) S (by unfold zR; omega) dX5_index_54 (by decide) (fun c_10 => ?_) (fun c_10 => ?_)
      · refine zv_iload S dX5_index_63 (lv_at hl 0 rfl) ?_
        exact hret _ _ _ _ _ ⟨(((x * w) - (y * v)).tdiv (((Nat.gcd x.natAbs y.natAbs : Nat) : Int) * ((Nat.gcd v.natAbs w.natAbs : Nat) : Int))), 0⟩ dX5_index_65 ⟨rfl, (show zindR x y v w (((x * w) - (y * v)).tdiv (((Nat.gcd x.natAbs y.natAbs : Nat) : Int) * ((Nat.gcd v.natAbs w.natAbs : Nat) : Int))) 0 from (Or.inr ⟨rfl, c_3, by unfold zabs zg2; rw [if_pos (by omega)]⟩))⟩ (hP.sub [0] rfl) (hD.sub [0] (by decide) rfl) hS
      · refine zv_iload S dX5_index_57 (lv_at hl 0 rfl) ?_
        refine zv_ineg S dX5_index_59 ?_
        refine zv_goto (tgt := 65) S dX5_index_60 (by decide) ?_
        exact hret _ _ _ _ _ ⟨(-(((x * w) - (y * v)).tdiv (((Nat.gcd x.natAbs y.natAbs : Nat) : Int) * ((Nat.gcd v.natAbs w.natAbs : Nat) : Int)))), 0⟩ dX5_index_65 ⟨rfl, (show zindR x y v w (-(((x * w) - (y * v)).tdiv (((Nat.gcd x.natAbs y.natAbs : Nat) : Int) * ((Nat.gcd v.natAbs w.natAbs : Nat) : Int)))) 0 from (Or.inr ⟨rfl, c_3, by unfold zabs zg2; rw [if_neg (by omega)]⟩))⟩ (hP.sub [0] rfl) (hD.sub [0] (by decide) rfl) hS
    · exact absurd c_5 (by omega)
