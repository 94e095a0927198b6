theorem wd_L_isBest_k24 : Cond.constant RL 24 (-1000000) ∈ wsL_isBest := by decide +kernel
set_option maxHeartbeats 4000000 in
set_option maxRecDepth 100000 in
/-- the law: isBest -/
theorem c_L_isBest (l : Launch) (hl0 : l.stackTraces = false) (G : zG) (sz : Nat) (h0 : Nat) (qs : Nat) (hr : Nat) (hc : Nat) (hk : Nat) (SF : Nat → Option Nat) (h1 : Nat) (qa : Nat) (qb : Nat) (qc : Nat) (qe : Nat) (fa : Nat → Int) (fb : Nat → Int) (fc : Nat → Int) (fe : Nat → Int) (k : Nat) (ra : Nat) (rb : Nat) (rc : Nat) (P : Nat → Int) (Qu : Nat → Int) (M : Nat → Int) (kk : Int) (f0 : Int) (l0 : Int) (b0 : Int) (t0 : Int) (x0 : Int) (y0 : Int) (mn : Int) (lt : Int) (pp : Int) (qq : Int) (hsf : SF 0 = some h1) (I : zqI fa fb fc fe k) (hmn : mn = (k : Int)) (hlt : 0 ≤ lt ∧ lt ≤ 9) (hpp : -9 ≤ pp ∧ pp ≤ 9) (hqq : -9 ≤ qq ∧ qq ≤ 9) : Met l yL_isBest wsL_isBest ({ frames := 9, cells := 200, slots := 1200, locals := 163 }) (va_Pc [.ref h0, .int (zI mn), .int (zI lt), .int (zI pp), .int (zI qq)] (zPx G sz [(h0, .inr (4, [.ref qs, .int (zI 1), .ref hr, .ref hc, .ref hk])), zcq G qs 8 SF, (h1, .inr (3, [.ref qa, .ref qb, .ref qc, .ref qe, .int (zI (k : Int))])), zci G qa 10 fa, zci G qb 10 fb, zci G qc 10 fc, zci G qe 10 fe, (hr, .inr (2, [.ref ra, .ref rb, .ref rc, .int (zI kk), .int (zI f0), .int (zI l0), .int (zI b0), .int (zI t0), .int (zI x0), .int (zI y0)])), zci G ra 10 P, zci G rb 10 Qu, zci G rc 10 M])) (va_Qi (fun (r : Int32) (u : (Nat → Int) × (Nat → Int) × (Nat → Int) × (Int) × (Int) × (Int) × (Int) × (Int) × (Int) × (Int)) => r = zI 1) (fun u => zW G (va_A [(h0, .inr (4, [.ref qs, .int (zI 1), .ref hr, .ref hc, .ref hk])), zcq G qs 8 SF, (h1, .inr (3, [.ref qa, .ref qb, .ref qc, .ref qe, .int (zI (k : Int))])), zci G qa 10 fa, zci G qb 10 fb, zci G qc 10 fc, zci G qe 10 fe, (hr, .inr (2, [.ref ra, .ref rb, .ref rc, .int (zI kk), .int (zI f0), .int (zI l0), .int (zI b0), .int (zI t0), .int (zI x0), .int (zI y0)])), zci G ra 10 P, zci G rb 10 Qu, zci G rc 10 M] sz) ((fun (u : (Nat → Int) × (Nat → Int) × (Nat → Int) × (Int) × (Int) × (Int) × (Int) × (Int) × (Int) × (Int)) => [(h0, .inr (4, [.ref qs, .int (zI 1), .ref hr, .ref hc, .ref hk])), zcq G qs 8 SF, (h1, .inr (3, [.ref qa, .ref qb, .ref qc, .ref qe, .int (zI (k : Int))])), zci G qa 10 fa, zci G qb 10 fb, zci G qc 10 fc, zci G qe 10 fe, (hr, .inr (2, [.ref ra, .ref rb, .ref rc, .int (zI u.2.2.2.1), .int (zI u.2.2.2.2.1), .int (zI u.2.2.2.2.2.1), .int (zI u.2.2.2.2.2.2.1), .int (zI u.2.2.2.2.2.2.2.1), .int (zI u.2.2.2.2.2.2.2.2.1), .int (zI u.2.2.2.2.2.2.2.2.2)])), zci G ra 10 u.1, zci G rb 10 u.2.1, zci G rc 10 u.2.2.1]) u)) (va_A [(h0, .inr (4, [.ref qs, .int (zI 1), .ref hr, .ref hc, .ref hk])), zcq G qs 8 SF, (h1, .inr (3, [.ref qa, .ref qb, .ref qc, .ref qe, .int (zI (k : Int))])), zci G qa 10 fa, zci G qb 10 fb, zci G qc 10 fc, zci G qe 10 fe, (hr, .inr (2, [.ref ra, .ref rb, .ref rc, .int (zI kk), .int (zI f0), .int (zI l0), .int (zI b0), .int (zI t0), .int (zI x0), .int (zI y0)])), zci G ra 10 P, zci G rb 10 Qu, zci G rc 10 M] sz)) 200 1200 (va_A [(h0, .inr (4, [.ref qs, .int (zI 1), .ref hr, .ref hc, .ref hk])), zcq G qs 8 SF, (h1, .inr (3, [.ref qa, .ref qb, .ref qc, .ref qe, .int (zI (k : Int))])), zci G qa 10 fa, zci G qb 10 fb, zci G qc 10 fc, zci G qe 10 fe, (hr, .inr (2, [.ref ra, .ref rb, .ref rc, .int (zI kk), .int (zI f0), .int (zI l0), .int (zI b0), .int (zI t0), .int (zI x0), .int (zI y0)])), zci G ra 10 P, zci G rb 10 Qu, zci G rc 10 M] sz) := by
  have hk10 := I.1
  refine zMp_z (post := fun (r : Int32) (u : (Nat → Int) × (Nat → Int) × (Nat → Int) × (Int) × (Int) × (Int) × (Int) × (Int) × (Int) × (Int)) => r = zI 1) (w1 := fun (u : (Nat → Int) × (Nat → Int) × (Nat → Int) × (Int) × (Int) × (Int) × (Int) × (Int) × (Int) × (Int)) => [(h0, .inr (4, [.ref qs, .int (zI 1), .ref hr, .ref hc, .ref hk])), zcq G qs 8 SF, (h1, .inr (3, [.ref qa, .ref qb, .ref qc, .ref qe, .int (zI (k : Int))])), zci G qa 10 fa, zci G qb 10 fb, zci G qc 10 fc, zci G qe 10 fe, (hr, .inr (2, [.ref ra, .ref rb, .ref rc, .int (zI u.2.2.2.1), .int (zI u.2.2.2.2.1), .int (zI u.2.2.2.2.2.1), .int (zI u.2.2.2.2.2.2.1), .int (zI u.2.2.2.2.2.2.2.1), .int (zI u.2.2.2.2.2.2.2.2.1), .int (zI u.2.2.2.2.2.2.2.2.2)])), zci G ra 10 u.1, zci G rb 10 u.2.1, zci G rc 10 u.2.2.1]) (plainFor_of_name (by decide)) rfl (Nat.le_of_ble_eq_true rfl) ?_
  intro p e s m below meth c A Q S hN hK hP hD hS hA hE0 hret ls hl
  have hl : lv_has ls 10 [(0, .ref h0), (1, .int (zI mn)), (2, .int (zI lt)), (3, .int (zI pp)), (4, .int (zI qq))] := hl
  refine zv_aload_n S dL_isBest_0 rfl (lv_at hl 0 rfl) ?_
  refine zv_iload_n S dL_isBest_1 rfl (lv_at hl 2 rfl) ?_
  refine zv_iload_n S dL_isBest_2 rfl (lv_at hl 3 rfl) ?_
  refine zv_iload S dL_isBest_3 (lv_at hl 4 rfl) ?_
  refine zv_iconst S dL_isBest_5 ?_
  refine zch_Si (As := [.ref h0, .int (zI lt), .int (zI pp), .int (zI qq), .int (zI 0)]) (rest := []) (wr := []) (n := 5) S hN hK (hE0.kept hS.2.1) hP hD hS hA hl (c_L_best l hl0 G s.heap.size h0 qs hr hc hk SF h1 qa qb qc qe fa fb fc fe k ra rb rc P Qu M kk f0 l0 b0 t0 x0 y0 lt pp qq 0 hsf I (by unfold zbok; omega)) gL_isBest_L_best rfl ⟨rfl, rfl⟩ (by decide +kernel) rfl ⟨Nat.le_of_ble_eq_true rfl, Nat.le_of_ble_eq_true rfl, Nat.le_of_ble_eq_true rfl, Nat.le_of_ble_eq_true rfl⟩ [0, 1, 2, 3, 4, 5, 6, 7, 8, 9, 10] [] rfl rfl (by decide) (by decide) (by decide) (Nat.le_of_ble_eq_true rfl) dL_isBest_6 rfl (fun r_ u_1 H1 locs1 hp_2 hP1 hD1 hS1 hz1 => ?_)
  obtain ⟨kr_3, P1_4, Q1_5, M1_6, kk1_7, f1_8, l1_9, b1_10, t1_11, x1_12, y1_13⟩ := u_1
  try dsimp only at hp_2 hP1 hD1
  obtain ⟨rfl, hbe_14⟩ := hp_2
  generalize H1 = H at hP1 hD1 hS1 hz1 ⊢
  generalize locs1 = locs at hS1 ⊢
  have hS := hS1
  have hP : va_P G.1 vwCl [(h0, .inr (4, [.ref qs, .int (zI 1), .ref hr, .ref hc, .ref hk])), zcq G qs 8 SF, (h1, .inr (3, [.ref qa, .ref qb, .ref qc, .ref qe, .int (zI (k : Int))])), zci G qa 10 fa, zci G qb 10 fb, zci G qc 10 fc, zci G qe 10 fe, (hr, .inr (2, [.ref ra, .ref rb, .ref rc, .int (zI kk1_7), .int (zI f1_8), .int (zI l1_9), .int (zI b1_10), .int (zI t1_11), .int (zI x1_12), .int (zI y1_13)])), zci G ra 10 P1_4, zci G rb 10 Q1_5, zci G rc 10 M1_6] H := hP1
  have hD : va_D A [(h0, .inr (4, [.ref qs, .int (zI 1), .ref hr, .ref hc, .ref hk])), zcq G qs 8 SF, (h1, .inr (3, [.ref qa, .ref qb, .ref qc, .ref qe, .int (zI (k : Int))])), zci G qa 10 fa, zci G qb 10 fb, zci G qc 10 fc, zci G qe 10 fe, (hr, .inr (2, [.ref ra, .ref rb, .ref rc, .int (zI kk1_7), .int (zI f1_8), .int (zI l1_9), .int (zI b1_10), .int (zI t1_11), .int (zI x1_12), .int (zI y1_13)])), zci G ra 10 P1_4, zci G rb 10 Q1_5, zci G rc 10 M1_6] := hD1
  have hlb := hbe_14
  rcases hlb with ⟨hkr, hno⟩ | ⟨bx, bY, hbe, hkr⟩
  · refine zv_istore (lv' := [(5, .int (zI kr_3)), (0, .ref h0), (1, .int (zI mn)), (2, .int (zI lt)), (3, .int (zI pp)), (4, .int (zI qq))]) S dL_isBest_9 hl (by decide) rfl (fun ls hl => ?_)
    refine zv_iload S dL_isBest_11 (lv_at hl 0 rfl) ?_
    refine zv_ldc (v := (-1000000)) S wd_L_isBest_k24 (by decide) dL_isBest_13 ?_
    refine zv_icmp_ne (tgt := 35) S (by unfold zR; omega) (by unfold zR; omega) dL_isBest_15 (by decide) (fun c_15 => ?_) (fun c_15 => ?_)
    · exact absurd c_15 (by omega)
    · refine zv_aload_n S dL_isBest_18 rfl (lv_at hl 1 rfl) ?_
      refine zv_iconst S dL_isBest_19 ?_
      refine zv_iload_n S dL_isBest_20 rfl (lv_at hl 3 rfl) ?_
      refine zcp_Vl (As := [.int (zI 0), .int (zI lt)]) (rest := []) (wr := []) (n := 2) S hN hK (hE0.kept hS.2.1) hP hD hS hA hl (n_X4_count l hl0 G H.size h0 qs hr hc hk SF h1 qa qb qc qe fa fb fc fe k ra rb rc P1_4 Q1_5 M1_6 kk1_7 f1_8 l1_9 b1_10 t1_11 x1_12 y1_13 lt hsf I hlt) gL_isBest_X4_count rfl ⟨rfl, rfl⟩ (by decide +kernel) rfl ⟨Nat.le_of_ble_eq_true rfl, Nat.le_of_ble_eq_true rfl, Nat.le_of_ble_eq_true rfl, Nat.le_of_ble_eq_true rfl⟩ [0, 1, 2, 3, 4, 5, 6, 7, 8, 9, 10] [] rfl rfl (by decide) (by decide) (by decide) (ci := 4) rfl rfl rfl (Nat.le_of_ble_eq_true rfl) dL_isBest_21 rfl (fun r_ u_16 H1 locs1 hp_17 hP1 hD1 hS1 hz1 => ?_)
      obtain ⟨P1_18, Q1_19, M1_20, kk1_21, f1_22, l1_23, b1_24, t1_25, x1_26, y1_27⟩ := u_16
      try dsimp only at hp_17 hP1 hD1
      obtain ⟨rfl, hpo_28⟩ := hp_17
      generalize H1 = H at hP1 hD1 hS1 hz1 ⊢
      generalize locs1 = locs at hS1 ⊢
      have hS := hS1
      have hP : va_P G.1 vwCl [(h0, .inr (4, [.ref qs, .int (zI 1), .ref hr, .ref hc, .ref hk])), zcq G qs 8 SF, (h1, .inr (3, [.ref qa, .ref qb, .ref qc, .ref qe, .int (zI (k : Int))])), zci G qa 10 fa, zci G qb 10 fb, zci G qc 10 fc, zci G qe 10 fe, (hr, .inr (2, [.ref ra, .ref rb, .ref rc, .int (zI kk1_21), .int (zI f1_22), .int (zI l1_23), .int (zI b1_24), .int (zI t1_25), .int (zI x1_26), .int (zI y1_27)])), zci G ra 10 P1_18, zci G rb 10 Q1_19, zci G rc 10 M1_20] H := hP1
      have hD : va_D A [(h0, .inr (4, [.ref qs, .int (zI 1), .ref hr, .ref hc, .ref hk])), zcq G qs 8 SF, (h1, .inr (3, [.ref qa, .ref qb, .ref qc, .ref qe, .int (zI (k : Int))])), zci G qa 10 fa, zci G qb 10 fb, zci G qc 10 fc, zci G qe 10 fe, (hr, .inr (2, [.ref ra, .ref rb, .ref rc, .int (zI kk1_21), .int (zI f1_22), .int (zI l1_23), .int (zI b1_24), .int (zI t1_25), .int (zI x1_26), .int (zI y1_27)])), zci G ra 10 P1_18, zci G rb 10 Q1_19, zci G rc 10 M1_20] := hD1
      refine zv_lconst (v := 0) S dL_isBest_24 (by decide) ?_
      refine zv_lif_ne (tgt := 33) S (zpts_S _ _ _ _) (by unfold zS; omega) dL_isBest_25 dL_isBest_26 (by decide) (fun c_29 => ?_) (fun c_29 => ?_)
      · exact absurd (znone_0 hno) c_29
      · refine zv_iconst S dL_isBest_29 ?_
        refine zv_goto (tgt := 34) S dL_isBest_30 (by decide) ?_
        refine W.widen (k := 200) (n := 1200) (Nat.le_of_ble_eq_true rfl) (Nat.le_of_ble_eq_true rfl) ?_
        exact hret _ _ _ _ _ ⟨P1_18, Q1_19, M1_20, kk1_21, f1_22, l1_23, b1_24, t1_25, x1_26, y1_27⟩ dL_isBest_34 (by first | exact Or.inl rfl | exact Or.inr rfl) rfl (hP.sub [0, 1, 2, 3, 4, 5, 6, 7, 8, 9, 10] rfl) (hD.sub [0, 1, 2, 3, 4, 5, 6, 7, 8, 9, 10] (by decide) rfl) hS
  · rw [zwhat_0] at hkr
    have hb := zbest_b I hbe
    have hm := zpq_b (p := pp) (q := qq) (by omega) (by omega) hb.1 hb.2
    have hne := zbest_ne hbe
    have hps := zbest_pos hbe
    refine zv_istore (lv' := [(5, .int (zI kr_3)), (0, .ref h0), (1, .int (zI mn)), (2, .int (zI lt)), (3, .int (zI pp)), (4, .int (zI qq))]) S dL_isBest_9 hl (by decide) rfl (fun ls hl => ?_)
    refine zv_iload S dL_isBest_11 (lv_at hl 0 rfl) ?_
    refine zv_ldc (v := (-1000000)) S wd_L_isBest_k24 (by decide) dL_isBest_13 ?_
    refine zv_icmp_ne (tgt := 35) S (by unfold zR; omega) (by unfold zR; omega) dL_isBest_15 (by decide) (fun c_30 => ?_) (fun c_30 => ?_)
    · refine zv_aload_n S dL_isBest_35 rfl (lv_at hl 1 rfl) ?_
      refine zv_iconst S dL_isBest_36 ?_
      refine zv_iload_n S dL_isBest_37 rfl (lv_at hl 3 rfl) ?_
      refine zv_iload_n S dL_isBest_38 rfl (lv_at hl 4 rfl) ?_
      refine zv_iload S dL_isBest_39 (lv_at hl 5 rfl) ?_
      refine zv_iconst S dL_isBest_41 ?_
      refine zcp_Vi (As := [.int (zI 0), .int (zI lt), .int (zI pp), .int (zI qq), .int (zI 1)]) (rest := []) (wr := []) (n := 5) S hN hK (hE0.kept hS.2.1) hP hD hS hA hl (n_X4_best l hl0 G H.size h0 qs hr hc hk SF h1 qa qb qc qe fa fb fc fe k ra rb rc P1_4 Q1_5 M1_6 kk1_7 f1_8 l1_9 b1_10 t1_11 x1_12 y1_13 lt pp qq 1 hsf I (by unfold zbok; omega) hne) gL_isBest_X4_best rfl ⟨rfl, rfl⟩ (by decide +kernel) rfl ⟨Nat.le_of_ble_eq_true rfl, Nat.le_of_ble_eq_true rfl, Nat.le_of_ble_eq_true rfl, Nat.le_of_ble_eq_true rfl⟩ [0, 1, 2, 3, 4, 5, 6, 7, 8, 9, 10] [] rfl rfl (by decide) (by decide) (by decide) (ci := 4) rfl rfl rfl (Nat.le_of_ble_eq_true rfl) dL_isBest_42 rfl (fun r_ u_31 H1 locs1 hp_32 hP1 hD1 hS1 hz1 => ?_)
      obtain ⟨rr_33, P1_34, Q1_35, M1_36, kk1_37, f1_38, l1_39, b1_40, t1_41, x1_42, y1_43⟩ := u_31
      try dsimp only at hp_32 hP1 hD1
      obtain ⟨rfl, hpo_44, hbb_45⟩ := hp_32
      generalize H1 = H at hP1 hD1 hS1 hz1 ⊢
      generalize locs1 = locs at hS1 ⊢
      have hS := hS1
      have hP : va_P G.1 vwCl [(h0, .inr (4, [.ref qs, .int (zI 1), .ref hr, .ref hc, .ref hk])), zcq G qs 8 SF, (h1, .inr (3, [.ref qa, .ref qb, .ref qc, .ref qe, .int (zI (k : Int))])), zci G qa 10 fa, zci G qb 10 fb, zci G qc 10 fc, zci G qe 10 fe, (hr, .inr (2, [.ref ra, .ref rb, .ref rc, .int (zI kk1_37), .int (zI f1_38), .int (zI l1_39), .int (zI b1_40), .int (zI t1_41), .int (zI x1_42), .int (zI y1_43)])), zci G ra 10 P1_34, zci G rb 10 Q1_35, zci G rc 10 M1_36] H := hP1
      have hD : va_D A [(h0, .inr (4, [.ref qs, .int (zI 1), .ref hr, .ref hc, .ref hk])), zcq G qs 8 SF, (h1, .inr (3, [.ref qa, .ref qb, .ref qc, .ref qe, .int (zI (k : Int))])), zci G qa 10 fa, zci G qb 10 fb, zci G qc 10 fc, zci G qe 10 fe, (hr, .inr (2, [.ref ra, .ref rb, .ref rc, .int (zI kk1_37), .int (zI f1_38), .int (zI l1_39), .int (zI b1_40), .int (zI t1_41), .int (zI x1_42), .int (zI y1_43)])), zci G ra 10 P1_34, zci G rb 10 Q1_35, zci G rc 10 M1_36] := hD1
      have hr1_ := zbest_at hbe hbb_45
      rw [zwhat_1] at hr1_
      rw [hr1_]
      refine zv_istore (lv' := [(6, .int (zI bx)), (5, .int (zI kr_3)), (0, .ref h0), (1, .int (zI mn)), (2, .int (zI lt)), (3, .int (zI pp)), (4, .int (zI qq))]) S dL_isBest_45 hl (by decide) rfl (fun ls hl => ?_)
      refine zv_aload_n S dL_isBest_47 rfl (lv_at hl 2 rfl) ?_
      refine zv_iconst S dL_isBest_48 ?_
      refine zv_iload_n S dL_isBest_49 rfl (lv_at hl 4 rfl) ?_
      refine zv_iload_n S dL_isBest_50 rfl (lv_at hl 5 rfl) ?_
      refine zv_iload S dL_isBest_51 (lv_at hl 6 rfl) ?_
      refine zv_iconst S dL_isBest_53 ?_
      refine zcp_Vi (As := [.int (zI 0), .int (zI lt), .int (zI pp), .int (zI qq), .int (zI 2)]) (rest := []) (wr := []) (n := 5) S hN hK (hE0.kept hS.2.1) hP hD hS hA hl (n_X4_best l hl0 G H.size h0 qs hr hc hk SF h1 qa qb qc qe fa fb fc fe k ra rb rc P1_34 Q1_35 M1_36 kk1_37 f1_38 l1_39 b1_40 t1_41 x1_42 y1_43 lt pp qq 2 hsf I (by unfold zbok; omega) hne) gL_isBest_X4_best rfl ⟨rfl, rfl⟩ (by decide +kernel) rfl ⟨Nat.le_of_ble_eq_true rfl, Nat.le_of_ble_eq_true rfl, Nat.le_of_ble_eq_true rfl, Nat.le_of_ble_eq_true rfl⟩ [0, 1, 2, 3, 4, 5, 6, 7, 8, 9, 10] [] rfl rfl (by decide) (by decide) (by decide) (ci := 4) rfl rfl rfl (Nat.le_of_ble_eq_true rfl) dL_isBest_54 rfl (fun r_ u_46 H1 locs1 hp_47 hP1 hD1 hS1 hz1 => ?_)
      obtain ⟨rr_48, P1_49, Q1_50, M1_51, kk1_52, f1_53, l1_54, b1_55, t1_56, x1_57, y1_58⟩ := u_46
      try dsimp only at hp_47 hP1 hD1
      obtain ⟨rfl, hpo_59, hbb_60⟩ := hp_47
      generalize H1 = H at hP1 hD1 hS1 hz1 ⊢
      generalize locs1 = locs at hS1 ⊢
      have hS := hS1
      have hP : va_P G.1 vwCl [(h0, .inr (4, [.ref qs, .int (zI 1), .ref hr, .ref hc, .ref hk])), zcq G qs 8 SF, (h1, .inr (3, [.ref qa, .ref qb, .ref qc, .ref qe, .int (zI (k : Int))])), zci G qa 10 fa, zci G qb 10 fb, zci G qc 10 fc, zci G qe 10 fe, (hr, .inr (2, [.ref ra, .ref rb, .ref rc, .int (zI kk1_52), .int (zI f1_53), .int (zI l1_54), .int (zI b1_55), .int (zI t1_56), .int (zI x1_57), .int (zI y1_58)])), zci G ra 10 P1_49, zci G rb 10 Q1_50, zci G rc 10 M1_51] H := hP1
      have hD : va_D A [(h0, .inr (4, [.ref qs, .int (zI 1), .ref hr, .ref hc, .ref hk])), zcq G qs 8 SF, (h1, .inr (3, [.ref qa, .ref qb, .ref qc, .ref qe, .int (zI (k : Int))])), zci G qa 10 fa, zci G qb 10 fb, zci G qc 10 fc, zci G qe 10 fe, (hr, .inr (2, [.ref ra, .ref rb, .ref rc, .int (zI kk1_52), .int (zI f1_53), .int (zI l1_54), .int (zI b1_55), .int (zI t1_56), .int (zI x1_57), .int (zI y1_58)])), zci G ra 10 P1_49, zci G rb 10 Q1_50, zci G rc 10 M1_51] := hD1
      have hr2_ := zbest_at hbe hbb_60
      rw [zwhat_2] at hr2_
      rw [hr2_]
      refine zv_istore (lv' := [(7, .int (zI bY)), (6, .int (zI bx)), (5, .int (zI kr_3)), (0, .ref h0), (1, .int (zI mn)), (2, .int (zI lt)), (3, .int (zI pp)), (4, .int (zI qq))]) S dL_isBest_57 hl (by decide) rfl (fun ls hl => ?_)
      refine zv_iload_n S dL_isBest_59 rfl (lv_at hl 6 rfl) ?_
      refine zv_iload S dL_isBest_60 (lv_at hl 1 rfl) ?_
      refine zv_imul S dL_isBest_62 ?_
      refine zv_iload S dL_isBest_63 (lv_at hl 7 rfl) ?_
      refine zv_iload S dL_isBest_65 (lv_at hl 0 rfl) ?_
      refine zv_imul S dL_isBest_67 ?_
      refine zv_iadd S dL_isBest_68 ?_
      refine zv_iload S dL_isBest_69 (lv_at hl 2 rfl) ?_
      refine zv_icmp_ne (tgt := 89) S (by unfold zR; omega) (by unfold zR; omega) dL_isBest_71 (by decide) (fun c_61 => ?_) (fun c_61 => ?_)
      · exact absurd hkr.symm c_61
      · refine zv_aload_n S dL_isBest_74 rfl (lv_at hl 3 rfl) ?_
        refine zv_iconst S dL_isBest_75 ?_
        refine zv_iload_n S dL_isBest_76 rfl (lv_at hl 5 rfl) ?_
        refine zcp_Vl (As := [.int (zI 0), .int (zI lt)]) (rest := []) (wr := []) (n := 2) S hN hK (hE0.kept hS.2.1) hP hD hS hA hl (n_X4_count l hl0 G H.size h0 qs hr hc hk SF h1 qa qb qc qe fa fb fc fe k ra rb rc P1_49 Q1_50 M1_51 kk1_52 f1_53 l1_54 b1_55 t1_56 x1_57 y1_58 lt hsf I hlt) gL_isBest_X4_count rfl ⟨rfl, rfl⟩ (by decide +kernel) rfl ⟨Nat.le_of_ble_eq_true rfl, Nat.le_of_ble_eq_true rfl, Nat.le_of_ble_eq_true rfl, Nat.le_of_ble_eq_true rfl⟩ [0, 1, 2, 3, 4, 5, 6, 7, 8, 9, 10] [] rfl rfl (by decide) (by decide) (by decide) (ci := 4) rfl rfl rfl (Nat.le_of_ble_eq_true rfl) dL_isBest_77 rfl (fun r_ u_62 H1 locs1 hp_63 hP1 hD1 hS1 hz1 => ?_)
        obtain ⟨P1_64, Q1_65, M1_66, kk1_67, f1_68, l1_69, b1_70, t1_71, x1_72, y1_73⟩ := u_62
        try dsimp only at hp_63 hP1 hD1
        obtain ⟨rfl, hpo_74⟩ := hp_63
        generalize H1 = H at hP1 hD1 hS1 hz1 ⊢
        generalize locs1 = locs at hS1 ⊢
        have hS := hS1
        have hP : va_P G.1 vwCl [(h0, .inr (4, [.ref qs, .int (zI 1), .ref hr, .ref hc, .ref hk])), zcq G qs 8 SF, (h1, .inr (3, [.ref qa, .ref qb, .ref qc, .ref qe, .int (zI (k : Int))])), zci G qa 10 fa, zci G qb 10 fb, zci G qc 10 fc, zci G qe 10 fe, (hr, .inr (2, [.ref ra, .ref rb, .ref rc, .int (zI kk1_67), .int (zI f1_68), .int (zI l1_69), .int (zI b1_70), .int (zI t1_71), .int (zI x1_72), .int (zI y1_73)])), zci G ra 10 P1_64, zci G rb 10 Q1_65, zci G rc 10 M1_66] H := hP1
        have hD : va_D A [(h0, .inr (4, [.ref qs, .int (zI 1), .ref hr, .ref hc, .ref hk])), zcq G qs 8 SF, (h1, .inr (3, [.ref qa, .ref qb, .ref qc, .ref qe, .int (zI (k : Int))])), zci G qa 10 fa, zci G qb 10 fb, zci G qc 10 fc, zci G qe 10 fe, (hr, .inr (2, [.ref ra, .ref rb, .ref rc, .int (zI kk1_67), .int (zI f1_68), .int (zI l1_69), .int (zI b1_70), .int (zI t1_71), .int (zI x1_72), .int (zI y1_73)])), zci G ra 10 P1_64, zci G rb 10 Q1_65, zci G rc 10 M1_66] := hD1
        refine zv_lconst (v := 0) S dL_isBest_80 (by decide) ?_
        refine zv_lif_le (tgt := 89) S (zpts_S _ _ _ _) (by unfold zS; omega) dL_isBest_81 dL_isBest_82 (by decide) (fun c_75 => ?_) (fun c_75 => ?_)
        · exact absurd c_75 (by omega)
        · refine zv_iconst S dL_isBest_85 ?_
          refine zv_goto (tgt := 90) S dL_isBest_86 (by decide) ?_
          refine zv_istore (lv' := [(8, .int (zI 1)), (7, .int (zI bY)), (6, .int (zI bx)), (5, .int (zI kr_3)), (0, .ref h0), (1, .int (zI mn)), (2, .int (zI lt)), (3, .int (zI pp)), (4, .int (zI qq))]) S dL_isBest_90 hl (by decide) rfl (fun ls hl => ?_)
          refine zv_iconst S dL_isBest_92 ?_
          refine zv_istore (lv' := [(9, .int (zI 0)), (8, .int (zI 1)), (7, .int (zI bY)), (6, .int (zI bx)), (5, .int (zI kr_3)), (0, .ref h0), (1, .int (zI mn)), (2, .int (zI lt)), (3, .int (zI pp)), (4, .int (zI qq))]) S dL_isBest_93 hl (by decide) rfl (fun ls hl => ?_)
          have LP95 : ∀ (nf : Nat) (i : Nat) (v9 : Int) (cc : Nat) (ss : Nat) (hv9 : v9 = (i : Int)) (hik : i ≤ k) (hcc : cc ≤ 40 + 12 * i) (hss : ss ≤ 240 + 72 * i), (k - i) < nf → ∀ (H : Heap) (locs : List Loc), va_P G.1 vwCl [(h0, .inr (4, [.ref qs, .int (zI 1), .ref hr, .ref hc, .ref hk])), zcq G qs 8 SF, (h1, .inr (3, [.ref qa, .ref qb, .ref qc, .ref qe, .int (zI (k : Int))])), zci G qa 10 fa, zci G qb 10 fb, zci G qc 10 fc, zci G qe 10 fe, (hr, .inr (2, [.ref ra, .ref rb, .ref rc, .int (zI kk1_67), .int (zI f1_68), .int (zI l1_69), .int (zI b1_70), .int (zI t1_71), .int (zI x1_72), .int (zI y1_73)])), zci G ra 10 P1_64, zci G rb 10 Q1_65, zci G rc 10 M1_66] H → va_D A [(h0, .inr (4, [.ref qs, .int (zI 1), .ref hr, .ref hc, .ref hk])), zcq G qs 8 SF, (h1, .inr (3, [.ref qa, .ref qb, .ref qc, .ref qe, .int (zI (k : Int))])), zci G qa 10 fa, zci G qb 10 fb, zci G qc 10 fc, zci G qe 10 fe, (hr, .inr (2, [.ref ra, .ref rb, .ref rc, .int (zI kk1_67), .int (zI f1_68), .int (zI l1_69), .int (zI b1_70), .int (zI t1_71), .int (zI x1_72), .int (zI y1_73)])), zci G ra 10 P1_64, zci G rb 10 Q1_65, zci G rc 10 M1_66] → va_S A s.heap H locs → ∀ ls : Array Slot, lv_has ls 10 [(9, .int (zI v9)), (8, .int (zI 1)), (7, .int (zI bY)), (6, .int (zI bx)), (5, .int (zI kr_3)), (0, .ref h0), (1, .int (zI mn)), (2, .int (zI lt)), (3, .int (zI pp)), (4, .int (zI qq))] → W p l e ({ frames := 9, cells := 200, slots := 1200, locals := 163 }) s m ([.ref h0, .int (zI mn), .int (zI lt), .int (zI pp), .int (zI qq)]).toArray below meth c H locs cc ss Q (F0 m 95 ls []) := by
            intro nf
            induction nf with
            | zero =>
              intro i v9 cc ss hv9 hik hcc hss hf
              exact absurd hf (Nat.not_lt_zero _)
            | succ nf ih95 =>
              intro i v9 cc ss hv9 hik hcc hss hf H locs hP hD hS ls hl
              refine zv_iload S dL_isBest_95 (lv_at hl 0 rfl) ?_
              refine zv_iload_n S dL_isBest_97 rfl (lv_at hl 6 rfl) ?_
              refine zv_icmp_ge (tgt := 164) S (by unfold zR; omega) (by unfold zR; omega) dL_isBest_98 (by decide) (fun c_76 => ?_) (fun c_76 => ?_)
              · refine zv_iload S dL_isBest_164 (lv_at hl 1 rfl) ?_
                refine zv_if_eq (tgt := 203) S (by unfold zR; omega) dL_isBest_166 (by decide) (fun c_77 => ?_) (fun c_77 => ?_)
                · exact absurd c_77 (by omega)
                · refine zv_aload_n S dL_isBest_169 rfl (lv_at hl 5 rfl) ?_
                  refine zv_iconst S dL_isBest_170 ?_
                  refine zv_iload_n S dL_isBest_171 rfl (lv_at hl 7 rfl) ?_
                  refine zv_iload_n S dL_isBest_172 rfl (lv_at hl 8 rfl) ?_
                  refine zv_ineg S dL_isBest_173 ?_
                  refine zv_iload S dL_isBest_174 (lv_at hl 9 rfl) ?_
                  refine zv_ineg S dL_isBest_176 ?_
                  refine zv_iconst S dL_isBest_177 ?_
                  refine zcp_Vi (As := [.int (zI 0), .int (zI lt), .int (zI (-pp)), .int (zI (-qq)), .int (zI 0)]) (rest := []) (wr := []) (n := 5) S hN hK (hE0.kept hS.2.1) hP hD hS hA hl (n_X4_best l hl0 G H.size h0 qs hr hc hk SF h1 qa qb qc qe fa fb fc fe k ra rb rc P1_64 Q1_65 M1_66 kk1_67 f1_68 l1_69 b1_70 t1_71 x1_72 y1_73 lt (-pp) (-qq) 0 hsf I (by unfold zbok; omega) hne) gL_isBest_X4_best rfl ⟨rfl, rfl⟩ (by decide +kernel) rfl ⟨Nat.le_of_ble_eq_true rfl, Nat.le_of_ble_eq_true rfl, (show cc + 7 ≤ 200 by omega), (show ss + 42 ≤ 1200 by omega)⟩ [0, 1, 2, 3, 4, 5, 6, 7, 8, 9, 10] [] rfl rfl (by decide) (by decide) (by decide) (ci := 4) rfl rfl rfl (Nat.le_of_ble_eq_true rfl) dL_isBest_178 rfl (fun r_ u_78 H1 locs1 hp_79 hP1 hD1 hS1 hz1 => ?_)
                  obtain ⟨rr_80, P1_81, Q1_82, M1_83, kk1_84, f1_85, l1_86, b1_87, t1_88, x1_89, y1_90⟩ := u_78
                  try dsimp only at hp_79 hP1 hD1
                  obtain ⟨rfl, hpo_91, hbb_92⟩ := hp_79
                  generalize H1 = H at hP1 hD1 hS1 hz1 ⊢
                  generalize locs1 = locs at hS1 ⊢
                  have hS := hS1
                  have hP : va_P G.1 vwCl [(h0, .inr (4, [.ref qs, .int (zI 1), .ref hr, .ref hc, .ref hk])), zcq G qs 8 SF, (h1, .inr (3, [.ref qa, .ref qb, .ref qc, .ref qe, .int (zI (k : Int))])), zci G qa 10 fa, zci G qb 10 fb, zci G qc 10 fc, zci G qe 10 fe, (hr, .inr (2, [.ref ra, .ref rb, .ref rc, .int (zI kk1_84), .int (zI f1_85), .int (zI l1_86), .int (zI b1_87), .int (zI t1_88), .int (zI x1_89), .int (zI y1_90)])), zci G ra 10 P1_81, zci G rb 10 Q1_82, zci G rc 10 M1_83] H := hP1
                  have hD : va_D A [(h0, .inr (4, [.ref qs, .int (zI 1), .ref hr, .ref hc, .ref hk])), zcq G qs 8 SF, (h1, .inr (3, [.ref qa, .ref qb, .ref qc, .ref qe, .int (zI (k : Int))])), zci G qa 10 fa, zci G qb 10 fb, zci G qc 10 fc, zci G qe 10 fe, (hr, .inr (2, [.ref ra, .ref rb, .ref rc, .int (zI kk1_84), .int (zI f1_85), .int (zI l1_86), .int (zI b1_87), .int (zI t1_88), .int (zI x1_89), .int (zI y1_90)])), zci G ra 10 P1_81, zci G rb 10 Q1_82, zci G rc 10 M1_83] := hD1
                  have ho := zbest_opp hbe.1 hb.1 hb.2 hbb_92
                  have hob := zbest_rb I (by omega) (by omega) hbb_92
                  refine zv_iload S dL_isBest_181 (lv_at hl 4 rfl) ?_
                  refine zv_ineg S dL_isBest_183 ?_
                  refine zv_icmp_lt (tgt := 203) S (by unfold zR; omega) (by unfold zR; omega) dL_isBest_184 (by decide) (fun c_93 => ?_) (fun c_93 => ?_)
                  · exact absurd c_93 (by omega)
                  · refine zv_aload_n S dL_isBest_187 rfl (lv_at hl 5 rfl) ?_
                    refine zv_iconst S dL_isBest_188 ?_
                    refine zv_iload_n S dL_isBest_189 rfl (lv_at hl 7 rfl) ?_
                    refine zv_iconst S dL_isBest_190 ?_
                    refine zv_iconst S dL_isBest_191 ?_
                    refine zv_iconst S dL_isBest_192 ?_
                    refine zcp_Vi (As := [.int (zI 0), .int (zI lt), .int (zI 0), .int (zI 0), .int (zI 0)]) (rest := []) (wr := []) (n := 5) S hN hK (hE0.kept hS.2.1) hP hD hS hA hl (n_X4_best l hl0 G H.size h0 qs hr hc hk SF h1 qa qb qc qe fa fb fc fe k ra rb rc P1_81 Q1_82 M1_83 kk1_84 f1_85 l1_86 b1_87 t1_88 x1_89 y1_90 lt 0 0 0 hsf I (by unfold zbok; omega) hne) gL_isBest_X4_best rfl ⟨rfl, rfl⟩ (by decide +kernel) rfl ⟨Nat.le_of_ble_eq_true rfl, Nat.le_of_ble_eq_true rfl, (show (cc + 7) + 7 ≤ 200 by omega), (show (ss + 42) + 42 ≤ 1200 by omega)⟩ [0, 1, 2, 3, 4, 5, 6, 7, 8, 9, 10] [] rfl rfl (by decide) (by decide) (by decide) (ci := 4) rfl rfl rfl (Nat.le_of_ble_eq_true rfl) dL_isBest_193 rfl (fun r_ u_94 H1 locs1 hp_95 hP1 hD1 hS1 hz1 => ?_)
                    obtain ⟨rr_96, P1_97, Q1_98, M1_99, kk1_100, f1_101, l1_102, b1_103, t1_104, x1_105, y1_106⟩ := u_94
                    try dsimp only at hp_95 hP1 hD1
                    obtain ⟨rfl, hpo_107, hbb_108⟩ := hp_95
                    generalize H1 = H at hP1 hD1 hS1 hz1 ⊢
                    generalize locs1 = locs at hS1 ⊢
                    have hS := hS1
                    have hP : va_P G.1 vwCl [(h0, .inr (4, [.ref qs, .int (zI 1), .ref hr, .ref hc, .ref hk])), zcq G qs 8 SF, (h1, .inr (3, [.ref qa, .ref qb, .ref qc, .ref qe, .int (zI (k : Int))])), zci G qa 10 fa, zci G qb 10 fb, zci G qc 10 fc, zci G qe 10 fe, (hr, .inr (2, [.ref ra, .ref rb, .ref rc, .int (zI kk1_100), .int (zI f1_101), .int (zI l1_102), .int (zI b1_103), .int (zI t1_104), .int (zI x1_105), .int (zI y1_106)])), zci G ra 10 P1_97, zci G rb 10 Q1_98, zci G rc 10 M1_99] H := hP1
                    have hD : va_D A [(h0, .inr (4, [.ref qs, .int (zI 1), .ref hr, .ref hc, .ref hk])), zcq G qs 8 SF, (h1, .inr (3, [.ref qa, .ref qb, .ref qc, .ref qe, .int (zI (k : Int))])), zci G qa 10 fa, zci G qb 10 fb, zci G qc 10 fc, zci G qe 10 fe, (hr, .inr (2, [.ref ra, .ref rb, .ref rc, .int (zI kk1_100), .int (zI f1_101), .int (zI l1_102), .int (zI b1_103), .int (zI t1_104), .int (zI x1_105), .int (zI y1_106)])), zci G ra 10 P1_97, zci G rb 10 Q1_98, zci G rc 10 M1_99] := hD1
                    have h00 := zbest_00 hbb_108
                    refine zv_if_ne (tgt := 203) S (by unfold zR; omega) dL_isBest_196 (by decide) (fun c_109 => ?_) (fun c_109 => ?_)
                    · exact absurd h00 c_109
                    · refine zv_iconst S dL_isBest_199 ?_
                      refine zv_goto (tgt := 204) S dL_isBest_200 (by decide) ?_
                      refine W.widen (k := 200) (n := 1200) (by omega) (by omega) ?_
                      exact hret _ _ _ _ _ ⟨P1_97, Q1_98, M1_99, kk1_100, f1_101, l1_102, b1_103, t1_104, x1_105, y1_106⟩ dL_isBest_204 (by first | exact Or.inl rfl | exact Or.inr rfl) rfl (hP.sub [0, 1, 2, 3, 4, 5, 6, 7, 8, 9, 10] rfl) (hD.sub [0, 1, 2, 3, 4, 5, 6, 7, 8, 9, 10] (by decide) rfl) hS
              · refine zv_iload S dL_isBest_101 (lv_at hl 1 rfl) ?_
                refine zv_if_eq (tgt := 155) S (by unfold zR; omega) dL_isBest_103 (by decide) (fun c_110 => ?_) (fun c_110 => ?_)
                · exact absurd c_110 (by omega)
                · have hin := zin_law hbe.1 (show v9.toNat < k by omega)
                  have hib := zinq_b I (show v9.toNat < k by omega) hb.1 hb.2 hlt
                  refine zv_aload_n S dL_isBest_106 rfl (lv_at hl 5 rfl) ?_
                  refine zv_iconst S dL_isBest_107 ?_
                  refine zv_iload S dL_isBest_108 (lv_at hl 0 rfl) ?_
                  refine zv_iconst S dL_isBest_110 ?_
                  refine zcp_Vi (As := [.int (zI 0), .int (zI v9), .int (zI 0)]) (rest := []) (wr := [(hr, .inr (2, [.ref ra, .ref rb, .ref rc, .int (zI kk1_67), .int (zI f1_68), .int (zI l1_69), .int (zI b1_70), .int (zI t1_71), .int (zI x1_72), .int (zI y1_73)])), zci G ra 10 P1_64, zci G rb 10 Q1_65, zci G rc 10 M1_66]) (n := 3) S hN hK (hE0.kept hS.2.1) hP hD hS hA hl (n_X4_inequality l hl0 G H.size h0 qs hr hc hk SF h1 qa qb qc qe fa fb fc fe k v9 0 hsf (by omega) (by omega) (by omega)) gL_isBest_X4_inequality rfl ⟨rfl, rfl⟩ (by decide +kernel) rfl ⟨Nat.le_of_ble_eq_true rfl, Nat.le_of_ble_eq_true rfl, (show cc + 3 ≤ 200 by omega), (show ss + 18 ≤ 1200 by omega)⟩ [0, 1, 2, 3, 4, 5, 6] [7, 8, 9, 10] rfl rfl (by decide) (by decide) (by decide) (ci := 4) rfl rfl rfl (Nat.le_of_ble_eq_true rfl) dL_isBest_111 rfl (fun r_ u_111 H1 locs1 hp_112 hP1 hD1 hS1 hz1 => ?_)
                  try dsimp only at hp_112 hP1 hD1
                  obtain ⟨rfl, hpo_113⟩ := hp_112
                  generalize H1 = H at hP1 hD1 hS1 hz1 ⊢
                  generalize locs1 = locs at hS1 ⊢
                  have hS := hS1
                  have hP : va_P G.1 vwCl [(hr, .inr (2, [.ref ra, .ref rb, .ref rc, .int (zI kk1_67), .int (zI f1_68), .int (zI l1_69), .int (zI b1_70), .int (zI t1_71), .int (zI x1_72), .int (zI y1_73)])), zci G ra 10 P1_64, zci G rb 10 Q1_65, zci G rc 10 M1_66, (h0, .inr (4, [.ref qs, .int (zI 1), .ref hr, .ref hc, .ref hk])), zcq G qs 8 SF, (h1, .inr (3, [.ref qa, .ref qb, .ref qc, .ref qe, .int (zI (k : Int))])), zci G qa 10 fa, zci G qb 10 fb, zci G qc 10 fc, zci G qe 10 fe] H := hP1
                  have hD : va_D A [(hr, .inr (2, [.ref ra, .ref rb, .ref rc, .int (zI kk1_67), .int (zI f1_68), .int (zI l1_69), .int (zI b1_70), .int (zI t1_71), .int (zI x1_72), .int (zI y1_73)])), zci G ra 10 P1_64, zci G rb 10 Q1_65, zci G rc 10 M1_66, (h0, .inr (4, [.ref qs, .int (zI 1), .ref hr, .ref hc, .ref hk])), zcq G qs 8 SF, (h1, .inr (3, [.ref qa, .ref qb, .ref qc, .ref qe, .int (zI (k : Int))])), zci G qa 10 fa, zci G qb 10 fb, zci G qc 10 fc, zci G qe 10 fe] := hD1
                  have hP : va_P G.1 vwCl [(h0, .inr (4, [.ref qs, .int (zI 1), .ref hr, .ref hc, .ref hk])), zcq G qs 8 SF, (h1, .inr (3, [.ref qa, .ref qb, .ref qc, .ref qe, .int (zI (k : Int))])), zci G qa 10 fa, zci G qb 10 fb, zci G qc 10 fc, zci G qe 10 fe, (hr, .inr (2, [.ref ra, .ref rb, .ref rc, .int (zI kk1_67), .int (zI f1_68), .int (zI l1_69), .int (zI b1_70), .int (zI t1_71), .int (zI x1_72), .int (zI y1_73)])), zci G ra 10 P1_64, zci G rb 10 Q1_65, zci G rc 10 M1_66] H := hP.sub [4, 5, 6, 7, 8, 9, 10, 0, 1, 2, 3] rfl
                  have hD : va_D A [(h0, .inr (4, [.ref qs, .int (zI 1), .ref hr, .ref hc, .ref hk])), zcq G qs 8 SF, (h1, .inr (3, [.ref qa, .ref qb, .ref qc, .ref qe, .int (zI (k : Int))])), zci G qa 10 fa, zci G qb 10 fb, zci G qc 10 fc, zci G qe 10 fe, (hr, .inr (2, [.ref ra, .ref rb, .ref rc, .int (zI kk1_67), .int (zI f1_68), .int (zI l1_69), .int (zI b1_70), .int (zI t1_71), .int (zI x1_72), .int (zI y1_73)])), zci G ra 10 P1_64, zci G rb 10 Q1_65, zci G rc 10 M1_66] := hD.sub [4, 5, 6, 7, 8, 9, 10, 0, 1, 2, 3] (by decide) rfl
                  rw [zpart_0]
                  refine zv_iload S dL_isBest_114 (lv_at hl 3 rfl) ?_
                  refine zv_imul S dL_isBest_116 ?_
                  refine zv_aload_n S dL_isBest_117 rfl (lv_at hl 5 rfl) ?_
                  refine zv_iconst S dL_isBest_118 ?_
                  refine zv_iload S dL_isBest_119 (lv_at hl 0 rfl) ?_
                  refine zv_iconst S dL_isBest_121 ?_
                  refine zcp_Vi (As := [.int (zI 0), .int (zI v9), .int (zI 1)]) (rest := [.int (zI ((fa v9.toNat) * bx))]) (wr := [(hr, .inr (2, [.ref ra, .ref rb, .ref rc, .int (zI kk1_67), .int (zI f1_68), .int (zI l1_69), .int (zI b1_70), .int (zI t1_71), .int (zI x1_72), .int (zI y1_73)])), zci G ra 10 P1_64, zci G rb 10 Q1_65, zci G rc 10 M1_66]) (n := 3) S hN hK (hE0.kept hS.2.1) hP hD hS hA hl (n_X4_inequality l hl0 G H.size h0 qs hr hc hk SF h1 qa qb qc qe fa fb fc fe k v9 1 hsf (by omega) (by omega) (by omega)) gL_isBest_X4_inequality rfl ⟨rfl, rfl⟩ (by decide +kernel) rfl ⟨Nat.le_of_ble_eq_true rfl, Nat.le_of_ble_eq_true rfl, (show (cc + 3) + 3 ≤ 200 by omega), (show (ss + 18) + 18 ≤ 1200 by omega)⟩ [0, 1, 2, 3, 4, 5, 6] [7, 8, 9, 10] rfl rfl (by decide) (by decide) (by decide) (ci := 4) rfl rfl rfl (Nat.le_of_ble_eq_true rfl) dL_isBest_122 rfl (fun r_ u_114 H1 locs1 hp_115 hP1 hD1 hS1 hz1 => ?_)
                  try dsimp only at hp_115 hP1 hD1
                  obtain ⟨rfl, hpo_116⟩ := hp_115
                  generalize H1 = H at hP1 hD1 hS1 hz1 ⊢
                  generalize locs1 = locs at hS1 ⊢
                  have hS := hS1
                  have hP : va_P G.1 vwCl [(hr, .inr (2, [.ref ra, .ref rb, .ref rc, .int (zI kk1_67), .int (zI f1_68), .int (zI l1_69), .int (zI b1_70), .int (zI t1_71), .int (zI x1_72), .int (zI y1_73)])), zci G ra 10 P1_64, zci G rb 10 Q1_65, zci G rc 10 M1_66, (h0, .inr (4, [.ref qs, .int (zI 1), .ref hr, .ref hc, .ref hk])), zcq G qs 8 SF, (h1, .inr (3, [.ref qa, .ref qb, .ref qc, .ref qe, .int (zI (k : Int))])), zci G qa 10 fa, zci G qb 10 fb, zci G qc 10 fc, zci G qe 10 fe] H := hP1
                  have hD : va_D A [(hr, .inr (2, [.ref ra, .ref rb, .ref rc, .int (zI kk1_67), .int (zI f1_68), .int (zI l1_69), .int (zI b1_70), .int (zI t1_71), .int (zI x1_72), .int (zI y1_73)])), zci G ra 10 P1_64, zci G rb 10 Q1_65, zci G rc 10 M1_66, (h0, .inr (4, [.ref qs, .int (zI 1), .ref hr, .ref hc, .ref hk])), zcq G qs 8 SF, (h1, .inr (3, [.ref qa, .ref qb, .ref qc, .ref qe, .int (zI (k : Int))])), zci G qa 10 fa, zci G qb 10 fb, zci G qc 10 fc, zci G qe 10 fe] := hD1
                  have hP : va_P G.1 vwCl [(h0, .inr (4, [.ref qs, .int (zI 1), .ref hr, .ref hc, .ref hk])), zcq G qs 8 SF, (h1, .inr (3, [.ref qa, .ref qb, .ref qc, .ref qe, .int (zI (k : Int))])), zci G qa 10 fa, zci G qb 10 fb, zci G qc 10 fc, zci G qe 10 fe, (hr, .inr (2, [.ref ra, .ref rb, .ref rc, .int (zI kk1_67), .int (zI f1_68), .int (zI l1_69), .int (zI b1_70), .int (zI t1_71), .int (zI x1_72), .int (zI y1_73)])), zci G ra 10 P1_64, zci G rb 10 Q1_65, zci G rc 10 M1_66] H := hP.sub [4, 5, 6, 7, 8, 9, 10, 0, 1, 2, 3] rfl
                  have hD : va_D A [(h0, .inr (4, [.ref qs, .int (zI 1), .ref hr, .ref hc, .ref hk])), zcq G qs 8 SF, (h1, .inr (3, [.ref qa, .ref qb, .ref qc, .ref qe, .int (zI (k : Int))])), zci G qa 10 fa, zci G qb 10 fb, zci G qc 10 fc, zci G qe 10 fe, (hr, .inr (2, [.ref ra, .ref rb, .ref rc, .int (zI kk1_67), .int (zI f1_68), .int (zI l1_69), .int (zI b1_70), .int (zI t1_71), .int (zI x1_72), .int (zI y1_73)])), zci G ra 10 P1_64, zci G rb 10 Q1_65, zci G rc 10 M1_66] := hD.sub [4, 5, 6, 7, 8, 9, 10, 0, 1, 2, 3] (by decide) rfl
                  rw [zpart_1]
                  refine zv_iload S dL_isBest_125 (lv_at hl 2 rfl) ?_
                  refine zv_imul S dL_isBest_127 ?_
                  refine zv_iadd S dL_isBest_128 ?_
                  refine zv_aload_n S dL_isBest_129 rfl (lv_at hl 5 rfl) ?_
                  refine zv_iconst S dL_isBest_130 ?_
                  refine zv_iload S dL_isBest_131 (lv_at hl 0 rfl) ?_
                  refine zv_iconst S dL_isBest_133 ?_
                  refine zcp_Vi (As := [.int (zI 0), .int (zI v9), .int (zI 2)]) (rest := [.int (zI (((fa v9.toNat) * bx) + ((fb v9.toNat) * bY)))]) (wr := [(hr, .inr (2, [.ref ra, .ref rb, .ref rc, .int (zI kk1_67), .int (zI f1_68), .int (zI l1_69), .int (zI b1_70), .int (zI t1_71), .int (zI x1_72), .int (zI y1_73)])), zci G ra 10 P1_64, zci G rb 10 Q1_65, zci G rc 10 M1_66]) (n := 3) S hN hK (hE0.kept hS.2.1) hP hD hS hA hl (n_X4_inequality l hl0 G H.size h0 qs hr hc hk SF h1 qa qb qc qe fa fb fc fe k v9 2 hsf (by omega) (by omega) (by omega)) gL_isBest_X4_inequality rfl ⟨rfl, rfl⟩ (by decide +kernel) rfl ⟨Nat.le_of_ble_eq_true rfl, Nat.le_of_ble_eq_true rfl, (show (cc + 6) + 3 ≤ 200 by omega), (show (ss + 36) + 18 ≤ 1200 by omega)⟩ [0, 1, 2, 3, 4, 5, 6] [7, 8, 9, 10] rfl rfl (by decide) (by decide) (by decide) (ci := 4) rfl rfl rfl (Nat.le_of_ble_eq_true rfl) dL_isBest_134 rfl (fun r_ u_117 H1 locs1 hp_118 hP1 hD1 hS1 hz1 => ?_)
                  try dsimp only at hp_118 hP1 hD1
                  obtain ⟨rfl, hpo_119⟩ := hp_118
                  generalize H1 = H at hP1 hD1 hS1 hz1 ⊢
                  generalize locs1 = locs at hS1 ⊢
                  have hS := hS1
                  have hP : va_P G.1 vwCl [(hr, .inr (2, [.ref ra, .ref rb, .ref rc, .int (zI kk1_67), .int (zI f1_68), .int (zI l1_69), .int (zI b1_70), .int (zI t1_71), .int (zI x1_72), .int (zI y1_73)])), zci G ra 10 P1_64, zci G rb 10 Q1_65, zci G rc 10 M1_66, (h0, .inr (4, [.ref qs, .int (zI 1), .ref hr, .ref hc, .ref hk])), zcq G qs 8 SF, (h1, .inr (3, [.ref qa, .ref qb, .ref qc, .ref qe, .int (zI (k : Int))])), zci G qa 10 fa, zci G qb 10 fb, zci G qc 10 fc, zci G qe 10 fe] H := hP1
                  have hD : va_D A [(hr, .inr (2, [.ref ra, .ref rb, .ref rc, .int (zI kk1_67), .int (zI f1_68), .int (zI l1_69), .int (zI b1_70), .int (zI t1_71), .int (zI x1_72), .int (zI y1_73)])), zci G ra 10 P1_64, zci G rb 10 Q1_65, zci G rc 10 M1_66, (h0, .inr (4, [.ref qs, .int (zI 1), .ref hr, .ref hc, .ref hk])), zcq G qs 8 SF, (h1, .inr (3, [.ref qa, .ref qb, .ref qc, .ref qe, .int (zI (k : Int))])), zci G qa 10 fa, zci G qb 10 fb, zci G qc 10 fc, zci G qe 10 fe] := hD1
                  have hP : va_P G.1 vwCl [(h0, .inr (4, [.ref qs, .int (zI 1), .ref hr, .ref hc, .ref hk])), zcq G qs 8 SF, (h1, .inr (3, [.ref qa, .ref qb, .ref qc, .ref qe, .int (zI (k : Int))])), zci G qa 10 fa, zci G qb 10 fb, zci G qc 10 fc, zci G qe 10 fe, (hr, .inr (2, [.ref ra, .ref rb, .ref rc, .int (zI kk1_67), .int (zI f1_68), .int (zI l1_69), .int (zI b1_70), .int (zI t1_71), .int (zI x1_72), .int (zI y1_73)])), zci G ra 10 P1_64, zci G rb 10 Q1_65, zci G rc 10 M1_66] H := hP.sub [4, 5, 6, 7, 8, 9, 10, 0, 1, 2, 3] rfl
                  have hD : va_D A [(h0, .inr (4, [.ref qs, .int (zI 1), .ref hr, .ref hc, .ref hk])), zcq G qs 8 SF, (h1, .inr (3, [.ref qa, .ref qb, .ref qc, .ref qe, .int (zI (k : Int))])), zci G qa 10 fa, zci G qb 10 fb, zci G qc 10 fc, zci G qe 10 fe, (hr, .inr (2, [.ref ra, .ref rb, .ref rc, .int (zI kk1_67), .int (zI f1_68), .int (zI l1_69), .int (zI b1_70), .int (zI t1_71), .int (zI x1_72), .int (zI y1_73)])), zci G ra 10 P1_64, zci G rb 10 Q1_65, zci G rc 10 M1_66] := hD.sub [4, 5, 6, 7, 8, 9, 10, 0, 1, 2, 3] (by decide) rfl
                  rw [zpart_2]
                  refine zv_aload_n S dL_isBest_137 rfl (lv_at hl 5 rfl) ?_
                  refine zv_iconst S dL_isBest_138 ?_
                  refine zv_iload S dL_isBest_139 (lv_at hl 0 rfl) ?_
                  refine zv_iconst S dL_isBest_141 ?_
                  refine zcp_Vi (As := [.int (zI 0), .int (zI v9), .int (zI 3)]) (rest := [.int (zI (fc v9.toNat)), .int (zI (((fa v9.toNat) * bx) + ((fb v9.toNat) * bY)))]) (wr := [(hr, .inr (2, [.ref ra, .ref rb, .ref rc, .int (zI kk1_67), .int (zI f1_68), .int (zI l1_69), .int (zI b1_70), .int (zI t1_71), .int (zI x1_72), .int (zI y1_73)])), zci G ra 10 P1_64, zci G rb 10 Q1_65, zci G rc 10 M1_66]) (n := 3) S hN hK (hE0.kept hS.2.1) hP hD hS hA hl (n_X4_inequality l hl0 G H.size h0 qs hr hc hk SF h1 qa qb qc qe fa fb fc fe k v9 3 hsf (by omega) (by omega) (by omega)) gL_isBest_X4_inequality rfl ⟨rfl, rfl⟩ (by decide +kernel) rfl ⟨Nat.le_of_ble_eq_true rfl, Nat.le_of_ble_eq_true rfl, (show (cc + 9) + 3 ≤ 200 by omega), (show (ss + 54) + 18 ≤ 1200 by omega)⟩ [0, 1, 2, 3, 4, 5, 6] [7, 8, 9, 10] rfl rfl (by decide) (by decide) (by decide) (ci := 4) rfl rfl rfl (Nat.le_of_ble_eq_true rfl) dL_isBest_142 rfl (fun r_ u_120 H1 locs1 hp_121 hP1 hD1 hS1 hz1 => ?_)
                  try dsimp only at hp_121 hP1 hD1
                  obtain ⟨rfl, hpo_122⟩ := hp_121
                  generalize H1 = H at hP1 hD1 hS1 hz1 ⊢
                  generalize locs1 = locs at hS1 ⊢
                  have hS := hS1
                  have hP : va_P G.1 vwCl [(hr, .inr (2, [.ref ra, .ref rb, .ref rc, .int (zI kk1_67), .int (zI f1_68), .int (zI l1_69), .int (zI b1_70), .int (zI t1_71), .int (zI x1_72), .int (zI y1_73)])), zci G ra 10 P1_64, zci G rb 10 Q1_65, zci G rc 10 M1_66, (h0, .inr (4, [.ref qs, .int (zI 1), .ref hr, .ref hc, .ref hk])), zcq G qs 8 SF, (h1, .inr (3, [.ref qa, .ref qb, .ref qc, .ref qe, .int (zI (k : Int))])), zci G qa 10 fa, zci G qb 10 fb, zci G qc 10 fc, zci G qe 10 fe] H := hP1
                  have hD : va_D A [(hr, .inr (2, [.ref ra, .ref rb, .ref rc, .int (zI kk1_67), .int (zI f1_68), .int (zI l1_69), .int (zI b1_70), .int (zI t1_71), .int (zI x1_72), .int (zI y1_73)])), zci G ra 10 P1_64, zci G rb 10 Q1_65, zci G rc 10 M1_66, (h0, .inr (4, [.ref qs, .int (zI 1), .ref hr, .ref hc, .ref hk])), zcq G qs 8 SF, (h1, .inr (3, [.ref qa, .ref qb, .ref qc, .ref qe, .int (zI (k : Int))])), zci G qa 10 fa, zci G qb 10 fb, zci G qc 10 fc, zci G qe 10 fe] := hD1
                  have hP : va_P G.1 vwCl [(h0, .inr (4, [.ref qs, .int (zI 1), .ref hr, .ref hc, .ref hk])), zcq G qs 8 SF, (h1, .inr (3, [.ref qa, .ref qb, .ref qc, .ref qe, .int (zI (k : Int))])), zci G qa 10 fa, zci G qb 10 fb, zci G qc 10 fc, zci G qe 10 fe, (hr, .inr (2, [.ref ra, .ref rb, .ref rc, .int (zI kk1_67), .int (zI f1_68), .int (zI l1_69), .int (zI b1_70), .int (zI t1_71), .int (zI x1_72), .int (zI y1_73)])), zci G ra 10 P1_64, zci G rb 10 Q1_65, zci G rc 10 M1_66] H := hP.sub [4, 5, 6, 7, 8, 9, 10, 0, 1, 2, 3] rfl
                  have hD : va_D A [(h0, .inr (4, [.ref qs, .int (zI 1), .ref hr, .ref hc, .ref hk])), zcq G qs 8 SF, (h1, .inr (3, [.ref qa, .ref qb, .ref qc, .ref qe, .int (zI (k : Int))])), zci G qa 10 fa, zci G qb 10 fb, zci G qc 10 fc, zci G qe 10 fe, (hr, .inr (2, [.ref ra, .ref rb, .ref rc, .int (zI kk1_67), .int (zI f1_68), .int (zI l1_69), .int (zI b1_70), .int (zI t1_71), .int (zI x1_72), .int (zI y1_73)])), zci G ra 10 P1_64, zci G rb 10 Q1_65, zci G rc 10 M1_66] := hD.sub [4, 5, 6, 7, 8, 9, 10, 0, 1, 2, 3] (by decide) rfl
                  rw [zpart_3]
                  refine zv_iload_n S dL_isBest_145 rfl (lv_at hl 7 rfl) ?_
                  refine zv_imul S dL_isBest_146 ?_
                  refine zv_iadd S dL_isBest_147 ?_
                  refine zv_icmp_gt (tgt := 155) S (by unfold zR; omega) (by unfold zR; omega) dL_isBest_148 (by decide) (fun c_123 => ?_) (fun c_123 => ?_)
                  · exact absurd c_123 (by omega)
                  · refine zv_iconst S dL_isBest_151 ?_
                    refine zv_goto (tgt := 156) S dL_isBest_152 (by decide) ?_
                    refine zv_istore (lv' := [(8, .int (zI 1)), (9, .int (zI v9)), (7, .int (zI bY)), (6, .int (zI bx)), (5, .int (zI kr_3)), (0, .ref h0), (1, .int (zI mn)), (2, .int (zI lt)), (3, .int (zI pp)), (4, .int (zI qq))]) S dL_isBest_156 hl (by decide) rfl (fun ls hl => ?_)
                    refine zv_iinc (k0 := 1) (lv' := [(9, .int (zI (v9 + 1))), (8, .int (zI 1)), (7, .int (zI bY)), (6, .int (zI bx)), (5, .int (zI kr_3)), (0, .ref h0), (1, .int (zI mn)), (2, .int (zI lt)), (3, .int (zI pp)), (4, .int (zI qq))]) S dL_isBest_158 hl rfl (by decide) rfl (fun ls hl => ?_)
                    refine zv_goto (tgt := 95) S dL_isBest_161 (by decide) ?_
                    refine W.widen (k := (cc + 12)) (n := (ss + 72)) (by omega) (by omega) ?_
                    exact ih95 (i + 1) (v9 + 1) (cc + 12) (ss + 72) (by omega) (by omega) (by omega) (by omega) (by omega) _ _ hP hD hS _ (lv_sub hl [0, 1, 2, 3, 4, 5, 6, 7, 8, 9] rfl)
          exact LP95 _ 0 0 24 144 (by omega) (by omega) (by omega) (by omega) (Nat.lt_succ_self _) _ _ hP hD hS _ (lv_sub hl [0, 1, 2, 3, 4, 5, 6, 7, 8, 9] rfl)
    · exact absurd c_30 (by omega)

set_option maxHeartbeats 4000000 in
set_option maxRecDepth 100000 in
/-- the law: isCone -/
theorem c_L_isCone (l : Launch) (hl0 : l.stackTraces = false) (G : zG) (sz : Nat) (h0 : Nat) (qs : Nat) (sc : Int) (hr : Nat) (hc : Nat) (hk : Nat) (qv : Nat) (fx : Int) (fy : Int) (lx : Int) (ly : Int) (tn : Int) (ar : Int) (wx : Int) (wy : Int) (L0 : Nat → Int) (x : Int) (y : Int) (v : Int) (w : Int) (hx1 : -20 ≤ x ∧ x ≤ 20) (hx2 : -20 ≤ y ∧ y ≤ 20) (hx3 : -20 ≤ v ∧ v ≤ 20) (hx4 : -20 ≤ w ∧ w ≤ 20) : Met l yL_isCone wsL_isCone ({ frames := 9, cells := 27000, slots := 160000, locals := 162 }) (va_Pc [.ref h0, .int (zI x), .int (zI y), .int (zI v), .int (zI w)] (zPx G sz [(h0, .inr (4, [.ref qs, .int (zI sc), .ref hr, .ref hc, .ref hk])), (hc, .inr (1, [.ref qv, .int (zI fx), .int (zI fy), .int (zI lx), .int (zI ly), .int (zI tn), .int (zI ar), .int (zI wx), .int (zI wy)])), zci G qv 801 L0])) (va_Qi (fun (r : Int32) (u : (Int) × (Int) × (Int) × (Int) × (Int) × (Int) × (Int) × (Int) × (Nat → Int)) => r = zI 1) (fun u => zW G (va_A [(h0, .inr (4, [.ref qs, .int (zI sc), .ref hr, .ref hc, .ref hk])), (hc, .inr (1, [.ref qv, .int (zI fx), .int (zI fy), .int (zI lx), .int (zI ly), .int (zI tn), .int (zI ar), .int (zI wx), .int (zI wy)])), zci G qv 801 L0] sz) ((fun (u : (Int) × (Int) × (Int) × (Int) × (Int) × (Int) × (Int) × (Int) × (Nat → Int)) => [(h0, .inr (4, [.ref qs, .int (zI sc), .ref hr, .ref hc, .ref hk])), (hc, .inr (1, [.ref qv, .int (zI u.1), .int (zI u.2.1), .int (zI u.2.2.1), .int (zI u.2.2.2.1), .int (zI u.2.2.2.2.1), .int (zI u.2.2.2.2.2.1), .int (zI u.2.2.2.2.2.2.1), .int (zI u.2.2.2.2.2.2.2.1)])), zci G qv 801 u.2.2.2.2.2.2.2.2]) u)) (va_A [(h0, .inr (4, [.ref qs, .int (zI sc), .ref hr, .ref hc, .ref hk])), (hc, .inr (1, [.ref qv, .int (zI fx), .int (zI fy), .int (zI lx), .int (zI ly), .int (zI tn), .int (zI ar), .int (zI wx), .int (zI wy)])), zci G qv 801 L0] sz)) 27000 160000 (va_A [(h0, .inr (4, [.ref qs, .int (zI sc), .ref hr, .ref hc, .ref hk])), (hc, .inr (1, [.ref qv, .int (zI fx), .int (zI fy), .int (zI lx), .int (zI ly), .int (zI tn), .int (zI ar), .int (zI wx), .int (zI wy)])), zci G qv 801 L0] sz) := by
  refine zMp_z (post := fun (r : Int32) (u : (Int) × (Int) × (Int) × (Int) × (Int) × (Int) × (Int) × (Int) × (Nat → Int)) => r = zI 1) (w1 := fun (u : (Int) × (Int) × (Int) × (Int) × (Int) × (Int) × (Int) × (Int) × (Nat → Int)) => [(h0, .inr (4, [.ref qs, .int (zI sc), .ref hr, .ref hc, .ref hk])), (hc, .inr (1, [.ref qv, .int (zI u.1), .int (zI u.2.1), .int (zI u.2.2.1), .int (zI u.2.2.2.1), .int (zI u.2.2.2.2.1), .int (zI u.2.2.2.2.2.1), .int (zI u.2.2.2.2.2.2.1), .int (zI u.2.2.2.2.2.2.2.1)])), zci G qv 801 u.2.2.2.2.2.2.2.2]) (plainFor_of_name (by decide)) rfl (Nat.le_of_ble_eq_true rfl) ?_
  intro p e s m below meth c A Q S hN hK hP hD hS hA hE0 hret ls hl
  have hl : lv_has ls 16 [(0, .ref h0), (1, .int (zI x)), (2, .int (zI y)), (3, .int (zI v)), (4, .int (zI w))] := hl
  have mb1 := zmulb (a := x) (b := w) (A := 20) (B := 20) hx1.1 hx1.2 hx4.1 hx4.2
  have mb2 := zmulb (a := y) (b := v) (A := 20) (B := 20) hx2.1 hx2.2 hx3.1 hx3.2
  refine zv_iload_n S dL_isCone_0 rfl (lv_at hl 1 rfl) ?_
  refine zv_iload S dL_isCone_1 (lv_at hl 4 rfl) ?_
  refine zv_imul S dL_isCone_3 ?_
  refine zv_iload_n S dL_isCone_4 rfl (lv_at hl 2 rfl) ?_
  refine zv_iload_n S dL_isCone_5 rfl (lv_at hl 3 rfl) ?_
  refine zv_imul S dL_isCone_6 ?_
  refine zv_icmp_ne (tgt := 12) S (by unfold zR; omega) (by unfold zR; omega) dL_isCone_7 (by decide) (fun c_1 => ?_) (fun c_1 => ?_)
  · have hcm : zcnm x y v w := ⟨hx1, hx2, hx3, hx4, c_1⟩
    obtain ⟨GX, GY, gk, hg⟩ := zgen_all hcm
    obtain ⟨dx, dy, ex, ey, tg, aa, hz, hzb⟩ := zcone_all hcm
    obtain ⟨hs1, hs2, hs3, hs4⟩ := zgen_sum hcm hg hz
    obtain ⟨hw1, hw2, hw3, hw4, hw5⟩ := zcone_law hz
    obtain ⟨hsg0, har⟩ := zcone_sign hz
    have ha8 := zcone_ar hz hzb.1 hzb.2.1 hzb.2.2.1 hzb.2.2.2
    have hbox := zgen_box hcm hg
    have hgk := zgenK_b hg
    have hg1 := zg2_pos (zcnm_nz hcm).1
    have hg2 := zg2_pos (zcnm_nz hcm).2
    have hl1 := zg2_le (zcnm_nz hcm).1 hx1 hx2
    have hl2 := zg2_le (zcnm_nz hcm).2 hx3 hx4
    have md1 := zmulb (a := dx) (b := ey) (A := 20) (B := 20) hzb.1.1 hzb.1.2 hzb.2.2.2.1 hzb.2.2.2.2
    have md2 := zmulb (a := dy) (b := ex) (A := 20) (B := 20) hzb.2.1.1 hzb.2.1.2 hzb.2.2.1.1 hzb.2.2.1.2
    refine zv_aload_n S dL_isCone_12 rfl (lv_at hl 0 rfl) ?_
    refine zv_iload_n S dL_isCone_13 rfl (lv_at hl 1 rfl) ?_
    refine zv_iload_n S dL_isCone_14 rfl (lv_at hl 2 rfl) ?_
    refine zv_iload_n S dL_isCone_15 rfl (lv_at hl 3 rfl) ?_
    refine zv_iload S dL_isCone_16 (lv_at hl 4 rfl) ?_
    refine zv_iconst S dL_isCone_18 ?_
    refine zv_iconst S dL_isCone_19 ?_
    refine zcp_Vi (As := [.int (zI x), .int (zI y), .int (zI v), .int (zI w), .int (zI (-1)), .int (zI 1)]) (rest := []) (wr := []) (n := 6) S hN hK (hE0.kept hS.2.1) hP hD hS hA hl (n_X4_generator l hl0 G s.heap.size h0 qs sc hr hc hk qv fx fy lx ly tn ar wx wy L0 x y v w (-1) 1 GX GY gk hcm hg (by omega) (by omega) (Or.inr rfl)) gL_isCone_X4_generator rfl ⟨rfl, rfl⟩ (by decide +kernel) rfl ⟨Nat.le_of_ble_eq_true rfl, Nat.le_of_ble_eq_true rfl, Nat.le_of_ble_eq_true rfl, Nat.le_of_ble_eq_true rfl⟩ [0, 1, 2] [] rfl rfl (by decide) (by decide) (by decide) (ci := 4) rfl rfl rfl (Nat.le_of_ble_eq_true rfl) dL_isCone_20 rfl (fun r_ u_2 H1 locs1 hp_3 hP1 hD1 hS1 hz1 => ?_)
    obtain ⟨rr_4, n1_5, n2_6, n3_7, n4_8, n5_9, n6_10, n7_11, n8_12, L1_13⟩ := u_2
    try dsimp only at hp_3 hP1 hD1
    obtain ⟨rfl, hpo_14, hlk_15, hgr_16⟩ := hp_3
    generalize H1 = H at hP1 hD1 hS1 hz1 ⊢
    generalize locs1 = locs at hS1 ⊢
    have hS := hS1
    have hP : va_P G.1 vwCl [(h0, .inr (4, [.ref qs, .int (zI sc), .ref hr, .ref hc, .ref hk])), (hc, .inr (1, [.ref qv, .int (zI n1_5), .int (zI n2_6), .int (zI n3_7), .int (zI n4_8), .int (zI n5_9), .int (zI n6_10), .int (zI n7_11), .int (zI n8_12)])), zci G qv 801 L1_13] H := hP1
    have hD : va_D A [(h0, .inr (4, [.ref qs, .int (zI sc), .ref hr, .ref hc, .ref hk])), (hc, .inr (1, [.ref qv, .int (zI n1_5), .int (zI n2_6), .int (zI n3_7), .int (zI n4_8), .int (zI n5_9), .int (zI n6_10), .int (zI n7_11), .int (zI n8_12)])), zci G qv 801 L1_13] := hD1
    rw [zgen_res hcm hg hpo_14.1 hlk_15 hgr_16, zgv_n]
    refine zv_istore (lv' := [(5, .int (zI ((gk : Int) + 2))), (0, .ref h0), (1, .int (zI x)), (2, .int (zI y)), (3, .int (zI v)), (4, .int (zI w))]) S dL_isCone_23 hl (by decide) rfl (fun ls hl => ?_)
    refine zv_iload_n S dL_isCone_25 rfl (lv_at hl 2 rfl) ?_
    refine zv_iload_n S dL_isCone_26 rfl (lv_at hl 3 rfl) ?_
    refine zc_Si (As := [.int (zI x), .int (zI y)]) (rest := []) (wr := [(h0, .inr (4, [.ref qs, .int (zI sc), .ref hr, .ref hc, .ref hk])), (hc, .inr (1, [.ref qv, .int (zI n1_5), .int (zI n2_6), .int (zI n3_7), .int (zI n4_8), .int (zI n5_9), .int (zI n6_10), .int (zI n7_11), .int (zI n8_12)])), zci G qv 801 L1_13]) (n := 2) S hN hK hP hD hS hA hl (c_L_common l G H.size x y (by omega) (by omega)) gL_isCone_L_common rfl ⟨rfl, rfl⟩ (by decide +kernel) rfl ⟨Nat.le_of_ble_eq_true rfl, Nat.le_of_ble_eq_true rfl, Nat.le_of_ble_eq_true rfl, Nat.le_of_ble_eq_true rfl⟩ [] [0, 1, 2] rfl rfl (by decide) (by decide) (by decide) (Nat.le_of_ble_eq_true rfl) dL_isCone_27 rfl (fun r_ u_17 H1 locs1 hp_18 hP1 hD1 hS1 hz1 => ?_)
    try dsimp only at hp_18 hP1 hD1
    subst hp_18
    generalize H1 = H at hP1 hD1 hS1 hz1 ⊢
    generalize locs1 = locs at hS1 ⊢
    have hS := hS1
    have hP : va_P G.1 vwCl [(h0, .inr (4, [.ref qs, .int (zI sc), .ref hr, .ref hc, .ref hk])), (hc, .inr (1, [.ref qv, .int (zI n1_5), .int (zI n2_6), .int (zI n3_7), .int (zI n4_8), .int (zI n5_9), .int (zI n6_10), .int (zI n7_11), .int (zI n8_12)])), zci G qv 801 L1_13] H := hP1
    have hD : va_D A [(h0, .inr (4, [.ref qs, .int (zI sc), .ref hr, .ref hc, .ref hk])), (hc, .inr (1, [.ref qv, .int (zI n1_5), .int (zI n2_6), .int (zI n3_7), .int (zI n4_8), .int (zI n5_9), .int (zI n6_10), .int (zI n7_11), .int (zI n8_12)])), zci G qv 801 L1_13] := hD1
    refine zv_istore (lv' := [(6, .int (zI (zg2 x y))), (5, .int (zI ((gk : Int) + 2))), (0, .ref h0), (1, .int (zI x)), (2, .int (zI y)), (3, .int (zI v)), (4, .int (zI w))]) S dL_isCone_30 hl (by decide) rfl (fun ls hl => ?_)
    refine zv_iload_n S dL_isCone_32 rfl (lv_at hl 5 rfl) ?_
    refine zv_iload S dL_isCone_33 (lv_at hl 6 rfl) ?_
    refine zc_Si (As := [.int (zI v), .int (zI w)]) (rest := []) (wr := [(h0, .inr (4, [.ref qs, .int (zI sc), .ref hr, .ref hc, .ref hk])), (hc, .inr (1, [.ref qv, .int (zI n1_5), .int (zI n2_6), .int (zI n3_7), .int (zI n4_8), .int (zI n5_9), .int (zI n6_10), .int (zI n7_11), .int (zI n8_12)])), zci G qv 801 L1_13]) (n := 2) S hN hK hP hD hS hA hl (c_L_common l G H.size v w (by omega) (by omega)) gL_isCone_L_common rfl ⟨rfl, rfl⟩ (by decide +kernel) rfl ⟨Nat.le_of_ble_eq_true rfl, Nat.le_of_ble_eq_true rfl, Nat.le_of_ble_eq_true rfl, Nat.le_of_ble_eq_true rfl⟩ [] [0, 1, 2] rfl rfl (by decide) (by decide) (by decide) (Nat.le_of_ble_eq_true rfl) dL_isCone_35 rfl (fun r_ u_19 H1 locs1 hp_20 hP1 hD1 hS1 hz1 => ?_)
    try dsimp only at hp_20 hP1 hD1
    subst hp_20
    generalize H1 = H at hP1 hD1 hS1 hz1 ⊢
    generalize locs1 = locs at hS1 ⊢
    have hS := hS1
    have hP : va_P G.1 vwCl [(h0, .inr (4, [.ref qs, .int (zI sc), .ref hr, .ref hc, .ref hk])), (hc, .inr (1, [.ref qv, .int (zI n1_5), .int (zI n2_6), .int (zI n3_7), .int (zI n4_8), .int (zI n5_9), .int (zI n6_10), .int (zI n7_11), .int (zI n8_12)])), zci G qv 801 L1_13] H := hP1
    have hD : va_D A [(h0, .inr (4, [.ref qs, .int (zI sc), .ref hr, .ref hc, .ref hk])), (hc, .inr (1, [.ref qv, .int (zI n1_5), .int (zI n2_6), .int (zI n3_7), .int (zI n4_8), .int (zI n5_9), .int (zI n6_10), .int (zI n7_11), .int (zI n8_12)])), zci G qv 801 L1_13] := hD1
    refine zv_istore (lv' := [(7, .int (zI (zg2 v w))), (6, .int (zI (zg2 x y))), (5, .int (zI ((gk : Int) + 2))), (0, .ref h0), (1, .int (zI x)), (2, .int (zI y)), (3, .int (zI v)), (4, .int (zI w))]) S dL_isCone_38 hl (by decide) rfl (fun ls hl => ?_)
    refine zv_iload_n S dL_isCone_40 rfl (lv_at hl 4 rfl) ?_
    refine zv_iload S dL_isCone_41 (lv_at hl 7 rfl) ?_
    refine zv_imul S dL_isCone_43 ?_
    refine zv_iload_n S dL_isCone_44 rfl (lv_at hl 5 rfl) ?_
    refine zv_iload_n S dL_isCone_45 rfl (lv_at hl 6 rfl) ?_
    refine zv_imul S dL_isCone_46 ?_
    refine zv_isub S dL_isCone_47 ?_
    refine zv_iload S dL_isCone_48 (lv_at hl 1 rfl) ?_
    refine zv_idiv S (by unfold zR; omega) (by unfold zR; omega) (by omega) (by omega) dL_isCone_50 ?_
    refine zv_iload S dL_isCone_51 (lv_at hl 0 rfl) ?_
    refine zv_idiv S (by have q := ztdivb (y := zg2 x y) (show -800 ≤ x * w - y * v by omega) (show x * w - y * v ≤ 800 by omega); unfold zR; omega) (by unfold zR; omega) (by omega) (by omega) dL_isCone_53 ?_
    rw [hw5]
    refine zv_istore (lv' := [(8, .int (zI (dx * ey - dy * ex))), (7, .int (zI (zg2 v w))), (6, .int (zI (zg2 x y))), (5, .int (zI ((gk : Int) + 2))), (0, .ref h0), (1, .int (zI x)), (2, .int (zI y)), (3, .int (zI v)), (4, .int (zI w))]) S dL_isCone_54 hl (by decide) rfl (fun ls hl => ?_)
    have JN66 : ∀ (sg : Int) (hsg : sg = tg) (H : Heap) (locs : List Loc), va_P G.1 vwCl [(h0, .inr (4, [.ref qs, .int (zI sc), .ref hr, .ref hc, .ref hk])), (hc, .inr (1, [.ref qv, .int (zI n1_5), .int (zI n2_6), .int (zI n3_7), .int (zI n4_8), .int (zI n5_9), .int (zI n6_10), .int (zI n7_11), .int (zI n8_12)])), zci G qv 801 L1_13] H → va_D A [(h0, .inr (4, [.ref qs, .int (zI sc), .ref hr, .ref hc, .ref hk])), (hc, .inr (1, [.ref qv, .int (zI n1_5), .int (zI n2_6), .int (zI n3_7), .int (zI n4_8), .int (zI n5_9), .int (zI n6_10), .int (zI n7_11), .int (zI n8_12)])), zci G qv 801 L1_13] → va_S A s.heap H locs → ∀ ls : Array Slot, lv_has ls 16 [(8, .int (zI (dx * ey - dy * ex))), (7, .int (zI (zg2 v w))), (6, .int (zI (zg2 x y))), (5, .int (zI ((gk : Int) + 2))), (0, .ref h0), (1, .int (zI x)), (2, .int (zI y)), (3, .int (zI v)), (4, .int (zI w))] → W p l e ({ frames := 9, cells := 27000, slots := 160000, locals := 162 }) s m ([.ref h0, .int (zI x), .int (zI y), .int (zI v), .int (zI w)]).toArray below meth c H locs 7 42 Q (F0 m 66 ls [.int (zI sg)]) := by
      intro sg hsg H locs hP hD hS ls hl
      refine zv_istore (lv' := [(9, .int (zI sg)), (8, .int (zI (dx * ey - dy * ex))), (7, .int (zI (zg2 v w))), (6, .int (zI (zg2 x y))), (5, .int (zI ((gk : Int) + 2))), (0, .ref h0), (1, .int (zI x)), (2, .int (zI y)), (3, .int (zI v)), (4, .int (zI w))]) S dL_isCone_66 hl (by decide) rfl (fun ls hl => ?_)
      refine zv_iload S dL_isCone_68 (lv_at hl 4 rfl) ?_
      refine zv_iconst S dL_isCone_70 ?_
      refine zv_icmp_lt (tgt := 190) S (by unfold zR; omega) (by unfold zR; omega) dL_isCone_71 (by decide) (fun c_21 => ?_) (fun c_21 => ?_)
      · exact absurd c_21 (by omega)
      · refine zv_aload_n S dL_isCone_74 rfl (lv_at hl 5 rfl) ?_
        refine zv_iload_n S dL_isCone_75 rfl (lv_at hl 6 rfl) ?_
        refine zv_iload_n S dL_isCone_76 rfl (lv_at hl 7 rfl) ?_
        refine zv_iload_n S dL_isCone_77 rfl (lv_at hl 8 rfl) ?_
        refine zv_iload S dL_isCone_78 (lv_at hl 9 rfl) ?_
        refine zcp_Vi (As := [.int (zI x), .int (zI y), .int (zI v), .int (zI w)]) (rest := []) (wr := [zci G qv 801 L1_13]) (n := 4) S hN hK (hE0.kept hS.2.1) hP hD hS hA hl (n_X4_index l hl0 G H.size h0 qs sc hr hc hk qv n1_5 n2_6 n3_7 n4_8 n5_9 n6_10 n7_11 n8_12 x y v w hcm) gL_isCone_X4_index rfl ⟨rfl, rfl⟩ (by decide +kernel) rfl ⟨Nat.le_of_ble_eq_true rfl, Nat.le_of_ble_eq_true rfl, Nat.le_of_ble_eq_true rfl, Nat.le_of_ble_eq_true rfl⟩ [0, 1] [2] rfl rfl (by decide) (by decide) (by decide) (ci := 4) rfl rfl rfl (Nat.le_of_ble_eq_true rfl) dL_isCone_80 rfl (fun r_ u_22 H1 locs1 hp_23 hP1 hD1 hS1 hz1 => ?_)
        obtain ⟨n1_24, n2_25, n3_26, n4_27, n5_28, n6_29⟩ := u_22
        try dsimp only at hp_23 hP1 hD1
        obtain ⟨rfl, hcm_30, hcz_31⟩ := hp_23
        generalize H1 = H at hP1 hD1 hS1 hz1 ⊢
        generalize locs1 = locs at hS1 ⊢
        have hS := hS1
        have hP : va_P G.1 vwCl [zci G qv 801 L1_13, (h0, .inr (4, [.ref qs, .int (zI sc), .ref hr, .ref hc, .ref hk])), (hc, .inr (1, [.ref qv, .int (zI n1_24), .int (zI n2_25), .int (zI n3_26), .int (zI n4_27), .int (zI n5_28), .int (zI n6_29), .int (zI n7_11), .int (zI n8_12)]))] H := hP1
        have hD : va_D A [zci G qv 801 L1_13, (h0, .inr (4, [.ref qs, .int (zI sc), .ref hr, .ref hc, .ref hk])), (hc, .inr (1, [.ref qv, .int (zI n1_24), .int (zI n2_25), .int (zI n3_26), .int (zI n4_27), .int (zI n5_28), .int (zI n6_29), .int (zI n7_11), .int (zI n8_12)]))] := hD1
        have hP : va_P G.1 vwCl [(h0, .inr (4, [.ref qs, .int (zI sc), .ref hr, .ref hc, .ref hk])), (hc, .inr (1, [.ref qv, .int (zI n1_24), .int (zI n2_25), .int (zI n3_26), .int (zI n4_27), .int (zI n5_28), .int (zI n6_29), .int (zI n7_11), .int (zI n8_12)])), zci G qv 801 L1_13] H := hP.sub [1, 2, 0] rfl
        have hD : va_D A [(h0, .inr (4, [.ref qs, .int (zI sc), .ref hr, .ref hc, .ref hk])), (hc, .inr (1, [.ref qv, .int (zI n1_24), .int (zI n2_25), .int (zI n3_26), .int (zI n4_27), .int (zI n5_28), .int (zI n6_29), .int (zI n7_11), .int (zI n8_12)])), zci G qv 801 L1_13] := hD.sub [1, 2, 0] (by decide) rfl
        have hix := (zcone_un hcz_31 hz).2.2.2.2.2
        rw [hix]
        refine zv_iload S dL_isCone_83 (lv_at hl 0 rfl) ?_
        refine zv_iload S dL_isCone_85 (lv_at hl 1 rfl) ?_
        refine zv_imul S dL_isCone_87 ?_
        have hsa : sg * (dx * ey - dy * ex) = aa := by rw [hsg]; exact har.symm
        refine zv_icmp_ne (tgt := 190) S (by unfold zR; omega) (by unfold zR; omega) dL_isCone_88 (by decide) (fun c_32 => ?_) (fun c_32 => ?_)
        · exact absurd hsa.symm c_32
        · refine zv_aload_n S dL_isCone_91 rfl (lv_at hl 5 rfl) ?_
          refine zv_iload_n S dL_isCone_92 rfl (lv_at hl 6 rfl) ?_
          refine zv_iload_n S dL_isCone_93 rfl (lv_at hl 7 rfl) ?_
          refine zv_iload_n S dL_isCone_94 rfl (lv_at hl 8 rfl) ?_
          refine zv_iload S dL_isCone_95 (lv_at hl 9 rfl) ?_
          refine zv_iconst S dL_isCone_97 ?_
          refine zv_iconst S dL_isCone_98 ?_
          refine zcp_Vi (As := [.int (zI x), .int (zI y), .int (zI v), .int (zI w), .int (zI (-1)), .int (zI 0)]) (rest := []) (wr := [zci G qv 801 L1_13]) (n := 6) S hN hK (hE0.kept hS.2.1) hP hD hS hA hl (n_X4_generatorAnew l hl0 G H.size h0 qs sc hr hc hk qv n1_24 n2_25 n3_26 n4_27 n5_28 n6_29 n7_11 n8_12 x y v w (-1) 0 GX GY gk hcm hg (by omega) (by omega) (Or.inl rfl)) gL_isCone_X4_generatorAnew rfl ⟨rfl, rfl⟩ (by decide +kernel) rfl ⟨Nat.le_of_ble_eq_true rfl, Nat.le_of_ble_eq_true rfl, Nat.le_of_ble_eq_true rfl, Nat.le_of_ble_eq_true rfl⟩ [0, 1] [2] rfl rfl (by decide) (by decide) (by decide) (ci := 4) rfl rfl rfl (Nat.le_of_ble_eq_true rfl) dL_isCone_99 rfl (fun r_ u_33 H1 locs1 hp_34 hP1 hD1 hS1 hz1 => ?_)
          obtain ⟨rr_35, n1_36, n2_37, n3_38, n4_39, n5_40, n6_41, n7_42, n8_43, X_44, T_45, N_46⟩ := u_33
          try dsimp only at hp_34 hP1 hD1
          obtain ⟨rfl, hpo_47, hlk_48, hgr_49⟩ := hp_34
          generalize H1 = H at hP1 hD1 hS1 hz1 ⊢
          generalize locs1 = locs at hS1 ⊢
          have hS := hS1
          have hP : va_P G.1 vwCl [zci G qv 801 L1_13, (h0, .inr (4, [.ref qs, .int (zI sc), .ref hr, .ref hc, .ref hk])), (hc, .inr (1, [.ref qv, .int (zI n1_36), .int (zI n2_37), .int (zI n3_38), .int (zI n4_39), .int (zI n5_40), .int (zI n6_41), .int (zI n7_42), .int (zI n8_43)]))] H := hP1
          have hD : va_D A [zci G qv 801 L1_13, (h0, .inr (4, [.ref qs, .int (zI sc), .ref hr, .ref hc, .ref hk])), (hc, .inr (1, [.ref qv, .int (zI n1_36), .int (zI n2_37), .int (zI n3_38), .int (zI n4_39), .int (zI n5_40), .int (zI n6_41), .int (zI n7_42), .int (zI n8_43)]))] := hD1
          have hP : va_P G.1 vwCl [(h0, .inr (4, [.ref qs, .int (zI sc), .ref hr, .ref hc, .ref hk])), (hc, .inr (1, [.ref qv, .int (zI n1_36), .int (zI n2_37), .int (zI n3_38), .int (zI n4_39), .int (zI n5_40), .int (zI n6_41), .int (zI n7_42), .int (zI n8_43)])), zci G qv 801 L1_13] H := hP.sub [1, 2, 0] rfl
          have hD : va_D A [(h0, .inr (4, [.ref qs, .int (zI sc), .ref hr, .ref hc, .ref hk])), (hc, .inr (1, [.ref qv, .int (zI n1_36), .int (zI n2_37), .int (zI n3_38), .int (zI n4_39), .int (zI n5_40), .int (zI n6_41), .int (zI n7_42), .int (zI n8_43)])), zci G qv 801 L1_13] := hD.sub [1, 2, 0] (by decide) rfl
          rw [zgan_res hcm hg hpo_47.1 hlk_48 hgr_49, zgv_n]
          refine zv_iload S dL_isCone_102 (lv_at hl 4 rfl) ?_
          refine zv_icmp_ne (tgt := 190) S (by unfold zR; omega) (by unfold zR; omega) dL_isCone_104 (by decide) (fun c_50 => ?_) (fun c_50 => ?_)
          · exact absurd rfl c_50
          · refine zv_aload_n S dL_isCone_107 rfl (lv_at hl 5 rfl) ?_
            refine zv_iload_n S dL_isCone_108 rfl (lv_at hl 6 rfl) ?_
            refine zv_iload_n S dL_isCone_109 rfl (lv_at hl 7 rfl) ?_
            refine zv_iload_n S dL_isCone_110 rfl (lv_at hl 8 rfl) ?_
            refine zv_iload S dL_isCone_111 (lv_at hl 9 rfl) ?_
            refine zv_iconst S dL_isCone_113 ?_
            refine zv_iconst S dL_isCone_114 ?_
            refine zcp_Vi (As := [.int (zI x), .int (zI y), .int (zI v), .int (zI w), .int (zI 0), .int (zI 1)]) (rest := []) (wr := []) (n := 6) S hN hK (hE0.kept hS.2.1) hP hD hS hA hl (n_X4_generator l hl0 G H.size h0 qs sc hr hc hk qv n1_36 n2_37 n3_38 n4_39 n5_40 n6_41 n7_42 n8_43 L1_13 x y v w 0 1 GX GY gk hcm hg (by omega) (by omega) (Or.inr rfl)) gL_isCone_X4_generator rfl ⟨rfl, rfl⟩ (by decide +kernel) rfl ⟨Nat.le_of_ble_eq_true rfl, Nat.le_of_ble_eq_true rfl, Nat.le_of_ble_eq_true rfl, Nat.le_of_ble_eq_true rfl⟩ [0, 1, 2] [] rfl rfl (by decide) (by decide) (by decide) (ci := 4) rfl rfl rfl (Nat.le_of_ble_eq_true rfl) dL_isCone_115 rfl (fun r_ u_51 H1 locs1 hp_52 hP1 hD1 hS1 hz1 => ?_)
            obtain ⟨rr_53, n1_54, n2_55, n3_56, n4_57, n5_58, n6_59, n7_60, n8_61, L1_62⟩ := u_51
            try dsimp only at hp_52 hP1 hD1
            obtain ⟨rfl, hpo_63, hlk_64, hgr_65⟩ := hp_52
            generalize H1 = H at hP1 hD1 hS1 hz1 ⊢
            generalize locs1 = locs at hS1 ⊢
            have hS := hS1
            have hP : va_P G.1 vwCl [(h0, .inr (4, [.ref qs, .int (zI sc), .ref hr, .ref hc, .ref hk])), (hc, .inr (1, [.ref qv, .int (zI n1_54), .int (zI n2_55), .int (zI n3_56), .int (zI n4_57), .int (zI n5_58), .int (zI n6_59), .int (zI n7_60), .int (zI n8_61)])), zci G qv 801 L1_62] H := hP1
            have hD : va_D A [(h0, .inr (4, [.ref qs, .int (zI sc), .ref hr, .ref hc, .ref hk])), (hc, .inr (1, [.ref qv, .int (zI n1_54), .int (zI n2_55), .int (zI n3_56), .int (zI n4_57), .int (zI n5_58), .int (zI n6_59), .int (zI n7_60), .int (zI n8_61)])), zci G qv 801 L1_62] := hD1
            rw [zgen_res hcm hg hpo_63.1 hlk_64 hgr_65, zgv_1 (by omega), show GX (0 : Int).toNat = dx from hs1.1]
            refine zv_iload_n S dL_isCone_118 rfl (lv_at hl 6 rfl) ?_
            refine zv_iload S dL_isCone_119 (lv_at hl 3 rfl) ?_
            refine zv_idiv S (by unfold zR; omega) (by unfold zR; omega) (by omega) (by omega) dL_isCone_121 ?_
            rw [hw1]
            refine zv_icmp_ne (tgt := 190) S (by unfold zR; omega) (by unfold zR; omega) dL_isCone_122 (by decide) (fun c_66 => ?_) (fun c_66 => ?_)
            · exact absurd rfl c_66
            · refine zv_aload_n S dL_isCone_125 rfl (lv_at hl 5 rfl) ?_
              refine zv_iload_n S dL_isCone_126 rfl (lv_at hl 6 rfl) ?_
              refine zv_iload_n S dL_isCone_127 rfl (lv_at hl 7 rfl) ?_
              refine zv_iload_n S dL_isCone_128 rfl (lv_at hl 8 rfl) ?_
              refine zv_iload S dL_isCone_129 (lv_at hl 9 rfl) ?_
              refine zv_iconst S dL_isCone_131 ?_
              refine zv_iconst S dL_isCone_132 ?_
              refine zcp_Vi (As := [.int (zI x), .int (zI y), .int (zI v), .int (zI w), .int (zI 0), .int (zI 0)]) (rest := []) (wr := []) (n := 6) S hN hK (hE0.kept hS.2.1) hP hD hS hA hl (n_X4_generator l hl0 G H.size h0 qs sc hr hc hk qv n1_54 n2_55 n3_56 n4_57 n5_58 n6_59 n7_60 n8_61 L1_62 x y v w 0 0 GX GY gk hcm hg (by omega) (by omega) (Or.inl rfl)) gL_isCone_X4_generator rfl ⟨rfl, rfl⟩ (by decide +kernel) rfl ⟨Nat.le_of_ble_eq_true rfl, Nat.le_of_ble_eq_true rfl, Nat.le_of_ble_eq_true rfl, Nat.le_of_ble_eq_true rfl⟩ [0, 1, 2] [] rfl rfl (by decide) (by decide) (by decide) (ci := 4) rfl rfl rfl (Nat.le_of_ble_eq_true rfl) dL_isCone_133 rfl (fun r_ u_67 H1 locs1 hp_68 hP1 hD1 hS1 hz1 => ?_)
              obtain ⟨rr_69, n1_70, n2_71, n3_72, n4_73, n5_74, n6_75, n7_76, n8_77, L1_78⟩ := u_67
              try dsimp only at hp_68 hP1 hD1
              obtain ⟨rfl, hpo_79, hlk_80, hgr_81⟩ := hp_68
              generalize H1 = H at hP1 hD1 hS1 hz1 ⊢
              generalize locs1 = locs at hS1 ⊢
              have hS := hS1
              have hP : va_P G.1 vwCl [(h0, .inr (4, [.ref qs, .int (zI sc), .ref hr, .ref hc, .ref hk])), (hc, .inr (1, [.ref qv, .int (zI n1_70), .int (zI n2_71), .int (zI n3_72), .int (zI n4_73), .int (zI n5_74), .int (zI n6_75), .int (zI n7_76), .int (zI n8_77)])), zci G qv 801 L1_78] H := hP1
              have hD : va_D A [(h0, .inr (4, [.ref qs, .int (zI sc), .ref hr, .ref hc, .ref hk])), (hc, .inr (1, [.ref qv, .int (zI n1_70), .int (zI n2_71), .int (zI n3_72), .int (zI n4_73), .int (zI n5_74), .int (zI n6_75), .int (zI n7_76), .int (zI n8_77)])), zci G qv 801 L1_78] := hD1
              rw [zgen_res hcm hg hpo_79.1 hlk_80 hgr_81, zgv_0 (by omega), show GY (0 : Int).toNat = dy from hs1.2]
              refine zv_iload_n S dL_isCone_136 rfl (lv_at hl 7 rfl) ?_
              refine zv_iload S dL_isCone_137 (lv_at hl 3 rfl) ?_
              refine zv_idiv S (by unfold zR; omega) (by unfold zR; omega) (by omega) (by omega) dL_isCone_139 ?_
              rw [hw2]
              refine zv_icmp_ne (tgt := 190) S (by unfold zR; omega) (by unfold zR; omega) dL_isCone_140 (by decide) (fun c_82 => ?_) (fun c_82 => ?_)
              · exact absurd rfl c_82
              · refine zv_aload_n S dL_isCone_143 rfl (lv_at hl 5 rfl) ?_
                refine zv_iload_n S dL_isCone_144 rfl (lv_at hl 6 rfl) ?_
                refine zv_iload_n S dL_isCone_145 rfl (lv_at hl 7 rfl) ?_
                refine zv_iload_n S dL_isCone_146 rfl (lv_at hl 8 rfl) ?_
                refine zv_iload S dL_isCone_147 (lv_at hl 9 rfl) ?_
                refine zv_iload S dL_isCone_149 (lv_at hl 4 rfl) ?_
                refine zv_iconst S dL_isCone_151 ?_
                refine zv_isub S dL_isCone_152 ?_
                refine zv_iconst S dL_isCone_153 ?_
                refine zcp_Vi (As := [.int (zI x), .int (zI y), .int (zI v), .int (zI w), .int (zI (((gk : Int) + 2) - 1)), .int (zI 1)]) (rest := []) (wr := []) (n := 6) S hN hK (hE0.kept hS.2.1) hP hD hS hA hl (n_X4_generator l hl0 G H.size h0 qs sc hr hc hk qv n1_70 n2_71 n3_72 n4_73 n5_74 n6_75 n7_76 n8_77 L1_78 x y v w (((gk : Int) + 2) - 1) 1 GX GY gk hcm hg (by omega) (by omega) (Or.inr rfl)) gL_isCone_X4_generator rfl ⟨rfl, rfl⟩ (by decide +kernel) rfl ⟨Nat.le_of_ble_eq_true rfl, Nat.le_of_ble_eq_true rfl, Nat.le_of_ble_eq_true rfl, Nat.le_of_ble_eq_true rfl⟩ [0, 1, 2] [] rfl rfl (by decide) (by decide) (by decide) (ci := 4) rfl rfl rfl (Nat.le_of_ble_eq_true rfl) dL_isCone_154 rfl (fun r_ u_83 H1 locs1 hp_84 hP1 hD1 hS1 hz1 => ?_)
                obtain ⟨rr_85, n1_86, n2_87, n3_88, n4_89, n5_90, n6_91, n7_92, n8_93, L1_94⟩ := u_83
                try dsimp only at hp_84 hP1 hD1
                obtain ⟨rfl, hpo_95, hlk_96, hgr_97⟩ := hp_84
                generalize H1 = H at hP1 hD1 hS1 hz1 ⊢
                generalize locs1 = locs at hS1 ⊢
                have hS := hS1
                have hP : va_P G.1 vwCl [(h0, .inr (4, [.ref qs, .int (zI sc), .ref hr, .ref hc, .ref hk])), (hc, .inr (1, [.ref qv, .int (zI n1_86), .int (zI n2_87), .int (zI n3_88), .int (zI n4_89), .int (zI n5_90), .int (zI n6_91), .int (zI n7_92), .int (zI n8_93)])), zci G qv 801 L1_94] H := hP1
                have hD : va_D A [(h0, .inr (4, [.ref qs, .int (zI sc), .ref hr, .ref hc, .ref hk])), (hc, .inr (1, [.ref qv, .int (zI n1_86), .int (zI n2_87), .int (zI n3_88), .int (zI n4_89), .int (zI n5_90), .int (zI n6_91), .int (zI n7_92), .int (zI n8_93)])), zci G qv 801 L1_94] := hD1
                rw [zgen_res hcm hg hpo_95.1 hlk_96 hgr_97, zgv_1 (by omega), show GX ((gk : Int) + 2 - 1).toNat = ex from (by rw [show ((gk : Int) + 2 - 1).toNat = gk + 1 by omega]; exact hs2.1)]
                refine zv_iload_n S dL_isCone_157 rfl (lv_at hl 8 rfl) ?_
                refine zv_iload S dL_isCone_158 (lv_at hl 2 rfl) ?_
                refine zv_idiv S (by unfold zR; omega) (by unfold zR; omega) (by omega) (by omega) dL_isCone_160 ?_
                rw [hw3]
                refine zv_icmp_ne (tgt := 190) S (by unfold zR; omega) (by unfold zR; omega) dL_isCone_161 (by decide) (fun c_98 => ?_) (fun c_98 => ?_)
                · exact absurd rfl c_98
                · refine zv_aload_n S dL_isCone_164 rfl (lv_at hl 5 rfl) ?_
                  refine zv_iload_n S dL_isCone_165 rfl (lv_at hl 6 rfl) ?_
                  refine zv_iload_n S dL_isCone_166 rfl (lv_at hl 7 rfl) ?_
                  refine zv_iload_n S dL_isCone_167 rfl (lv_at hl 8 rfl) ?_
                  refine zv_iload S dL_isCone_168 (lv_at hl 9 rfl) ?_
                  refine zv_iload S dL_isCone_170 (lv_at hl 4 rfl) ?_
                  refine zv_iconst S dL_isCone_172 ?_
                  refine zv_isub S dL_isCone_173 ?_
                  refine zv_iconst S dL_isCone_174 ?_
                  refine zcp_Vi (As := [.int (zI x), .int (zI y), .int (zI v), .int (zI w), .int (zI (((gk : Int) + 2) - 1)), .int (zI 0)]) (rest := []) (wr := []) (n := 6) S hN hK (hE0.kept hS.2.1) hP hD hS hA hl (n_X4_generator l hl0 G H.size h0 qs sc hr hc hk qv n1_86 n2_87 n3_88 n4_89 n5_90 n6_91 n7_92 n8_93 L1_94 x y v w (((gk : Int) + 2) - 1) 0 GX GY gk hcm hg (by omega) (by omega) (Or.inl rfl)) gL_isCone_X4_generator rfl ⟨rfl, rfl⟩ (by decide +kernel) rfl ⟨Nat.le_of_ble_eq_true rfl, Nat.le_of_ble_eq_true rfl, Nat.le_of_ble_eq_true rfl, Nat.le_of_ble_eq_true rfl⟩ [0, 1, 2] [] rfl rfl (by decide) (by decide) (by decide) (ci := 4) rfl rfl rfl (Nat.le_of_ble_eq_true rfl) dL_isCone_175 rfl (fun r_ u_99 H1 locs1 hp_100 hP1 hD1 hS1 hz1 => ?_)
                  obtain ⟨rr_101, n1_102, n2_103, n3_104, n4_105, n5_106, n6_107, n7_108, n8_109, L1_110⟩ := u_99
                  try dsimp only at hp_100 hP1 hD1
                  obtain ⟨rfl, hpo_111, hlk_112, hgr_113⟩ := hp_100
                  generalize H1 = H at hP1 hD1 hS1 hz1 ⊢
                  generalize locs1 = locs at hS1 ⊢
                  have hS := hS1
                  have hP : va_P G.1 vwCl [(h0, .inr (4, [.ref qs, .int (zI sc), .ref hr, .ref hc, .ref hk])), (hc, .inr (1, [.ref qv, .int (zI n1_102), .int (zI n2_103), .int (zI n3_104), .int (zI n4_105), .int (zI n5_106), .int (zI n6_107), .int (zI n7_108), .int (zI n8_109)])), zci G qv 801 L1_110] H := hP1
                  have hD : va_D A [(h0, .inr (4, [.ref qs, .int (zI sc), .ref hr, .ref hc, .ref hk])), (hc, .inr (1, [.ref qv, .int (zI n1_102), .int (zI n2_103), .int (zI n3_104), .int (zI n4_105), .int (zI n5_106), .int (zI n6_107), .int (zI n7_108), .int (zI n8_109)])), zci G qv 801 L1_110] := hD1
                  rw [zgen_res hcm hg hpo_111.1 hlk_112 hgr_113, zgv_0 (by omega), show GY ((gk : Int) + 2 - 1).toNat = ey from (by rw [show ((gk : Int) + 2 - 1).toNat = gk + 1 by omega]; exact hs2.2)]
                  refine zv_iload S dL_isCone_178 (lv_at hl 9 rfl) ?_
                  refine zv_iload S dL_isCone_180 (lv_at hl 2 rfl) ?_
                  refine zv_idiv S (by unfold zR; omega) (by unfold zR; omega) (by omega) (by omega) dL_isCone_182 ?_
                  rw [hw4]
                  refine zv_icmp_ne (tgt := 190) S (by unfold zR; omega) (by unfold zR; omega) dL_isCone_183 (by decide) (fun c_114 => ?_) (fun c_114 => ?_)
                  · exact absurd rfl c_114
                  · refine zv_iconst S dL_isCone_186 ?_
                    refine zv_goto (tgt := 191) S dL_isCone_187 (by decide) ?_
                    refine zv_istore (lv' := [(10, .int (zI 1)), (9, .int (zI sg)), (8, .int (zI (dx * ey - dy * ex))), (7, .int (zI (zg2 v w))), (6, .int (zI (zg2 x y))), (5, .int (zI ((gk : Int) + 2))), (0, .ref h0), (1, .int (zI x)), (2, .int (zI y)), (3, .int (zI v)), (4, .int (zI w))]) S dL_isCone_191 hl (by decide) rfl (fun ls hl => ?_)
                    refine zv_iconst S dL_isCone_193 ?_
                    refine zv_istore (lv' := [(11, .int (zI 0)), (10, .int (zI 1)), (9, .int (zI sg)), (8, .int (zI (dx * ey - dy * ex))), (7, .int (zI (zg2 v w))), (6, .int (zI (zg2 x y))), (5, .int (zI ((gk : Int) + 2))), (0, .ref h0), (1, .int (zI x)), (2, .int (zI y)), (3, .int (zI v)), (4, .int (zI w))]) S dL_isCone_194 hl (by decide) rfl (fun ls hl => ?_)
                    refine zv_iconst S dL_isCone_196 ?_
                    refine zv_istore (lv' := [(12, .int (zI 0)), (11, .int (zI 0)), (10, .int (zI 1)), (9, .int (zI sg)), (8, .int (zI (dx * ey - dy * ex))), (7, .int (zI (zg2 v w))), (6, .int (zI (zg2 x y))), (5, .int (zI ((gk : Int) + 2))), (0, .ref h0), (1, .int (zI x)), (2, .int (zI y)), (3, .int (zI v)), (4, .int (zI w))]) S dL_isCone_197 hl (by decide) rfl (fun ls hl => ?_)
                    refine zv_iconst S dL_isCone_199 ?_
                    refine zv_istore (lv' := [(13, .int (zI 0)), (12, .int (zI 0)), (11, .int (zI 0)), (10, .int (zI 1)), (9, .int (zI sg)), (8, .int (zI (dx * ey - dy * ex))), (7, .int (zI (zg2 v w))), (6, .int (zI (zg2 x y))), (5, .int (zI ((gk : Int) + 2))), (0, .ref h0), (1, .int (zI x)), (2, .int (zI y)), (3, .int (zI v)), (4, .int (zI w))]) S dL_isCone_200 hl (by decide) rfl (fun ls hl => ?_)
                    have LP202 : ∀ (nf : Nat) (i : Nat) (v13 : Int) (aX : Int) (aY : Int) (m1 : Int) (m2 : Int) (m3 : Int) (m4 : Int) (m5 : Int) (m6 : Int) (m7 : Int) (m8 : Int) (LL : Nat → Int) (cc : Nat) (ss : Nat) (hv13 : v13 = (i : Int)) (hik : i ≤ gk + 2) (hah : i = 0 ∨ ∃ j : Nat, i = j + 1 ∧ aX = GX j ∧ aY = GY j) (hcc : cc ≤ 80 + 33 * i) (hss : ss ≤ 480 + 198 * i), (gk + 2 - i) < nf → ∀ (H : Heap) (locs : List Loc), va_P G.1 vwCl [(h0, .inr (4, [.ref qs, .int (zI sc), .ref hr, .ref hc, .ref hk])), (hc, .inr (1, [.ref qv, .int (zI m1), .int (zI m2), .int (zI m3), .int (zI m4), .int (zI m5), .int (zI m6), .int (zI m7), .int (zI m8)])), zci G qv 801 LL] H → va_D A [(h0, .inr (4, [.ref qs, .int (zI sc), .ref hr, .ref hc, .ref hk])), (hc, .inr (1, [.ref qv, .int (zI m1), .int (zI m2), .int (zI m3), .int (zI m4), .int (zI m5), .int (zI m6), .int (zI m7), .int (zI m8)])), zci G qv 801 LL] → va_S A s.heap H locs → ∀ ls : Array Slot, lv_has ls 16 [(13, .int (zI v13)), (12, .int (zI aY)), (11, .int (zI aX)), (10, .int (zI 1)), (9, .int (zI sg)), (8, .int (zI (dx * ey - dy * ex))), (7, .int (zI (zg2 v w))), (6, .int (zI (zg2 x y))), (5, .int (zI ((gk : Int) + 2))), (0, .ref h0), (1, .int (zI x)), (2, .int (zI y)), (3, .int (zI v)), (4, .int (zI w))] → W p l e ({ frames := 9, cells := 27000, slots := 160000, locals := 162 }) s m ([.ref h0, .int (zI x), .int (zI y), .int (zI v), .int (zI w)]).toArray below meth c H locs cc ss Q (F0 m 202 ls []) := by
                      intro nf
                      induction nf with
                      | zero =>
                        intro i v13 aX aY m1 m2 m3 m4 m5 m6 m7 m8 LL cc ss hv13 hik hah hcc hss hf
                        exact absurd hf (Nat.not_lt_zero _)
                      | succ nf ih202 =>
                        intro i v13 aX aY m1 m2 m3 m4 m5 m6 m7 m8 LL cc ss hv13 hik hah hcc hss hf H locs hP hD hS ls hl
                        refine zv_iload S dL_isCone_202 (lv_at hl 0 rfl) ?_
                        refine zv_iload S dL_isCone_204 (lv_at hl 8 rfl) ?_
                        refine zv_icmp_ge (tgt := 336) S (by unfold zR; omega) (by unfold zR; omega) dL_isCone_206 (by decide) (fun c_115 => ?_) (fun c_115 => ?_)
                        · refine zv_iload S dL_isCone_336 (lv_at hl 3 rfl) ?_
                          refine W.widen (k := 27000) (n := 160000) (by omega) (by omega) ?_
                          exact hret _ _ _ _ _ ⟨m1, m2, m3, m4, m5, m6, m7, m8, LL⟩ dL_isCone_338 (by first | exact Or.inl rfl | exact Or.inr rfl) rfl (hP.sub [0, 1, 2] rfl) (hD.sub [0, 1, 2] (by decide) rfl) hS
                        · refine zv_iload S dL_isCone_209 (lv_at hl 3 rfl) ?_
                          refine zv_if_eq (tgt := 336) S (by unfold zR; omega) dL_isCone_211 (by decide) (fun c_116 => ?_) (fun c_116 => ?_)
                          · exact absurd c_116 (by omega)
                          · have hbi := hbox i (by omega)
                            refine zv_aload_n S dL_isCone_214 rfl (lv_at hl 9 rfl) ?_
                            refine zv_iload_n S dL_isCone_215 rfl (lv_at hl 10 rfl) ?_
                            refine zv_iload_n S dL_isCone_216 rfl (lv_at hl 11 rfl) ?_
                            refine zv_iload_n S dL_isCone_217 rfl (lv_at hl 12 rfl) ?_
                            refine zv_iload S dL_isCone_218 (lv_at hl 13 rfl) ?_
                            refine zv_iload S dL_isCone_220 (lv_at hl 0 rfl) ?_
                            refine zv_iconst S dL_isCone_222 ?_
                            refine zcp_Vi (As := [.int (zI x), .int (zI y), .int (zI v), .int (zI w), .int (zI v13), .int (zI 1)]) (rest := []) (wr := []) (n := 6) S hN hK (hE0.kept hS.2.1) hP hD hS hA hl (n_X4_generator l hl0 G H.size h0 qs sc hr hc hk qv m1 m2 m3 m4 m5 m6 m7 m8 LL x y v w v13 1 GX GY gk hcm hg (by omega) (by omega) (Or.inr rfl)) gL_isCone_X4_generator rfl ⟨rfl, rfl⟩ (by decide +kernel) rfl ⟨Nat.le_of_ble_eq_true rfl, Nat.le_of_ble_eq_true rfl, (show cc + 7 ≤ 27000 by omega), (show ss + 42 ≤ 160000 by omega)⟩ [0, 1, 2] [] rfl rfl (by decide) (by decide) (by decide) (ci := 4) rfl rfl rfl (Nat.le_of_ble_eq_true rfl) dL_isCone_223 rfl (fun r_ u_117 H1 locs1 hp_118 hP1 hD1 hS1 hz1 => ?_)
                            obtain ⟨rr_119, n1_120, n2_121, n3_122, n4_123, n5_124, n6_125, n7_126, n8_127, L1_128⟩ := u_117
                            try dsimp only at hp_118 hP1 hD1
                            obtain ⟨rfl, hpo_129, hlk_130, hgr_131⟩ := hp_118
                            generalize H1 = H at hP1 hD1 hS1 hz1 ⊢
                            generalize locs1 = locs at hS1 ⊢
                            have hS := hS1
                            have hP : va_P G.1 vwCl [(h0, .inr (4, [.ref qs, .int (zI sc), .ref hr, .ref hc, .ref hk])), (hc, .inr (1, [.ref qv, .int (zI n1_120), .int (zI n2_121), .int (zI n3_122), .int (zI n4_123), .int (zI n5_124), .int (zI n6_125), .int (zI n7_126), .int (zI n8_127)])), zci G qv 801 L1_128] H := hP1
                            have hD : va_D A [(h0, .inr (4, [.ref qs, .int (zI sc), .ref hr, .ref hc, .ref hk])), (hc, .inr (1, [.ref qv, .int (zI n1_120), .int (zI n2_121), .int (zI n3_122), .int (zI n4_123), .int (zI n5_124), .int (zI n6_125), .int (zI n7_126), .int (zI n8_127)])), zci G qv 801 L1_128] := hD1
                            rw [zgen_res hcm hg hpo_129.1 hlk_130 hgr_131, zgv_1 (by omega), show v13.toNat = i by omega]
                            refine zv_istore (lv' := [(14, .int (zI (GX i))), (13, .int (zI v13)), (12, .int (zI aY)), (11, .int (zI aX)), (10, .int (zI 1)), (9, .int (zI sg)), (8, .int (zI (dx * ey - dy * ex))), (7, .int (zI (zg2 v w))), (6, .int (zI (zg2 x y))), (5, .int (zI ((gk : Int) + 2))), (0, .ref h0), (1, .int (zI x)), (2, .int (zI y)), (3, .int (zI v)), (4, .int (zI w))]) S dL_isCone_226 hl (by decide) rfl (fun ls hl => ?_)
                            refine zv_aload_n S dL_isCone_228 rfl (lv_at hl 10 rfl) ?_
                            refine zv_iload_n S dL_isCone_229 rfl (lv_at hl 11 rfl) ?_
                            refine zv_iload_n S dL_isCone_230 rfl (lv_at hl 12 rfl) ?_
                            refine zv_iload_n S dL_isCone_231 rfl (lv_at hl 13 rfl) ?_
                            refine zv_iload S dL_isCone_232 (lv_at hl 14 rfl) ?_
                            refine zv_iload S dL_isCone_234 (lv_at hl 1 rfl) ?_
                            refine zv_iconst S dL_isCone_236 ?_
                            refine zcp_Vi (As := [.int (zI x), .int (zI y), .int (zI v), .int (zI w), .int (zI v13), .int (zI 0)]) (rest := []) (wr := []) (n := 6) S hN hK (hE0.kept hS.2.1) hP hD hS hA hl (n_X4_generator l hl0 G H.size h0 qs sc hr hc hk qv n1_120 n2_121 n3_122 n4_123 n5_124 n6_125 n7_126 n8_127 L1_128 x y v w v13 0 GX GY gk hcm hg (by omega) (by omega) (Or.inl rfl)) gL_isCone_X4_generator rfl ⟨rfl, rfl⟩ (by decide +kernel) rfl ⟨Nat.le_of_ble_eq_true rfl, Nat.le_of_ble_eq_true rfl, (show (cc + 7) + 7 ≤ 27000 by omega), (show (ss + 42) + 42 ≤ 160000 by omega)⟩ [0, 1, 2] [] rfl rfl (by decide) (by decide) (by decide) (ci := 4) rfl rfl rfl (Nat.le_of_ble_eq_true rfl) dL_isCone_237 rfl (fun r_ u_132 H1 locs1 hp_133 hP1 hD1 hS1 hz1 => ?_)
                            obtain ⟨rr_134, n1_135, n2_136, n3_137, n4_138, n5_139, n6_140, n7_141, n8_142, L1_143⟩ := u_132
                            try dsimp only at hp_133 hP1 hD1
                            obtain ⟨rfl, hpo_144, hlk_145, hgr_146⟩ := hp_133
                            generalize H1 = H at hP1 hD1 hS1 hz1 ⊢
                            generalize locs1 = locs at hS1 ⊢
                            have hS := hS1
                            have hP : va_P G.1 vwCl [(h0, .inr (4, [.ref qs, .int (zI sc), .ref hr, .ref hc, .ref hk])), (hc, .inr (1, [.ref qv, .int (zI n1_135), .int (zI n2_136), .int (zI n3_137), .int (zI n4_138), .int (zI n5_139), .int (zI n6_140), .int (zI n7_141), .int (zI n8_142)])), zci G qv 801 L1_143] H := hP1
                            have hD : va_D A [(h0, .inr (4, [.ref qs, .int (zI sc), .ref hr, .ref hc, .ref hk])), (hc, .inr (1, [.ref qv, .int (zI n1_135), .int (zI n2_136), .int (zI n3_137), .int (zI n4_138), .int (zI n5_139), .int (zI n6_140), .int (zI n7_141), .int (zI n8_142)])), zci G qv 801 L1_143] := hD1
                            rw [zgen_res hcm hg hpo_144.1 hlk_145 hgr_146, zgv_0 (by omega), show v13.toNat = i by omega]
                            refine zv_istore (lv' := [(15, .int (zI (GY i))), (14, .int (zI (GX i))), (13, .int (zI v13)), (12, .int (zI aY)), (11, .int (zI aX)), (10, .int (zI 1)), (9, .int (zI sg)), (8, .int (zI (dx * ey - dy * ex))), (7, .int (zI (zg2 v w))), (6, .int (zI (zg2 x y))), (5, .int (zI ((gk : Int) + 2))), (0, .ref h0), (1, .int (zI x)), (2, .int (zI y)), (3, .int (zI v)), (4, .int (zI w))]) S dL_isCone_240 hl (by decide) rfl (fun ls hl => ?_)
                            refine zv_aload_n S dL_isCone_242 rfl (lv_at hl 11 rfl) ?_
                            refine zv_iload_n S dL_isCone_243 rfl (lv_at hl 12 rfl) ?_
                            refine zv_iload_n S dL_isCone_244 rfl (lv_at hl 13 rfl) ?_
                            refine zv_iload_n S dL_isCone_245 rfl (lv_at hl 14 rfl) ?_
                            refine zv_iload S dL_isCone_246 (lv_at hl 15 rfl) ?_
                            refine zv_iload S dL_isCone_248 (lv_at hl 2 rfl) ?_
                            refine zv_iconst S dL_isCone_250 ?_
                            refine zcp_Vi (As := [.int (zI x), .int (zI y), .int (zI v), .int (zI w), .int (zI v13), .int (zI 1)]) (rest := []) (wr := [zci G qv 801 L1_143]) (n := 6) S hN hK (hE0.kept hS.2.1) hP hD hS hA hl (n_X4_generatorAnew l hl0 G H.size h0 qs sc hr hc hk qv n1_135 n2_136 n3_137 n4_138 n5_139 n6_140 n7_141 n8_142 x y v w v13 1 GX GY gk hcm hg (by omega) (by omega) (Or.inr rfl)) gL_isCone_X4_generatorAnew rfl ⟨rfl, rfl⟩ (by decide +kernel) rfl ⟨Nat.le_of_ble_eq_true rfl, Nat.le_of_ble_eq_true rfl, (show (cc + 14) + 7 ≤ 27000 by omega), (show (ss + 84) + 42 ≤ 160000 by omega)⟩ [0, 1] [2] rfl rfl (by decide) (by decide) (by decide) (ci := 4) rfl rfl rfl (Nat.le_of_ble_eq_true rfl) dL_isCone_251 rfl (fun r_ u_147 H1 locs1 hp_148 hP1 hD1 hS1 hz1 => ?_)
                            obtain ⟨rr_149, n1_150, n2_151, n3_152, n4_153, n5_154, n6_155, n7_156, n8_157, X_158, T_159, N_160⟩ := u_147
                            try dsimp only at hp_148 hP1 hD1
                            obtain ⟨rfl, hpo_161, hlk_162, hgr_163⟩ := hp_148
                            generalize H1 = H at hP1 hD1 hS1 hz1 ⊢
                            generalize locs1 = locs at hS1 ⊢
                            have hS := hS1
                            have hP : va_P G.1 vwCl [zci G qv 801 L1_143, (h0, .inr (4, [.ref qs, .int (zI sc), .ref hr, .ref hc, .ref hk])), (hc, .inr (1, [.ref qv, .int (zI n1_150), .int (zI n2_151), .int (zI n3_152), .int (zI n4_153), .int (zI n5_154), .int (zI n6_155), .int (zI n7_156), .int (zI n8_157)]))] H := hP1
                            have hD : va_D A [zci G qv 801 L1_143, (h0, .inr (4, [.ref qs, .int (zI sc), .ref hr, .ref hc, .ref hk])), (hc, .inr (1, [.ref qv, .int (zI n1_150), .int (zI n2_151), .int (zI n3_152), .int (zI n4_153), .int (zI n5_154), .int (zI n6_155), .int (zI n7_156), .int (zI n8_157)]))] := hD1
                            have hP : va_P G.1 vwCl [(h0, .inr (4, [.ref qs, .int (zI sc), .ref hr, .ref hc, .ref hk])), (hc, .inr (1, [.ref qv, .int (zI n1_150), .int (zI n2_151), .int (zI n3_152), .int (zI n4_153), .int (zI n5_154), .int (zI n6_155), .int (zI n7_156), .int (zI n8_157)])), zci G qv 801 L1_143] H := hP.sub [1, 2, 0] rfl
                            have hD : va_D A [(h0, .inr (4, [.ref qs, .int (zI sc), .ref hr, .ref hc, .ref hk])), (hc, .inr (1, [.ref qv, .int (zI n1_150), .int (zI n2_151), .int (zI n3_152), .int (zI n4_153), .int (zI n5_154), .int (zI n6_155), .int (zI n7_156), .int (zI n8_157)])), zci G qv 801 L1_143] := hD.sub [1, 2, 0] (by decide) rfl
                            rw [zgan_res hcm hg hpo_161.1 hlk_162 hgr_163, zgv_1 (by omega), show v13.toNat = i by omega]
                            refine zv_iload S dL_isCone_254 (lv_at hl 1 rfl) ?_
                            refine zv_icmp_ne (tgt := 319) S (by unfold zR; omega) (by unfold zR; omega) dL_isCone_256 (by decide) (fun c_164 => ?_) (fun c_164 => ?_)
                            · exact absurd rfl c_164
                            · refine zv_aload_n S dL_isCone_259 rfl (lv_at hl 11 rfl) ?_
                              refine zv_iload_n S dL_isCone_260 rfl (lv_at hl 12 rfl) ?_
                              refine zv_iload_n S dL_isCone_261 rfl (lv_at hl 13 rfl) ?_
                              refine zv_iload_n S dL_isCone_262 rfl (lv_at hl 14 rfl) ?_
                              refine zv_iload S dL_isCone_263 (lv_at hl 15 rfl) ?_
                              refine zv_iload S dL_isCone_265 (lv_at hl 2 rfl) ?_
                              refine zv_iconst S dL_isCone_267 ?_
                              refine zcp_Vi (As := [.int (zI x), .int (zI y), .int (zI v), .int (zI w), .int (zI v13), .int (zI 0)]) (rest := []) (wr := [zci G qv 801 L1_143]) (n := 6) S hN hK (hE0.kept hS.2.1) hP hD hS hA hl (n_X4_generatorAnew l hl0 G H.size h0 qs sc hr hc hk qv n1_150 n2_151 n3_152 n4_153 n5_154 n6_155 n7_156 n8_157 x y v w v13 0 GX GY gk hcm hg (by omega) (by omega) (Or.inl rfl)) gL_isCone_X4_generatorAnew rfl ⟨rfl, rfl⟩ (by decide +kernel) rfl ⟨Nat.le_of_ble_eq_true rfl, Nat.le_of_ble_eq_true rfl, (show (cc + 21) + 7 ≤ 27000 by omega), (show (ss + 126) + 42 ≤ 160000 by omega)⟩ [0, 1] [2] rfl rfl (by decide) (by decide) (by decide) (ci := 4) rfl rfl rfl (Nat.le_of_ble_eq_true rfl) dL_isCone_268 rfl (fun r_ u_165 H1 locs1 hp_166 hP1 hD1 hS1 hz1 => ?_)
                              obtain ⟨rr_167, n1_168, n2_169, n3_170, n4_171, n5_172, n6_173, n7_174, n8_175, X_176, T_177, N_178⟩ := u_165
                              try dsimp only at hp_166 hP1 hD1
                              obtain ⟨rfl, hpo_179, hlk_180, hgr_181⟩ := hp_166
                              generalize H1 = H at hP1 hD1 hS1 hz1 ⊢
                              generalize locs1 = locs at hS1 ⊢
                              have hS := hS1
                              have hP : va_P G.1 vwCl [zci G qv 801 L1_143, (h0, .inr (4, [.ref qs, .int (zI sc), .ref hr, .ref hc, .ref hk])), (hc, .inr (1, [.ref qv, .int (zI n1_168), .int (zI n2_169), .int (zI n3_170), .int (zI n4_171), .int (zI n5_172), .int (zI n6_173), .int (zI n7_174), .int (zI n8_175)]))] H := hP1
                              have hD : va_D A [zci G qv 801 L1_143, (h0, .inr (4, [.ref qs, .int (zI sc), .ref hr, .ref hc, .ref hk])), (hc, .inr (1, [.ref qv, .int (zI n1_168), .int (zI n2_169), .int (zI n3_170), .int (zI n4_171), .int (zI n5_172), .int (zI n6_173), .int (zI n7_174), .int (zI n8_175)]))] := hD1
                              have hP : va_P G.1 vwCl [(h0, .inr (4, [.ref qs, .int (zI sc), .ref hr, .ref hc, .ref hk])), (hc, .inr (1, [.ref qv, .int (zI n1_168), .int (zI n2_169), .int (zI n3_170), .int (zI n4_171), .int (zI n5_172), .int (zI n6_173), .int (zI n7_174), .int (zI n8_175)])), zci G qv 801 L1_143] H := hP.sub [1, 2, 0] rfl
                              have hD : va_D A [(h0, .inr (4, [.ref qs, .int (zI sc), .ref hr, .ref hc, .ref hk])), (hc, .inr (1, [.ref qv, .int (zI n1_168), .int (zI n2_169), .int (zI n3_170), .int (zI n4_171), .int (zI n5_172), .int (zI n6_173), .int (zI n7_174), .int (zI n8_175)])), zci G qv 801 L1_143] := hD.sub [1, 2, 0] (by decide) rfl
                              rw [zgan_res hcm hg hpo_179.1 hlk_180 hgr_181, zgv_0 (by omega), show v13.toNat = i by omega]
                              refine zv_iload S dL_isCone_271 (lv_at hl 0 rfl) ?_
                              refine zv_icmp_ne (tgt := 319) S (by unfold zR; omega) (by unfold zR; omega) dL_isCone_273 (by decide) (fun c_182 => ?_) (fun c_182 => ?_)
                              · exact absurd rfl c_182
                              · have JN299 : ∀  (H : Heap) (locs : List Loc), va_P G.1 vwCl [(h0, .inr (4, [.ref qs, .int (zI sc), .ref hr, .ref hc, .ref hk])), (hc, .inr (1, [.ref qv, .int (zI n1_168), .int (zI n2_169), .int (zI n3_170), .int (zI n4_171), .int (zI n5_172), .int (zI n6_173), .int (zI n7_174), .int (zI n8_175)])), zci G qv 801 L1_143] H → va_D A [(h0, .inr (4, [.ref qs, .int (zI sc), .ref hr, .ref hc, .ref hk])), (hc, .inr (1, [.ref qv, .int (zI n1_168), .int (zI n2_169), .int (zI n3_170), .int (zI n4_171), .int (zI n5_172), .int (zI n6_173), .int (zI n7_174), .int (zI n8_175)])), zci G qv 801 L1_143] → va_S A s.heap H locs → ∀ ls : Array Slot, lv_has ls 16 [(15, .int (zI (GY i))), (14, .int (zI (GX i))), (13, .int (zI v13)), (12, .int (zI aY)), (11, .int (zI aX)), (10, .int (zI 1)), (9, .int (zI sg)), (8, .int (zI (dx * ey - dy * ex))), (7, .int (zI (zg2 v w))), (6, .int (zI (zg2 x y))), (5, .int (zI ((gk : Int) + 2))), (0, .ref h0), (1, .int (zI x)), (2, .int (zI y)), (3, .int (zI v)), (4, .int (zI w))] → W p l e ({ frames := 9, cells := 27000, slots := 160000, locals := 162 }) s m ([.ref h0, .int (zI x), .int (zI y), .int (zI v), .int (zI w)]).toArray below meth c H locs (cc + 28) (ss + 168) Q (F0 m 299 ls []) := by
                                  intro H locs hP hD hS ls hl
                                  refine zv_aload_n S dL_isCone_299 rfl (lv_at hl 11 rfl) ?_
                                  refine zv_iload_n S dL_isCone_300 rfl (lv_at hl 12 rfl) ?_
                                  refine zv_iload_n S dL_isCone_301 rfl (lv_at hl 13 rfl) ?_
                                  refine zv_iload_n S dL_isCone_302 rfl (lv_at hl 14 rfl) ?_
                                  refine zv_iload S dL_isCone_303 (lv_at hl 15 rfl) ?_
                                  refine zcp_Vi (As := [.int (zI x), .int (zI y), .int (zI v), .int (zI w)]) (rest := []) (wr := [zci G qv 801 L1_143]) (n := 4) S hN hK (hE0.kept hS.2.1) hP hD hS hA hl (n_X4_index l hl0 G H.size h0 qs sc hr hc hk qv n1_168 n2_169 n3_170 n4_171 n5_172 n6_173 n7_174 n8_175 x y v w hcm) gL_isCone_X4_index rfl ⟨rfl, rfl⟩ (by decide +kernel) rfl ⟨Nat.le_of_ble_eq_true rfl, Nat.le_of_ble_eq_true rfl, (show (cc + 28) + 5 ≤ 27000 by omega), (show (ss + 168) + 30 ≤ 160000 by omega)⟩ [0, 1] [2] rfl rfl (by decide) (by decide) (by decide) (ci := 4) rfl rfl rfl (Nat.le_of_ble_eq_true rfl) dL_isCone_305 rfl (fun r_ u_183 H1 locs1 hp_184 hP1 hD1 hS1 hz1 => ?_)
                                  obtain ⟨n1_185, n2_186, n3_187, n4_188, n5_189, n6_190⟩ := u_183
                                  try dsimp only at hp_184 hP1 hD1
                                  obtain ⟨rfl, hcm_191, hcz_192⟩ := hp_184
                                  generalize H1 = H at hP1 hD1 hS1 hz1 ⊢
                                  generalize locs1 = locs at hS1 ⊢
                                  have hS := hS1
                                  have hP : va_P G.1 vwCl [zci G qv 801 L1_143, (h0, .inr (4, [.ref qs, .int (zI sc), .ref hr, .ref hc, .ref hk])), (hc, .inr (1, [.ref qv, .int (zI n1_185), .int (zI n2_186), .int (zI n3_187), .int (zI n4_188), .int (zI n5_189), .int (zI n6_190), .int (zI n7_174), .int (zI n8_175)]))] H := hP1
                                  have hD : va_D A [zci G qv 801 L1_143, (h0, .inr (4, [.ref qs, .int (zI sc), .ref hr, .ref hc, .ref hk])), (hc, .inr (1, [.ref qv, .int (zI n1_185), .int (zI n2_186), .int (zI n3_187), .int (zI n4_188), .int (zI n5_189), .int (zI n6_190), .int (zI n7_174), .int (zI n8_175)]))] := hD1
                                  have hP : va_P G.1 vwCl [(h0, .inr (4, [.ref qs, .int (zI sc), .ref hr, .ref hc, .ref hk])), (hc, .inr (1, [.ref qv, .int (zI n1_185), .int (zI n2_186), .int (zI n3_187), .int (zI n4_188), .int (zI n5_189), .int (zI n6_190), .int (zI n7_174), .int (zI n8_175)])), zci G qv 801 L1_143] H := hP.sub [1, 2, 0] rfl
                                  have hD : va_D A [(h0, .inr (4, [.ref qs, .int (zI sc), .ref hr, .ref hc, .ref hk])), (hc, .inr (1, [.ref qv, .int (zI n1_185), .int (zI n2_186), .int (zI n3_187), .int (zI n4_188), .int (zI n5_189), .int (zI n6_190), .int (zI n7_174), .int (zI n8_175)])), zci G qv 801 L1_143] := hD.sub [1, 2, 0] (by decide) rfl
                                  have hix := (zcone_un hcz_192 hz).2.2.2.2.2
                                  rw [hix]
                                  refine zv_iconst S dL_isCone_308 ?_
                                  refine zv_iadd S dL_isCone_309 ?_
                                  refine zv_iload S dL_isCone_310 (lv_at hl 10 rfl) ?_
                                  refine zv_icmp_lt (tgt := 319) S (by unfold zR; omega) (by unfold zR; omega) dL_isCone_312 (by decide) (fun c_193 => ?_) (fun c_193 => ?_)
                                  · exact absurd c_193 (by omega)
                                  · refine zv_iconst S dL_isCone_315 ?_
                                    refine zv_goto (tgt := 320) S dL_isCone_316 (by decide) ?_
                                    refine zv_istore (lv' := [(10, .int (zI 1)), (15, .int (zI (GY i))), (14, .int (zI (GX i))), (13, .int (zI v13)), (12, .int (zI aY)), (11, .int (zI aX)), (9, .int (zI sg)), (8, .int (zI (dx * ey - dy * ex))), (7, .int (zI (zg2 v w))), (6, .int (zI (zg2 x y))), (5, .int (zI ((gk : Int) + 2))), (0, .ref h0), (1, .int (zI x)), (2, .int (zI y)), (3, .int (zI v)), (4, .int (zI w))]) S dL_isCone_320 hl (by decide) rfl (fun ls hl => ?_)
                                    refine zv_iload S dL_isCone_322 (lv_at hl 2 rfl) ?_
                                    refine zv_istore (lv' := [(11, .int (zI (GX i))), (10, .int (zI 1)), (15, .int (zI (GY i))), (14, .int (zI (GX i))), (13, .int (zI v13)), (12, .int (zI aY)), (9, .int (zI sg)), (8, .int (zI (dx * ey - dy * ex))), (7, .int (zI (zg2 v w))), (6, .int (zI (zg2 x y))), (5, .int (zI ((gk : Int) + 2))), (0, .ref h0), (1, .int (zI x)), (2, .int (zI y)), (3, .int (zI v)), (4, .int (zI w))]) S dL_isCone_324 hl (by decide) rfl (fun ls hl => ?_)
                                    refine zv_iload S dL_isCone_326 (lv_at hl 2 rfl) ?_
                                    refine zv_istore (lv' := [(12, .int (zI (GY i))), (11, .int (zI (GX i))), (10, .int (zI 1)), (15, .int (zI (GY i))), (14, .int (zI (GX i))), (13, .int (zI v13)), (9, .int (zI sg)), (8, .int (zI (dx * ey - dy * ex))), (7, .int (zI (zg2 v w))), (6, .int (zI (zg2 x y))), (5, .int (zI ((gk : Int) + 2))), (0, .ref h0), (1, .int (zI x)), (2, .int (zI y)), (3, .int (zI v)), (4, .int (zI w))]) S dL_isCone_328 hl (by decide) rfl (fun ls hl => ?_)
                                    refine zv_iinc (k0 := 5) (lv' := [(13, .int (zI (v13 + 1))), (12, .int (zI (GY i))), (11, .int (zI (GX i))), (10, .int (zI 1)), (15, .int (zI (GY i))), (14, .int (zI (GX i))), (9, .int (zI sg)), (8, .int (zI (dx * ey - dy * ex))), (7, .int (zI (zg2 v w))), (6, .int (zI (zg2 x y))), (5, .int (zI ((gk : Int) + 2))), (0, .ref h0), (1, .int (zI x)), (2, .int (zI y)), (3, .int (zI v)), (4, .int (zI w))]) S dL_isCone_330 hl rfl (by decide) rfl (fun ls hl => ?_)
                                    refine zv_goto (tgt := 202) S dL_isCone_333 (by decide) ?_
                                    refine W.widen (k := (cc + 33)) (n := (ss + 198)) (by omega) (by omega) ?_
                                    exact ih202 (i + 1) (v13 + 1) (GX i) (GY i) n1_185 n2_186 n3_187 n4_188 n5_189 n6_190 n7_174 n8_175 L1_143 (cc + 33) (ss + 198) (by omega) (by omega) (Or.inr ⟨i, rfl, rfl, rfl⟩) (by omega) (by omega) (by omega) _ _ hP hD hS _ (lv_sub hl [0, 1, 2, 3, 6, 7, 8, 9, 10, 11, 12, 13, 14, 15] rfl)
                                refine zv_iload S dL_isCone_276 (lv_at hl 2 rfl) ?_
                                refine zv_if_eq (tgt := 299) S (by unfold zR; omega) dL_isCone_278 (by decide) (fun c_194 => ?_) (fun c_194 => ?_)
                                · refine W.widen (k := (cc + 28)) (n := (ss + 168)) (by omega) (by omega) ?_
                                  exact JN299   _ _ hP hD hS _ (lv_sub hl [0, 1, 2, 3, 4, 5, 6, 7, 8, 9, 10, 11, 12, 13, 14, 15] rfl)
                                · obtain ⟨j, hj, hjx, hjy⟩ : ∃ j : Nat, i = j + 1 ∧ aX = GX j ∧ aY = GY j := hah.resolve_left (by omega)
                                  have hd1 : sg * (aX * GY i - aY * GX i) = 1 := by rw [hjx, hjy, hj, hsg]; exact hs3 j (by omega)
                                  refine zv_iload S dL_isCone_281 (lv_at hl 6 rfl) ?_
                                  refine zv_iload S dL_isCone_283 (lv_at hl 4 rfl) ?_
                                  refine zv_iload S dL_isCone_285 (lv_at hl 0 rfl) ?_
                                  refine zv_imul S dL_isCone_287 ?_
                                  refine zv_iload S dL_isCone_288 (lv_at hl 3 rfl) ?_
                                  refine zv_iload S dL_isCone_290 (lv_at hl 1 rfl) ?_
                                  refine zv_imul S dL_isCone_292 ?_
                                  refine zv_isub S dL_isCone_293 ?_
                                  refine zv_imul S dL_isCone_294 ?_
                                  refine zv_iconst S dL_isCone_295 ?_
                                  refine zv_icmp_ne (tgt := 319) S (by unfold zR; omega) (by unfold zR; omega) dL_isCone_296 (by decide) (fun c_195 => ?_) (fun c_195 => ?_)
                                  · exact absurd hd1 c_195
                                  · refine W.widen (k := (cc + 28)) (n := (ss + 168)) (by omega) (by omega) ?_
                                    exact JN299   _ _ hP hD hS _ (lv_sub hl [0, 1, 2, 3, 4, 5, 6, 7, 8, 9, 10, 11, 12, 13, 14, 15] rfl)
                    exact LP202 _ 0 0 0 0 n1_102 n2_103 n3_104 n4_105 n5_106 n6_107 n7_108 n8_109 L1_110 47 282 rfl (by omega) (Or.inl rfl) (by omega) (by omega) (Nat.lt_succ_self _) _ _ hP hD hS _ (lv_sub hl [0, 1, 2, 3, 4, 5, 6, 7, 8, 9, 10, 11, 12, 13] rfl)
    refine zv_iload S dL_isCone_56 (lv_at hl 0 rfl) ?_
    refine zv_if_ge (tgt := 65) S (by unfold zR; omega) dL_isCone_58 (by decide) (fun c_196 => ?_) (fun c_196 => ?_)
    · refine zv_iconst S dL_isCone_65 ?_
      exact JN66 1 (by rw [hsg0, if_neg (by omega)]) _ _ hP hD hS _ (lv_sub hl [0, 1, 2, 3, 4, 5, 6, 7, 8] rfl)
    · refine zv_iconst S dL_isCone_61 ?_
      refine zv_goto (tgt := 66) S dL_isCone_62 (by decide) ?_
      exact JN66 (-1) (by rw [hsg0, if_pos (by omega)]) _ _ hP hD hS _ (lv_sub hl [0, 1, 2, 3, 4, 5, 6, 7, 8] rfl)
  · refine zv_iconst S dL_isCone_10 ?_
    refine W.widen (k := 27000) (n := 160000) (Nat.le_of_ble_eq_true rfl) (Nat.le_of_ble_eq_true rfl) ?_
    exact hret _ _ _ _ _ ⟨fx, fy, lx, ly, tn, ar, wx, wy, L0⟩ dL_isCone_11 (by first | exact Or.inl rfl | exact Or.inr rfl) rfl (hP.sub [0, 1, 2] rfl) (hD.sub [0, 1, 2] (by decide) rfl) hS
