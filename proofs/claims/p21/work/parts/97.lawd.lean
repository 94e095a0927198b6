theorem wd_L_isShapes_kl54 : Cond.constantLong RL 54 (3) ∈ wsL_isShapes := by decide +kernel
set_option maxHeartbeats 4000000 in
set_option maxRecDepth 100000 in
/-- the law: isShapes -/
theorem c_L_isShapes (l : Launch) (hl0 : l.stackTraces = false) (G : zG) (sz : Nat) (h0 : Nat) (qs : Nat) (hr : Nat) (hc : Nat) (hk : Nat) (SF : Nat → Option Nat) (h1 : Nat) (qa : Nat) (qb : Nat) (qc : Nat) (qe : Nat) (fa : Nat → Int) (fb : Nat → Int) (fc : Nat → Int) (fe : Nat → Int) (ra : Nat) (rb : Nat) (rc : Nat) (P : Nat → Int) (Qu : Nat → Int) (M : Nat → Int) (kk : Int) (f0 : Int) (l0 : Int) (b0 : Int) (t0 : Int) (x0 : Int) (y0 : Int) (bt : Nat) (L : Nat) (sx : Nat → Int) (hsf : SF 0 = some h1) (hL : L ≤ 260) : Met l yL_isShapes wsL_isShapes ({ frames := 10, cells := 2600, slots := 15600, locals := 192 }) (va_Pc [.ref h0, .ref bt] (zPt G sz bt L sx [(h0, .inr (4, [.ref qs, .int (zI 0), .ref hr, .ref hc, .ref hk])), zcq G qs 8 SF, (h1, .inr (3, [.ref qa, .ref qb, .ref qc, .ref qe, .int (zI 0)])), zci G qa 10 fa, zci G qb 10 fb, zci G qc 10 fc, zci G qe 10 fe, (hr, .inr (2, [.ref ra, .ref rb, .ref rc, .int (zI kk), .int (zI f0), .int (zI l0), .int (zI b0), .int (zI t0), .int (zI x0), .int (zI y0)])), zci G ra 10 P, zci G rb 10 Qu, zci G rc 10 M])) (va_Qi (fun (r : Int32) (u : (Nat → Int) × (Nat → Int) × (Nat → Int) × (Nat → Int) × (Int) × (Nat → Int) × (Nat → Int) × (Nat → Int) × (Int) × (Int) × (Int) × (Int) × (Int) × (Int) × (Int)) => r = zI 1) (fun u => zW G (va_A [(h0, .inr (4, [.ref qs, .int (zI 0), .ref hr, .ref hc, .ref hk])), zcq G qs 8 SF, (h1, .inr (3, [.ref qa, .ref qb, .ref qc, .ref qe, .int (zI 0)])), zci G qa 10 fa, zci G qb 10 fb, zci G qc 10 fc, zci G qe 10 fe, (hr, .inr (2, [.ref ra, .ref rb, .ref rc, .int (zI kk), .int (zI f0), .int (zI l0), .int (zI b0), .int (zI t0), .int (zI x0), .int (zI y0)])), zci G ra 10 P, zci G rb 10 Qu, zci G rc 10 M] sz) ((fun (u : (Nat → Int) × (Nat → Int) × (Nat → Int) × (Nat → Int) × (Int) × (Nat → Int) × (Nat → Int) × (Nat → Int) × (Int) × (Int) × (Int) × (Int) × (Int) × (Int) × (Int)) => [(h0, .inr (4, [.ref qs, .int (zI 1), .ref hr, .ref hc, .ref hk])), zcq G qs 8 SF, (h1, .inr (3, [.ref qa, .ref qb, .ref qc, .ref qe, .int (zI u.2.2.2.2.1)])), zci G qa 10 u.1, zci G qb 10 u.2.1, zci G qc 10 u.2.2.1, zci G qe 10 u.2.2.2.1, (hr, .inr (2, [.ref ra, .ref rb, .ref rc, .int (zI u.2.2.2.2.2.2.2.2.1), .int (zI u.2.2.2.2.2.2.2.2.2.1), .int (zI u.2.2.2.2.2.2.2.2.2.2.1), .int (zI u.2.2.2.2.2.2.2.2.2.2.2.1), .int (zI u.2.2.2.2.2.2.2.2.2.2.2.2.1), .int (zI u.2.2.2.2.2.2.2.2.2.2.2.2.2.1), .int (zI u.2.2.2.2.2.2.2.2.2.2.2.2.2.2)])), zci G ra 10 u.2.2.2.2.2.1, zci G rb 10 u.2.2.2.2.2.2.1, zci G rc 10 u.2.2.2.2.2.2.2.1]) u)) (va_A [(h0, .inr (4, [.ref qs, .int (zI 0), .ref hr, .ref hc, .ref hk])), zcq G qs 8 SF, (h1, .inr (3, [.ref qa, .ref qb, .ref qc, .ref qe, .int (zI 0)])), zci G qa 10 fa, zci G qb 10 fb, zci G qc 10 fc, zci G qe 10 fe, (hr, .inr (2, [.ref ra, .ref rb, .ref rc, .int (zI kk), .int (zI f0), .int (zI l0), .int (zI b0), .int (zI t0), .int (zI x0), .int (zI y0)])), zci G ra 10 P, zci G rb 10 Qu, zci G rc 10 M] sz)) 2600 15600 (va_A [(h0, .inr (4, [.ref qs, .int (zI 0), .ref hr, .ref hc, .ref hk])), zcq G qs 8 SF, (h1, .inr (3, [.ref qa, .ref qb, .ref qc, .ref qe, .int (zI 0)])), zci G qa 10 fa, zci G qb 10 fb, zci G qc 10 fc, zci G qe 10 fe, (hr, .inr (2, [.ref ra, .ref rb, .ref rc, .int (zI kk), .int (zI f0), .int (zI l0), .int (zI b0), .int (zI t0), .int (zI x0), .int (zI y0)])), zci G ra 10 P, zci G rb 10 Qu, zci G rc 10 M] sz) := by
  refine zMt_z (post := fun (r : Int32) (u : (Nat → Int) × (Nat → Int) × (Nat → Int) × (Nat → Int) × (Int) × (Nat → Int) × (Nat → Int) × (Nat → Int) × (Int) × (Int) × (Int) × (Int) × (Int) × (Int) × (Int)) => r = zI 1) (w1 := fun (u : (Nat → Int) × (Nat → Int) × (Nat → Int) × (Nat → Int) × (Int) × (Nat → Int) × (Nat → Int) × (Nat → Int) × (Int) × (Int) × (Int) × (Int) × (Int) × (Int) × (Int)) => [(h0, .inr (4, [.ref qs, .int (zI 1), .ref hr, .ref hc, .ref hk])), zcq G qs 8 SF, (h1, .inr (3, [.ref qa, .ref qb, .ref qc, .ref qe, .int (zI u.2.2.2.2.1)])), zci G qa 10 u.1, zci G qb 10 u.2.1, zci G qc 10 u.2.2.1, zci G qe 10 u.2.2.2.1, (hr, .inr (2, [.ref ra, .ref rb, .ref rc, .int (zI u.2.2.2.2.2.2.2.2.1), .int (zI u.2.2.2.2.2.2.2.2.2.1), .int (zI u.2.2.2.2.2.2.2.2.2.2.1), .int (zI u.2.2.2.2.2.2.2.2.2.2.2.1), .int (zI u.2.2.2.2.2.2.2.2.2.2.2.2.1), .int (zI u.2.2.2.2.2.2.2.2.2.2.2.2.2.1), .int (zI u.2.2.2.2.2.2.2.2.2.2.2.2.2.2)])), zci G ra 10 u.2.2.2.2.2.1, zci G rb 10 u.2.2.2.2.2.2.1, zci G rc 10 u.2.2.2.2.2.2.2.1]) (plainFor_of_name (by decide)) rfl (Nat.le_of_ble_eq_true rfl) ?_
  intro p e s m below meth c A Q S hN hK hP hD hS hA hE0 hX hbl hbA hret ls hl
  have hl : lv_has ls 19 [(0, .ref h0), (1, .ref bt)] := hl
  refine zv_iconst S dL_isShapes_0 ?_
  refine zv_aload_n S dL_isShapes_1 rfl (lv_at hl 1 rfl) ?_
  refine zv_iconst S dL_isShapes_2 ?_
  refine zv_bipush (v := 12) S dL_isShapes_3 (by decide) ?_
  refine zct_Si (As := [.ref bt, .int (zI 0), .int (zI 12)]) (rest := [.int (zI 1)]) (wr := [(h0, .inr (4, [.ref qs, .int (zI 0), .ref hr, .ref hc, .ref hk])), zcq G qs 8 SF, (h1, .inr (3, [.ref qa, .ref qb, .ref qc, .ref qe, .int (zI 0)])), zci G qa 10 fa, zci G qb 10 fb, zci G qc 10 fc, zci G qe 10 fe, (hr, .inr (2, [.ref ra, .ref rb, .ref rc, .int (zI kk), .int (zI f0), .int (zI l0), .int (zI b0), .int (zI t0), .int (zI x0), .int (zI y0)])), zci G ra 10 P, zci G rb 10 Qu, zci G rc 10 M]) (n := 3) S hN hK (hE0.kept hS.2.1) hX hbl hbA hP hD hS hA hl (c_L_drawn l hl0 G s.heap.size bt L sx 0 12 hL (by omega) (by omega)) gL_isShapes_L_drawn rfl ⟨rfl, rfl⟩ (by decide +kernel) rfl ⟨Nat.le_of_ble_eq_true rfl, Nat.le_of_ble_eq_true rfl, Nat.le_of_ble_eq_true rfl, Nat.le_of_ble_eq_true rfl⟩ [] [0, 1, 2, 3, 4, 5, 6, 7, 8, 9, 10] rfl rfl (by decide) (by decide) (by decide) (Nat.le_of_ble_eq_true rfl) dL_isShapes_5 rfl (fun r_ u_1 H1 locs1 hp_2 hP1 hD1 hS1 hz1 => ?_)
  obtain ⟨rr_3, rfl⟩ : ∃ z, z = u_1 := ⟨_, rfl⟩
  try dsimp only at hp_2 hP1 hD1
  obtain ⟨rfl, hdr_4⟩ := hp_2
  generalize H1 = H at hP1 hD1 hS1 hz1 ⊢
  generalize locs1 = locs at hS1 ⊢
  have hS := hS1
  have hP : va_P G.1 vwCl [(h0, .inr (4, [.ref qs, .int (zI 0), .ref hr, .ref hc, .ref hk])), zcq G qs 8 SF, (h1, .inr (3, [.ref qa, .ref qb, .ref qc, .ref qe, .int (zI 0)])), zci G qa 10 fa, zci G qb 10 fb, zci G qc 10 fc, zci G qe 10 fe, (hr, .inr (2, [.ref ra, .ref rb, .ref rc, .int (zI kk), .int (zI f0), .int (zI l0), .int (zI b0), .int (zI t0), .int (zI x0), .int (zI y0)])), zci G ra 10 P, zci G rb 10 Qu, zci G rc 10 M] H := hP1
  have hD : va_D A [(h0, .inr (4, [.ref qs, .int (zI 0), .ref hr, .ref hc, .ref hk])), zcq G qs 8 SF, (h1, .inr (3, [.ref qa, .ref qb, .ref qc, .ref qe, .int (zI 0)])), zci G qa 10 fa, zci G qb 10 fb, zci G qc 10 fc, zci G qe 10 fe, (hr, .inr (2, [.ref ra, .ref rb, .ref rc, .int (zI kk), .int (zI f0), .int (zI l0), .int (zI b0), .int (zI t0), .int (zI x0), .int (zI y0)])), zci G ra 10 P, zci G rb 10 Qu, zci G rc 10 M] := hD1
  refine zv_iadd S dL_isShapes_8 ?_
  refine zv_istore_n (lv' := [(2, .int (zI (1 + rr_3))), (0, .ref h0), (1, .ref bt)]) S dL_isShapes_9 rfl hl (by decide) rfl (fun ls hl => ?_)
  obtain ⟨wd, hwd_⟩ : ∃ z : Int, z = 1 + rr_3 := ⟨_, rfl⟩
  rw [← hwd_] at hl
  have hw12 : 1 ≤ wd ∧ wd ≤ 12 := by omega
  refine zv_iconst S dL_isShapes_10 ?_
  refine zv_aload_n S dL_isShapes_11 rfl (lv_at hl 2 rfl) ?_
  refine zv_iconst S dL_isShapes_12 ?_
  refine zv_bipush (v := 12) S dL_isShapes_13 (by decide) ?_
  refine zct_Si (As := [.ref bt, .int (zI 1), .int (zI 12)]) (rest := [.int (zI 1)]) (wr := [(h0, .inr (4, [.ref qs, .int (zI 0), .ref hr, .ref hc, .ref hk])), zcq G qs 8 SF, (h1, .inr (3, [.ref qa, .ref qb, .ref qc, .ref qe, .int (zI 0)])), zci G qa 10 fa, zci G qb 10 fb, zci G qc 10 fc, zci G qe 10 fe, (hr, .inr (2, [.ref ra, .ref rb, .ref rc, .int (zI kk), .int (zI f0), .int (zI l0), .int (zI b0), .int (zI t0), .int (zI x0), .int (zI y0)])), zci G ra 10 P, zci G rb 10 Qu, zci G rc 10 M]) (n := 3) S hN hK (hE0.kept hS.2.1) hX hbl hbA hP hD hS hA hl (c_L_drawn l hl0 G H.size bt L sx 1 12 hL (by omega) (by omega)) gL_isShapes_L_drawn rfl ⟨rfl, rfl⟩ (by decide +kernel) rfl ⟨Nat.le_of_ble_eq_true rfl, Nat.le_of_ble_eq_true rfl, Nat.le_of_ble_eq_true rfl, Nat.le_of_ble_eq_true rfl⟩ [] [0, 1, 2, 3, 4, 5, 6, 7, 8, 9, 10] rfl rfl (by decide) (by decide) (by decide) (Nat.le_of_ble_eq_true rfl) dL_isShapes_15 rfl (fun r_ u_5 H1 locs1 hp_6 hP1 hD1 hS1 hz1 => ?_)
  obtain ⟨rr_7, rfl⟩ : ∃ z, z = u_5 := ⟨_, rfl⟩
  try dsimp only at hp_6 hP1 hD1
  obtain ⟨rfl, hdr_8⟩ := hp_6
  generalize H1 = H at hP1 hD1 hS1 hz1 ⊢
  generalize locs1 = locs at hS1 ⊢
  have hS := hS1
  have hP : va_P G.1 vwCl [(h0, .inr (4, [.ref qs, .int (zI 0), .ref hr, .ref hc, .ref hk])), zcq G qs 8 SF, (h1, .inr (3, [.ref qa, .ref qb, .ref qc, .ref qe, .int (zI 0)])), zci G qa 10 fa, zci G qb 10 fb, zci G qc 10 fc, zci G qe 10 fe, (hr, .inr (2, [.ref ra, .ref rb, .ref rc, .int (zI kk), .int (zI f0), .int (zI l0), .int (zI b0), .int (zI t0), .int (zI x0), .int (zI y0)])), zci G ra 10 P, zci G rb 10 Qu, zci G rc 10 M] H := hP1
  have hD : va_D A [(h0, .inr (4, [.ref qs, .int (zI 0), .ref hr, .ref hc, .ref hk])), zcq G qs 8 SF, (h1, .inr (3, [.ref qa, .ref qb, .ref qc, .ref qe, .int (zI 0)])), zci G qa 10 fa, zci G qb 10 fb, zci G qc 10 fc, zci G qe 10 fe, (hr, .inr (2, [.ref ra, .ref rb, .ref rc, .int (zI kk), .int (zI f0), .int (zI l0), .int (zI b0), .int (zI t0), .int (zI x0), .int (zI y0)])), zci G ra 10 P, zci G rb 10 Qu, zci G rc 10 M] := hD1
  refine zv_iadd S dL_isShapes_18 ?_
  refine zv_istore_n (lv' := [(3, .int (zI (1 + rr_7))), (2, .int (zI wd)), (0, .ref h0), (1, .ref bt)]) S dL_isShapes_19 rfl hl (by decide) rfl (fun ls hl => ?_)
  obtain ⟨tl, htl_⟩ : ∃ z : Int, z = 1 + rr_7 := ⟨_, rfl⟩
  rw [← htl_] at hl
  have ht12 : 1 ≤ tl ∧ tl ≤ 12 := by omega
  refine zv_aload_n S dL_isShapes_20 rfl (lv_at hl 2 rfl) ?_
  refine zcp_Vi (As := []) (rest := []) (wr := [zcq G qs 8 SF, (h1, .inr (3, [.ref qa, .ref qb, .ref qc, .ref qe, .int (zI 0)])), zci G qa 10 fa, zci G qb 10 fb, zci G qc 10 fc, zci G qe 10 fe, (hr, .inr (2, [.ref ra, .ref rb, .ref rc, .int (zI kk), .int (zI f0), .int (zI l0), .int (zI b0), .int (zI t0), .int (zI x0), .int (zI y0)])), zci G ra 10 P, zci G rb 10 Qu, zci G rc 10 M]) (n := 0) S hN hK (hE0.kept hS.2.1) hP hD hS hA hl (n_X4_shape l hl0 G H.size h0 qs hr hc hk) gL_isShapes_X4_shape rfl ⟨rfl, rfl⟩ (by decide +kernel) rfl ⟨Nat.le_of_ble_eq_true rfl, Nat.le_of_ble_eq_true rfl, Nat.le_of_ble_eq_true rfl, Nat.le_of_ble_eq_true rfl⟩ [0] [1, 2, 3, 4, 5, 6, 7, 8, 9, 10] rfl rfl (by decide) (by decide) (by decide) (ci := 4) rfl rfl rfl (Nat.le_of_ble_eq_true rfl) dL_isShapes_21 rfl (fun r_ u_9 H1 locs1 hp_10 hP1 hD1 hS1 hz1 => ?_)
  try dsimp only at hp_10 hP1 hD1
  obtain ⟨rfl, hs_11⟩ := hp_10
  generalize H1 = H at hP1 hD1 hS1 hz1 ⊢
  generalize locs1 = locs at hS1 ⊢
  have hS := hS1
  have hP : va_P G.1 vwCl [zcq G qs 8 SF, (h1, .inr (3, [.ref qa, .ref qb, .ref qc, .ref qe, .int (zI 0)])), zci G qa 10 fa, zci G qb 10 fb, zci G qc 10 fc, zci G qe 10 fe, (hr, .inr (2, [.ref ra, .ref rb, .ref rc, .int (zI kk), .int (zI f0), .int (zI l0), .int (zI b0), .int (zI t0), .int (zI x0), .int (zI y0)])), zci G ra 10 P, zci G rb 10 Qu, zci G rc 10 M, (h0, .inr (4, [.ref qs, .int (zI 1), .ref hr, .ref hc, .ref hk]))] H := hP1
  have hD : va_D A [zcq G qs 8 SF, (h1, .inr (3, [.ref qa, .ref qb, .ref qc, .ref qe, .int (zI 0)])), zci G qa 10 fa, zci G qb 10 fb, zci G qc 10 fc, zci G qe 10 fe, (hr, .inr (2, [.ref ra, .ref rb, .ref rc, .int (zI kk), .int (zI f0), .int (zI l0), .int (zI b0), .int (zI t0), .int (zI x0), .int (zI y0)])), zci G ra 10 P, zci G rb 10 Qu, zci G rc 10 M, (h0, .inr (4, [.ref qs, .int (zI 1), .ref hr, .ref hc, .ref hk]))] := hD1
  have hP : va_P G.1 vwCl [(h0, .inr (4, [.ref qs, .int (zI 1), .ref hr, .ref hc, .ref hk])), zcq G qs 8 SF, (h1, .inr (3, [.ref qa, .ref qb, .ref qc, .ref qe, .int (zI 0)])), zci G qa 10 fa, zci G qb 10 fb, zci G qc 10 fc, zci G qe 10 fe, (hr, .inr (2, [.ref ra, .ref rb, .ref rc, .int (zI kk), .int (zI f0), .int (zI l0), .int (zI b0), .int (zI t0), .int (zI x0), .int (zI y0)])), zci G ra 10 P, zci G rb 10 Qu, zci G rc 10 M] H := hP.sub [10, 0, 1, 2, 3, 4, 5, 6, 7, 8, 9] rfl
  have hD : va_D A [(h0, .inr (4, [.ref qs, .int (zI 1), .ref hr, .ref hc, .ref hk])), zcq G qs 8 SF, (h1, .inr (3, [.ref qa, .ref qb, .ref qc, .ref qe, .int (zI 0)])), zci G qa 10 fa, zci G qb 10 fb, zci G qc 10 fc, zci G qe 10 fe, (hr, .inr (2, [.ref ra, .ref rb, .ref rc, .int (zI kk), .int (zI f0), .int (zI l0), .int (zI b0), .int (zI t0), .int (zI x0), .int (zI y0)])), zci G ra 10 P, zci G rb 10 Qu, zci G rc 10 M] := hD.sub [10, 0, 1, 2, 3, 4, 5, 6, 7, 8, 9] (by decide) rfl
  refine zv_if_ne (tgt := 157) S (by unfold zR; omega) dL_isShapes_24 (by decide) (fun c_12 => ?_) (fun c_12 => ?_)
  · exact absurd c_12 (by omega)
  · refine zv_aload_n S dL_isShapes_27 rfl (lv_at hl 2 rfl) ?_
    refine zv_iconst S dL_isShapes_28 ?_
    refine zv_iconst S dL_isShapes_29 ?_
    refine zv_iconst S dL_isShapes_30 ?_
    refine zv_iload_n S dL_isShapes_31 rfl (lv_at hl 1 rfl) ?_
    refine zv_iconst S dL_isShapes_32 ?_
    refine zcp_Vi (As := [.int (zI 0), .int (zI 1), .int (zI 0), .int (zI wd), .int (zI 0)]) (rest := []) (wr := [(hr, .inr (2, [.ref ra, .ref rb, .ref rc, .int (zI kk), .int (zI f0), .int (zI l0), .int (zI b0), .int (zI t0), .int (zI x0), .int (zI y0)])), zci G ra 10 P, zci G rb 10 Qu, zci G rc 10 M]) (n := 5) S hN hK (hE0.kept hS.2.1) hP hD hS hA hl (n_X4_add l hl0 G H.size h0 qs hr hc hk SF h1 qa qb qc qe fa fb fc fe 0 1 0 wd 0 hsf (by omega) (by unfold zadok; omega)) gL_isShapes_X4_add rfl ⟨rfl, rfl⟩ (by decide +kernel) rfl ⟨Nat.le_of_ble_eq_true rfl, Nat.le_of_ble_eq_true rfl, Nat.le_of_ble_eq_true rfl, Nat.le_of_ble_eq_true rfl⟩ [0, 1, 2, 3, 4, 5, 6] [7, 8, 9, 10] rfl rfl (by decide) (by decide) (by decide) (ci := 4) rfl rfl rfl (Nat.le_of_ble_eq_true rfl) dL_isShapes_33 rfl (fun r_ u_13 H1 locs1 hp_14 hP1 hD1 hS1 hz1 => ?_)
    try dsimp only at hp_14 hP1 hD1
    obtain ⟨rfl, hpo_15⟩ := hp_14
    generalize H1 = H at hP1 hD1 hS1 hz1 ⊢
    generalize locs1 = locs at hS1 ⊢
    have hS := hS1
    have hP : va_P G.1 vwCl [(hr, .inr (2, [.ref ra, .ref rb, .ref rc, .int (zI kk), .int (zI f0), .int (zI l0), .int (zI b0), .int (zI t0), .int (zI x0), .int (zI y0)])), zci G ra 10 P, zci G rb 10 Qu, zci G rc 10 M, (h0, .inr (4, [.ref qs, .int (zI 1), .ref hr, .ref hc, .ref hk])), zcq G qs 8 SF, (h1, .inr (3, [.ref qa, .ref qb, .ref qc, .ref qe, .int (zI 1)])), zci G qa 10 (zU fa 0 1), zci G qb 10 (zU fb 0 0), zci G qc 10 (zU fc 0 wd), zci G qe 10 (zU fe 0 0)] H := hP1
    have hD : va_D A [(hr, .inr (2, [.ref ra, .ref rb, .ref rc, .int (zI kk), .int (zI f0), .int (zI l0), .int (zI b0), .int (zI t0), .int (zI x0), .int (zI y0)])), zci G ra 10 P, zci G rb 10 Qu, zci G rc 10 M, (h0, .inr (4, [.ref qs, .int (zI 1), .ref hr, .ref hc, .ref hk])), zcq G qs 8 SF, (h1, .inr (3, [.ref qa, .ref qb, .ref qc, .ref qe, .int (zI 1)])), zci G qa 10 (zU fa 0 1), zci G qb 10 (zU fb 0 0), zci G qc 10 (zU fc 0 wd), zci G qe 10 (zU fe 0 0)] := hD1
    have hP : va_P G.1 vwCl [(h0, .inr (4, [.ref qs, .int (zI 1), .ref hr, .ref hc, .ref hk])), zcq G qs 8 SF, (h1, .inr (3, [.ref qa, .ref qb, .ref qc, .ref qe, .int (zI 1)])), zci G qa 10 (zU fa 0 1), zci G qb 10 (zU fb 0 0), zci G qc 10 (zU fc 0 wd), zci G qe 10 (zU fe 0 0), (hr, .inr (2, [.ref ra, .ref rb, .ref rc, .int (zI kk), .int (zI f0), .int (zI l0), .int (zI b0), .int (zI t0), .int (zI x0), .int (zI y0)])), zci G ra 10 P, zci G rb 10 Qu, zci G rc 10 M] H := hP.sub [4, 5, 6, 7, 8, 9, 10, 0, 1, 2, 3] rfl
    have hD : va_D A [(h0, .inr (4, [.ref qs, .int (zI 1), .ref hr, .ref hc, .ref hk])), zcq G qs 8 SF, (h1, .inr (3, [.ref qa, .ref qb, .ref qc, .ref qe, .int (zI 1)])), zci G qa 10 (zU fa 0 1), zci G qb 10 (zU fb 0 0), zci G qc 10 (zU fc 0 wd), zci G qe 10 (zU fe 0 0), (hr, .inr (2, [.ref ra, .ref rb, .ref rc, .int (zI kk), .int (zI f0), .int (zI l0), .int (zI b0), .int (zI t0), .int (zI x0), .int (zI y0)])), zci G ra 10 P, zci G rb 10 Qu, zci G rc 10 M] := hD.sub [4, 5, 6, 7, 8, 9, 10, 0, 1, 2, 3] (by decide) rfl
    refine zv_if_ne (tgt := 157) S (by unfold zR; omega) dL_isShapes_36 (by decide) (fun c_16 => ?_) (fun c_16 => ?_)
    · exact absurd c_16 (by omega)
    · refine zv_aload_n S dL_isShapes_39 rfl (lv_at hl 2 rfl) ?_
      refine zv_iconst S dL_isShapes_40 ?_
      refine zv_iconst S dL_isShapes_41 ?_
      refine zv_iconst S dL_isShapes_42 ?_
      refine zv_iconst S dL_isShapes_43 ?_
      refine zv_iconst S dL_isShapes_44 ?_
      refine zcp_Vi (As := [.int (zI 0), .int (zI (-1)), .int (zI 0), .int (zI 0), .int (zI 0)]) (rest := []) (wr := [(hr, .inr (2, [.ref ra, .ref rb, .ref rc, .int (zI kk), .int (zI f0), .int (zI l0), .int (zI b0), .int (zI t0), .int (zI x0), .int (zI y0)])), zci G ra 10 P, zci G rb 10 Qu, zci G rc 10 M]) (n := 5) S hN hK (hE0.kept hS.2.1) hP hD hS hA hl (n_X4_add l hl0 G H.size h0 qs hr hc hk SF h1 qa qb qc qe (zU fa 0 1) (zU fb 0 0) (zU fc 0 wd) (zU fe 0 0) 1 (-1) 0 0 0 hsf (by omega) (by unfold zadok; omega)) gL_isShapes_X4_add rfl ⟨rfl, rfl⟩ (by decide +kernel) rfl ⟨Nat.le_of_ble_eq_true rfl, Nat.le_of_ble_eq_true rfl, Nat.le_of_ble_eq_true rfl, Nat.le_of_ble_eq_true rfl⟩ [0, 1, 2, 3, 4, 5, 6] [7, 8, 9, 10] rfl rfl (by decide) (by decide) (by decide) (ci := 4) rfl rfl rfl (Nat.le_of_ble_eq_true rfl) dL_isShapes_45 rfl (fun r_ u_17 H1 locs1 hp_18 hP1 hD1 hS1 hz1 => ?_)
      try dsimp only at hp_18 hP1 hD1
      obtain ⟨rfl, hpo_19⟩ := hp_18
      generalize H1 = H at hP1 hD1 hS1 hz1 ⊢
      generalize locs1 = locs at hS1 ⊢
      have hS := hS1
      have hP : va_P G.1 vwCl [(hr, .inr (2, [.ref ra, .ref rb, .ref rc, .int (zI kk), .int (zI f0), .int (zI l0), .int (zI b0), .int (zI t0), .int (zI x0), .int (zI y0)])), zci G ra 10 P, zci G rb 10 Qu, zci G rc 10 M, (h0, .inr (4, [.ref qs, .int (zI 1), .ref hr, .ref hc, .ref hk])), zcq G qs 8 SF, (h1, .inr (3, [.ref qa, .ref qb, .ref qc, .ref qe, .int (zI 2)])), zci G qa 10 (zU (zU fa 0 1) 1 (-1)), zci G qb 10 (zU (zU fb 0 0) 1 0), zci G qc 10 (zU (zU fc 0 wd) 1 0), zci G qe 10 (zU (zU fe 0 0) 1 0)] H := hP1
      have hD : va_D A [(hr, .inr (2, [.ref ra, .ref rb, .ref rc, .int (zI kk), .int (zI f0), .int (zI l0), .int (zI b0), .int (zI t0), .int (zI x0), .int (zI y0)])), zci G ra 10 P, zci G rb 10 Qu, zci G rc 10 M, (h0, .inr (4, [.ref qs, .int (zI 1), .ref hr, .ref hc, .ref hk])), zcq G qs 8 SF, (h1, .inr (3, [.ref qa, .ref qb, .ref qc, .ref qe, .int (zI 2)])), zci G qa 10 (zU (zU fa 0 1) 1 (-1)), zci G qb 10 (zU (zU fb 0 0) 1 0), zci G qc 10 (zU (zU fc 0 wd) 1 0), zci G qe 10 (zU (zU fe 0 0) 1 0)] := hD1
      have hP : va_P G.1 vwCl [(h0, .inr (4, [.ref qs, .int (zI 1), .ref hr, .ref hc, .ref hk])), zcq G qs 8 SF, (h1, .inr (3, [.ref qa, .ref qb, .ref qc, .ref qe, .int (zI 2)])), zci G qa 10 (zU (zU fa 0 1) 1 (-1)), zci G qb 10 (zU (zU fb 0 0) 1 0), zci G qc 10 (zU (zU fc 0 wd) 1 0), zci G qe 10 (zU (zU fe 0 0) 1 0), (hr, .inr (2, [.ref ra, .ref rb, .ref rc, .int (zI kk), .int (zI f0), .int (zI l0), .int (zI b0), .int (zI t0), .int (zI x0), .int (zI y0)])), zci G ra 10 P, zci G rb 10 Qu, zci G rc 10 M] H := hP.sub [4, 5, 6, 7, 8, 9, 10, 0, 1, 2, 3] rfl
      have hD : va_D A [(h0, .inr (4, [.ref qs, .int (zI 1), .ref hr, .ref hc, .ref hk])), zcq G qs 8 SF, (h1, .inr (3, [.ref qa, .ref qb, .ref qc, .ref qe, .int (zI 2)])), zci G qa 10 (zU (zU fa 0 1) 1 (-1)), zci G qb 10 (zU (zU fb 0 0) 1 0), zci G qc 10 (zU (zU fc 0 wd) 1 0), zci G qe 10 (zU (zU fe 0 0) 1 0), (hr, .inr (2, [.ref ra, .ref rb, .ref rc, .int (zI kk), .int (zI f0), .int (zI l0), .int (zI b0), .int (zI t0), .int (zI x0), .int (zI y0)])), zci G ra 10 P, zci G rb 10 Qu, zci G rc 10 M] := hD.sub [4, 5, 6, 7, 8, 9, 10, 0, 1, 2, 3] (by decide) rfl
      refine zv_iconst S dL_isShapes_48 ?_
      refine zv_icmp_ne (tgt := 157) S (by unfold zR; omega) (by unfold zR; omega) dL_isShapes_49 (by decide) (fun c_20 => ?_) (fun c_20 => ?_)
      · exact absurd c_20 (by omega)
      · refine zv_aload_n S dL_isShapes_52 rfl (lv_at hl 2 rfl) ?_
        refine zv_iconst S dL_isShapes_53 ?_
        refine zv_iconst S dL_isShapes_54 ?_
        refine zv_iconst S dL_isShapes_55 ?_
        refine zv_iload_n S dL_isShapes_56 rfl (lv_at hl 0 rfl) ?_
        refine zv_iconst S dL_isShapes_57 ?_
        refine zcp_Vi (As := [.int (zI 0), .int (zI 0), .int (zI 1), .int (zI tl), .int (zI 0)]) (rest := []) (wr := [(hr, .inr (2, [.ref ra, .ref rb, .ref rc, .int (zI kk), .int (zI f0), .int (zI l0), .int (zI b0), .int (zI t0), .int (zI x0), .int (zI y0)])), zci G ra 10 P, zci G rb 10 Qu, zci G rc 10 M]) (n := 5) S hN hK (hE0.kept hS.2.1) hP hD hS hA hl (n_X4_add l hl0 G H.size h0 qs hr hc hk SF h1 qa qb qc qe (zU (zU fa 0 1) 1 (-1)) (zU (zU fb 0 0) 1 0) (zU (zU fc 0 wd) 1 0) (zU (zU fe 0 0) 1 0) 2 0 1 tl 0 hsf (by omega) (by unfold zadok; omega)) gL_isShapes_X4_add rfl ⟨rfl, rfl⟩ (by decide +kernel) rfl ⟨Nat.le_of_ble_eq_true rfl, Nat.le_of_ble_eq_true rfl, Nat.le_of_ble_eq_true rfl, Nat.le_of_ble_eq_true rfl⟩ [0, 1, 2, 3, 4, 5, 6] [7, 8, 9, 10] rfl rfl (by decide) (by decide) (by decide) (ci := 4) rfl rfl rfl (Nat.le_of_ble_eq_true rfl) dL_isShapes_58 rfl (fun r_ u_21 H1 locs1 hp_22 hP1 hD1 hS1 hz1 => ?_)
        try dsimp only at hp_22 hP1 hD1
        obtain ⟨rfl, hpo_23⟩ := hp_22
        generalize H1 = H at hP1 hD1 hS1 hz1 ⊢
        generalize locs1 = locs at hS1 ⊢
        have hS := hS1
        have hP : va_P G.1 vwCl [(hr, .inr (2, [.ref ra, .ref rb, .ref rc, .int (zI kk), .int (zI f0), .int (zI l0), .int (zI b0), .int (zI t0), .int (zI x0), .int (zI y0)])), zci G ra 10 P, zci G rb 10 Qu, zci G rc 10 M, (h0, .inr (4, [.ref qs, .int (zI 1), .ref hr, .ref hc, .ref hk])), zcq G qs 8 SF, (h1, .inr (3, [.ref qa, .ref qb, .ref qc, .ref qe, .int (zI 3)])), zci G qa 10 (zU (zU (zU fa 0 1) 1 (-1)) 2 0), zci G qb 10 (zU (zU (zU fb 0 0) 1 0) 2 1), zci G qc 10 (zU (zU (zU fc 0 wd) 1 0) 2 tl), zci G qe 10 (zU (zU (zU fe 0 0) 1 0) 2 0)] H := hP1
        have hD : va_D A [(hr, .inr (2, [.ref ra, .ref rb, .ref rc, .int (zI kk), .int (zI f0), .int (zI l0), .int (zI b0), .int (zI t0), .int (zI x0), .int (zI y0)])), zci G ra 10 P, zci G rb 10 Qu, zci G rc 10 M, (h0, .inr (4, [.ref qs, .int (zI 1), .ref hr, .ref hc, .ref hk])), zcq G qs 8 SF, (h1, .inr (3, [.ref qa, .ref qb, .ref qc, .ref qe, .int (zI 3)])), zci G qa 10 (zU (zU (zU fa 0 1) 1 (-1)) 2 0), zci G qb 10 (zU (zU (zU fb 0 0) 1 0) 2 1), zci G qc 10 (zU (zU (zU fc 0 wd) 1 0) 2 tl), zci G qe 10 (zU (zU (zU fe 0 0) 1 0) 2 0)] := hD1
        have hP : va_P G.1 vwCl [(h0, .inr (4, [.ref qs, .int (zI 1), .ref hr, .ref hc, .ref hk])), zcq G qs 8 SF, (h1, .inr (3, [.ref qa, .ref qb, .ref qc, .ref qe, .int (zI 3)])), zci G qa 10 (zU (zU (zU fa 0 1) 1 (-1)) 2 0), zci G qb 10 (zU (zU (zU fb 0 0) 1 0) 2 1), zci G qc 10 (zU (zU (zU fc 0 wd) 1 0) 2 tl), zci G qe 10 (zU (zU (zU fe 0 0) 1 0) 2 0), (hr, .inr (2, [.ref ra, .ref rb, .ref rc, .int (zI kk), .int (zI f0), .int (zI l0), .int (zI b0), .int (zI t0), .int (zI x0), .int (zI y0)])), zci G ra 10 P, zci G rb 10 Qu, zci G rc 10 M] H := hP.sub [4, 5, 6, 7, 8, 9, 10, 0, 1, 2, 3] rfl
        have hD : va_D A [(h0, .inr (4, [.ref qs, .int (zI 1), .ref hr, .ref hc, .ref hk])), zcq G qs 8 SF, (h1, .inr (3, [.ref qa, .ref qb, .ref qc, .ref qe, .int (zI 3)])), zci G qa 10 (zU (zU (zU fa 0 1) 1 (-1)) 2 0), zci G qb 10 (zU (zU (zU fb 0 0) 1 0) 2 1), zci G qc 10 (zU (zU (zU fc 0 wd) 1 0) 2 tl), zci G qe 10 (zU (zU (zU fe 0 0) 1 0) 2 0), (hr, .inr (2, [.ref ra, .ref rb, .ref rc, .int (zI kk), .int (zI f0), .int (zI l0), .int (zI b0), .int (zI t0), .int (zI x0), .int (zI y0)])), zci G ra 10 P, zci G rb 10 Qu, zci G rc 10 M] := hD.sub [4, 5, 6, 7, 8, 9, 10, 0, 1, 2, 3] (by decide) rfl
        refine zv_iconst S dL_isShapes_61 ?_
        refine zv_icmp_ne (tgt := 157) S (by unfold zR; omega) (by unfold zR; omega) dL_isShapes_62 (by decide) (fun c_24 => ?_) (fun c_24 => ?_)
        · exact absurd c_24 (by omega)
        · refine zv_aload_n S dL_isShapes_65 rfl (lv_at hl 2 rfl) ?_
          refine zv_iconst S dL_isShapes_66 ?_
          refine zv_iconst S dL_isShapes_67 ?_
          refine zv_iconst S dL_isShapes_68 ?_
          refine zv_iconst S dL_isShapes_69 ?_
          refine zv_iconst S dL_isShapes_70 ?_
          refine zcp_Vi (As := [.int (zI 0), .int (zI 0), .int (zI (-1)), .int (zI 0), .int (zI 0)]) (rest := []) (wr := [(hr, .inr (2, [.ref ra, .ref rb, .ref rc, .int (zI kk), .int (zI f0), .int (zI l0), .int (zI b0), .int (zI t0), .int (zI x0), .int (zI y0)])), zci G ra 10 P, zci G rb 10 Qu, zci G rc 10 M]) (n := 5) S hN hK (hE0.kept hS.2.1) hP hD hS hA hl (n_X4_add l hl0 G H.size h0 qs hr hc hk SF h1 qa qb qc qe (zU (zU (zU fa 0 1) 1 (-1)) 2 0) (zU (zU (zU fb 0 0) 1 0) 2 1) (zU (zU (zU fc 0 wd) 1 0) 2 tl) (zU (zU (zU fe 0 0) 1 0) 2 0) 3 0 (-1) 0 0 hsf (by omega) (by unfold zadok; omega)) gL_isShapes_X4_add rfl ⟨rfl, rfl⟩ (by decide +kernel) rfl ⟨Nat.le_of_ble_eq_true rfl, Nat.le_of_ble_eq_true rfl, Nat.le_of_ble_eq_true rfl, Nat.le_of_ble_eq_true rfl⟩ [0, 1, 2, 3, 4, 5, 6] [7, 8, 9, 10] rfl rfl (by decide) (by decide) (by decide) (ci := 4) rfl rfl rfl (Nat.le_of_ble_eq_true rfl) dL_isShapes_71 rfl (fun r_ u_25 H1 locs1 hp_26 hP1 hD1 hS1 hz1 => ?_)
          try dsimp only at hp_26 hP1 hD1
          obtain ⟨rfl, hpo_27⟩ := hp_26
          generalize H1 = H at hP1 hD1 hS1 hz1 ⊢
          generalize locs1 = locs at hS1 ⊢
          have hS := hS1
          have hP : va_P G.1 vwCl [(hr, .inr (2, [.ref ra, .ref rb, .ref rc, .int (zI kk), .int (zI f0), .int (zI l0), .int (zI b0), .int (zI t0), .int (zI x0), .int (zI y0)])), zci G ra 10 P, zci G rb 10 Qu, zci G rc 10 M, (h0, .inr (4, [.ref qs, .int (zI 1), .ref hr, .ref hc, .ref hk])), zcq G qs 8 SF, (h1, .inr (3, [.ref qa, .ref qb, .ref qc, .ref qe, .int (zI 4)])), zci G qa 10 (zU (zU (zU (zU fa 0 1) 1 (-1)) 2 0) 3 0), zci G qb 10 (zU (zU (zU (zU fb 0 0) 1 0) 2 1) 3 (-1)), zci G qc 10 (zU (zU (zU (zU fc 0 wd) 1 0) 2 tl) 3 0), zci G qe 10 (zU (zU (zU (zU fe 0 0) 1 0) 2 0) 3 0)] H := hP1
          have hD : va_D A [(hr, .inr (2, [.ref ra, .ref rb, .ref rc, .int (zI kk), .int (zI f0), .int (zI l0), .int (zI b0), .int (zI t0), .int (zI x0), .int (zI y0)])), zci G ra 10 P, zci G rb 10 Qu, zci G rc 10 M, (h0, .inr (4, [.ref qs, .int (zI 1), .ref hr, .ref hc, .ref hk])), zcq G qs 8 SF, (h1, .inr (3, [.ref qa, .ref qb, .ref qc, .ref qe, .int (zI 4)])), zci G qa 10 (zU (zU (zU (zU fa 0 1) 1 (-1)) 2 0) 3 0), zci G qb 10 (zU (zU (zU (zU fb 0 0) 1 0) 2 1) 3 (-1)), zci G qc 10 (zU (zU (zU (zU fc 0 wd) 1 0) 2 tl) 3 0), zci G qe 10 (zU (zU (zU (zU fe 0 0) 1 0) 2 0) 3 0)] := hD1
          have hP : va_P G.1 vwCl [(h0, .inr (4, [.ref qs, .int (zI 1), .ref hr, .ref hc, .ref hk])), zcq G qs 8 SF, (h1, .inr (3, [.ref qa, .ref qb, .ref qc, .ref qe, .int (zI 4)])), zci G qa 10 (zU (zU (zU (zU fa 0 1) 1 (-1)) 2 0) 3 0), zci G qb 10 (zU (zU (zU (zU fb 0 0) 1 0) 2 1) 3 (-1)), zci G qc 10 (zU (zU (zU (zU fc 0 wd) 1 0) 2 tl) 3 0), zci G qe 10 (zU (zU (zU (zU fe 0 0) 1 0) 2 0) 3 0), (hr, .inr (2, [.ref ra, .ref rb, .ref rc, .int (zI kk), .int (zI f0), .int (zI l0), .int (zI b0), .int (zI t0), .int (zI x0), .int (zI y0)])), zci G ra 10 P, zci G rb 10 Qu, zci G rc 10 M] H := hP.sub [4, 5, 6, 7, 8, 9, 10, 0, 1, 2, 3] rfl
          have hD : va_D A [(h0, .inr (4, [.ref qs, .int (zI 1), .ref hr, .ref hc, .ref hk])), zcq G qs 8 SF, (h1, .inr (3, [.ref qa, .ref qb, .ref qc, .ref qe, .int (zI 4)])), zci G qa 10 (zU (zU (zU (zU fa 0 1) 1 (-1)) 2 0) 3 0), zci G qb 10 (zU (zU (zU (zU fb 0 0) 1 0) 2 1) 3 (-1)), zci G qc 10 (zU (zU (zU (zU fc 0 wd) 1 0) 2 tl) 3 0), zci G qe 10 (zU (zU (zU (zU fe 0 0) 1 0) 2 0) 3 0), (hr, .inr (2, [.ref ra, .ref rb, .ref rc, .int (zI kk), .int (zI f0), .int (zI l0), .int (zI b0), .int (zI t0), .int (zI x0), .int (zI y0)])), zci G ra 10 P, zci G rb 10 Qu, zci G rc 10 M] := hD.sub [4, 5, 6, 7, 8, 9, 10, 0, 1, 2, 3] (by decide) rfl
          refine zv_iconst S dL_isShapes_74 ?_
          refine zv_icmp_ne (tgt := 157) S (by unfold zR; omega) (by unfold zR; omega) dL_isShapes_75 (by decide) (fun c_28 => ?_) (fun c_28 => ?_)
          · exact absurd c_28 (by omega)
          · have I0 := zbx_I fa fb fc fe hw12 ht12
            obtain ⟨hn1, hn2, hn3⟩ := zbx_all (fa := fa) (fb := fb) fc fe hw12 ht12
            obtain ⟨ga, hga⟩ : ∃ z : Nat → Int, z = zbxa fa := ⟨_, rfl⟩
            obtain ⟨gb, hgb⟩ : ∃ z : Nat → Int, z = zbxb fb := ⟨_, rfl⟩
            obtain ⟨gc, hgc⟩ : ∃ z : Nat → Int, z = zbxc fc wd tl := ⟨_, rfl⟩
            obtain ⟨ge, hge⟩ : ∃ z : Nat → Int, z = zbxe fe := ⟨_, rfl⟩
            rw [← hga, ← hgb, ← hgc, ← hge] at I0 hn1 hn2 hn3
            have hP : va_P G.1 vwCl [(h0, .inr (4, [.ref qs, .int (zI 1), .ref hr, .ref hc, .ref hk])), zcq G qs 8 SF, (h1, .inr (3, [.ref qa, .ref qb, .ref qc, .ref qe, .int (zI 4)])), zci G qa 10 ga, zci G qb 10 gb, zci G qc 10 gc, zci G qe 10 ge, (hr, .inr (2, [.ref ra, .ref rb, .ref rc, .int (zI kk), .int (zI f0), .int (zI l0), .int (zI b0), .int (zI t0), .int (zI x0), .int (zI y0)])), zci G ra 10 P, zci G rb 10 Qu, zci G rc 10 M] H := by rw [hga, hgb, hgc, hge]; exact hP
            have hD : va_D A [(h0, .inr (4, [.ref qs, .int (zI 1), .ref hr, .ref hc, .ref hk])), zcq G qs 8 SF, (h1, .inr (3, [.ref qa, .ref qb, .ref qc, .ref qe, .int (zI 4)])), zci G qa 10 ga, zci G qb 10 gb, zci G qc 10 gc, zci G qe 10 ge, (hr, .inr (2, [.ref ra, .ref rb, .ref rc, .int (zI kk), .int (zI f0), .int (zI l0), .int (zI b0), .int (zI t0), .int (zI x0), .int (zI y0)])), zci G ra 10 P, zci G rb 10 Qu, zci G rc 10 M] := by rw [hga, hgb, hgc, hge]; exact hD
            refine zv_aload_n S dL_isShapes_78 rfl (lv_at hl 2 rfl) ?_
            refine zv_iconst S dL_isShapes_79 ?_
            refine zcp_Vi (As := [.int (zI 0)]) (rest := []) (wr := [zci G qc 10 gc, zci G qe 10 ge, (hr, .inr (2, [.ref ra, .ref rb, .ref rc, .int (zI kk), .int (zI f0), .int (zI l0), .int (zI b0), .int (zI t0), .int (zI x0), .int (zI y0)])), zci G ra 10 P, zci G rb 10 Qu, zci G rc 10 M]) (n := 1) S hN hK (hE0.kept hS.2.1) hP hD hS hA hl (n_X4_isPlace l hl0 G H.size h0 qs hr hc hk SF h1 qa qb qc qe ga gb 4 gc ge hsf I0) gL_isShapes_X4_isPlace rfl ⟨rfl, rfl⟩ (by decide +kernel) rfl ⟨Nat.le_of_ble_eq_true rfl, Nat.le_of_ble_eq_true rfl, Nat.le_of_ble_eq_true rfl, Nat.le_of_ble_eq_true rfl⟩ [0, 1, 2, 3, 4] [5, 6, 7, 8, 9, 10] rfl rfl (by decide) (by decide) (by decide) (ci := 4) rfl rfl rfl (Nat.le_of_ble_eq_true rfl) dL_isShapes_80 rfl (fun r_ u_29 H1 locs1 hp_30 hP1 hD1 hS1 hz1 => ?_)
            try dsimp only at hp_30 hP1 hD1
            obtain ⟨rfl, hpo_31⟩ := hp_30
            generalize H1 = H at hP1 hD1 hS1 hz1 ⊢
            generalize locs1 = locs at hS1 ⊢
            have hS := hS1
            have hP : va_P G.1 vwCl [zci G qc 10 gc, zci G qe 10 ge, (hr, .inr (2, [.ref ra, .ref rb, .ref rc, .int (zI kk), .int (zI f0), .int (zI l0), .int (zI b0), .int (zI t0), .int (zI x0), .int (zI y0)])), zci G ra 10 P, zci G rb 10 Qu, zci G rc 10 M, (h0, .inr (4, [.ref qs, .int (zI 1), .ref hr, .ref hc, .ref hk])), zcq G qs 8 SF, (h1, .inr (3, [.ref qa, .ref qb, .ref qc, .ref qe, .int (zI 4)])), zci G qa 10 ga, zci G qb 10 gb] H := hP1
            have hD : va_D A [zci G qc 10 gc, zci G qe 10 ge, (hr, .inr (2, [.ref ra, .ref rb, .ref rc, .int (zI kk), .int (zI f0), .int (zI l0), .int (zI b0), .int (zI t0), .int (zI x0), .int (zI y0)])), zci G ra 10 P, zci G rb 10 Qu, zci G rc 10 M, (h0, .inr (4, [.ref qs, .int (zI 1), .ref hr, .ref hc, .ref hk])), zcq G qs 8 SF, (h1, .inr (3, [.ref qa, .ref qb, .ref qc, .ref qe, .int (zI 4)])), zci G qa 10 ga, zci G qb 10 gb] := hD1
            have hP : va_P G.1 vwCl [(h0, .inr (4, [.ref qs, .int (zI 1), .ref hr, .ref hc, .ref hk])), zcq G qs 8 SF, (h1, .inr (3, [.ref qa, .ref qb, .ref qc, .ref qe, .int (zI 4)])), zci G qa 10 ga, zci G qb 10 gb, zci G qc 10 gc, zci G qe 10 ge, (hr, .inr (2, [.ref ra, .ref rb, .ref rc, .int (zI kk), .int (zI f0), .int (zI l0), .int (zI b0), .int (zI t0), .int (zI x0), .int (zI y0)])), zci G ra 10 P, zci G rb 10 Qu, zci G rc 10 M] H := hP.sub [6, 7, 8, 9, 10, 0, 1, 2, 3, 4, 5] rfl
            have hD : va_D A [(h0, .inr (4, [.ref qs, .int (zI 1), .ref hr, .ref hc, .ref hk])), zcq G qs 8 SF, (h1, .inr (3, [.ref qa, .ref qb, .ref qc, .ref qe, .int (zI 4)])), zci G qa 10 ga, zci G qb 10 gb, zci G qc 10 gc, zci G qe 10 ge, (hr, .inr (2, [.ref ra, .ref rb, .ref rc, .int (zI kk), .int (zI f0), .int (zI l0), .int (zI b0), .int (zI t0), .int (zI x0), .int (zI y0)])), zci G ra 10 P, zci G rb 10 Qu, zci G rc 10 M] := hD.sub [6, 7, 8, 9, 10, 0, 1, 2, 3, 4, 5] (by decide) rfl
            refine zv_ifb_eq (tgt := 157) S dL_isShapes_83 (by decide) (fun c_32 => ?_) (fun c_32 => ?_)
            · exact absurd (zqI_place I0) c_32
            · refine zv_aload_n S dL_isShapes_86 rfl (lv_at hl 2 rfl) ?_
              refine zv_iconst S dL_isShapes_87 ?_
              refine zv_iconst S dL_isShapes_88 ?_
              refine zcp_Vl (As := [.int (zI 0), .int (zI 3)]) (rest := []) (wr := []) (n := 2) S hN hK (hE0.kept hS.2.1) hP hD hS hA hl (n_X4_count l hl0 G H.size h0 qs hr hc hk SF h1 qa qb qc qe ga gb gc ge 4 ra rb rc P Qu M kk f0 l0 b0 t0 x0 y0 3 hsf I0 (by omega)) gL_isShapes_X4_count rfl ⟨rfl, rfl⟩ (by decide +kernel) rfl ⟨Nat.le_of_ble_eq_true rfl, Nat.le_of_ble_eq_true rfl, Nat.le_of_ble_eq_true rfl, Nat.le_of_ble_eq_true rfl⟩ [0, 1, 2, 3, 4, 5, 6, 7, 8, 9, 10] [] rfl rfl (by decide) (by decide) (by decide) (ci := 4) rfl rfl rfl (Nat.le_of_ble_eq_true rfl) dL_isShapes_89 rfl (fun r_ u_33 H1 locs1 hp_34 hP1 hD1 hS1 hz1 => ?_)
              obtain ⟨P1_35, Q1_36, M1_37, kk1_38, f1_39, l1_40, b1_41, t1_42, x1_43, y1_44⟩ := u_33
              try dsimp only at hp_34 hP1 hD1
              obtain ⟨rfl, hpo_45⟩ := hp_34
              generalize H1 = H at hP1 hD1 hS1 hz1 ⊢
              generalize locs1 = locs at hS1 ⊢
              have hS := hS1
              have hP : va_P G.1 vwCl [(h0, .inr (4, [.ref qs, .int (zI 1), .ref hr, .ref hc, .ref hk])), zcq G qs 8 SF, (h1, .inr (3, [.ref qa, .ref qb, .ref qc, .ref qe, .int (zI 4)])), zci G qa 10 ga, zci G qb 10 gb, zci G qc 10 gc, zci G qe 10 ge, (hr, .inr (2, [.ref ra, .ref rb, .ref rc, .int (zI kk1_38), .int (zI f1_39), .int (zI l1_40), .int (zI b1_41), .int (zI t1_42), .int (zI x1_43), .int (zI y1_44)])), zci G ra 10 P1_35, zci G rb 10 Q1_36, zci G rc 10 M1_37] H := hP1
              have hD : va_D A [(h0, .inr (4, [.ref qs, .int (zI 1), .ref hr, .ref hc, .ref hk])), zcq G qs 8 SF, (h1, .inr (3, [.ref qa, .ref qb, .ref qc, .ref qe, .int (zI 4)])), zci G qa 10 ga, zci G qb 10 gb, zci G qc 10 gc, zci G qe 10 ge, (hr, .inr (2, [.ref ra, .ref rb, .ref rc, .int (zI kk1_38), .int (zI f1_39), .int (zI l1_40), .int (zI b1_41), .int (zI t1_42), .int (zI x1_43), .int (zI y1_44)])), zci G ra 10 P1_35, zci G rb 10 Q1_36, zci G rc 10 M1_37] := hD1
              refine zv_iload_n S dL_isShapes_92 rfl (lv_at hl 1 rfl) ?_
              refine zv_i2l S (by unfold zR; omega) dL_isShapes_93 ?_
              refine zv_lconst (v := 1) S dL_isShapes_94 (by decide) ?_
              refine zv_ladd S dL_isShapes_95 ?_
              refine zv_iload_n S dL_isShapes_96 rfl (lv_at hl 0 rfl) ?_
              refine zv_i2l S (by unfold zR; omega) dL_isShapes_97 ?_
              refine zv_lconst (v := 1) S dL_isShapes_98 (by decide) ?_
              refine zv_ladd S dL_isShapes_99 ?_
              refine zv_lmul S dL_isShapes_100 ?_
              refine zv_lif_ne (tgt := 157) S (zpts_S _ _ _ _) (by rw [← hn1]; exact zpts_S _ _ _ _) dL_isShapes_101 dL_isShapes_102 (by decide) (fun c_46 => ?_) (fun c_46 => ?_)
              · exact absurd hn1 c_46
              · refine zv_aload_n S dL_isShapes_105 rfl (lv_at hl 2 rfl) ?_
                refine zv_iconst S dL_isShapes_106 ?_
                refine zv_iconst S dL_isShapes_107 ?_
                refine zv_iconst S dL_isShapes_108 ?_
                refine zcp_Vl (As := [.int (zI 0), .int (zI 1), .int (zI 1)]) (rest := []) (wr := []) (n := 3) S hN hK (hE0.kept hS.2.1) hP hD hS hA hl (n_X4_blown l hl0 G H.size h0 qs hr hc hk SF h1 qa qb qc qe ga gb gc ge 4 ra rb rc P1_35 Q1_36 M1_37 kk1_38 f1_39 l1_40 b1_41 t1_42 x1_43 y1_44 1 1 hsf I0 (by omega) (Or.inr rfl)) gL_isShapes_X4_blown rfl ⟨rfl, rfl⟩ (by decide +kernel) rfl ⟨Nat.le_of_ble_eq_true rfl, Nat.le_of_ble_eq_true rfl, Nat.le_of_ble_eq_true rfl, Nat.le_of_ble_eq_true rfl⟩ [0, 1, 2, 3, 4, 5, 6, 7, 8, 9, 10] [] rfl rfl (by decide) (by decide) (by decide) (ci := 4) rfl rfl rfl (Nat.le_of_ble_eq_true rfl) dL_isShapes_109 rfl (fun r_ u_47 H1 locs1 hp_48 hP1 hD1 hS1 hz1 => ?_)
                obtain ⟨P1_49, Q1_50, M1_51, kk1_52, f1_53, l1_54, b1_55, t1_56, x1_57, y1_58⟩ := u_47
                try dsimp only at hp_48 hP1 hD1
                obtain ⟨rfl, hpo_59⟩ := hp_48
                generalize H1 = H at hP1 hD1 hS1 hz1 ⊢
                generalize locs1 = locs at hS1 ⊢
                have hS := hS1
                have hP : va_P G.1 vwCl [(h0, .inr (4, [.ref qs, .int (zI 1), .ref hr, .ref hc, .ref hk])), zcq G qs 8 SF, (h1, .inr (3, [.ref qa, .ref qb, .ref qc, .ref qe, .int (zI 4)])), zci G qa 10 ga, zci G qb 10 gb, zci G qc 10 gc, zci G qe 10 ge, (hr, .inr (2, [.ref ra, .ref rb, .ref rc, .int (zI kk1_52), .int (zI f1_53), .int (zI l1_54), .int (zI b1_55), .int (zI t1_56), .int (zI x1_57), .int (zI y1_58)])), zci G ra 10 P1_49, zci G rb 10 Q1_50, zci G rc 10 M1_51] H := hP1
                have hD : va_D A [(h0, .inr (4, [.ref qs, .int (zI 1), .ref hr, .ref hc, .ref hk])), zcq G qs 8 SF, (h1, .inr (3, [.ref qa, .ref qb, .ref qc, .ref qe, .int (zI 4)])), zci G qa 10 ga, zci G qb 10 gb, zci G qc 10 gc, zci G qe 10 ge, (hr, .inr (2, [.ref ra, .ref rb, .ref rc, .int (zI kk1_52), .int (zI f1_53), .int (zI l1_54), .int (zI b1_55), .int (zI t1_56), .int (zI x1_57), .int (zI y1_58)])), zci G ra 10 P1_49, zci G rb 10 Q1_50, zci G rc 10 M1_51] := hD1
                refine zv_iload_n S dL_isShapes_112 rfl (lv_at hl 1 rfl) ?_
                refine zv_i2l S (by unfold zR; omega) dL_isShapes_113 ?_
                refine zv_lconst (v := 1) S dL_isShapes_114 (by decide) ?_
                refine zv_lsub S dL_isShapes_115 ?_
                refine zv_iload_n S dL_isShapes_116 rfl (lv_at hl 0 rfl) ?_
                refine zv_i2l S (by unfold zR; omega) dL_isShapes_117 ?_
                refine zv_lconst (v := 1) S dL_isShapes_118 (by decide) ?_
                refine zv_lsub S dL_isShapes_119 ?_
                refine zv_lmul S dL_isShapes_120 ?_
                refine zv_lif_ne (tgt := 157) S (zpts_S _ _ _ _) (by rw [← hn2]; exact zpts_S _ _ _ _) dL_isShapes_121 dL_isShapes_122 (by decide) (fun c_60 => ?_) (fun c_60 => ?_)
                · exact absurd hn2 c_60
                · refine zv_aload_n S dL_isShapes_125 rfl (lv_at hl 2 rfl) ?_
                  refine zv_iconst S dL_isShapes_126 ?_
                  refine zv_iconst S dL_isShapes_127 ?_
                  refine zv_iconst S dL_isShapes_128 ?_
                  refine zcp_Vl (As := [.int (zI 0), .int (zI 3), .int (zI 0)]) (rest := []) (wr := []) (n := 3) S hN hK (hE0.kept hS.2.1) hP hD hS hA hl (n_X4_blown l hl0 G H.size h0 qs hr hc hk SF h1 qa qb qc qe ga gb gc ge 4 ra rb rc P1_49 Q1_50 M1_51 kk1_52 f1_53 l1_54 b1_55 t1_56 x1_57 y1_58 3 0 hsf I0 (by omega) (Or.inl rfl)) gL_isShapes_X4_blown rfl ⟨rfl, rfl⟩ (by decide +kernel) rfl ⟨Nat.le_of_ble_eq_true rfl, Nat.le_of_ble_eq_true rfl, Nat.le_of_ble_eq_true rfl, Nat.le_of_ble_eq_true rfl⟩ [0, 1, 2, 3, 4, 5, 6, 7, 8, 9, 10] [] rfl rfl (by decide) (by decide) (by decide) (ci := 4) rfl rfl rfl (Nat.le_of_ble_eq_true rfl) dL_isShapes_129 rfl (fun r_ u_61 H1 locs1 hp_62 hP1 hD1 hS1 hz1 => ?_)
                  obtain ⟨P1_63, Q1_64, M1_65, kk1_66, f1_67, l1_68, b1_69, t1_70, x1_71, y1_72⟩ := u_61
                  try dsimp only at hp_62 hP1 hD1
                  obtain ⟨rfl, hpo_73⟩ := hp_62
                  generalize H1 = H at hP1 hD1 hS1 hz1 ⊢
                  generalize locs1 = locs at hS1 ⊢
                  have hS := hS1
                  have hP : va_P G.1 vwCl [(h0, .inr (4, [.ref qs, .int (zI 1), .ref hr, .ref hc, .ref hk])), zcq G qs 8 SF, (h1, .inr (3, [.ref qa, .ref qb, .ref qc, .ref qe, .int (zI 4)])), zci G qa 10 ga, zci G qb 10 gb, zci G qc 10 gc, zci G qe 10 ge, (hr, .inr (2, [.ref ra, .ref rb, .ref rc, .int (zI kk1_66), .int (zI f1_67), .int (zI l1_68), .int (zI b1_69), .int (zI t1_70), .int (zI x1_71), .int (zI y1_72)])), zci G ra 10 P1_63, zci G rb 10 Q1_64, zci G rc 10 M1_65] H := hP1
                  have hD : va_D A [(h0, .inr (4, [.ref qs, .int (zI 1), .ref hr, .ref hc, .ref hk])), zcq G qs 8 SF, (h1, .inr (3, [.ref qa, .ref qb, .ref qc, .ref qe, .int (zI 4)])), zci G qa 10 ga, zci G qb 10 gb, zci G qc 10 gc, zci G qe 10 ge, (hr, .inr (2, [.ref ra, .ref rb, .ref rc, .int (zI kk1_66), .int (zI f1_67), .int (zI l1_68), .int (zI b1_69), .int (zI t1_70), .int (zI x1_71), .int (zI y1_72)])), zci G ra 10 P1_63, zci G rb 10 Q1_64, zci G rc 10 M1_65] := hD1
                  refine zv_ldc2 (v := 3) S wd_L_isShapes_kl54 (by decide) dL_isShapes_132 ?_
                  refine zv_iload_n S dL_isShapes_135 rfl (lv_at hl 1 rfl) ?_
                  refine zv_i2l S (by unfold zR; omega) dL_isShapes_136 ?_
                  refine zv_lmul S dL_isShapes_137 ?_
                  refine zv_lconst (v := 1) S dL_isShapes_138 (by decide) ?_
                  refine zv_ladd S dL_isShapes_139 ?_
                  refine zv_ldc2 (v := 3) S wd_L_isShapes_kl54 (by decide) dL_isShapes_140 ?_
                  refine zv_iload_n S dL_isShapes_143 rfl (lv_at hl 0 rfl) ?_
                  refine zv_i2l S (by unfold zR; omega) dL_isShapes_144 ?_
                  refine zv_lmul S dL_isShapes_145 ?_
                  refine zv_lconst (v := 1) S dL_isShapes_146 (by decide) ?_
                  refine zv_ladd S dL_isShapes_147 ?_
                  refine zv_lmul S dL_isShapes_148 ?_
                  refine zv_lif_ne (tgt := 157) S (zpts_S _ _ _ _) (by rw [← hn3]; exact zpts_S _ _ _ _) dL_isShapes_149 dL_isShapes_150 (by decide) (fun c_74 => ?_) (fun c_74 => ?_)
                  · exact absurd hn3 c_74
                  · refine zv_iconst S dL_isShapes_153 ?_
                    refine zv_goto (tgt := 158) S dL_isShapes_154 (by decide) ?_
                    refine zv_istore (lv' := [(4, .int (zI 1)), (3, .int (zI tl)), (2, .int (zI wd)), (0, .ref h0), (1, .ref bt)]) S dL_isShapes_158 hl (by decide) rfl (fun ls hl => ?_)
                    refine zv_iconst S dL_isShapes_160 ?_
                    refine zv_istore (lv' := [(5, .int (zI 4)), (4, .int (zI 1)), (3, .int (zI tl)), (2, .int (zI wd)), (0, .ref h0), (1, .ref bt)]) S dL_isShapes_161 hl (by decide) rfl (fun ls hl => ?_)
                    refine zv_iconst S dL_isShapes_163 ?_
                    refine zv_istore (lv' := [(6, .int (zI 0)), (5, .int (zI 4)), (4, .int (zI 1)), (3, .int (zI tl)), (2, .int (zI wd)), (0, .ref h0), (1, .ref bt)]) S dL_isShapes_164 hl (by decide) rfl (fun ls hl => ?_)
                    have LP166 : ∀ (nf : Nat) (i : Nat) (v6 : Int) (k : Nat) (m5 : Int) (sz : Int) (xa : Nat → Int) (xb : Nat → Int) (xc : Nat → Int) (xe : Nat → Int) (Pa : Nat → Int) (Qa : Nat → Int) (Ma : Nat → Int) (rka : Int) (rfa : Int) (rla : Int) (rba : Int) (rta : Int) (rxa : Int) (rya : Int) (cc : Nat) (ss : Nat) (hv6 : v6 = (i : Int)) (hm5 : m5 = (k : Int)) (hsz : sz = (k : Int)) (hi8 : i ≤ 8) (I : zqI xa xb xc xe k) (hcc : cc ≤ 50 + 300 * i) (hss : ss ≤ 300 + 1800 * i), (8 - i) < nf → ∀ (H : Heap) (locs : List Loc), va_P G.1 vwCl [(h0, .inr (4, [.ref qs, .int (zI 1), .ref hr, .ref hc, .ref hk])), zcq G qs 8 SF, (h1, .inr (3, [.ref qa, .ref qb, .ref qc, .ref qe, .int (zI sz)])), zci G qa 10 xa, zci G qb 10 xb, zci G qc 10 xc, zci G qe 10 xe, (hr, .inr (2, [.ref ra, .ref rb, .ref rc, .int (zI rka), .int (zI rfa), .int (zI rla), .int (zI rba), .int (zI rta), .int (zI rxa), .int (zI rya)])), zci G ra 10 Pa, zci G rb 10 Qa, zci G rc 10 Ma] H → va_D A [(h0, .inr (4, [.ref qs, .int (zI 1), .ref hr, .ref hc, .ref hk])), zcq G qs 8 SF, (h1, .inr (3, [.ref qa, .ref qb, .ref qc, .ref qe, .int (zI sz)])), zci G qa 10 xa, zci G qb 10 xb, zci G qc 10 xc, zci G qe 10 xe, (hr, .inr (2, [.ref ra, .ref rb, .ref rc, .int (zI rka), .int (zI rfa), .int (zI rla), .int (zI rba), .int (zI rta), .int (zI rxa), .int (zI rya)])), zci G ra 10 Pa, zci G rb 10 Qa, zci G rc 10 Ma] → va_S A s.heap H locs → ∀ ls : Array Slot, lv_has ls 19 [(6, .int (zI v6)), (5, .int (zI m5)), (4, .int (zI 1)), (3, .int (zI tl)), (2, .int (zI wd)), (0, .ref h0), (1, .ref bt)] → W p l e ({ frames := 10, cells := 2600, slots := 15600, locals := 192 }) s m ([.ref h0, .ref bt]).toArray below meth c H locs cc ss Q (F0 m 166 ls []) := by
                      intro nf
                      induction nf with
                      | zero =>
                        intro i v6 k m5 sz xa xb xc xe Pa Qa Ma rka rfa rla rba rta rxa rya cc ss hv6 hm5 hsz hi8 I hcc hss hf
                        exact absurd hf (Nat.not_lt_zero _)
                      | succ nf ih166 =>
                        intro i v6 k m5 sz xa xb xc xe Pa Qa Ma rka rfa rla rba rta rxa rya cc ss hv6 hm5 hsz hi8 I hcc hss hf H locs hP hD hS ls hl
                        subst hsz
                        subst hm5
                        subst hv6
                        have hk10 := I.1
                        refine zv_iload S dL_isShapes_166 (lv_at hl 0 rfl) ?_
                        refine zv_bipush (v := 8) S dL_isShapes_168 (by decide) ?_
                        refine zv_icmp_ge (tgt := 629) S (by unfold zR; omega) (by unfold zR; omega) dL_isShapes_170 (by decide) (fun c_75 => ?_) (fun c_75 => ?_)
                        · refine zv_iload S dL_isShapes_629 (lv_at hl 2 rfl) ?_
                          refine W.widen (k := 2600) (n := 15600) (by omega) (by omega) ?_
                          exact hret _ _ _ _ _ ⟨xa, xb, xc, xe, (k : Int), Pa, Qa, Ma, rka, rfa, rla, rba, rta, rxa, rya⟩ dL_isShapes_631 (by first | exact Or.inl rfl | exact Or.inr rfl) rfl (hP.sub [0, 1, 2, 3, 4, 5, 6, 7, 8, 9, 10] rfl) (hD.sub [0, 1, 2, 3, 4, 5, 6, 7, 8, 9, 10] (by decide) rfl) hS
                        · refine zv_iload S dL_isShapes_173 (lv_at hl 2 rfl) ?_
                          refine zv_if_eq (tgt := 629) S (by unfold zR; omega) dL_isShapes_175 (by decide) (fun c_76 => ?_) (fun c_76 => ?_)
                          · exact absurd c_76 (by omega)
                          · refine zv_aload_n S dL_isShapes_178 rfl (lv_at hl 6 rfl) ?_
                            refine zv_bipush (v := 7) S dL_isShapes_179 (by decide) ?_
                            refine zv_iload S dL_isShapes_181 (lv_at hl 0 rfl) ?_
                            refine zv_imul S dL_isShapes_183 ?_
                            refine zv_iconst S dL_isShapes_184 ?_
                            refine zv_iadd S dL_isShapes_185 ?_
                            refine zv_bipush (v := 19) S dL_isShapes_186 (by decide) ?_
                            refine zct_Si (As := [.ref bt, .int (zI ((7 * (i : Int)) + 2)), .int (zI 19)]) (rest := []) (wr := [(h0, .inr (4, [.ref qs, .int (zI 1), .ref hr, .ref hc, .ref hk])), zcq G qs 8 SF, (h1, .inr (3, [.ref qa, .ref qb, .ref qc, .ref qe, .int (zI (k : Int))])), zci G qa 10 xa, zci G qb 10 xb, zci G qc 10 xc, zci G qe 10 xe, (hr, .inr (2, [.ref ra, .ref rb, .ref rc, .int (zI rka), .int (zI rfa), .int (zI rla), .int (zI rba), .int (zI rta), .int (zI rxa), .int (zI rya)])), zci G ra 10 Pa, zci G rb 10 Qa, zci G rc 10 Ma]) (n := 3) S hN hK (hE0.kept hS.2.1) hX hbl hbA hP hD hS hA hl (c_L_drawn l hl0 G H.size bt L sx ((7 * (i : Int)) + 2) 19 hL (by omega) (by omega)) gL_isShapes_L_drawn rfl ⟨rfl, rfl⟩ (by decide +kernel) rfl ⟨Nat.le_of_ble_eq_true rfl, Nat.le_of_ble_eq_true rfl, (show cc + 0 ≤ 2600 by omega), (show ss + 0 ≤ 15600 by omega)⟩ [] [0, 1, 2, 3, 4, 5, 6, 7, 8, 9, 10] rfl rfl (by decide) (by decide) (by decide) (Nat.le_of_ble_eq_true rfl) dL_isShapes_188 rfl (fun r_ u_77 H1 locs1 hp_78 hP1 hD1 hS1 hz1 => ?_)
                            obtain ⟨rr_79, rfl⟩ : ∃ z, z = u_77 := ⟨_, rfl⟩
                            try dsimp only at hp_78 hP1 hD1
                            obtain ⟨rfl, hdr_80⟩ := hp_78
                            generalize H1 = H at hP1 hD1 hS1 hz1 ⊢
                            generalize locs1 = locs at hS1 ⊢
                            have hS := hS1
                            have hP : va_P G.1 vwCl [(h0, .inr (4, [.ref qs, .int (zI 1), .ref hr, .ref hc, .ref hk])), zcq G qs 8 SF, (h1, .inr (3, [.ref qa, .ref qb, .ref qc, .ref qe, .int (zI (k : Int))])), zci G qa 10 xa, zci G qb 10 xb, zci G qc 10 xc, zci G qe 10 xe, (hr, .inr (2, [.ref ra, .ref rb, .ref rc, .int (zI rka), .int (zI rfa), .int (zI rla), .int (zI rba), .int (zI rta), .int (zI rxa), .int (zI rya)])), zci G ra 10 Pa, zci G rb 10 Qa, zci G rc 10 Ma] H := hP1
                            have hD : va_D A [(h0, .inr (4, [.ref qs, .int (zI 1), .ref hr, .ref hc, .ref hk])), zcq G qs 8 SF, (h1, .inr (3, [.ref qa, .ref qb, .ref qc, .ref qe, .int (zI (k : Int))])), zci G qa 10 xa, zci G qb 10 xb, zci G qc 10 xc, zci G qe 10 xe, (hr, .inr (2, [.ref ra, .ref rb, .ref rc, .int (zI rka), .int (zI rfa), .int (zI rla), .int (zI rba), .int (zI rta), .int (zI rxa), .int (zI rya)])), zci G ra 10 Pa, zci G rb 10 Qa, zci G rc 10 Ma] := hD1
                            refine zv_bipush (v := 9) S dL_isShapes_191 (by decide) ?_
                            refine zv_isub S dL_isShapes_193 ?_
                            refine zv_istore (lv' := [(7, .int (zI (rr_79 - 9))), (6, .int (zI (i : Int))), (5, .int (zI (k : Int))), (4, .int (zI 1)), (3, .int (zI tl)), (2, .int (zI wd)), (0, .ref h0), (1, .ref bt)]) S dL_isShapes_194 hl (by decide) rfl (fun ls hl => ?_)
                            refine zv_aload_n S dL_isShapes_196 rfl (lv_at hl 7 rfl) ?_
                            refine zv_bipush (v := 7) S dL_isShapes_197 (by decide) ?_
                            refine zv_iload S dL_isShapes_199 (lv_at hl 1 rfl) ?_
                            refine zv_imul S dL_isShapes_201 ?_
                            refine zv_iconst S dL_isShapes_202 ?_
                            refine zv_iadd S dL_isShapes_203 ?_
                            refine zv_bipush (v := 19) S dL_isShapes_204 (by decide) ?_
                            refine zct_Si (As := [.ref bt, .int (zI ((7 * (i : Int)) + 3)), .int (zI 19)]) (rest := []) (wr := [(h0, .inr (4, [.ref qs, .int (zI 1), .ref hr, .ref hc, .ref hk])), zcq G qs 8 SF, (h1, .inr (3, [.ref qa, .ref qb, .ref qc, .ref qe, .int (zI (k : Int))])), zci G qa 10 xa, zci G qb 10 xb, zci G qc 10 xc, zci G qe 10 xe, (hr, .inr (2, [.ref ra, .ref rb, .ref rc, .int (zI rka), .int (zI rfa), .int (zI rla), .int (zI rba), .int (zI rta), .int (zI rxa), .int (zI rya)])), zci G ra 10 Pa, zci G rb 10 Qa, zci G rc 10 Ma]) (n := 3) S hN hK (hE0.kept hS.2.1) hX hbl hbA hP hD hS hA hl (c_L_drawn l hl0 G H.size bt L sx ((7 * (i : Int)) + 3) 19 hL (by omega) (by omega)) gL_isShapes_L_drawn rfl ⟨rfl, rfl⟩ (by decide +kernel) rfl ⟨Nat.le_of_ble_eq_true rfl, Nat.le_of_ble_eq_true rfl, (show cc + 0 ≤ 2600 by omega), (show ss + 0 ≤ 15600 by omega)⟩ [] [0, 1, 2, 3, 4, 5, 6, 7, 8, 9, 10] rfl rfl (by decide) (by decide) (by decide) (Nat.le_of_ble_eq_true rfl) dL_isShapes_206 rfl (fun r_ u_81 H1 locs1 hp_82 hP1 hD1 hS1 hz1 => ?_)
                            obtain ⟨rr_83, rfl⟩ : ∃ z, z = u_81 := ⟨_, rfl⟩
                            try dsimp only at hp_82 hP1 hD1
                            obtain ⟨rfl, hdr_84⟩ := hp_82
                            generalize H1 = H at hP1 hD1 hS1 hz1 ⊢
                            generalize locs1 = locs at hS1 ⊢
                            have hS := hS1
                            have hP : va_P G.1 vwCl [(h0, .inr (4, [.ref qs, .int (zI 1), .ref hr, .ref hc, .ref hk])), zcq G qs 8 SF, (h1, .inr (3, [.ref qa, .ref qb, .ref qc, .ref qe, .int (zI (k : Int))])), zci G qa 10 xa, zci G qb 10 xb, zci G qc 10 xc, zci G qe 10 xe, (hr, .inr (2, [.ref ra, .ref rb, .ref rc, .int (zI rka), .int (zI rfa), .int (zI rla), .int (zI rba), .int (zI rta), .int (zI rxa), .int (zI rya)])), zci G ra 10 Pa, zci G rb 10 Qa, zci G rc 10 Ma] H := hP1
                            have hD : va_D A [(h0, .inr (4, [.ref qs, .int (zI 1), .ref hr, .ref hc, .ref hk])), zcq G qs 8 SF, (h1, .inr (3, [.ref qa, .ref qb, .ref qc, .ref qe, .int (zI (k : Int))])), zci G qa 10 xa, zci G qb 10 xb, zci G qc 10 xc, zci G qe 10 xe, (hr, .inr (2, [.ref ra, .ref rb, .ref rc, .int (zI rka), .int (zI rfa), .int (zI rla), .int (zI rba), .int (zI rta), .int (zI rxa), .int (zI rya)])), zci G ra 10 Pa, zci G rb 10 Qa, zci G rc 10 Ma] := hD1
                            refine zv_bipush (v := 9) S dL_isShapes_209 (by decide) ?_
                            refine zv_isub S dL_isShapes_211 ?_
                            refine zv_istore (lv' := [(8, .int (zI (rr_83 - 9))), (7, .int (zI (rr_79 - 9))), (6, .int (zI (i : Int))), (5, .int (zI (k : Int))), (4, .int (zI 1)), (3, .int (zI tl)), (2, .int (zI wd)), (0, .ref h0), (1, .ref bt)]) S dL_isShapes_212 hl (by decide) rfl (fun ls hl => ?_)
                            refine zv_aload_n S dL_isShapes_214 rfl (lv_at hl 8 rfl) ?_
                            refine zv_bipush (v := 7) S dL_isShapes_215 (by decide) ?_
                            refine zv_iload S dL_isShapes_217 (lv_at hl 2 rfl) ?_
                            refine zv_imul S dL_isShapes_219 ?_
                            refine zv_iconst S dL_isShapes_220 ?_
                            refine zv_iadd S dL_isShapes_221 ?_
                            refine zv_sipush (v := 130) S dL_isShapes_222 (by decide) ?_
                            refine zct_Si (As := [.ref bt, .int (zI ((7 * (i : Int)) + 4)), .int (zI 130)]) (rest := []) (wr := [(h0, .inr (4, [.ref qs, .int (zI 1), .ref hr, .ref hc, .ref hk])), zcq G qs 8 SF, (h1, .inr (3, [.ref qa, .ref qb, .ref qc, .ref qe, .int (zI (k : Int))])), zci G qa 10 xa, zci G qb 10 xb, zci G qc 10 xc, zci G qe 10 xe, (hr, .inr (2, [.ref ra, .ref rb, .ref rc, .int (zI rka), .int (zI rfa), .int (zI rla), .int (zI rba), .int (zI rta), .int (zI rxa), .int (zI rya)])), zci G ra 10 Pa, zci G rb 10 Qa, zci G rc 10 Ma]) (n := 3) S hN hK (hE0.kept hS.2.1) hX hbl hbA hP hD hS hA hl (c_L_drawn l hl0 G H.size bt L sx ((7 * (i : Int)) + 4) 130 hL (by omega) (by omega)) gL_isShapes_L_drawn rfl ⟨rfl, rfl⟩ (by decide +kernel) rfl ⟨Nat.le_of_ble_eq_true rfl, Nat.le_of_ble_eq_true rfl, (show cc + 0 ≤ 2600 by omega), (show ss + 0 ≤ 15600 by omega)⟩ [] [0, 1, 2, 3, 4, 5, 6, 7, 8, 9, 10] rfl rfl (by decide) (by decide) (by decide) (Nat.le_of_ble_eq_true rfl) dL_isShapes_225 rfl (fun r_ u_85 H1 locs1 hp_86 hP1 hD1 hS1 hz1 => ?_)
                            obtain ⟨rr_87, rfl⟩ : ∃ z, z = u_85 := ⟨_, rfl⟩
                            try dsimp only at hp_86 hP1 hD1
                            obtain ⟨rfl, hdr_88⟩ := hp_86
                            generalize H1 = H at hP1 hD1 hS1 hz1 ⊢
                            generalize locs1 = locs at hS1 ⊢
                            have hS := hS1
                            have hP : va_P G.1 vwCl [(h0, .inr (4, [.ref qs, .int (zI 1), .ref hr, .ref hc, .ref hk])), zcq G qs 8 SF, (h1, .inr (3, [.ref qa, .ref qb, .ref qc, .ref qe, .int (zI (k : Int))])), zci G qa 10 xa, zci G qb 10 xb, zci G qc 10 xc, zci G qe 10 xe, (hr, .inr (2, [.ref ra, .ref rb, .ref rc, .int (zI rka), .int (zI rfa), .int (zI rla), .int (zI rba), .int (zI rta), .int (zI rxa), .int (zI rya)])), zci G ra 10 Pa, zci G rb 10 Qa, zci G rc 10 Ma] H := hP1
                            have hD : va_D A [(h0, .inr (4, [.ref qs, .int (zI 1), .ref hr, .ref hc, .ref hk])), zcq G qs 8 SF, (h1, .inr (3, [.ref qa, .ref qb, .ref qc, .ref qe, .int (zI (k : Int))])), zci G qa 10 xa, zci G qb 10 xb, zci G qc 10 xc, zci G qe 10 xe, (hr, .inr (2, [.ref ra, .ref rb, .ref rc, .int (zI rka), .int (zI rfa), .int (zI rla), .int (zI rba), .int (zI rta), .int (zI rxa), .int (zI rya)])), zci G ra 10 Pa, zci G rb 10 Qa, zci G rc 10 Ma] := hD1
                            refine zv_bipush (v := 30) S dL_isShapes_228 (by decide) ?_
                            refine zv_isub S dL_isShapes_230 ?_
                            refine zv_istore (lv' := [(9, .int (zI (rr_87 - 30))), (8, .int (zI (rr_83 - 9))), (7, .int (zI (rr_79 - 9))), (6, .int (zI (i : Int))), (5, .int (zI (k : Int))), (4, .int (zI 1)), (3, .int (zI tl)), (2, .int (zI wd)), (0, .ref h0), (1, .ref bt)]) S dL_isShapes_231 hl (by decide) rfl (fun ls hl => ?_)
                            refine zv_aload_n S dL_isShapes_233 rfl (lv_at hl 9 rfl) ?_
                            refine zv_bipush (v := 7) S dL_isShapes_234 (by decide) ?_
                            refine zv_iload S dL_isShapes_236 (lv_at hl 3 rfl) ?_
                            refine zv_imul S dL_isShapes_238 ?_
                            refine zv_iconst S dL_isShapes_239 ?_
                            refine zv_iadd S dL_isShapes_240 ?_
                            refine zv_bipush (v := 10) S dL_isShapes_241 (by decide) ?_
                            refine zct_Si (As := [.ref bt, .int (zI ((7 * (i : Int)) + 5)), .int (zI 10)]) (rest := []) (wr := [(h0, .inr (4, [.ref qs, .int (zI 1), .ref hr, .ref hc, .ref hk])), zcq G qs 8 SF, (h1, .inr (3, [.ref qa, .ref qb, .ref qc, .ref qe, .int (zI (k : Int))])), zci G qa 10 xa, zci G qb 10 xb, zci G qc 10 xc, zci G qe 10 xe, (hr, .inr (2, [.ref ra, .ref rb, .ref rc, .int (zI rka), .int (zI rfa), .int (zI rla), .int (zI rba), .int (zI rta), .int (zI rxa), .int (zI rya)])), zci G ra 10 Pa, zci G rb 10 Qa, zci G rc 10 Ma]) (n := 3) S hN hK (hE0.kept hS.2.1) hX hbl hbA hP hD hS hA hl (c_L_drawn l hl0 G H.size bt L sx ((7 * (i : Int)) + 5) 10 hL (by omega) (by omega)) gL_isShapes_L_drawn rfl ⟨rfl, rfl⟩ (by decide +kernel) rfl ⟨Nat.le_of_ble_eq_true rfl, Nat.le_of_ble_eq_true rfl, (show cc + 0 ≤ 2600 by omega), (show ss + 0 ≤ 15600 by omega)⟩ [] [0, 1, 2, 3, 4, 5, 6, 7, 8, 9, 10] rfl rfl (by decide) (by decide) (by decide) (Nat.le_of_ble_eq_true rfl) dL_isShapes_243 rfl (fun r_ u_89 H1 locs1 hp_90 hP1 hD1 hS1 hz1 => ?_)
                            obtain ⟨rr_91, rfl⟩ : ∃ z, z = u_89 := ⟨_, rfl⟩
                            try dsimp only at hp_90 hP1 hD1
                            obtain ⟨rfl, hdr_92⟩ := hp_90
                            generalize H1 = H at hP1 hD1 hS1 hz1 ⊢
                            generalize locs1 = locs at hS1 ⊢
                            have hS := hS1
                            have hP : va_P G.1 vwCl [(h0, .inr (4, [.ref qs, .int (zI 1), .ref hr, .ref hc, .ref hk])), zcq G qs 8 SF, (h1, .inr (3, [.ref qa, .ref qb, .ref qc, .ref qe, .int (zI (k : Int))])), zci G qa 10 xa, zci G qb 10 xb, zci G qc 10 xc, zci G qe 10 xe, (hr, .inr (2, [.ref ra, .ref rb, .ref rc, .int (zI rka), .int (zI rfa), .int (zI rla), .int (zI rba), .int (zI rta), .int (zI rxa), .int (zI rya)])), zci G ra 10 Pa, zci G rb 10 Qa, zci G rc 10 Ma] H := hP1
                            have hD : va_D A [(h0, .inr (4, [.ref qs, .int (zI 1), .ref hr, .ref hc, .ref hk])), zcq G qs 8 SF, (h1, .inr (3, [.ref qa, .ref qb, .ref qc, .ref qe, .int (zI (k : Int))])), zci G qa 10 xa, zci G qb 10 xb, zci G qc 10 xc, zci G qe 10 xe, (hr, .inr (2, [.ref ra, .ref rb, .ref rc, .int (zI rka), .int (zI rfa), .int (zI rla), .int (zI rba), .int (zI rta), .int (zI rxa), .int (zI rya)])), zci G ra 10 Pa, zci G rb 10 Qa, zci G rc 10 Ma] := hD1
                            refine zv_istore (lv' := [(10, .int (zI rr_91)), (9, .int (zI (rr_87 - 30))), (8, .int (zI (rr_83 - 9))), (7, .int (zI (rr_79 - 9))), (6, .int (zI (i : Int))), (5, .int (zI (k : Int))), (4, .int (zI 1)), (3, .int (zI tl)), (2, .int (zI wd)), (0, .ref h0), (1, .ref bt)]) S dL_isShapes_246 hl (by decide) rfl (fun ls hl => ?_)
                            refine zv_aload_n S dL_isShapes_248 rfl (lv_at hl 10 rfl) ?_
                            refine zv_bipush (v := 7) S dL_isShapes_249 (by decide) ?_
                            refine zv_iload S dL_isShapes_251 (lv_at hl 4 rfl) ?_
                            refine zv_imul S dL_isShapes_253 ?_
                            refine zv_bipush (v := 6) S dL_isShapes_254 (by decide) ?_
                            refine zv_iadd S dL_isShapes_256 ?_
                            refine zv_bipush (v := 6) S dL_isShapes_257 (by decide) ?_
                            refine zct_Si (As := [.ref bt, .int (zI ((7 * (i : Int)) + 6)), .int (zI 6)]) (rest := []) (wr := [(h0, .inr (4, [.ref qs, .int (zI 1), .ref hr, .ref hc, .ref hk])), zcq G qs 8 SF, (h1, .inr (3, [.ref qa, .ref qb, .ref qc, .ref qe, .int (zI (k : Int))])), zci G qa 10 xa, zci G qb 10 xb, zci G qc 10 xc, zci G qe 10 xe, (hr, .inr (2, [.ref ra, .ref rb, .ref rc, .int (zI rka), .int (zI rfa), .int (zI rla), .int (zI rba), .int (zI rta), .int (zI rxa), .int (zI rya)])), zci G ra 10 Pa, zci G rb 10 Qa, zci G rc 10 Ma]) (n := 3) S hN hK (hE0.kept hS.2.1) hX hbl hbA hP hD hS hA hl (c_L_drawn l hl0 G H.size bt L sx ((7 * (i : Int)) + 6) 6 hL (by omega) (by omega)) gL_isShapes_L_drawn rfl ⟨rfl, rfl⟩ (by decide +kernel) rfl ⟨Nat.le_of_ble_eq_true rfl, Nat.le_of_ble_eq_true rfl, (show cc + 0 ≤ 2600 by omega), (show ss + 0 ≤ 15600 by omega)⟩ [] [0, 1, 2, 3, 4, 5, 6, 7, 8, 9, 10] rfl rfl (by decide) (by decide) (by decide) (Nat.le_of_ble_eq_true rfl) dL_isShapes_259 rfl (fun r_ u_93 H1 locs1 hp_94 hP1 hD1 hS1 hz1 => ?_)
                            obtain ⟨rr_95, rfl⟩ : ∃ z, z = u_93 := ⟨_, rfl⟩
                            try dsimp only at hp_94 hP1 hD1
                            obtain ⟨rfl, hdr_96⟩ := hp_94
                            generalize H1 = H at hP1 hD1 hS1 hz1 ⊢
                            generalize locs1 = locs at hS1 ⊢
                            have hS := hS1
                            have hP : va_P G.1 vwCl [(h0, .inr (4, [.ref qs, .int (zI 1), .ref hr, .ref hc, .ref hk])), zcq G qs 8 SF, (h1, .inr (3, [.ref qa, .ref qb, .ref qc, .ref qe, .int (zI (k : Int))])), zci G qa 10 xa, zci G qb 10 xb, zci G qc 10 xc, zci G qe 10 xe, (hr, .inr (2, [.ref ra, .ref rb, .ref rc, .int (zI rka), .int (zI rfa), .int (zI rla), .int (zI rba), .int (zI rta), .int (zI rxa), .int (zI rya)])), zci G ra 10 Pa, zci G rb 10 Qa, zci G rc 10 Ma] H := hP1
                            have hD : va_D A [(h0, .inr (4, [.ref qs, .int (zI 1), .ref hr, .ref hc, .ref hk])), zcq G qs 8 SF, (h1, .inr (3, [.ref qa, .ref qb, .ref qc, .ref qe, .int (zI (k : Int))])), zci G qa 10 xa, zci G qb 10 xb, zci G qc 10 xc, zci G qe 10 xe, (hr, .inr (2, [.ref ra, .ref rb, .ref rc, .int (zI rka), .int (zI rfa), .int (zI rla), .int (zI rba), .int (zI rta), .int (zI rxa), .int (zI rya)])), zci G ra 10 Pa, zci G rb 10 Qa, zci G rc 10 Ma] := hD1
                            refine zv_istore (lv' := [(11, .int (zI rr_95)), (10, .int (zI rr_91)), (9, .int (zI (rr_87 - 30))), (8, .int (zI (rr_83 - 9))), (7, .int (zI (rr_79 - 9))), (6, .int (zI (i : Int))), (5, .int (zI (k : Int))), (4, .int (zI 1)), (3, .int (zI tl)), (2, .int (zI wd)), (0, .ref h0), (1, .ref bt)]) S dL_isShapes_262 hl (by decide) rfl (fun ls hl => ?_)
                            refine zv_aload_n S dL_isShapes_264 rfl (lv_at hl 11 rfl) ?_
                            refine zv_bipush (v := 7) S dL_isShapes_265 (by decide) ?_
                            refine zv_iload S dL_isShapes_267 (lv_at hl 5 rfl) ?_
                            refine zv_imul S dL_isShapes_269 ?_
                            refine zv_bipush (v := 7) S dL_isShapes_270 (by decide) ?_
                            refine zv_iadd S dL_isShapes_272 ?_
                            refine zv_iload S dL_isShapes_273 (lv_at hl 6 rfl) ?_
                            refine zct_Si (As := [.ref bt, .int (zI ((7 * (i : Int)) + 7)), .int (zI (k : Int))]) (rest := []) (wr := [(h0, .inr (4, [.ref qs, .int (zI 1), .ref hr, .ref hc, .ref hk])), zcq G qs 8 SF, (h1, .inr (3, [.ref qa, .ref qb, .ref qc, .ref qe, .int (zI (k : Int))])), zci G qa 10 xa, zci G qb 10 xb, zci G qc 10 xc, zci G qe 10 xe, (hr, .inr (2, [.ref ra, .ref rb, .ref rc, .int (zI rka), .int (zI rfa), .int (zI rla), .int (zI rba), .int (zI rta), .int (zI rxa), .int (zI rya)])), zci G ra 10 Pa, zci G rb 10 Qa, zci G rc 10 Ma]) (n := 3) S hN hK (hE0.kept hS.2.1) hX hbl hbA hP hD hS hA hl (c_L_drawn l hl0 G H.size bt L sx ((7 * (i : Int)) + 7) (k : Int) hL (by omega) (by omega)) gL_isShapes_L_drawn rfl ⟨rfl, rfl⟩ (by decide +kernel) rfl ⟨Nat.le_of_ble_eq_true rfl, Nat.le_of_ble_eq_true rfl, (show cc + 0 ≤ 2600 by omega), (show ss + 0 ≤ 15600 by omega)⟩ [] [0, 1, 2, 3, 4, 5, 6, 7, 8, 9, 10] rfl rfl (by decide) (by decide) (by decide) (Nat.le_of_ble_eq_true rfl) dL_isShapes_275 rfl (fun r_ u_97 H1 locs1 hp_98 hP1 hD1 hS1 hz1 => ?_)
                            obtain ⟨rr_99, rfl⟩ : ∃ z, z = u_97 := ⟨_, rfl⟩
                            try dsimp only at hp_98 hP1 hD1
                            obtain ⟨rfl, hdr_100⟩ := hp_98
                            generalize H1 = H at hP1 hD1 hS1 hz1 ⊢
                            generalize locs1 = locs at hS1 ⊢
                            have hS := hS1
                            have hP : va_P G.1 vwCl [(h0, .inr (4, [.ref qs, .int (zI 1), .ref hr, .ref hc, .ref hk])), zcq G qs 8 SF, (h1, .inr (3, [.ref qa, .ref qb, .ref qc, .ref qe, .int (zI (k : Int))])), zci G qa 10 xa, zci G qb 10 xb, zci G qc 10 xc, zci G qe 10 xe, (hr, .inr (2, [.ref ra, .ref rb, .ref rc, .int (zI rka), .int (zI rfa), .int (zI rla), .int (zI rba), .int (zI rta), .int (zI rxa), .int (zI rya)])), zci G ra 10 Pa, zci G rb 10 Qa, zci G rc 10 Ma] H := hP1
                            have hD : va_D A [(h0, .inr (4, [.ref qs, .int (zI 1), .ref hr, .ref hc, .ref hk])), zcq G qs 8 SF, (h1, .inr (3, [.ref qa, .ref qb, .ref qc, .ref qe, .int (zI (k : Int))])), zci G qa 10 xa, zci G qb 10 xb, zci G qc 10 xc, zci G qe 10 xe, (hr, .inr (2, [.ref ra, .ref rb, .ref rc, .int (zI rka), .int (zI rfa), .int (zI rla), .int (zI rba), .int (zI rta), .int (zI rxa), .int (zI rya)])), zci G ra 10 Pa, zci G rb 10 Qa, zci G rc 10 Ma] := hD1
                            refine zv_istore (lv' := [(12, .int (zI rr_99)), (11, .int (zI rr_95)), (10, .int (zI rr_91)), (9, .int (zI (rr_87 - 30))), (8, .int (zI (rr_83 - 9))), (7, .int (zI (rr_79 - 9))), (6, .int (zI (i : Int))), (5, .int (zI (k : Int))), (4, .int (zI 1)), (3, .int (zI tl)), (2, .int (zI wd)), (0, .ref h0), (1, .ref bt)]) S dL_isShapes_278 hl (by decide) rfl (fun ls hl => ?_)
                            refine zv_aload_n S dL_isShapes_280 rfl (lv_at hl 12 rfl) ?_
                            refine zv_bipush (v := 7) S dL_isShapes_281 (by decide) ?_
                            refine zv_iload S dL_isShapes_283 (lv_at hl 6 rfl) ?_
                            refine zv_imul S dL_isShapes_285 ?_
                            refine zv_bipush (v := 8) S dL_isShapes_286 (by decide) ?_
                            refine zv_iadd S dL_isShapes_288 ?_
                            refine zv_iload S dL_isShapes_289 (lv_at hl 7 rfl) ?_
                            refine zct_Si (As := [.ref bt, .int (zI ((7 * (i : Int)) + 8)), .int (zI (k : Int))]) (rest := []) (wr := [(h0, .inr (4, [.ref qs, .int (zI 1), .ref hr, .ref hc, .ref hk])), zcq G qs 8 SF, (h1, .inr (3, [.ref qa, .ref qb, .ref qc, .ref qe, .int (zI (k : Int))])), zci G qa 10 xa, zci G qb 10 xb, zci G qc 10 xc, zci G qe 10 xe, (hr, .inr (2, [.ref ra, .ref rb, .ref rc, .int (zI rka), .int (zI rfa), .int (zI rla), .int (zI rba), .int (zI rta), .int (zI rxa), .int (zI rya)])), zci G ra 10 Pa, zci G rb 10 Qa, zci G rc 10 Ma]) (n := 3) S hN hK (hE0.kept hS.2.1) hX hbl hbA hP hD hS hA hl (c_L_drawn l hl0 G H.size bt L sx ((7 * (i : Int)) + 8) (k : Int) hL (by omega) (by omega)) gL_isShapes_L_drawn rfl ⟨rfl, rfl⟩ (by decide +kernel) rfl ⟨Nat.le_of_ble_eq_true rfl, Nat.le_of_ble_eq_true rfl, (show cc + 0 ≤ 2600 by omega), (show ss + 0 ≤ 15600 by omega)⟩ [] [0, 1, 2, 3, 4, 5, 6, 7, 8, 9, 10] rfl rfl (by decide) (by decide) (by decide) (Nat.le_of_ble_eq_true rfl) dL_isShapes_291 rfl (fun r_ u_101 H1 locs1 hp_102 hP1 hD1 hS1 hz1 => ?_)
                            obtain ⟨rr_103, rfl⟩ : ∃ z, z = u_101 := ⟨_, rfl⟩
                            try dsimp only at hp_102 hP1 hD1
                            obtain ⟨rfl, hdr_104⟩ := hp_102
                            generalize H1 = H at hP1 hD1 hS1 hz1 ⊢
                            generalize locs1 = locs at hS1 ⊢
                            have hS := hS1
                            have hP : va_P G.1 vwCl [(h0, .inr (4, [.ref qs, .int (zI 1), .ref hr, .ref hc, .ref hk])), zcq G qs 8 SF, (h1, .inr (3, [.ref qa, .ref qb, .ref qc, .ref qe, .int (zI (k : Int))])), zci G qa 10 xa, zci G qb 10 xb, zci G qc 10 xc, zci G qe 10 xe, (hr, .inr (2, [.ref ra, .ref rb, .ref rc, .int (zI rka), .int (zI rfa), .int (zI rla), .int (zI rba), .int (zI rta), .int (zI rxa), .int (zI rya)])), zci G ra 10 Pa, zci G rb 10 Qa, zci G rc 10 Ma] H := hP1
                            have hD : va_D A [(h0, .inr (4, [.ref qs, .int (zI 1), .ref hr, .ref hc, .ref hk])), zcq G qs 8 SF, (h1, .inr (3, [.ref qa, .ref qb, .ref qc, .ref qe, .int (zI (k : Int))])), zci G qa 10 xa, zci G qb 10 xb, zci G qc 10 xc, zci G qe 10 xe, (hr, .inr (2, [.ref ra, .ref rb, .ref rc, .int (zI rka), .int (zI rfa), .int (zI rla), .int (zI rba), .int (zI rta), .int (zI rxa), .int (zI rya)])), zci G ra 10 Pa, zci G rb 10 Qa, zci G rc 10 Ma] := hD1
                            refine zv_istore (lv' := [(13, .int (zI rr_103)), (12, .int (zI rr_99)), (11, .int (zI rr_95)), (10, .int (zI rr_91)), (9, .int (zI (rr_87 - 30))), (8, .int (zI (rr_83 - 9))), (7, .int (zI (rr_79 - 9))), (6, .int (zI (i : Int))), (5, .int (zI (k : Int))), (4, .int (zI 1)), (3, .int (zI tl)), (2, .int (zI wd)), (0, .ref h0), (1, .ref bt)]) S dL_isShapes_294 hl (by decide) rfl (fun ls hl => ?_)
                            refine zv_aload_n S dL_isShapes_296 rfl (lv_at hl 12 rfl) ?_
                            refine zv_iconst S dL_isShapes_297 ?_
                            refine zv_iload S dL_isShapes_298 (lv_at hl 3 rfl) ?_
                            refine zcp_Vl (As := [.int (zI 0), .int (zI rr_91)]) (rest := []) (wr := []) (n := 2) S hN hK (hE0.kept hS.2.1) hP hD hS hA hl (n_X4_count l hl0 G H.size h0 qs hr hc hk SF h1 qa qb qc qe xa xb xc xe k ra rb rc Pa Qa Ma rka rfa rla rba rta rxa rya rr_91 hsf I (by omega)) gL_isShapes_X4_count rfl ⟨rfl, rfl⟩ (by decide +kernel) rfl ⟨Nat.le_of_ble_eq_true rfl, Nat.le_of_ble_eq_true rfl, (show cc + 3 ≤ 2600 by omega), (show ss + 18 ≤ 15600 by omega)⟩ [0, 1, 2, 3, 4, 5, 6, 7, 8, 9, 10] [] rfl rfl (by decide) (by decide) (by decide) (ci := 4) rfl rfl rfl (Nat.le_of_ble_eq_true rfl) dL_isShapes_300 rfl (fun r_ u_105 H1 locs1 hp_106 hP1 hD1 hS1 hz1 => ?_)
                            obtain ⟨P1_107, Q1_108, M1_109, kk1_110, f1_111, l1_112, b1_113, t1_114, x1_115, y1_116⟩ := u_105
                            try dsimp only at hp_106 hP1 hD1
                            obtain ⟨rfl, hpo_117⟩ := hp_106
                            generalize H1 = H at hP1 hD1 hS1 hz1 ⊢
                            generalize locs1 = locs at hS1 ⊢
                            have hS := hS1
                            have hP : va_P G.1 vwCl [(h0, .inr (4, [.ref qs, .int (zI 1), .ref hr, .ref hc, .ref hk])), zcq G qs 8 SF, (h1, .inr (3, [.ref qa, .ref qb, .ref qc, .ref qe, .int (zI (k : Int))])), zci G qa 10 xa, zci G qb 10 xb, zci G qc 10 xc, zci G qe 10 xe, (hr, .inr (2, [.ref ra, .ref rb, .ref rc, .int (zI kk1_110), .int (zI f1_111), .int (zI l1_112), .int (zI b1_113), .int (zI t1_114), .int (zI x1_115), .int (zI y1_116)])), zci G ra 10 P1_107, zci G rb 10 Q1_108, zci G rc 10 M1_109] H := hP1
                            have hD : va_D A [(h0, .inr (4, [.ref qs, .int (zI 1), .ref hr, .ref hc, .ref hk])), zcq G qs 8 SF, (h1, .inr (3, [.ref qa, .ref qb, .ref qc, .ref qe, .int (zI (k : Int))])), zci G qa 10 xa, zci G qb 10 xb, zci G qc 10 xc, zci G qe 10 xe, (hr, .inr (2, [.ref ra, .ref rb, .ref rc, .int (zI kk1_110), .int (zI f1_111), .int (zI l1_112), .int (zI b1_113), .int (zI t1_114), .int (zI x1_115), .int (zI y1_116)])), zci G ra 10 P1_107, zci G rb 10 Q1_108, zci G rc 10 M1_109] := hD1
                            refine zv_lstore (lv' := [(14, .long (zL ((zpts xa xb (fun j => 1 * xc j + rr_91 * xe j) k : Nat) : Int))), (13, .int (zI rr_103)), (12, .int (zI rr_99)), (11, .int (zI rr_95)), (10, .int (zI rr_91)), (9, .int (zI (rr_87 - 30))), (8, .int (zI (rr_83 - 9))), (7, .int (zI (rr_79 - 9))), (6, .int (zI (i : Int))), (5, .int (zI (k : Int))), (4, .int (zI 1)), (3, .int (zI tl)), (2, .int (zI wd)), (0, .ref h0), (1, .ref bt)]) S dL_isShapes_303 hl (by decide) rfl (fun ls hl => ?_)
                            have JN535 : ∀ (k2 : Nat) (m6 : Int) (sz2 : Int) (ya : Nat → Int) (yb : Nat → Int) (yc : Nat → Int) (ye : Nat → Int) (Pb : Nat → Int) (Qb : Nat → Int) (Mb : Nat → Int) (rkb : Int) (rfb : Int) (rlb : Int) (rbb : Int) (rtb : Int) (rxb : Int) (ryb : Int) (c5 : Nat) (s5 : Nat) (hm6 : m6 = (k2 : Int)) (hsz2 : sz2 = (k2 : Int)) (I2 : zqI ya yb yc ye k2) (hc5 : c5 ≤ cc + 40) (hs5 : s5 ≤ ss + 240) (H : Heap) (locs : List Loc), va_P G.1 vwCl [(h0, .inr (4, [.ref qs, .int (zI 1), .ref hr, .ref hc, .ref hk])), zcq G qs 8 SF, (h1, .inr (3, [.ref qa, .ref qb, .ref qc, .ref qe, .int (zI sz2)])), zci G qa 10 ya, zci G qb 10 yb, zci G qc 10 yc, zci G qe 10 ye, (hr, .inr (2, [.ref ra, .ref rb, .ref rc, .int (zI rkb), .int (zI rfb), .int (zI rlb), .int (zI rbb), .int (zI rtb), .int (zI rxb), .int (zI ryb)])), zci G ra 10 Pb, zci G rb 10 Qb, zci G rc 10 Mb] H → va_D A [(h0, .inr (4, [.ref qs, .int (zI 1), .ref hr, .ref hc, .ref hk])), zcq G qs 8 SF, (h1, .inr (3, [.ref qa, .ref qb, .ref qc, .ref qe, .int (zI sz2)])), zci G qa 10 ya, zci G qb 10 yb, zci G qc 10 yc, zci G qe 10 ye, (hr, .inr (2, [.ref ra, .ref rb, .ref rc, .int (zI rkb), .int (zI rfb), .int (zI rlb), .int (zI rbb), .int (zI rtb), .int (zI rxb), .int (zI ryb)])), zci G ra 10 Pb, zci G rb 10 Qb, zci G rc 10 Mb] → va_S A s.heap H locs → ∀ ls : Array Slot, lv_has ls 19 [(14, .long (zL ((zpts xa xb (fun j => 1 * xc j + rr_91 * xe j) k : Nat) : Int))), (13, .int (zI rr_103)), (12, .int (zI rr_99)), (11, .int (zI rr_95)), (10, .int (zI rr_91)), (9, .int (zI (rr_87 - 30))), (8, .int (zI (rr_83 - 9))), (7, .int (zI (rr_79 - 9))), (6, .int (zI (i : Int))), (5, .int (zI m6)), (4, .int (zI 1)), (3, .int (zI tl)), (2, .int (zI wd)), (0, .ref h0), (1, .ref bt)] → W p l e ({ frames := 10, cells := 2600, slots := 15600, locals := 192 }) s m ([.ref h0, .ref bt]).toArray below meth c H locs c5 s5 Q (F0 m 535 ls []) := by
                              intro k2 m6 sz2 ya yb yc ye Pb Qb Mb rkb rfb rlb rbb rtb rxb ryb c5 s5 hm6 hsz2 I2 hc5 hs5 H locs hP hD hS ls hl
                              subst hsz2
                              subst hm6
                              have hk2 := I2.1
                              refine zv_iload S dL_isShapes_535 (lv_at hl 10 rfl) ?_
                              refine zv_if_eq (tgt := 620) S (by unfold zR; omega) dL_isShapes_537 (by decide) (fun c_118 => ?_) (fun c_118 => ?_)
                              · exact absurd c_118 (by omega)
                              · refine zv_aload_n S dL_isShapes_540 rfl (lv_at hl 13 rfl) ?_
                                refine zv_iconst S dL_isShapes_541 ?_
                                refine zcp_Vi (As := [.int (zI 0)]) (rest := []) (wr := [zci G qc 10 yc, zci G qe 10 ye, (hr, .inr (2, [.ref ra, .ref rb, .ref rc, .int (zI rkb), .int (zI rfb), .int (zI rlb), .int (zI rbb), .int (zI rtb), .int (zI rxb), .int (zI ryb)])), zci G ra 10 Pb, zci G rb 10 Qb, zci G rc 10 Mb]) (n := 1) S hN hK (hE0.kept hS.2.1) hP hD hS hA hl (n_X4_isPlace l hl0 G H.size h0 qs hr hc hk SF h1 qa qb qc qe ya yb k2 yc ye hsf I2) gL_isShapes_X4_isPlace rfl ⟨rfl, rfl⟩ (by decide +kernel) rfl ⟨Nat.le_of_ble_eq_true rfl, Nat.le_of_ble_eq_true rfl, (show c5 + 1 ≤ 2600 by omega), (show s5 + 6 ≤ 15600 by omega)⟩ [0, 1, 2, 3, 4] [5, 6, 7, 8, 9, 10] rfl rfl (by decide) (by decide) (by decide) (ci := 4) rfl rfl rfl (Nat.le_of_ble_eq_true rfl) dL_isShapes_542 rfl (fun r_ u_119 H1 locs1 hp_120 hP1 hD1 hS1 hz1 => ?_)
                                try dsimp only at hp_120 hP1 hD1
                                obtain ⟨rfl, hpo_121⟩ := hp_120
                                generalize H1 = H at hP1 hD1 hS1 hz1 ⊢
                                generalize locs1 = locs at hS1 ⊢
                                have hS := hS1
                                have hP : va_P G.1 vwCl [zci G qc 10 yc, zci G qe 10 ye, (hr, .inr (2, [.ref ra, .ref rb, .ref rc, .int (zI rkb), .int (zI rfb), .int (zI rlb), .int (zI rbb), .int (zI rtb), .int (zI rxb), .int (zI ryb)])), zci G ra 10 Pb, zci G rb 10 Qb, zci G rc 10 Mb, (h0, .inr (4, [.ref qs, .int (zI 1), .ref hr, .ref hc, .ref hk])), zcq G qs 8 SF, (h1, .inr (3, [.ref qa, .ref qb, .ref qc, .ref qe, .int (zI (k2 : Int))])), zci G qa 10 ya, zci G qb 10 yb] H := hP1
                                have hD : va_D A [zci G qc 10 yc, zci G qe 10 ye, (hr, .inr (2, [.ref ra, .ref rb, .ref rc, .int (zI rkb), .int (zI rfb), .int (zI rlb), .int (zI rbb), .int (zI rtb), .int (zI rxb), .int (zI ryb)])), zci G ra 10 Pb, zci G rb 10 Qb, zci G rc 10 Mb, (h0, .inr (4, [.ref qs, .int (zI 1), .ref hr, .ref hc, .ref hk])), zcq G qs 8 SF, (h1, .inr (3, [.ref qa, .ref qb, .ref qc, .ref qe, .int (zI (k2 : Int))])), zci G qa 10 ya, zci G qb 10 yb] := hD1
                                have hP : va_P G.1 vwCl [(h0, .inr (4, [.ref qs, .int (zI 1), .ref hr, .ref hc, .ref hk])), zcq G qs 8 SF, (h1, .inr (3, [.ref qa, .ref qb, .ref qc, .ref qe, .int (zI (k2 : Int))])), zci G qa 10 ya, zci G qb 10 yb, zci G qc 10 yc, zci G qe 10 ye, (hr, .inr (2, [.ref ra, .ref rb, .ref rc, .int (zI rkb), .int (zI rfb), .int (zI rlb), .int (zI rbb), .int (zI rtb), .int (zI rxb), .int (zI ryb)])), zci G ra 10 Pb, zci G rb 10 Qb, zci G rc 10 Mb] H := hP.sub [6, 7, 8, 9, 10, 0, 1, 2, 3, 4, 5] rfl
                                have hD : va_D A [(h0, .inr (4, [.ref qs, .int (zI 1), .ref hr, .ref hc, .ref hk])), zcq G qs 8 SF, (h1, .inr (3, [.ref qa, .ref qb, .ref qc, .ref qe, .int (zI (k2 : Int))])), zci G qa 10 ya, zci G qb 10 yb, zci G qc 10 yc, zci G qe 10 ye, (hr, .inr (2, [.ref ra, .ref rb, .ref rc, .int (zI rkb), .int (zI rfb), .int (zI rlb), .int (zI rbb), .int (zI rtb), .int (zI rxb), .int (zI ryb)])), zci G ra 10 Pb, zci G rb 10 Qb, zci G rc 10 Mb] := hD.sub [6, 7, 8, 9, 10, 0, 1, 2, 3, 4, 5] (by decide) rfl
                                refine zv_ifb_eq (tgt := 620) S dL_isShapes_545 (by decide) (fun c_122 => ?_) (fun c_122 => ?_)
                                · exact absurd (zqI_place I2) c_122
                                · refine zv_aload_n S dL_isShapes_548 rfl (lv_at hl 13 rfl) ?_
                                  refine zv_iconst S dL_isShapes_549 ?_
                                  refine zv_iload S dL_isShapes_550 (lv_at hl 4 rfl) ?_
                                  refine zcp_Vl (As := [.int (zI 0), .int (zI rr_91)]) (rest := []) (wr := []) (n := 2) S hN hK (hE0.kept hS.2.1) hP hD hS hA hl (n_X4_countAnew l hl0 G H.size h0 qs hr hc hk SF h1 qa qb qc qe ya yb yc ye k2 ra rb rc Pb Qb Mb rkb rfb rlb rbb rtb rxb ryb rr_91 hsf I2 (by omega)) gL_isShapes_X4_countAnew rfl ⟨rfl, rfl⟩ (by decide +kernel) rfl ⟨Nat.le_of_ble_eq_true rfl, Nat.le_of_ble_eq_true rfl, (show (c5 + 1) + 3 ≤ 2600 by omega), (show (s5 + 6) + 18 ≤ 15600 by omega)⟩ [0, 1, 2, 3, 4, 5, 6, 7, 8, 9, 10] [] rfl rfl (by decide) (by decide) (by decide) (ci := 4) rfl rfl rfl (Nat.le_of_ble_eq_true rfl) dL_isShapes_552 rfl (fun r_ u_123 H1 locs1 hp_124 hP1 hD1 hS1 hz1 => ?_)
                                  obtain ⟨P1_125, Q1_126, M1_127, kk1_128, f1_129, l1_130, b1_131, t1_132, x1_133, y1_134⟩ := u_123
                                  try dsimp only at hp_124 hP1 hD1
                                  obtain ⟨rfl, hpo_135⟩ := hp_124
                                  generalize H1 = H at hP1 hD1 hS1 hz1 ⊢
                                  generalize locs1 = locs at hS1 ⊢
                                  have hS := hS1
                                  have hP : va_P G.1 vwCl [(h0, .inr (4, [.ref qs, .int (zI 1), .ref hr, .ref hc, .ref hk])), zcq G qs 8 SF, (h1, .inr (3, [.ref qa, .ref qb, .ref qc, .ref qe, .int (zI (k2 : Int))])), zci G qa 10 ya, zci G qb 10 yb, zci G qc 10 yc, zci G qe 10 ye, (hr, .inr (2, [.ref ra, .ref rb, .ref rc, .int (zI kk1_128), .int (zI f1_129), .int (zI l1_130), .int (zI b1_131), .int (zI t1_132), .int (zI x1_133), .int (zI y1_134)])), zci G ra 10 P1_125, zci G rb 10 Q1_126, zci G rc 10 M1_127] H := hP1
                                  have hD : va_D A [(h0, .inr (4, [.ref qs, .int (zI 1), .ref hr, .ref hc, .ref hk])), zcq G qs 8 SF, (h1, .inr (3, [.ref qa, .ref qb, .ref qc, .ref qe, .int (zI (k2 : Int))])), zci G qa 10 ya, zci G qb 10 yb, zci G qc 10 yc, zci G qe 10 ye, (hr, .inr (2, [.ref ra, .ref rb, .ref rc, .int (zI kk1_128), .int (zI f1_129), .int (zI l1_130), .int (zI b1_131), .int (zI t1_132), .int (zI x1_133), .int (zI y1_134)])), zci G ra 10 P1_125, zci G rb 10 Q1_126, zci G rc 10 M1_127] := hD1
                                  refine zv_aload_n S dL_isShapes_555 rfl (lv_at hl 13 rfl) ?_
                                  refine zv_iconst S dL_isShapes_556 ?_
                                  refine zv_iload S dL_isShapes_557 (lv_at hl 4 rfl) ?_
                                  refine zcp_Vl (As := [.int (zI 0), .int (zI rr_91)]) (rest := [.long (zL ((zpts yb ya (fun j => 1 * yc j + rr_91 * ye j) k2 : Nat) : Int))]) (wr := []) (n := 2) S hN hK (hE0.kept hS.2.1) hP hD hS hA hl (n_X4_count l hl0 G H.size h0 qs hr hc hk SF h1 qa qb qc qe ya yb yc ye k2 ra rb rc P1_125 Q1_126 M1_127 kk1_128 f1_129 l1_130 b1_131 t1_132 x1_133 y1_134 rr_91 hsf I2 (by omega)) gL_isShapes_X4_count rfl ⟨rfl, rfl⟩ (by decide +kernel) rfl ⟨Nat.le_of_ble_eq_true rfl, Nat.le_of_ble_eq_true rfl, (show (c5 + 4) + 3 ≤ 2600 by omega), (show (s5 + 24) + 18 ≤ 15600 by omega)⟩ [0, 1, 2, 3, 4, 5, 6, 7, 8, 9, 10] [] rfl rfl (by decide) (by decide) (by decide) (ci := 4) rfl rfl rfl (Nat.le_of_ble_eq_true rfl) dL_isShapes_559 rfl (fun r_ u_136 H1 locs1 hp_137 hP1 hD1 hS1 hz1 => ?_)
                                  obtain ⟨P1_138, Q1_139, M1_140, kk1_141, f1_142, l1_143, b1_144, t1_145, x1_146, y1_147⟩ := u_136
                                  try dsimp only at hp_137 hP1 hD1
                                  obtain ⟨rfl, hpo_148⟩ := hp_137
                                  generalize H1 = H at hP1 hD1 hS1 hz1 ⊢
                                  generalize locs1 = locs at hS1 ⊢
                                  have hS := hS1
                                  have hP : va_P G.1 vwCl [(h0, .inr (4, [.ref qs, .int (zI 1), .ref hr, .ref hc, .ref hk])), zcq G qs 8 SF, (h1, .inr (3, [.ref qa, .ref qb, .ref qc, .ref qe, .int (zI (k2 : Int))])), zci G qa 10 ya, zci G qb 10 yb, zci G qc 10 yc, zci G qe 10 ye, (hr, .inr (2, [.ref ra, .ref rb, .ref rc, .int (zI kk1_141), .int (zI f1_142), .int (zI l1_143), .int (zI b1_144), .int (zI t1_145), .int (zI x1_146), .int (zI y1_147)])), zci G ra 10 P1_138, zci G rb 10 Q1_139, zci G rc 10 M1_140] H := hP1
                                  have hD : va_D A [(h0, .inr (4, [.ref qs, .int (zI 1), .ref hr, .ref hc, .ref hk])), zcq G qs 8 SF, (h1, .inr (3, [.ref qa, .ref qb, .ref qc, .ref qe, .int (zI (k2 : Int))])), zci G qa 10 ya, zci G qb 10 yb, zci G qc 10 yc, zci G qe 10 ye, (hr, .inr (2, [.ref ra, .ref rb, .ref rc, .int (zI kk1_141), .int (zI f1_142), .int (zI l1_143), .int (zI b1_144), .int (zI t1_145), .int (zI x1_146), .int (zI y1_147)])), zci G ra 10 P1_138, zci G rb 10 Q1_139, zci G rc 10 M1_140] := hD1
                                  refine zv_lif_ne (tgt := 620) S (zpts_S _ _ _ _) (zpts_S _ _ _ _) dL_isShapes_562 dL_isShapes_563 (by decide) (fun c_149 => ?_) (fun c_149 => ?_)
                                  · exact (c_149 (congrArg (fun z : Nat => (z : Int)) zpts_swap)).elim
                                  · refine zv_aload_n S dL_isShapes_566 rfl (lv_at hl 13 rfl) ?_
                                    refine zv_iconst S dL_isShapes_567 ?_
                                    refine zv_iconst S dL_isShapes_568 ?_
                                    refine zv_iconst S dL_isShapes_569 ?_
                                    refine zcp_Vl (As := [.int (zI 0), .int (zI 1), .int (zI 0)]) (rest := []) (wr := []) (n := 3) S hN hK (hE0.kept hS.2.1) hP hD hS hA hl (n_X4_blown l hl0 G H.size h0 qs hr hc hk SF h1 qa qb qc qe ya yb yc ye k2 ra rb rc P1_138 Q1_139 M1_140 kk1_141 f1_142 l1_143 b1_144 t1_145 x1_146 y1_147 1 0 hsf I2 (by omega) (Or.inl rfl)) gL_isShapes_X4_blown rfl ⟨rfl, rfl⟩ (by decide +kernel) rfl ⟨Nat.le_of_ble_eq_true rfl, Nat.le_of_ble_eq_true rfl, (show (c5 + 7) + 3 ≤ 2600 by omega), (show (s5 + 42) + 18 ≤ 15600 by omega)⟩ [0, 1, 2, 3, 4, 5, 6, 7, 8, 9, 10] [] rfl rfl (by decide) (by decide) (by decide) (ci := 4) rfl rfl rfl (Nat.le_of_ble_eq_true rfl) dL_isShapes_570 rfl (fun r_ u_150 H1 locs1 hp_151 hP1 hD1 hS1 hz1 => ?_)
                                    obtain ⟨P1_152, Q1_153, M1_154, kk1_155, f1_156, l1_157, b1_158, t1_159, x1_160, y1_161⟩ := u_150
                                    try dsimp only at hp_151 hP1 hD1
                                    obtain ⟨rfl, hpo_162⟩ := hp_151
                                    generalize H1 = H at hP1 hD1 hS1 hz1 ⊢
                                    generalize locs1 = locs at hS1 ⊢
                                    have hS := hS1
                                    have hP : va_P G.1 vwCl [(h0, .inr (4, [.ref qs, .int (zI 1), .ref hr, .ref hc, .ref hk])), zcq G qs 8 SF, (h1, .inr (3, [.ref qa, .ref qb, .ref qc, .ref qe, .int (zI (k2 : Int))])), zci G qa 10 ya, zci G qb 10 yb, zci G qc 10 yc, zci G qe 10 ye, (hr, .inr (2, [.ref ra, .ref rb, .ref rc, .int (zI kk1_155), .int (zI f1_156), .int (zI l1_157), .int (zI b1_158), .int (zI t1_159), .int (zI x1_160), .int (zI y1_161)])), zci G ra 10 P1_152, zci G rb 10 Q1_153, zci G rc 10 M1_154] H := hP1
                                    have hD : va_D A [(h0, .inr (4, [.ref qs, .int (zI 1), .ref hr, .ref hc, .ref hk])), zcq G qs 8 SF, (h1, .inr (3, [.ref qa, .ref qb, .ref qc, .ref qe, .int (zI (k2 : Int))])), zci G qa 10 ya, zci G qb 10 yb, zci G qc 10 yc, zci G qe 10 ye, (hr, .inr (2, [.ref ra, .ref rb, .ref rc, .int (zI kk1_155), .int (zI f1_156), .int (zI l1_157), .int (zI b1_158), .int (zI t1_159), .int (zI x1_160), .int (zI y1_161)])), zci G ra 10 P1_152, zci G rb 10 Q1_153, zci G rc 10 M1_154] := hD1
                                    refine zv_aload_n S dL_isShapes_573 rfl (lv_at hl 13 rfl) ?_
                                    refine zv_iconst S dL_isShapes_574 ?_
                                    refine zv_iconst S dL_isShapes_575 ?_
                                    refine zcp_Vl (As := [.int (zI 0), .int (zI 0)]) (rest := [.long (zL ((zpts ya yb (fun j => (1 * yc j + 0 * ye j) - 0) k2 : Nat) : Int))]) (wr := []) (n := 2) S hN hK (hE0.kept hS.2.1) hP hD hS hA hl (n_X4_count l hl0 G H.size h0 qs hr hc hk SF h1 qa qb qc qe ya yb yc ye k2 ra rb rc P1_152 Q1_153 M1_154 kk1_155 f1_156 l1_157 b1_158 t1_159 x1_160 y1_161 0 hsf I2 (by omega)) gL_isShapes_X4_count rfl ⟨rfl, rfl⟩ (by decide +kernel) rfl ⟨Nat.le_of_ble_eq_true rfl, Nat.le_of_ble_eq_true rfl, (show (c5 + 10) + 3 ≤ 2600 by omega), (show (s5 + 60) + 18 ≤ 15600 by omega)⟩ [0, 1, 2, 3, 4, 5, 6, 7, 8, 9, 10] [] rfl rfl (by decide) (by decide) (by decide) (ci := 4) rfl rfl rfl (Nat.le_of_ble_eq_true rfl) dL_isShapes_576 rfl (fun r_ u_163 H1 locs1 hp_164 hP1 hD1 hS1 hz1 => ?_)
                                    obtain ⟨P1_165, Q1_166, M1_167, kk1_168, f1_169, l1_170, b1_171, t1_172, x1_173, y1_174⟩ := u_163
                                    try dsimp only at hp_164 hP1 hD1
                                    obtain ⟨rfl, hpo_175⟩ := hp_164
                                    generalize H1 = H at hP1 hD1 hS1 hz1 ⊢
                                    generalize locs1 = locs at hS1 ⊢
                                    have hS := hS1
                                    have hP : va_P G.1 vwCl [(h0, .inr (4, [.ref qs, .int (zI 1), .ref hr, .ref hc, .ref hk])), zcq G qs 8 SF, (h1, .inr (3, [.ref qa, .ref qb, .ref qc, .ref qe, .int (zI (k2 : Int))])), zci G qa 10 ya, zci G qb 10 yb, zci G qc 10 yc, zci G qe 10 ye, (hr, .inr (2, [.ref ra, .ref rb, .ref rc, .int (zI kk1_168), .int (zI f1_169), .int (zI l1_170), .int (zI b1_171), .int (zI t1_172), .int (zI x1_173), .int (zI y1_174)])), zci G ra 10 P1_165, zci G rb 10 Q1_166, zci G rc 10 M1_167] H := hP1
                                    have hD : va_D A [(h0, .inr (4, [.ref qs, .int (zI 1), .ref hr, .ref hc, .ref hk])), zcq G qs 8 SF, (h1, .inr (3, [.ref qa, .ref qb, .ref qc, .ref qe, .int (zI (k2 : Int))])), zci G qa 10 ya, zci G qb 10 yb, zci G qc 10 yc, zci G qe 10 ye, (hr, .inr (2, [.ref ra, .ref rb, .ref rc, .int (zI kk1_168), .int (zI f1_169), .int (zI l1_170), .int (zI b1_171), .int (zI t1_172), .int (zI x1_173), .int (zI y1_174)])), zci G ra 10 P1_165, zci G rb 10 Q1_166, zci G rc 10 M1_167] := hD1
                                    refine zv_lif_ne (tgt := 620) S (zpts_S _ _ _ _) (zpts_S _ _ _ _) dL_isShapes_579 dL_isShapes_580 (by decide) (fun c_176 => ?_) (fun c_176 => ?_)
                                    · exact (c_176 (congrArg (fun z : Nat => (z : Int)) zbl_1)).elim
                                    · refine zv_aload_n S dL_isShapes_583 rfl (lv_at hl 13 rfl) ?_
                                      refine zv_iconst S dL_isShapes_584 ?_
                                      refine zv_iconst S dL_isShapes_585 ?_
                                      refine zv_iconst S dL_isShapes_586 ?_
                                      refine zcp_Vl (As := [.int (zI 0), .int (zI 1), .int (zI 1)]) (rest := []) (wr := []) (n := 3) S hN hK (hE0.kept hS.2.1) hP hD hS hA hl (n_X4_blown l hl0 G H.size h0 qs hr hc hk SF h1 qa qb qc qe ya yb yc ye k2 ra rb rc P1_165 Q1_166 M1_167 kk1_168 f1_169 l1_170 b1_171 t1_172 x1_173 y1_174 1 1 hsf I2 (by omega) (Or.inr rfl)) gL_isShapes_X4_blown rfl ⟨rfl, rfl⟩ (by decide +kernel) rfl ⟨Nat.le_of_ble_eq_true rfl, Nat.le_of_ble_eq_true rfl, (show (c5 + 13) + 3 ≤ 2600 by omega), (show (s5 + 78) + 18 ≤ 15600 by omega)⟩ [0, 1, 2, 3, 4, 5, 6, 7, 8, 9, 10] [] rfl rfl (by decide) (by decide) (by decide) (ci := 4) rfl rfl rfl (Nat.le_of_ble_eq_true rfl) dL_isShapes_587 rfl (fun r_ u_177 H1 locs1 hp_178 hP1 hD1 hS1 hz1 => ?_)
                                      obtain ⟨P1_179, Q1_180, M1_181, kk1_182, f1_183, l1_184, b1_185, t1_186, x1_187, y1_188⟩ := u_177
                                      try dsimp only at hp_178 hP1 hD1
                                      obtain ⟨rfl, hpo_189⟩ := hp_178
                                      generalize H1 = H at hP1 hD1 hS1 hz1 ⊢
                                      generalize locs1 = locs at hS1 ⊢
                                      have hS := hS1
                                      have hP : va_P G.1 vwCl [(h0, .inr (4, [.ref qs, .int (zI 1), .ref hr, .ref hc, .ref hk])), zcq G qs 8 SF, (h1, .inr (3, [.ref qa, .ref qb, .ref qc, .ref qe, .int (zI (k2 : Int))])), zci G qa 10 ya, zci G qb 10 yb, zci G qc 10 yc, zci G qe 10 ye, (hr, .inr (2, [.ref ra, .ref rb, .ref rc, .int (zI kk1_182), .int (zI f1_183), .int (zI l1_184), .int (zI b1_185), .int (zI t1_186), .int (zI x1_187), .int (zI y1_188)])), zci G ra 10 P1_179, zci G rb 10 Q1_180, zci G rc 10 M1_181] H := hP1
                                      have hD : va_D A [(h0, .inr (4, [.ref qs, .int (zI 1), .ref hr, .ref hc, .ref hk])), zcq G qs 8 SF, (h1, .inr (3, [.ref qa, .ref qb, .ref qc, .ref qe, .int (zI (k2 : Int))])), zci G qa 10 ya, zci G qb 10 yb, zci G qc 10 yc, zci G qe 10 ye, (hr, .inr (2, [.ref ra, .ref rb, .ref rc, .int (zI kk1_182), .int (zI f1_183), .int (zI l1_184), .int (zI b1_185), .int (zI t1_186), .int (zI x1_187), .int (zI y1_188)])), zci G ra 10 P1_179, zci G rb 10 Q1_180, zci G rc 10 M1_181] := hD1
                                      refine zv_aload_n S dL_isShapes_590 rfl (lv_at hl 13 rfl) ?_
                                      refine zv_iconst S dL_isShapes_591 ?_
                                      refine zv_iconst S dL_isShapes_592 ?_
                                      refine zv_iconst S dL_isShapes_593 ?_
                                      refine zcp_Vl (As := [.int (zI 0), .int (zI 1), .int (zI 0)]) (rest := [.long (zL ((zpts ya yb (fun j => (1 * yc j + 0 * ye j) - 1) k2 : Nat) : Int))]) (wr := []) (n := 3) S hN hK (hE0.kept hS.2.1) hP hD hS hA hl (n_X4_blown l hl0 G H.size h0 qs hr hc hk SF h1 qa qb qc qe ya yb yc ye k2 ra rb rc P1_179 Q1_180 M1_181 kk1_182 f1_183 l1_184 b1_185 t1_186 x1_187 y1_188 1 0 hsf I2 (by omega) (Or.inl rfl)) gL_isShapes_X4_blown rfl ⟨rfl, rfl⟩ (by decide +kernel) rfl ⟨Nat.le_of_ble_eq_true rfl, Nat.le_of_ble_eq_true rfl, (show (c5 + 16) + 3 ≤ 2600 by omega), (show (s5 + 96) + 18 ≤ 15600 by omega)⟩ [0, 1, 2, 3, 4, 5, 6, 7, 8, 9, 10] [] rfl rfl (by decide) (by decide) (by decide) (ci := 4) rfl rfl rfl (Nat.le_of_ble_eq_true rfl) dL_isShapes_594 rfl (fun r_ u_190 H1 locs1 hp_191 hP1 hD1 hS1 hz1 => ?_)
                                      obtain ⟨P1_192, Q1_193, M1_194, kk1_195, f1_196, l1_197, b1_198, t1_199, x1_200, y1_201⟩ := u_190
                                      try dsimp only at hp_191 hP1 hD1
                                      obtain ⟨rfl, hpo_202⟩ := hp_191
                                      generalize H1 = H at hP1 hD1 hS1 hz1 ⊢
                                      generalize locs1 = locs at hS1 ⊢
                                      have hS := hS1
                                      have hP : va_P G.1 vwCl [(h0, .inr (4, [.ref qs, .int (zI 1), .ref hr, .ref hc, .ref hk])), zcq G qs 8 SF, (h1, .inr (3, [.ref qa, .ref qb, .ref qc, .ref qe, .int (zI (k2 : Int))])), zci G qa 10 ya, zci G qb 10 yb, zci G qc 10 yc, zci G qe 10 ye, (hr, .inr (2, [.ref ra, .ref rb, .ref rc, .int (zI kk1_195), .int (zI f1_196), .int (zI l1_197), .int (zI b1_198), .int (zI t1_199), .int (zI x1_200), .int (zI y1_201)])), zci G ra 10 P1_192, zci G rb 10 Q1_193, zci G rc 10 M1_194] H := hP1
                                      have hD : va_D A [(h0, .inr (4, [.ref qs, .int (zI 1), .ref hr, .ref hc, .ref hk])), zcq G qs 8 SF, (h1, .inr (3, [.ref qa, .ref qb, .ref qc, .ref qe, .int (zI (k2 : Int))])), zci G qa 10 ya, zci G qb 10 yb, zci G qc 10 yc, zci G qe 10 ye, (hr, .inr (2, [.ref ra, .ref rb, .ref rc, .int (zI kk1_195), .int (zI f1_196), .int (zI l1_197), .int (zI b1_198), .int (zI t1_199), .int (zI x1_200), .int (zI y1_201)])), zci G ra 10 P1_192, zci G rb 10 Q1_193, zci G rc 10 M1_194] := hD1
                                      refine zv_lif_gt (tgt := 620) S (zpts_S _ _ _ _) (zpts_S _ _ _ _) dL_isShapes_597 dL_isShapes_598 (by decide) (fun c_203 => ?_) (fun c_203 => ?_)
                                      · exact absurd c_203 (by have q := zbl_2 (A := ya) (B := yb) (C := yc) (E := ye) (k := k2); omega)
                                      · refine zv_aload_n S dL_isShapes_601 rfl (lv_at hl 13 rfl) ?_
                                        refine zv_iload S dL_isShapes_602 (lv_at hl 9 rfl) ?_
                                        refine zv_iload S dL_isShapes_604 (lv_at hl 4 rfl) ?_
                                        refine zv_iload S dL_isShapes_606 (lv_at hl 7 rfl) ?_
                                        refine zv_iload S dL_isShapes_608 (lv_at hl 6 rfl) ?_
                                        refine zcp_Si (As := [.ref h0, .int (zI (k2 : Int)), .int (zI rr_91), .int (zI (rr_79 - 9)), .int (zI (rr_83 - 9))]) (rest := []) (wr := []) (n := 5) S hN hK (hE0.kept hS.2.1) hP hD hS hA hl (c_L_isBest l hl0 G H.size h0 qs hr hc hk SF h1 qa qb qc qe ya yb yc ye k2 ra rb rc P1_192 Q1_193 M1_194 kk1_195 f1_196 l1_197 b1_198 t1_199 x1_200 y1_201 (k2 : Int) rr_91 (rr_79 - 9) (rr_83 - 9) hsf I2 rfl (by omega) (by omega) (by omega)) gL_isShapes_L_isBest rfl ⟨rfl, rfl⟩ (by decide +kernel) rfl ⟨Nat.le_of_ble_eq_true rfl, Nat.le_of_ble_eq_true rfl, (show (c5 + 19) + 200 ≤ 2600 by omega), (show (s5 + 114) + 1200 ≤ 15600 by omega)⟩ [0, 1, 2, 3, 4, 5, 6, 7, 8, 9, 10] [] rfl rfl (by decide) (by decide) (by decide) (Nat.le_of_ble_eq_true rfl) dL_isShapes_610 rfl (fun r_ u_204 H1 locs1 hp_205 hP1 hD1 hS1 hz1 => ?_)
                                        obtain ⟨P1_206, Q1_207, M1_208, kk1_209, f1_210, l1_211, b1_212, t1_213, x1_214, y1_215⟩ := u_204
                                        try dsimp only at hp_205 hP1 hD1
                                        subst hp_205
                                        generalize H1 = H at hP1 hD1 hS1 hz1 ⊢
                                        generalize locs1 = locs at hS1 ⊢
                                        have hS := hS1
                                        have hP : va_P G.1 vwCl [(h0, .inr (4, [.ref qs, .int (zI 1), .ref hr, .ref hc, .ref hk])), zcq G qs 8 SF, (h1, .inr (3, [.ref qa, .ref qb, .ref qc, .ref qe, .int (zI (k2 : Int))])), zci G qa 10 ya, zci G qb 10 yb, zci G qc 10 yc, zci G qe 10 ye, (hr, .inr (2, [.ref ra, .ref rb, .ref rc, .int (zI kk1_209), .int (zI f1_210), .int (zI l1_211), .int (zI b1_212), .int (zI t1_213), .int (zI x1_214), .int (zI y1_215)])), zci G ra 10 P1_206, zci G rb 10 Q1_207, zci G rc 10 M1_208] H := hP1
                                        have hD : va_D A [(h0, .inr (4, [.ref qs, .int (zI 1), .ref hr, .ref hc, .ref hk])), zcq G qs 8 SF, (h1, .inr (3, [.ref qa, .ref qb, .ref qc, .ref qe, .int (zI (k2 : Int))])), zci G qa 10 ya, zci G qb 10 yb, zci G qc 10 yc, zci G qe 10 ye, (hr, .inr (2, [.ref ra, .ref rb, .ref rc, .int (zI kk1_209), .int (zI f1_210), .int (zI l1_211), .int (zI b1_212), .int (zI t1_213), .int (zI x1_214), .int (zI y1_215)])), zci G ra 10 P1_206, zci G rb 10 Q1_207, zci G rc 10 M1_208] := hD1
                                        refine zv_if_eq (tgt := 620) S (by unfold zR; omega) dL_isShapes_613 (by decide) (fun c_216 => ?_) (fun c_216 => ?_)
                                        · exact absurd c_216 (by omega)
                                        · refine zv_iconst S dL_isShapes_616 ?_
                                          refine zv_goto (tgt := 621) S dL_isShapes_617 (by decide) ?_
                                          refine zv_istore (lv' := [(4, .int (zI 1)), (14, .long (zL ((zpts xa xb (fun j => 1 * xc j + rr_91 * xe j) k : Nat) : Int))), (13, .int (zI rr_103)), (12, .int (zI rr_99)), (11, .int (zI rr_95)), (10, .int (zI rr_91)), (9, .int (zI (rr_87 - 30))), (8, .int (zI (rr_83 - 9))), (7, .int (zI (rr_79 - 9))), (6, .int (zI (i : Int))), (5, .int (zI (k2 : Int))), (3, .int (zI tl)), (2, .int (zI wd)), (0, .ref h0), (1, .ref bt)]) S dL_isShapes_621 hl (by decide) rfl (fun ls hl => ?_)
                                          refine zv_iinc (k0 := 9) (lv' := [(6, .int (zI ((i : Int) + 1))), (4, .int (zI 1)), (14, .long (zL ((zpts xa xb (fun j => 1 * xc j + rr_91 * xe j) k : Nat) : Int))), (13, .int (zI rr_103)), (12, .int (zI rr_99)), (11, .int (zI rr_95)), (10, .int (zI rr_91)), (9, .int (zI (rr_87 - 30))), (8, .int (zI (rr_83 - 9))), (7, .int (zI (rr_79 - 9))), (5, .int (zI (k2 : Int))), (3, .int (zI tl)), (2, .int (zI wd)), (0, .ref h0), (1, .ref bt)]) S dL_isShapes_623 hl rfl (by decide) rfl (fun ls hl => ?_)
                                          refine zv_goto (tgt := 166) S dL_isShapes_626 (by decide) ?_
                                          refine W.widen (k := (c5 + 219)) (n := (s5 + 1314)) (by omega) (by omega) ?_
                                          exact ih166 (i + 1) ((i : Int) + 1) k2 (k2 : Int) (k2 : Int) ya yb yc ye P1_206 Q1_207 M1_208 kk1_209 f1_210 l1_211 b1_212 t1_213 x1_214 y1_215 (c5 + 219) (s5 + 1314) (by omega) rfl rfl (by omega) I2 (by omega) (by omega) (by omega) _ _ hP hD hS _ (lv_sub hl [0, 10, 1, 11, 12, 13, 14] rfl)
                            have JN383 : ∀  (H : Heap) (locs : List Loc), va_P G.1 vwCl [(h0, .inr (4, [.ref qs, .int (zI 1), .ref hr, .ref hc, .ref hk])), zcq G qs 8 SF, (h1, .inr (3, [.ref qa, .ref qb, .ref qc, .ref qe, .int (zI (k : Int))])), zci G qa 10 xa, zci G qb 10 xb, zci G qc 10 xc, zci G qe 10 xe, (hr, .inr (2, [.ref ra, .ref rb, .ref rc, .int (zI kk1_110), .int (zI f1_111), .int (zI l1_112), .int (zI b1_113), .int (zI t1_114), .int (zI x1_115), .int (zI y1_116)])), zci G ra 10 P1_107, zci G rb 10 Q1_108, zci G rc 10 M1_109] H → va_D A [(h0, .inr (4, [.ref qs, .int (zI 1), .ref hr, .ref hc, .ref hk])), zcq G qs 8 SF, (h1, .inr (3, [.ref qa, .ref qb, .ref qc, .ref qe, .int (zI (k : Int))])), zci G qa 10 xa, zci G qb 10 xb, zci G qc 10 xc, zci G qe 10 xe, (hr, .inr (2, [.ref ra, .ref rb, .ref rc, .int (zI kk1_110), .int (zI f1_111), .int (zI l1_112), .int (zI b1_113), .int (zI t1_114), .int (zI x1_115), .int (zI y1_116)])), zci G ra 10 P1_107, zci G rb 10 Q1_108, zci G rc 10 M1_109] → va_S A s.heap H locs → ∀ ls : Array Slot, lv_has ls 19 [(14, .long (zL ((zpts xa xb (fun j => 1 * xc j + rr_91 * xe j) k : Nat) : Int))), (13, .int (zI rr_103)), (12, .int (zI rr_99)), (11, .int (zI rr_95)), (10, .int (zI rr_91)), (9, .int (zI (rr_87 - 30))), (8, .int (zI (rr_83 - 9))), (7, .int (zI (rr_79 - 9))), (6, .int (zI (i : Int))), (5, .int (zI (k : Int))), (4, .int (zI 1)), (3, .int (zI tl)), (2, .int (zI wd)), (0, .ref h0), (1, .ref bt)] → W p l e ({ frames := 10, cells := 2600, slots := 15600, locals := 192 }) s m ([.ref h0, .ref bt]).toArray below meth c H locs (cc + 3) (ss + 18) Q (F0 m 383 ls []) := by
                              intro H locs hP hD hS ls hl
                              refine zv_iload S dL_isShapes_383 (lv_at hl 3 rfl) ?_
                              refine zv_iconst S dL_isShapes_385 ?_
                              refine zv_icmp_ge (tgt := 470) S (by unfold zR; omega) (by unfold zR; omega) dL_isShapes_386 (by decide) (fun c_217 => ?_) (fun c_217 => ?_)
                              · have hits := zmod_lt (x := rr_91) (m := 3) (by omega) (by omega)
                                have hits : 0 ≤ rr_91.tmod 3 ∧ rr_91.tmod 3 ≤ 2 := (by omega)
                                refine zv_aload_n S dL_isShapes_470 rfl (lv_at hl 13 rfl) ?_
                                refine zv_iconst S dL_isShapes_471 ?_
                                refine zv_iconst S dL_isShapes_472 ?_
                                refine zv_iconst S dL_isShapes_473 ?_
                                refine zcp_Vl (As := [.int (zI 0), .int (zI 1), .int (zI 1)]) (rest := []) (wr := []) (n := 3) S hN hK (hE0.kept hS.2.1) hP hD hS hA hl (n_X4_blown l hl0 G H.size h0 qs hr hc hk SF h1 qa qb qc qe xa xb xc xe k ra rb rc P1_107 Q1_108 M1_109 kk1_110 f1_111 l1_112 b1_113 t1_114 x1_115 y1_116 1 1 hsf I (by omega) (Or.inr rfl)) gL_isShapes_X4_blown rfl ⟨rfl, rfl⟩ (by decide +kernel) rfl ⟨Nat.le_of_ble_eq_true rfl, Nat.le_of_ble_eq_true rfl, (show (cc + 3) + 3 ≤ 2600 by omega), (show (ss + 18) + 18 ≤ 15600 by omega)⟩ [0, 1, 2, 3, 4, 5, 6, 7, 8, 9, 10] [] rfl rfl (by decide) (by decide) (by decide) (ci := 4) rfl rfl rfl (Nat.le_of_ble_eq_true rfl) dL_isShapes_474 rfl (fun r_ u_218 H1 locs1 hp_219 hP1 hD1 hS1 hz1 => ?_)
                                obtain ⟨P1_220, Q1_221, M1_222, kk1_223, f1_224, l1_225, b1_226, t1_227, x1_228, y1_229⟩ := u_218
                                try dsimp only at hp_219 hP1 hD1
                                obtain ⟨rfl, hpo_230⟩ := hp_219
                                generalize H1 = H at hP1 hD1 hS1 hz1 ⊢
                                generalize locs1 = locs at hS1 ⊢
                                have hS := hS1
                                have hP : va_P G.1 vwCl [(h0, .inr (4, [.ref qs, .int (zI 1), .ref hr, .ref hc, .ref hk])), zcq G qs 8 SF, (h1, .inr (3, [.ref qa, .ref qb, .ref qc, .ref qe, .int (zI (k : Int))])), zci G qa 10 xa, zci G qb 10 xb, zci G qc 10 xc, zci G qe 10 xe, (hr, .inr (2, [.ref ra, .ref rb, .ref rc, .int (zI kk1_223), .int (zI f1_224), .int (zI l1_225), .int (zI b1_226), .int (zI t1_227), .int (zI x1_228), .int (zI y1_229)])), zci G ra 10 P1_220, zci G rb 10 Q1_221, zci G rc 10 M1_222] H := hP1
                                have hD : va_D A [(h0, .inr (4, [.ref qs, .int (zI 1), .ref hr, .ref hc, .ref hk])), zcq G qs 8 SF, (h1, .inr (3, [.ref qa, .ref qb, .ref qc, .ref qe, .int (zI (k : Int))])), zci G qa 10 xa, zci G qb 10 xb, zci G qc 10 xc, zci G qe 10 xe, (hr, .inr (2, [.ref ra, .ref rb, .ref rc, .int (zI kk1_223), .int (zI f1_224), .int (zI l1_225), .int (zI b1_226), .int (zI t1_227), .int (zI x1_228), .int (zI y1_229)])), zci G ra 10 P1_220, zci G rb 10 Q1_221, zci G rc 10 M1_222] := hD1
                                refine zv_lstore (lv' := [(16, .long (zL ((zpts xa xb (fun j => (1 * xc j + 0 * xe j) - 1) k : Nat) : Int))), (14, .long (zL ((zpts xa xb (fun j => 1 * xc j + rr_91 * xe j) k : Nat) : Int))), (13, .int (zI rr_103)), (12, .int (zI rr_99)), (11, .int (zI rr_95)), (10, .int (zI rr_91)), (9, .int (zI (rr_87 - 30))), (8, .int (zI (rr_83 - 9))), (7, .int (zI (rr_79 - 9))), (6, .int (zI (i : Int))), (5, .int (zI (k : Int))), (4, .int (zI 1)), (3, .int (zI tl)), (2, .int (zI wd)), (0, .ref h0), (1, .ref bt)]) S dL_isShapes_477 hl (by decide) rfl (fun ls hl => ?_)
                                refine zv_aload_n S dL_isShapes_479 rfl (lv_at hl 14 rfl) ?_
                                refine zv_iload S dL_isShapes_480 (lv_at hl 5 rfl) ?_
                                refine zv_iconst S dL_isShapes_482 ?_
                                refine zv_irem S (by unfold zR; omega) (by unfold zR; omega) (by omega) (by omega) dL_isShapes_483 ?_
                                refine zch_Si (As := [.ref h0, .int (zI (rr_91.tmod 3))]) (rest := []) (wr := [(hr, .inr (2, [.ref ra, .ref rb, .ref rc, .int (zI kk1_223), .int (zI f1_224), .int (zI l1_225), .int (zI b1_226), .int (zI t1_227), .int (zI x1_228), .int (zI y1_229)])), zci G ra 10 P1_220, zci G rb 10 Q1_221, zci G rc 10 M1_222]) (n := 2) S hN hK (hE0.kept hS.2.1) hP hD hS hA hl (c_L_moves l hl0 G H.size h0 qs hr hc hk SF h1 qa qb qc qe xa xb xc xe k (rr_91.tmod 3) hsf I hits) gL_isShapes_L_moves rfl ⟨rfl, rfl⟩ (by decide +kernel) rfl ⟨Nat.le_of_ble_eq_true rfl, Nat.le_of_ble_eq_true rfl, (show (cc + 6) + 3 ≤ 2600 by omega), (show (ss + 36) + 18 ≤ 15600 by omega)⟩ [0, 1, 2, 3, 4, 5, 6] [7, 8, 9, 10] rfl rfl (by decide) (by decide) (by decide) (Nat.le_of_ble_eq_true rfl) dL_isShapes_484 rfl (fun r_ u_231 H1 locs1 hp_232 hP1 hD1 hS1 hz1 => ?_)
                                obtain ⟨kr_233, fa1_234, fb1_235⟩ := u_231
                                try dsimp only at hp_232 hP1 hD1
                                obtain ⟨rfl, hmo_236⟩ := hp_232
                                generalize H1 = H at hP1 hD1 hS1 hz1 ⊢
                                generalize locs1 = locs at hS1 ⊢
                                have hS := hS1
                                have hP : va_P G.1 vwCl [(hr, .inr (2, [.ref ra, .ref rb, .ref rc, .int (zI kk1_223), .int (zI f1_224), .int (zI l1_225), .int (zI b1_226), .int (zI t1_227), .int (zI x1_228), .int (zI y1_229)])), zci G ra 10 P1_220, zci G rb 10 Q1_221, zci G rc 10 M1_222, (h0, .inr (4, [.ref qs, .int (zI 1), .ref hr, .ref hc, .ref hk])), zcq G qs 8 SF, (h1, .inr (3, [.ref qa, .ref qb, .ref qc, .ref qe, .int (zI (k : Int))])), zci G qa 10 fa1_234, zci G qb 10 fb1_235, zci G qc 10 xc, zci G qe 10 xe] H := hP1
                                have hD : va_D A [(hr, .inr (2, [.ref ra, .ref rb, .ref rc, .int (zI kk1_223), .int (zI f1_224), .int (zI l1_225), .int (zI b1_226), .int (zI t1_227), .int (zI x1_228), .int (zI y1_229)])), zci G ra 10 P1_220, zci G rb 10 Q1_221, zci G rc 10 M1_222, (h0, .inr (4, [.ref qs, .int (zI 1), .ref hr, .ref hc, .ref hk])), zcq G qs 8 SF, (h1, .inr (3, [.ref qa, .ref qb, .ref qc, .ref qe, .int (zI (k : Int))])), zci G qa 10 fa1_234, zci G qb 10 fb1_235, zci G qc 10 xc, zci G qe 10 xe] := hD1
                                have hP : va_P G.1 vwCl [(h0, .inr (4, [.ref qs, .int (zI 1), .ref hr, .ref hc, .ref hk])), zcq G qs 8 SF, (h1, .inr (3, [.ref qa, .ref qb, .ref qc, .ref qe, .int (zI (k : Int))])), zci G qa 10 fa1_234, zci G qb 10 fb1_235, zci G qc 10 xc, zci G qe 10 xe, (hr, .inr (2, [.ref ra, .ref rb, .ref rc, .int (zI kk1_223), .int (zI f1_224), .int (zI l1_225), .int (zI b1_226), .int (zI t1_227), .int (zI x1_228), .int (zI y1_229)])), zci G ra 10 P1_220, zci G rb 10 Q1_221, zci G rc 10 M1_222] H := hP.sub [4, 5, 6, 7, 8, 9, 10, 0, 1, 2, 3] rfl
                                have hD : va_D A [(h0, .inr (4, [.ref qs, .int (zI 1), .ref hr, .ref hc, .ref hk])), zcq G qs 8 SF, (h1, .inr (3, [.ref qa, .ref qb, .ref qc, .ref qe, .int (zI (k : Int))])), zci G qa 10 fa1_234, zci G qb 10 fb1_235, zci G qc 10 xc, zci G qe 10 xe, (hr, .inr (2, [.ref ra, .ref rb, .ref rc, .int (zI kk1_223), .int (zI f1_224), .int (zI l1_225), .int (zI b1_226), .int (zI t1_227), .int (zI x1_228), .int (zI y1_229)])), zci G ra 10 P1_220, zci G rb 10 Q1_221, zci G rc 10 M1_222] := hD.sub [4, 5, 6, 7, 8, 9, 10, 0, 1, 2, 3] (by decide) rfl
                                have hmo := hmo_236
                                rcases hmo with ⟨hkr, hsl, hmv⟩ | ⟨hkr, hfa, hfb⟩
                                · have I1 := zqI_move I hits hmv hsl
                                  refine zv_istore (lv' := [(18, .int (zI kr_233)), (16, .long (zL ((zpts xa xb (fun j => (1 * xc j + 0 * xe j) - 1) k : Nat) : Int))), (14, .long (zL ((zpts xa xb (fun j => 1 * xc j + rr_91 * xe j) k : Nat) : Int))), (13, .int (zI rr_103)), (12, .int (zI rr_99)), (11, .int (zI rr_95)), (10, .int (zI rr_91)), (9, .int (zI (rr_87 - 30))), (8, .int (zI (rr_83 - 9))), (7, .int (zI (rr_79 - 9))), (6, .int (zI (i : Int))), (5, .int (zI (k : Int))), (4, .int (zI 1)), (3, .int (zI tl)), (2, .int (zI wd)), (0, .ref h0), (1, .ref bt)]) S dL_isShapes_487 hl (by decide) rfl (fun ls hl => ?_)
                                  refine zv_iload S dL_isShapes_489 (lv_at hl 0 rfl) ?_
                                  refine zv_iconst S dL_isShapes_491 ?_
                                  refine zv_icmp_eq (tgt := 502) S (by unfold zR; omega) (by unfold zR; omega) dL_isShapes_492 (by decide) (fun c_237 => ?_) (fun c_237 => ?_)
                                  · exact absurd c_237 (by omega)
                                  · refine zv_iload S dL_isShapes_495 (lv_at hl 0 rfl) ?_
                                    refine zv_iload S dL_isShapes_497 (lv_at hl 11 rfl) ?_
                                    refine zv_icmp_ne (tgt := 532) S (by unfold zR; omega) (by unfold zR; omega) dL_isShapes_499 (by decide) (fun c_238 => ?_) (fun c_238 => ?_)
                                    · exact absurd hkr c_238
                                    · refine zv_aload_n S dL_isShapes_502 rfl (lv_at hl 15 rfl) ?_
                                      refine zv_iconst S dL_isShapes_503 ?_
                                      refine zv_iload S dL_isShapes_504 (lv_at hl 6 rfl) ?_
                                      refine zcp_Vl (As := [.int (zI 0), .int (zI rr_91)]) (rest := []) (wr := []) (n := 2) S hN hK (hE0.kept hS.2.1) hP hD hS hA hl (n_X4_count l hl0 G H.size h0 qs hr hc hk SF h1 qa qb qc qe fa1_234 fb1_235 xc xe k ra rb rc P1_220 Q1_221 M1_222 kk1_223 f1_224 l1_225 b1_226 t1_227 x1_228 y1_229 rr_91 hsf I1 (by omega)) gL_isShapes_X4_count rfl ⟨rfl, rfl⟩ (by decide +kernel) rfl ⟨Nat.le_of_ble_eq_true rfl, Nat.le_of_ble_eq_true rfl, (show (cc + 9) + 3 ≤ 2600 by omega), (show (ss + 54) + 18 ≤ 15600 by omega)⟩ [0, 1, 2, 3, 4, 5, 6, 7, 8, 9, 10] [] rfl rfl (by decide) (by decide) (by decide) (ci := 4) rfl rfl rfl (Nat.le_of_ble_eq_true rfl) dL_isShapes_506 rfl (fun r_ u_239 H1 locs1 hp_240 hP1 hD1 hS1 hz1 => ?_)
                                      obtain ⟨P1_241, Q1_242, M1_243, kk1_244, f1_245, l1_246, b1_247, t1_248, x1_249, y1_250⟩ := u_239
                                      try dsimp only at hp_240 hP1 hD1
                                      obtain ⟨rfl, hpo_251⟩ := hp_240
                                      generalize H1 = H at hP1 hD1 hS1 hz1 ⊢
                                      generalize locs1 = locs at hS1 ⊢
                                      have hS := hS1
                                      have hP : va_P G.1 vwCl [(h0, .inr (4, [.ref qs, .int (zI 1), .ref hr, .ref hc, .ref hk])), zcq G qs 8 SF, (h1, .inr (3, [.ref qa, .ref qb, .ref qc, .ref qe, .int (zI (k : Int))])), zci G qa 10 fa1_234, zci G qb 10 fb1_235, zci G qc 10 xc, zci G qe 10 xe, (hr, .inr (2, [.ref ra, .ref rb, .ref rc, .int (zI kk1_244), .int (zI f1_245), .int (zI l1_246), .int (zI b1_247), .int (zI t1_248), .int (zI x1_249), .int (zI y1_250)])), zci G ra 10 P1_241, zci G rb 10 Q1_242, zci G rc 10 M1_243] H := hP1
                                      have hD : va_D A [(h0, .inr (4, [.ref qs, .int (zI 1), .ref hr, .ref hc, .ref hk])), zcq G qs 8 SF, (h1, .inr (3, [.ref qa, .ref qb, .ref qc, .ref qe, .int (zI (k : Int))])), zci G qa 10 fa1_234, zci G qb 10 fb1_235, zci G qc 10 xc, zci G qe 10 xe, (hr, .inr (2, [.ref ra, .ref rb, .ref rc, .int (zI kk1_244), .int (zI f1_245), .int (zI l1_246), .int (zI b1_247), .int (zI t1_248), .int (zI x1_249), .int (zI y1_250)])), zci G ra 10 P1_241, zci G rb 10 Q1_242, zci G rc 10 M1_243] := hD1
                                      refine zv_lload S dL_isShapes_509 (lv_at hl 2 rfl) ?_
                                      refine zv_lif_ne (tgt := 532) S (zpts_S _ _ _ _) (zpts_S _ _ _ _) dL_isShapes_511 dL_isShapes_512 (by decide) (fun c_252 => ?_) (fun c_252 => ?_)
                                      · exact (c_252 (congrArg (fun z : Nat => (z : Int)) (zc_move I hits hmv (zqM I _)))).elim
                                      · refine zv_aload_n S dL_isShapes_515 rfl (lv_at hl 15 rfl) ?_
                                        refine zv_iconst S dL_isShapes_516 ?_
                                        refine zv_iconst S dL_isShapes_517 ?_
                                        refine zv_iconst S dL_isShapes_518 ?_
                                        refine zcp_Vl (As := [.int (zI 0), .int (zI 1), .int (zI 1)]) (rest := []) (wr := []) (n := 3) S hN hK (hE0.kept hS.2.1) hP hD hS hA hl (n_X4_blown l hl0 G H.size h0 qs hr hc hk SF h1 qa qb qc qe fa1_234 fb1_235 xc xe k ra rb rc P1_241 Q1_242 M1_243 kk1_244 f1_245 l1_246 b1_247 t1_248 x1_249 y1_250 1 1 hsf I1 (by omega) (Or.inr rfl)) gL_isShapes_X4_blown rfl ⟨rfl, rfl⟩ (by decide +kernel) rfl ⟨Nat.le_of_ble_eq_true rfl, Nat.le_of_ble_eq_true rfl, (show (cc + 12) + 3 ≤ 2600 by omega), (show (ss + 72) + 18 ≤ 15600 by omega)⟩ [0, 1, 2, 3, 4, 5, 6, 7, 8, 9, 10] [] rfl rfl (by decide) (by decide) (by decide) (ci := 4) rfl rfl rfl (Nat.le_of_ble_eq_true rfl) dL_isShapes_519 rfl (fun r_ u_253 H1 locs1 hp_254 hP1 hD1 hS1 hz1 => ?_)
                                        obtain ⟨P1_255, Q1_256, M1_257, kk1_258, f1_259, l1_260, b1_261, t1_262, x1_263, y1_264⟩ := u_253
                                        try dsimp only at hp_254 hP1 hD1
                                        obtain ⟨rfl, hpo_265⟩ := hp_254
                                        generalize H1 = H at hP1 hD1 hS1 hz1 ⊢
                                        generalize locs1 = locs at hS1 ⊢
                                        have hS := hS1
                                        have hP : va_P G.1 vwCl [(h0, .inr (4, [.ref qs, .int (zI 1), .ref hr, .ref hc, .ref hk])), zcq G qs 8 SF, (h1, .inr (3, [.ref qa, .ref qb, .ref qc, .ref qe, .int (zI (k : Int))])), zci G qa 10 fa1_234, zci G qb 10 fb1_235, zci G qc 10 xc, zci G qe 10 xe, (hr, .inr (2, [.ref ra, .ref rb, .ref rc, .int (zI kk1_258), .int (zI f1_259), .int (zI l1_260), .int (zI b1_261), .int (zI t1_262), .int (zI x1_263), .int (zI y1_264)])), zci G ra 10 P1_255, zci G rb 10 Q1_256, zci G rc 10 M1_257] H := hP1
                                        have hD : va_D A [(h0, .inr (4, [.ref qs, .int (zI 1), .ref hr, .ref hc, .ref hk])), zcq G qs 8 SF, (h1, .inr (3, [.ref qa, .ref qb, .ref qc, .ref qe, .int (zI (k : Int))])), zci G qa 10 fa1_234, zci G qb 10 fb1_235, zci G qc 10 xc, zci G qe 10 xe, (hr, .inr (2, [.ref ra, .ref rb, .ref rc, .int (zI kk1_258), .int (zI f1_259), .int (zI l1_260), .int (zI b1_261), .int (zI t1_262), .int (zI x1_263), .int (zI y1_264)])), zci G ra 10 P1_255, zci G rb 10 Q1_256, zci G rc 10 M1_257] := hD1
                                        refine zv_lload S dL_isShapes_522 (lv_at hl 1 rfl) ?_
                                        refine zv_lif_ne (tgt := 532) S (zpts_S _ _ _ _) (zpts_S _ _ _ _) dL_isShapes_524 dL_isShapes_525 (by decide) (fun c_266 => ?_) (fun c_266 => ?_)
                                        · exact (c_266 (congrArg (fun z : Nat => (z : Int)) (zc_move I hits hmv (zqM2 I (by omega))))).elim
                                        · refine zv_iconst S dL_isShapes_528 ?_
                                          refine zv_goto (tgt := 533) S dL_isShapes_529 (by decide) ?_
                                          refine zv_istore (lv' := [(4, .int (zI 1)), (18, .int (zI kr_233)), (16, .long (zL ((zpts xa xb (fun j => (1 * xc j + 0 * xe j) - 1) k : Nat) : Int))), (14, .long (zL ((zpts xa xb (fun j => 1 * xc j + rr_91 * xe j) k : Nat) : Int))), (13, .int (zI rr_103)), (12, .int (zI rr_99)), (11, .int (zI rr_95)), (10, .int (zI rr_91)), (9, .int (zI (rr_87 - 30))), (8, .int (zI (rr_83 - 9))), (7, .int (zI (rr_79 - 9))), (6, .int (zI (i : Int))), (5, .int (zI (k : Int))), (3, .int (zI tl)), (2, .int (zI wd)), (0, .ref h0), (1, .ref bt)]) S dL_isShapes_533 hl (by decide) rfl (fun ls hl => ?_)
                                          refine W.widen (k := (cc + 15)) (n := (ss + 90)) (by omega) (by omega) ?_
                                          exact JN535 k (k : Int) (k : Int) fa1_234 fb1_235 xc xe P1_255 Q1_256 M1_257 kk1_258 f1_259 l1_260 b1_261 t1_262 x1_263 y1_264 (cc + 15) (ss + 90) (by omega) rfl I1 (by omega) (by omega) _ _ hP hD hS _ (lv_sub hl [3, 4, 5, 6, 7, 8, 9, 10, 11, 12, 0, 13, 14, 15, 16] rfl)
                                · rw [hfa, hfb] at hP hD
                                  have I1 := I
                                  have hP : va_P G.1 vwCl [(h0, .inr (4, [.ref qs, .int (zI 1), .ref hr, .ref hc, .ref hk])), zcq G qs 8 SF, (h1, .inr (3, [.ref qa, .ref qb, .ref qc, .ref qe, .int (zI (k : Int))])), zci G qa 10 xa, zci G qb 10 xb, zci G qc 10 xc, zci G qe 10 xe, (hr, .inr (2, [.ref ra, .ref rb, .ref rc, .int (zI kk1_223), .int (zI f1_224), .int (zI l1_225), .int (zI b1_226), .int (zI t1_227), .int (zI x1_228), .int (zI y1_229)])), zci G ra 10 P1_220, zci G rb 10 Q1_221, zci G rc 10 M1_222] H := hP
                                  have hD : va_D A [(h0, .inr (4, [.ref qs, .int (zI 1), .ref hr, .ref hc, .ref hk])), zcq G qs 8 SF, (h1, .inr (3, [.ref qa, .ref qb, .ref qc, .ref qe, .int (zI (k : Int))])), zci G qa 10 xa, zci G qb 10 xb, zci G qc 10 xc, zci G qe 10 xe, (hr, .inr (2, [.ref ra, .ref rb, .ref rc, .int (zI kk1_223), .int (zI f1_224), .int (zI l1_225), .int (zI b1_226), .int (zI t1_227), .int (zI x1_228), .int (zI y1_229)])), zci G ra 10 P1_220, zci G rb 10 Q1_221, zci G rc 10 M1_222] := hD
                                  refine zv_istore (lv' := [(18, .int (zI kr_233)), (16, .long (zL ((zpts xa xb (fun j => (1 * xc j + 0 * xe j) - 1) k : Nat) : Int))), (14, .long (zL ((zpts xa xb (fun j => 1 * xc j + rr_91 * xe j) k : Nat) : Int))), (13, .int (zI rr_103)), (12, .int (zI rr_99)), (11, .int (zI rr_95)), (10, .int (zI rr_91)), (9, .int (zI (rr_87 - 30))), (8, .int (zI (rr_83 - 9))), (7, .int (zI (rr_79 - 9))), (6, .int (zI (i : Int))), (5, .int (zI (k : Int))), (4, .int (zI 1)), (3, .int (zI tl)), (2, .int (zI wd)), (0, .ref h0), (1, .ref bt)]) S dL_isShapes_487 hl (by decide) rfl (fun ls hl => ?_)
                                  refine zv_iload S dL_isShapes_489 (lv_at hl 0 rfl) ?_
                                  refine zv_iconst S dL_isShapes_491 ?_
                                  refine zv_icmp_eq (tgt := 502) S (by unfold zR; omega) (by unfold zR; omega) dL_isShapes_492 (by decide) (fun c_267 => ?_) (fun c_267 => ?_)
                                  · refine zv_aload_n S dL_isShapes_502 rfl (lv_at hl 15 rfl) ?_
                                    refine zv_iconst S dL_isShapes_503 ?_
                                    refine zv_iload S dL_isShapes_504 (lv_at hl 6 rfl) ?_
                                    refine zcp_Vl (As := [.int (zI 0), .int (zI rr_91)]) (rest := []) (wr := []) (n := 2) S hN hK (hE0.kept hS.2.1) hP hD hS hA hl (n_X4_count l hl0 G H.size h0 qs hr hc hk SF h1 qa qb qc qe xa xb xc xe k ra rb rc P1_220 Q1_221 M1_222 kk1_223 f1_224 l1_225 b1_226 t1_227 x1_228 y1_229 rr_91 hsf I1 (by omega)) gL_isShapes_X4_count rfl ⟨rfl, rfl⟩ (by decide +kernel) rfl ⟨Nat.le_of_ble_eq_true rfl, Nat.le_of_ble_eq_true rfl, (show (cc + 9) + 3 ≤ 2600 by omega), (show (ss + 54) + 18 ≤ 15600 by omega)⟩ [0, 1, 2, 3, 4, 5, 6, 7, 8, 9, 10] [] rfl rfl (by decide) (by decide) (by decide) (ci := 4) rfl rfl rfl (Nat.le_of_ble_eq_true rfl) dL_isShapes_506 rfl (fun r_ u_268 H1 locs1 hp_269 hP1 hD1 hS1 hz1 => ?_)
                                    obtain ⟨P1_270, Q1_271, M1_272, kk1_273, f1_274, l1_275, b1_276, t1_277, x1_278, y1_279⟩ := u_268
                                    try dsimp only at hp_269 hP1 hD1
                                    obtain ⟨rfl, hpo_280⟩ := hp_269
                                    generalize H1 = H at hP1 hD1 hS1 hz1 ⊢
                                    generalize locs1 = locs at hS1 ⊢
                                    have hS := hS1
                                    have hP : va_P G.1 vwCl [(h0, .inr (4, [.ref qs, .int (zI 1), .ref hr, .ref hc, .ref hk])), zcq G qs 8 SF, (h1, .inr (3, [.ref qa, .ref qb, .ref qc, .ref qe, .int (zI (k : Int))])), zci G qa 10 xa, zci G qb 10 xb, zci G qc 10 xc, zci G qe 10 xe, (hr, .inr (2, [.ref ra, .ref rb, .ref rc, .int (zI kk1_273), .int (zI f1_274), .int (zI l1_275), .int (zI b1_276), .int (zI t1_277), .int (zI x1_278), .int (zI y1_279)])), zci G ra 10 P1_270, zci G rb 10 Q1_271, zci G rc 10 M1_272] H := hP1
                                    have hD : va_D A [(h0, .inr (4, [.ref qs, .int (zI 1), .ref hr, .ref hc, .ref hk])), zcq G qs 8 SF, (h1, .inr (3, [.ref qa, .ref qb, .ref qc, .ref qe, .int (zI (k : Int))])), zci G qa 10 xa, zci G qb 10 xb, zci G qc 10 xc, zci G qe 10 xe, (hr, .inr (2, [.ref ra, .ref rb, .ref rc, .int (zI kk1_273), .int (zI f1_274), .int (zI l1_275), .int (zI b1_276), .int (zI t1_277), .int (zI x1_278), .int (zI y1_279)])), zci G ra 10 P1_270, zci G rb 10 Q1_271, zci G rc 10 M1_272] := hD1
                                    refine zv_lload S dL_isShapes_509 (lv_at hl 2 rfl) ?_
                                    refine zv_lif_ne (tgt := 532) S (zpts_S _ _ _ _) (zpts_S _ _ _ _) dL_isShapes_511 dL_isShapes_512 (by decide) (fun c_281 => ?_) (fun c_281 => ?_)
                                    · exact absurd rfl c_281
                                    · refine zv_aload_n S dL_isShapes_515 rfl (lv_at hl 15 rfl) ?_
                                      refine zv_iconst S dL_isShapes_516 ?_
                                      refine zv_iconst S dL_isShapes_517 ?_
                                      refine zv_iconst S dL_isShapes_518 ?_
                                      refine zcp_Vl (As := [.int (zI 0), .int (zI 1), .int (zI 1)]) (rest := []) (wr := []) (n := 3) S hN hK (hE0.kept hS.2.1) hP hD hS hA hl (n_X4_blown l hl0 G H.size h0 qs hr hc hk SF h1 qa qb qc qe xa xb xc xe k ra rb rc P1_270 Q1_271 M1_272 kk1_273 f1_274 l1_275 b1_276 t1_277 x1_278 y1_279 1 1 hsf I1 (by omega) (Or.inr rfl)) gL_isShapes_X4_blown rfl ⟨rfl, rfl⟩ (by decide +kernel) rfl ⟨Nat.le_of_ble_eq_true rfl, Nat.le_of_ble_eq_true rfl, (show (cc + 12) + 3 ≤ 2600 by omega), (show (ss + 72) + 18 ≤ 15600 by omega)⟩ [0, 1, 2, 3, 4, 5, 6, 7, 8, 9, 10] [] rfl rfl (by decide) (by decide) (by decide) (ci := 4) rfl rfl rfl (Nat.le_of_ble_eq_true rfl) dL_isShapes_519 rfl (fun r_ u_282 H1 locs1 hp_283 hP1 hD1 hS1 hz1 => ?_)
                                      obtain ⟨P1_284, Q1_285, M1_286, kk1_287, f1_288, l1_289, b1_290, t1_291, x1_292, y1_293⟩ := u_282
                                      try dsimp only at hp_283 hP1 hD1
                                      obtain ⟨rfl, hpo_294⟩ := hp_283
                                      generalize H1 = H at hP1 hD1 hS1 hz1 ⊢
                                      generalize locs1 = locs at hS1 ⊢
                                      have hS := hS1
                                      have hP : va_P G.1 vwCl [(h0, .inr (4, [.ref qs, .int (zI 1), .ref hr, .ref hc, .ref hk])), zcq G qs 8 SF, (h1, .inr (3, [.ref qa, .ref qb, .ref qc, .ref qe, .int (zI (k : Int))])), zci G qa 10 xa, zci G qb 10 xb, zci G qc 10 xc, zci G qe 10 xe, (hr, .inr (2, [.ref ra, .ref rb, .ref rc, .int (zI kk1_287), .int (zI f1_288), .int (zI l1_289), .int (zI b1_290), .int (zI t1_291), .int (zI x1_292), .int (zI y1_293)])), zci G ra 10 P1_284, zci G rb 10 Q1_285, zci G rc 10 M1_286] H := hP1
                                      have hD : va_D A [(h0, .inr (4, [.ref qs, .int (zI 1), .ref hr, .ref hc, .ref hk])), zcq G qs 8 SF, (h1, .inr (3, [.ref qa, .ref qb, .ref qc, .ref qe, .int (zI (k : Int))])), zci G qa 10 xa, zci G qb 10 xb, zci G qc 10 xc, zci G qe 10 xe, (hr, .inr (2, [.ref ra, .ref rb, .ref rc, .int (zI kk1_287), .int (zI f1_288), .int (zI l1_289), .int (zI b1_290), .int (zI t1_291), .int (zI x1_292), .int (zI y1_293)])), zci G ra 10 P1_284, zci G rb 10 Q1_285, zci G rc 10 M1_286] := hD1
                                      refine zv_lload S dL_isShapes_522 (lv_at hl 1 rfl) ?_
                                      refine zv_lif_ne (tgt := 532) S (zpts_S _ _ _ _) (zpts_S _ _ _ _) dL_isShapes_524 dL_isShapes_525 (by decide) (fun c_295 => ?_) (fun c_295 => ?_)
                                      · exact absurd rfl c_295
                                      · refine zv_iconst S dL_isShapes_528 ?_
                                        refine zv_goto (tgt := 533) S dL_isShapes_529 (by decide) ?_
                                        refine zv_istore (lv' := [(4, .int (zI 1)), (18, .int (zI kr_233)), (16, .long (zL ((zpts xa xb (fun j => (1 * xc j + 0 * xe j) - 1) k : Nat) : Int))), (14, .long (zL ((zpts xa xb (fun j => 1 * xc j + rr_91 * xe j) k : Nat) : Int))), (13, .int (zI rr_103)), (12, .int (zI rr_99)), (11, .int (zI rr_95)), (10, .int (zI rr_91)), (9, .int (zI (rr_87 - 30))), (8, .int (zI (rr_83 - 9))), (7, .int (zI (rr_79 - 9))), (6, .int (zI (i : Int))), (5, .int (zI (k : Int))), (3, .int (zI tl)), (2, .int (zI wd)), (0, .ref h0), (1, .ref bt)]) S dL_isShapes_533 hl (by decide) rfl (fun ls hl => ?_)
                                        refine W.widen (k := (cc + 15)) (n := (ss + 90)) (by omega) (by omega) ?_
                                        exact JN535 k (k : Int) (k : Int) xa xb xc xe P1_284 Q1_285 M1_286 kk1_287 f1_288 l1_289 b1_290 t1_291 x1_292 y1_293 (cc + 15) (ss + 90) (by omega) rfl I1 (by omega) (by omega) _ _ hP hD hS _ (lv_sub hl [3, 4, 5, 6, 7, 8, 9, 10, 11, 12, 0, 13, 14, 15, 16] rfl)
                                  · exact absurd c_267 (by omega)
                              · refine zv_aload_n S dL_isShapes_389 rfl (lv_at hl 13 rfl) ?_
                                refine zv_iload S dL_isShapes_390 (lv_at hl 2 rfl) ?_
                                refine zv_iload S dL_isShapes_392 (lv_at hl 4 rfl) ?_
                                refine zv_iconst S dL_isShapes_394 ?_
                                refine zv_irem S (by unfold zR; omega) (by unfold zR; omega) (by omega) (by omega) dL_isShapes_395 ?_
                                refine zv_iload S dL_isShapes_396 (lv_at hl 1 rfl) ?_
                                have JN408 : ∀ (mr : Int) (hmr : mr = 1 ∨ mr = 2) (H : Heap) (locs : List Loc), va_P G.1 vwCl [(h0, .inr (4, [.ref qs, .int (zI 1), .ref hr, .ref hc, .ref hk])), zcq G qs 8 SF, (h1, .inr (3, [.ref qa, .ref qb, .ref qc, .ref qe, .int (zI (k : Int))])), zci G qa 10 xa, zci G qb 10 xb, zci G qc 10 xc, zci G qe 10 xe, (hr, .inr (2, [.ref ra, .ref rb, .ref rc, .int (zI kk1_110), .int (zI f1_111), .int (zI l1_112), .int (zI b1_113), .int (zI t1_114), .int (zI x1_115), .int (zI y1_116)])), zci G ra 10 P1_107, zci G rb 10 Q1_108, zci G rc 10 M1_109] H → va_D A [(h0, .inr (4, [.ref qs, .int (zI 1), .ref hr, .ref hc, .ref hk])), zcq G qs 8 SF, (h1, .inr (3, [.ref qa, .ref qb, .ref qc, .ref qe, .int (zI (k : Int))])), zci G qa 10 xa, zci G qb 10 xb, zci G qc 10 xc, zci G qe 10 xe, (hr, .inr (2, [.ref ra, .ref rb, .ref rc, .int (zI kk1_110), .int (zI f1_111), .int (zI l1_112), .int (zI b1_113), .int (zI t1_114), .int (zI x1_115), .int (zI y1_116)])), zci G ra 10 P1_107, zci G rb 10 Q1_108, zci G rc 10 M1_109] → va_S A s.heap H locs → ∀ ls : Array Slot, lv_has ls 19 [(14, .long (zL ((zpts xa xb (fun j => 1 * xc j + rr_91 * xe j) k : Nat) : Int))), (13, .int (zI rr_103)), (12, .int (zI rr_99)), (11, .int (zI rr_95)), (10, .int (zI rr_91)), (9, .int (zI (rr_87 - 30))), (8, .int (zI (rr_83 - 9))), (7, .int (zI (rr_79 - 9))), (6, .int (zI (i : Int))), (5, .int (zI (k : Int))), (4, .int (zI 1)), (3, .int (zI tl)), (2, .int (zI wd)), (0, .ref h0), (1, .ref bt)] → W p l e ({ frames := 10, cells := 2600, slots := 15600, locals := 192 }) s m ([.ref h0, .ref bt]).toArray below meth c H locs (cc + 3) (ss + 18) Q (F0 m 408 ls [.int (zI mr), .int (zI rr_103), .int (zI (rr_91.tmod 4)), .int (zI rr_99), .ref h0]) := by
                                  intro mr hmr H locs hP hD hS ls hl
                                  have hr3 := zmod_lt (x := rr_91) (m := 3) (by omega) (by omega)
                                  have hr4 := zmod_lt (x := rr_91) (m := 4) (by omega) (by omega)
                                  have hzc0 : zcok (rr_91.tmod 4) mr (1 + rr_91.tmod 3) := (by unfold zcok; omega)
                                  refine zv_iconst S dL_isShapes_408 ?_
                                  refine zv_iload S dL_isShapes_409 (lv_at hl 4 rfl) ?_
                                  refine zv_iconst S dL_isShapes_411 ?_
                                  refine zv_irem S (by unfold zR; omega) (by unfold zR; omega) (by omega) (by omega) dL_isShapes_412 ?_
                                  refine zv_iadd S dL_isShapes_413 ?_
                                  refine zch_Si (As := [.ref h0, .int (zI rr_99), .int (zI (rr_91.tmod 4)), .int (zI rr_103), .int (zI mr), .int (zI (1 + (rr_91.tmod 3)))]) (rest := []) (wr := [(hr, .inr (2, [.ref ra, .ref rb, .ref rc, .int (zI kk1_110), .int (zI f1_111), .int (zI l1_112), .int (zI b1_113), .int (zI t1_114), .int (zI x1_115), .int (zI y1_116)])), zci G ra 10 P1_107, zci G rb 10 Q1_108, zci G rc 10 M1_109]) (n := 6) S hN hK (hE0.kept hS.2.1) hP hD hS hA hl (c_L_cuts l hl0 G H.size h0 qs hr hc hk SF h1 qa qb qc qe xa xb xc xe k rr_99 (rr_91.tmod 4) rr_103 mr (1 + (rr_91.tmod 3)) hsf I (by omega) (by omega) hzc0) gL_isShapes_L_cuts rfl ⟨rfl, rfl⟩ (by decide +kernel) rfl ⟨Nat.le_of_ble_eq_true rfl, Nat.le_of_ble_eq_true rfl, (show (cc + 3) + 7 ≤ 2600 by omega), (show (ss + 18) + 42 ≤ 15600 by omega)⟩ [0, 1, 2, 3, 4, 5, 6] [7, 8, 9, 10] rfl rfl (by decide) (by decide) (by decide) (Nat.le_of_ble_eq_true rfl) dL_isShapes_414 rfl (fun r_ u_296 H1 locs1 hp_297 hP1 hD1 hS1 hz1 => ?_)
                                  obtain ⟨kr_298, z1_299, fa1_300, fb1_301, fc1_302, fe1_303⟩ := u_296
                                  try dsimp only at hp_297 hP1 hD1
                                  obtain ⟨rfl, hcu_304⟩ := hp_297
                                  generalize H1 = H at hP1 hD1 hS1 hz1 ⊢
                                  generalize locs1 = locs at hS1 ⊢
                                  have hS := hS1
                                  have hP : va_P G.1 vwCl [(hr, .inr (2, [.ref ra, .ref rb, .ref rc, .int (zI kk1_110), .int (zI f1_111), .int (zI l1_112), .int (zI b1_113), .int (zI t1_114), .int (zI x1_115), .int (zI y1_116)])), zci G ra 10 P1_107, zci G rb 10 Q1_108, zci G rc 10 M1_109, (h0, .inr (4, [.ref qs, .int (zI 1), .ref hr, .ref hc, .ref hk])), zcq G qs 8 SF, (h1, .inr (3, [.ref qa, .ref qb, .ref qc, .ref qe, .int (zI (z1_299 : Int))])), zci G qa 10 fa1_300, zci G qb 10 fb1_301, zci G qc 10 fc1_302, zci G qe 10 fe1_303] H := hP1
                                  have hD : va_D A [(hr, .inr (2, [.ref ra, .ref rb, .ref rc, .int (zI kk1_110), .int (zI f1_111), .int (zI l1_112), .int (zI b1_113), .int (zI t1_114), .int (zI x1_115), .int (zI y1_116)])), zci G ra 10 P1_107, zci G rb 10 Q1_108, zci G rc 10 M1_109, (h0, .inr (4, [.ref qs, .int (zI 1), .ref hr, .ref hc, .ref hk])), zcq G qs 8 SF, (h1, .inr (3, [.ref qa, .ref qb, .ref qc, .ref qe, .int (zI (z1_299 : Int))])), zci G qa 10 fa1_300, zci G qb 10 fb1_301, zci G qc 10 fc1_302, zci G qe 10 fe1_303] := hD1
                                  have hP : va_P G.1 vwCl [(h0, .inr (4, [.ref qs, .int (zI 1), .ref hr, .ref hc, .ref hk])), zcq G qs 8 SF, (h1, .inr (3, [.ref qa, .ref qb, .ref qc, .ref qe, .int (zI (z1_299 : Int))])), zci G qa 10 fa1_300, zci G qb 10 fb1_301, zci G qc 10 fc1_302, zci G qe 10 fe1_303, (hr, .inr (2, [.ref ra, .ref rb, .ref rc, .int (zI kk1_110), .int (zI f1_111), .int (zI l1_112), .int (zI b1_113), .int (zI t1_114), .int (zI x1_115), .int (zI y1_116)])), zci G ra 10 P1_107, zci G rb 10 Q1_108, zci G rc 10 M1_109] H := hP.sub [4, 5, 6, 7, 8, 9, 10, 0, 1, 2, 3] rfl
                                  have hD : va_D A [(h0, .inr (4, [.ref qs, .int (zI 1), .ref hr, .ref hc, .ref hk])), zcq G qs 8 SF, (h1, .inr (3, [.ref qa, .ref qb, .ref qc, .ref qe, .int (zI (z1_299 : Int))])), zci G qa 10 fa1_300, zci G qb 10 fb1_301, zci G qc 10 fc1_302, zci G qe 10 fe1_303, (hr, .inr (2, [.ref ra, .ref rb, .ref rc, .int (zI kk1_110), .int (zI f1_111), .int (zI l1_112), .int (zI b1_113), .int (zI t1_114), .int (zI x1_115), .int (zI y1_116)])), zci G ra 10 P1_107, zci G rb 10 Q1_108, zci G rc 10 M1_109] := hD.sub [4, 5, 6, 7, 8, 9, 10, 0, 1, 2, 3] (by decide) rfl
                                  have hcu := hcu_304
                                  rcases hcu with ⟨hkr, hzc, hz1, hfa, hfb, hfc, hfe⟩ | ⟨hkr, hz1, hfa, hfb, hfc, hfe⟩
                                  · rw [hz1, hfa, hfb, hfc, hfe] at hP hD
                                    have I1 := zqI_cut I hzc
                                    have hP : va_P G.1 vwCl [(h0, .inr (4, [.ref qs, .int (zI 1), .ref hr, .ref hc, .ref hk])), zcq G qs 8 SF, (h1, .inr (3, [.ref qa, .ref qb, .ref qc, .ref qe, .int (zI ((k + 1 : Nat) : Int))])), zci G qa 10 (zU xa k ((zcs xa rr_99.toNat rr_103.toNat (rr_91.tmod 4) mr).tdiv (1 + rr_91.tmod 3))), zci G qb 10 (zU xb k ((zcs xb rr_99.toNat rr_103.toNat (rr_91.tmod 4) mr).tdiv (1 + rr_91.tmod 3))), zci G qc 10 (zU xc k (zcs xc rr_99.toNat rr_103.toNat (rr_91.tmod 4) mr / (1 + rr_91.tmod 3))), zci G qe 10 (zU xe k 0), (hr, .inr (2, [.ref ra, .ref rb, .ref rc, .int (zI kk1_110), .int (zI f1_111), .int (zI l1_112), .int (zI b1_113), .int (zI t1_114), .int (zI x1_115), .int (zI y1_116)])), zci G ra 10 P1_107, zci G rb 10 Q1_108, zci G rc 10 M1_109] H := hP
                                    have hD : va_D A [(h0, .inr (4, [.ref qs, .int (zI 1), .ref hr, .ref hc, .ref hk])), zcq G qs 8 SF, (h1, .inr (3, [.ref qa, .ref qb, .ref qc, .ref qe, .int (zI ((k + 1 : Nat) : Int))])), zci G qa 10 (zU xa k ((zcs xa rr_99.toNat rr_103.toNat (rr_91.tmod 4) mr).tdiv (1 + rr_91.tmod 3))), zci G qb 10 (zU xb k ((zcs xb rr_99.toNat rr_103.toNat (rr_91.tmod 4) mr).tdiv (1 + rr_91.tmod 3))), zci G qc 10 (zU xc k (zcs xc rr_99.toNat rr_103.toNat (rr_91.tmod 4) mr / (1 + rr_91.tmod 3))), zci G qe 10 (zU xe k 0), (hr, .inr (2, [.ref ra, .ref rb, .ref rc, .int (zI kk1_110), .int (zI f1_111), .int (zI l1_112), .int (zI b1_113), .int (zI t1_114), .int (zI x1_115), .int (zI y1_116)])), zci G ra 10 P1_107, zci G rb 10 Q1_108, zci G rc 10 M1_109] := hD
                                    refine zv_istore (lv' := [(16, .int (zI kr_298)), (14, .long (zL ((zpts xa xb (fun j => 1 * xc j + rr_91 * xe j) k : Nat) : Int))), (13, .int (zI rr_103)), (12, .int (zI rr_99)), (11, .int (zI rr_95)), (10, .int (zI rr_91)), (9, .int (zI (rr_87 - 30))), (8, .int (zI (rr_83 - 9))), (7, .int (zI (rr_79 - 9))), (6, .int (zI (i : Int))), (5, .int (zI (k : Int))), (4, .int (zI 1)), (3, .int (zI tl)), (2, .int (zI wd)), (0, .ref h0), (1, .ref bt)]) S dL_isShapes_417 hl (by decide) rfl (fun ls hl => ?_)
                                    refine zv_iload S dL_isShapes_419 (lv_at hl 0 rfl) ?_
                                    refine zv_iconst S dL_isShapes_421 ?_
                                    refine zv_icmp_eq (tgt := 432) S (by unfold zR; omega) (by unfold zR; omega) dL_isShapes_422 (by decide) (fun c_305 => ?_) (fun c_305 => ?_)
                                    · exact absurd c_305 (by omega)
                                    · refine zv_iload S dL_isShapes_425 (lv_at hl 0 rfl) ?_
                                      refine zv_iload S dL_isShapes_427 (lv_at hl 10 rfl) ?_
                                      refine zv_icmp_ne (tgt := 449) S (by unfold zR; omega) (by unfold zR; omega) dL_isShapes_429 (by decide) (fun c_306 => ?_) (fun c_306 => ?_)
                                      · exact absurd hkr c_306
                                      · refine zv_aload_n S dL_isShapes_432 rfl (lv_at hl 14 rfl) ?_
                                        refine zv_iconst S dL_isShapes_433 ?_
                                        refine zv_iload S dL_isShapes_434 (lv_at hl 5 rfl) ?_
                                        refine zcp_Vl (As := [.int (zI 0), .int (zI rr_91)]) (rest := []) (wr := []) (n := 2) S hN hK (hE0.kept hS.2.1) hP hD hS hA hl (n_X4_count l hl0 G H.size h0 qs hr hc hk SF h1 qa qb qc qe (zU xa k ((zcs xa rr_99.toNat rr_103.toNat (rr_91.tmod 4) mr).tdiv (1 + rr_91.tmod 3))) (zU xb k ((zcs xb rr_99.toNat rr_103.toNat (rr_91.tmod 4) mr).tdiv (1 + rr_91.tmod 3))) (zU xc k (zcs xc rr_99.toNat rr_103.toNat (rr_91.tmod 4) mr / (1 + rr_91.tmod 3))) (zU xe k 0) (k + 1) ra rb rc P1_107 Q1_108 M1_109 kk1_110 f1_111 l1_112 b1_113 t1_114 x1_115 y1_116 rr_91 hsf I1 (by omega)) gL_isShapes_X4_count rfl ⟨rfl, rfl⟩ (by decide +kernel) rfl ⟨Nat.le_of_ble_eq_true rfl, Nat.le_of_ble_eq_true rfl, (show (cc + 10) + 3 ≤ 2600 by omega), (show (ss + 60) + 18 ≤ 15600 by omega)⟩ [0, 1, 2, 3, 4, 5, 6, 7, 8, 9, 10] [] rfl rfl (by decide) (by decide) (by decide) (ci := 4) rfl rfl rfl (Nat.le_of_ble_eq_true rfl) dL_isShapes_436 rfl (fun r_ u_307 H1 locs1 hp_308 hP1 hD1 hS1 hz1 => ?_)
                                        obtain ⟨P1_309, Q1_310, M1_311, kk1_312, f1_313, l1_314, b1_315, t1_316, x1_317, y1_318⟩ := u_307
                                        try dsimp only at hp_308 hP1 hD1
                                        obtain ⟨rfl, hpo_319⟩ := hp_308
                                        generalize H1 = H at hP1 hD1 hS1 hz1 ⊢
                                        generalize locs1 = locs at hS1 ⊢
                                        have hS := hS1
                                        have hP : va_P G.1 vwCl [(h0, .inr (4, [.ref qs, .int (zI 1), .ref hr, .ref hc, .ref hk])), zcq G qs 8 SF, (h1, .inr (3, [.ref qa, .ref qb, .ref qc, .ref qe, .int (zI ((k + 1) : Int))])), zci G qa 10 (zU xa k ((zcs xa rr_99.toNat rr_103.toNat (rr_91.tmod 4) mr).tdiv (1 + rr_91.tmod 3))), zci G qb 10 (zU xb k ((zcs xb rr_99.toNat rr_103.toNat (rr_91.tmod 4) mr).tdiv (1 + rr_91.tmod 3))), zci G qc 10 (zU xc k (zcs xc rr_99.toNat rr_103.toNat (rr_91.tmod 4) mr / (1 + rr_91.tmod 3))), zci G qe 10 (zU xe k 0), (hr, .inr (2, [.ref ra, .ref rb, .ref rc, .int (zI kk1_312), .int (zI f1_313), .int (zI l1_314), .int (zI b1_315), .int (zI t1_316), .int (zI x1_317), .int (zI y1_318)])), zci G ra 10 P1_309, zci G rb 10 Q1_310, zci G rc 10 M1_311] H := hP1
                                        have hD : va_D A [(h0, .inr (4, [.ref qs, .int (zI 1), .ref hr, .ref hc, .ref hk])), zcq G qs 8 SF, (h1, .inr (3, [.ref qa, .ref qb, .ref qc, .ref qe, .int (zI ((k + 1) : Int))])), zci G qa 10 (zU xa k ((zcs xa rr_99.toNat rr_103.toNat (rr_91.tmod 4) mr).tdiv (1 + rr_91.tmod 3))), zci G qb 10 (zU xb k ((zcs xb rr_99.toNat rr_103.toNat (rr_91.tmod 4) mr).tdiv (1 + rr_91.tmod 3))), zci G qc 10 (zU xc k (zcs xc rr_99.toNat rr_103.toNat (rr_91.tmod 4) mr / (1 + rr_91.tmod 3))), zci G qe 10 (zU xe k 0), (hr, .inr (2, [.ref ra, .ref rb, .ref rc, .int (zI kk1_312), .int (zI f1_313), .int (zI l1_314), .int (zI b1_315), .int (zI t1_316), .int (zI x1_317), .int (zI y1_318)])), zci G ra 10 P1_309, zci G rb 10 Q1_310, zci G rc 10 M1_311] := hD1
                                        refine zv_lload S dL_isShapes_439 (lv_at hl 1 rfl) ?_
                                        refine zv_lif_ne (tgt := 449) S (zpts_S _ _ _ _) (zpts_S _ _ _ _) dL_isShapes_441 dL_isShapes_442 (by decide) (fun c_320 => ?_) (fun c_320 => ?_)
                                        · exact (c_320 (congrArg (fun z : Nat => (z : Int)) (zc_cut (by omega) (by omega) hzc0 hzc))).elim
                                        · refine zv_iconst S dL_isShapes_445 ?_
                                          refine zv_goto (tgt := 450) S dL_isShapes_446 (by decide) ?_
                                          refine zv_istore (lv' := [(4, .int (zI 1)), (16, .int (zI kr_298)), (14, .long (zL ((zpts xa xb (fun j => 1 * xc j + rr_91 * xe j) k : Nat) : Int))), (13, .int (zI rr_103)), (12, .int (zI rr_99)), (11, .int (zI rr_95)), (10, .int (zI rr_91)), (9, .int (zI (rr_87 - 30))), (8, .int (zI (rr_83 - 9))), (7, .int (zI (rr_79 - 9))), (6, .int (zI (i : Int))), (5, .int (zI (k : Int))), (3, .int (zI tl)), (2, .int (zI wd)), (0, .ref h0), (1, .ref bt)]) S dL_isShapes_450 hl (by decide) rfl (fun ls hl => ?_)
                                          refine zv_iload S dL_isShapes_452 (lv_at hl 11 rfl) ?_
                                          refine zv_iload S dL_isShapes_454 (lv_at hl 1 rfl) ?_
                                          refine zv_if_lt (tgt := 463) S (by unfold zR; omega) dL_isShapes_456 (by decide) (fun c_321 => ?_) (fun c_321 => ?_)
                                          · exact absurd c_321 (by omega)
                                          · refine zv_iconst S dL_isShapes_459 ?_
                                            refine zv_goto (tgt := 464) S dL_isShapes_460 (by decide) ?_
                                            refine zv_iadd S dL_isShapes_464 ?_
                                            refine zv_istore (lv' := [(5, .int (zI ((k : Int) + 1))), (4, .int (zI 1)), (16, .int (zI kr_298)), (14, .long (zL ((zpts xa xb (fun j => 1 * xc j + rr_91 * xe j) k : Nat) : Int))), (13, .int (zI rr_103)), (12, .int (zI rr_99)), (11, .int (zI rr_95)), (10, .int (zI rr_91)), (9, .int (zI (rr_87 - 30))), (8, .int (zI (rr_83 - 9))), (7, .int (zI (rr_79 - 9))), (6, .int (zI (i : Int))), (3, .int (zI tl)), (2, .int (zI wd)), (0, .ref h0), (1, .ref bt)]) S dL_isShapes_465 hl (by decide) rfl (fun ls hl => ?_)
                                            refine zv_goto (tgt := 535) S dL_isShapes_467 (by decide) ?_
                                            refine W.widen (k := (cc + 13)) (n := (ss + 78)) (by omega) (by omega) ?_
                                            exact JN535 (k + 1) ((k : Int) + 1) ((k + 1) : Int) (zU xa k ((zcs xa rr_99.toNat rr_103.toNat (rr_91.tmod 4) mr).tdiv (1 + rr_91.tmod 3))) (zU xb k ((zcs xb rr_99.toNat rr_103.toNat (rr_91.tmod 4) mr).tdiv (1 + rr_91.tmod 3))) (zU xc k (zcs xc rr_99.toNat rr_103.toNat (rr_91.tmod 4) mr / (1 + rr_91.tmod 3))) (zU xe k 0) P1_309 Q1_310 M1_311 kk1_312 f1_313 l1_314 b1_315 t1_316 x1_317 y1_318 (cc + 13) (ss + 78) (by omega) rfl I1 (by omega) (by omega) _ _ hP hD hS _ (lv_sub hl [3, 4, 5, 6, 7, 8, 9, 10, 11, 0, 1, 12, 13, 14, 15] rfl)
                                  · rw [hz1, hfa, hfb, hfc, hfe] at hP hD
                                    have I1 := I
                                    have hP : va_P G.1 vwCl [(h0, .inr (4, [.ref qs, .int (zI 1), .ref hr, .ref hc, .ref hk])), zcq G qs 8 SF, (h1, .inr (3, [.ref qa, .ref qb, .ref qc, .ref qe, .int (zI (k : Int))])), zci G qa 10 xa, zci G qb 10 xb, zci G qc 10 xc, zci G qe 10 xe, (hr, .inr (2, [.ref ra, .ref rb, .ref rc, .int (zI kk1_110), .int (zI f1_111), .int (zI l1_112), .int (zI b1_113), .int (zI t1_114), .int (zI x1_115), .int (zI y1_116)])), zci G ra 10 P1_107, zci G rb 10 Q1_108, zci G rc 10 M1_109] H := hP
                                    have hD : va_D A [(h0, .inr (4, [.ref qs, .int (zI 1), .ref hr, .ref hc, .ref hk])), zcq G qs 8 SF, (h1, .inr (3, [.ref qa, .ref qb, .ref qc, .ref qe, .int (zI (k : Int))])), zci G qa 10 xa, zci G qb 10 xb, zci G qc 10 xc, zci G qe 10 xe, (hr, .inr (2, [.ref ra, .ref rb, .ref rc, .int (zI kk1_110), .int (zI f1_111), .int (zI l1_112), .int (zI b1_113), .int (zI t1_114), .int (zI x1_115), .int (zI y1_116)])), zci G ra 10 P1_107, zci G rb 10 Q1_108, zci G rc 10 M1_109] := hD
                                    refine zv_istore (lv' := [(16, .int (zI kr_298)), (14, .long (zL ((zpts xa xb (fun j => 1 * xc j + rr_91 * xe j) k : Nat) : Int))), (13, .int (zI rr_103)), (12, .int (zI rr_99)), (11, .int (zI rr_95)), (10, .int (zI rr_91)), (9, .int (zI (rr_87 - 30))), (8, .int (zI (rr_83 - 9))), (7, .int (zI (rr_79 - 9))), (6, .int (zI (i : Int))), (5, .int (zI (k : Int))), (4, .int (zI 1)), (3, .int (zI tl)), (2, .int (zI wd)), (0, .ref h0), (1, .ref bt)]) S dL_isShapes_417 hl (by decide) rfl (fun ls hl => ?_)
                                    refine zv_iload S dL_isShapes_419 (lv_at hl 0 rfl) ?_
                                    refine zv_iconst S dL_isShapes_421 ?_
                                    refine zv_icmp_eq (tgt := 432) S (by unfold zR; omega) (by unfold zR; omega) dL_isShapes_422 (by decide) (fun c_322 => ?_) (fun c_322 => ?_)
                                    · refine zv_aload_n S dL_isShapes_432 rfl (lv_at hl 14 rfl) ?_
                                      refine zv_iconst S dL_isShapes_433 ?_
                                      refine zv_iload S dL_isShapes_434 (lv_at hl 5 rfl) ?_
                                      refine zcp_Vl (As := [.int (zI 0), .int (zI rr_91)]) (rest := []) (wr := []) (n := 2) S hN hK (hE0.kept hS.2.1) hP hD hS hA hl (n_X4_count l hl0 G H.size h0 qs hr hc hk SF h1 qa qb qc qe xa xb xc xe k ra rb rc P1_107 Q1_108 M1_109 kk1_110 f1_111 l1_112 b1_113 t1_114 x1_115 y1_116 rr_91 hsf I1 (by omega)) gL_isShapes_X4_count rfl ⟨rfl, rfl⟩ (by decide +kernel) rfl ⟨Nat.le_of_ble_eq_true rfl, Nat.le_of_ble_eq_true rfl, (show (cc + 10) + 3 ≤ 2600 by omega), (show (ss + 60) + 18 ≤ 15600 by omega)⟩ [0, 1, 2, 3, 4, 5, 6, 7, 8, 9, 10] [] rfl rfl (by decide) (by decide) (by decide) (ci := 4) rfl rfl rfl (Nat.le_of_ble_eq_true rfl) dL_isShapes_436 rfl (fun r_ u_323 H1 locs1 hp_324 hP1 hD1 hS1 hz1 => ?_)
                                      obtain ⟨P1_325, Q1_326, M1_327, kk1_328, f1_329, l1_330, b1_331, t1_332, x1_333, y1_334⟩ := u_323
                                      try dsimp only at hp_324 hP1 hD1
                                      obtain ⟨rfl, hpo_335⟩ := hp_324
                                      generalize H1 = H at hP1 hD1 hS1 hz1 ⊢
                                      generalize locs1 = locs at hS1 ⊢
                                      have hS := hS1
                                      have hP : va_P G.1 vwCl [(h0, .inr (4, [.ref qs, .int (zI 1), .ref hr, .ref hc, .ref hk])), zcq G qs 8 SF, (h1, .inr (3, [.ref qa, .ref qb, .ref qc, .ref qe, .int (zI (k : Int))])), zci G qa 10 xa, zci G qb 10 xb, zci G qc 10 xc, zci G qe 10 xe, (hr, .inr (2, [.ref ra, .ref rb, .ref rc, .int (zI kk1_328), .int (zI f1_329), .int (zI l1_330), .int (zI b1_331), .int (zI t1_332), .int (zI x1_333), .int (zI y1_334)])), zci G ra 10 P1_325, zci G rb 10 Q1_326, zci G rc 10 M1_327] H := hP1
                                      have hD : va_D A [(h0, .inr (4, [.ref qs, .int (zI 1), .ref hr, .ref hc, .ref hk])), zcq G qs 8 SF, (h1, .inr (3, [.ref qa, .ref qb, .ref qc, .ref qe, .int (zI (k : Int))])), zci G qa 10 xa, zci G qb 10 xb, zci G qc 10 xc, zci G qe 10 xe, (hr, .inr (2, [.ref ra, .ref rb, .ref rc, .int (zI kk1_328), .int (zI f1_329), .int (zI l1_330), .int (zI b1_331), .int (zI t1_332), .int (zI x1_333), .int (zI y1_334)])), zci G ra 10 P1_325, zci G rb 10 Q1_326, zci G rc 10 M1_327] := hD1
                                      refine zv_lload S dL_isShapes_439 (lv_at hl 1 rfl) ?_
                                      refine zv_lif_ne (tgt := 449) S (zpts_S _ _ _ _) (zpts_S _ _ _ _) dL_isShapes_441 dL_isShapes_442 (by decide) (fun c_336 => ?_) (fun c_336 => ?_)
                                      · exact absurd rfl c_336
                                      · refine zv_iconst S dL_isShapes_445 ?_
                                        refine zv_goto (tgt := 450) S dL_isShapes_446 (by decide) ?_
                                        refine zv_istore (lv' := [(4, .int (zI 1)), (16, .int (zI kr_298)), (14, .long (zL ((zpts xa xb (fun j => 1 * xc j + rr_91 * xe j) k : Nat) : Int))), (13, .int (zI rr_103)), (12, .int (zI rr_99)), (11, .int (zI rr_95)), (10, .int (zI rr_91)), (9, .int (zI (rr_87 - 30))), (8, .int (zI (rr_83 - 9))), (7, .int (zI (rr_79 - 9))), (6, .int (zI (i : Int))), (5, .int (zI (k : Int))), (3, .int (zI tl)), (2, .int (zI wd)), (0, .ref h0), (1, .ref bt)]) S dL_isShapes_450 hl (by decide) rfl (fun ls hl => ?_)
                                        refine zv_iload S dL_isShapes_452 (lv_at hl 11 rfl) ?_
                                        refine zv_iload S dL_isShapes_454 (lv_at hl 1 rfl) ?_
                                        refine zv_if_lt (tgt := 463) S (by unfold zR; omega) dL_isShapes_456 (by decide) (fun c_337 => ?_) (fun c_337 => ?_)
                                        · refine zv_iconst S dL_isShapes_463 ?_
                                          refine zv_iadd S dL_isShapes_464 ?_
                                          refine zv_istore (lv' := [(5, .int (zI ((k : Int) + 0))), (4, .int (zI 1)), (16, .int (zI kr_298)), (14, .long (zL ((zpts xa xb (fun j => 1 * xc j + rr_91 * xe j) k : Nat) : Int))), (13, .int (zI rr_103)), (12, .int (zI rr_99)), (11, .int (zI rr_95)), (10, .int (zI rr_91)), (9, .int (zI (rr_87 - 30))), (8, .int (zI (rr_83 - 9))), (7, .int (zI (rr_79 - 9))), (6, .int (zI (i : Int))), (3, .int (zI tl)), (2, .int (zI wd)), (0, .ref h0), (1, .ref bt)]) S dL_isShapes_465 hl (by decide) rfl (fun ls hl => ?_)
                                          refine zv_goto (tgt := 535) S dL_isShapes_467 (by decide) ?_
                                          refine W.widen (k := (cc + 13)) (n := (ss + 78)) (by omega) (by omega) ?_
                                          exact JN535 k ((k : Int) + 0) (k : Int) xa xb xc xe P1_325 Q1_326 M1_327 kk1_328 f1_329 l1_330 b1_331 t1_332 x1_333 y1_334 (cc + 13) (ss + 78) (by omega) rfl I1 (by omega) (by omega) _ _ hP hD hS _ (lv_sub hl [3, 4, 5, 6, 7, 8, 9, 10, 11, 0, 1, 12, 13, 14, 15] rfl)
                                        · exact absurd c_337 (by omega)
                                    · exact absurd c_322 (by omega)
                                refine zv_iload S dL_isShapes_398 (lv_at hl 5 rfl) ?_
                                refine zv_if_ge (tgt := 407) S (by unfold zR; omega) dL_isShapes_400 (by decide) (fun c_338 => ?_) (fun c_338 => ?_)
                                · refine zv_iconst S dL_isShapes_407 ?_
                                  refine W.widen (k := (cc + 3)) (n := (ss + 18)) (by omega) (by omega) ?_
                                  exact JN408 1 (Or.inl rfl) _ _ hP hD hS _ (lv_sub hl [0, 1, 2, 3, 4, 5, 6, 7, 8, 9, 10, 11, 12, 13, 14] rfl)
                                · refine zv_iconst S dL_isShapes_403 ?_
                                  refine zv_goto (tgt := 408) S dL_isShapes_404 (by decide) ?_
                                  refine W.widen (k := (cc + 3)) (n := (ss + 18)) (by omega) (by omega) ?_
                                  exact JN408 2 (Or.inr rfl) _ _ hP hD hS _ (lv_sub hl [0, 1, 2, 3, 4, 5, 6, 7, 8, 9, 10, 11, 12, 13, 14] rfl)
                            refine zv_iload S dL_isShapes_305 (lv_at hl 3 rfl) ?_
                            refine zv_iconst S dL_isShapes_307 ?_
                            refine zv_icmp_ge (tgt := 383) S (by unfold zR; omega) (by unfold zR; omega) dL_isShapes_308 (by decide) (fun c_339 => ?_) (fun c_339 => ?_)
                            · refine W.widen (k := (cc + 3)) (n := (ss + 18)) (by omega) (by omega) ?_
                              exact JN383   _ _ hP hD hS _ (lv_sub hl [0, 1, 2, 3, 4, 5, 6, 7, 8, 9, 10, 11, 12, 13, 14] rfl)
                            · refine zv_iload S dL_isShapes_311 (lv_at hl 9 rfl) ?_
                              refine zv_bipush (v := 10) S dL_isShapes_313 (by decide) ?_
                              refine zv_icmp_ge (tgt := 383) S (by unfold zR; omega) (by unfold zR; omega) dL_isShapes_315 (by decide) (fun c_340 => ?_) (fun c_340 => ?_)
                              · refine W.widen (k := (cc + 3)) (n := (ss + 18)) (by omega) (by omega) ?_
                                exact JN383   _ _ hP hD hS _ (lv_sub hl [0, 1, 2, 3, 4, 5, 6, 7, 8, 9, 10, 11, 12, 13, 14] rfl)
                              · have JN328 : ∀ (hab : ¬ (rr_79 - 9 = 0 ∧ rr_83 - 9 = 0)) (H : Heap) (locs : List Loc), va_P G.1 vwCl [(h0, .inr (4, [.ref qs, .int (zI 1), .ref hr, .ref hc, .ref hk])), zcq G qs 8 SF, (h1, .inr (3, [.ref qa, .ref qb, .ref qc, .ref qe, .int (zI (k : Int))])), zci G qa 10 xa, zci G qb 10 xb, zci G qc 10 xc, zci G qe 10 xe, (hr, .inr (2, [.ref ra, .ref rb, .ref rc, .int (zI kk1_110), .int (zI f1_111), .int (zI l1_112), .int (zI b1_113), .int (zI t1_114), .int (zI x1_115), .int (zI y1_116)])), zci G ra 10 P1_107, zci G rb 10 Q1_108, zci G rc 10 M1_109] H → va_D A [(h0, .inr (4, [.ref qs, .int (zI 1), .ref hr, .ref hc, .ref hk])), zcq G qs 8 SF, (h1, .inr (3, [.ref qa, .ref qb, .ref qc, .ref qe, .int (zI (k : Int))])), zci G qa 10 xa, zci G qb 10 xb, zci G qc 10 xc, zci G qe 10 xe, (hr, .inr (2, [.ref ra, .ref rb, .ref rc, .int (zI kk1_110), .int (zI f1_111), .int (zI l1_112), .int (zI b1_113), .int (zI t1_114), .int (zI x1_115), .int (zI y1_116)])), zci G ra 10 P1_107, zci G rb 10 Q1_108, zci G rc 10 M1_109] → va_S A s.heap H locs → ∀ ls : Array Slot, lv_has ls 19 [(14, .long (zL ((zpts xa xb (fun j => 1 * xc j + rr_91 * xe j) k : Nat) : Int))), (13, .int (zI rr_103)), (12, .int (zI rr_99)), (11, .int (zI rr_95)), (10, .int (zI rr_91)), (9, .int (zI (rr_87 - 30))), (8, .int (zI (rr_83 - 9))), (7, .int (zI (rr_79 - 9))), (6, .int (zI (i : Int))), (5, .int (zI (k : Int))), (4, .int (zI 1)), (3, .int (zI tl)), (2, .int (zI wd)), (0, .ref h0), (1, .ref bt)] → W p l e ({ frames := 10, cells := 2600, slots := 15600, locals := 192 }) s m ([.ref h0, .ref bt]).toArray below meth c H locs (cc + 3) (ss + 18) Q (F0 m 328 ls []) := by
                                  intro hab H locs hP hD hS ls hl
                                  refine zv_iload S dL_isShapes_328 (lv_at hl 5 rfl) ?_
                                  refine zv_bipush (v := 100) S dL_isShapes_330 (by decide) ?_
                                  refine zv_icmp_ge (tgt := 383) S (by unfold zR; omega) (by unfold zR; omega) dL_isShapes_332 (by decide) (fun c_341 => ?_) (fun c_341 => ?_)
                                  · refine W.widen (k := (cc + 3)) (n := (ss + 18)) (by omega) (by omega) ?_
                                    exact JN383   _ _ hP hD hS _ (lv_sub hl [0, 1, 2, 3, 4, 5, 6, 7, 8, 9, 10, 11, 12, 13, 14] rfl)
                                  · have hr3 := zmod_lt (x := rr_91) (m := 3) (by omega) (by omega)
                                    refine zv_aload_n S dL_isShapes_335 rfl (lv_at hl 13 rfl) ?_
                                    refine zv_iconst S dL_isShapes_336 ?_
                                    refine zv_iload S dL_isShapes_337 (lv_at hl 7 rfl) ?_
                                    refine zv_iload S dL_isShapes_339 (lv_at hl 6 rfl) ?_
                                    refine zv_iload S dL_isShapes_341 (lv_at hl 5 rfl) ?_
                                    refine zv_iload S dL_isShapes_343 (lv_at hl 4 rfl) ?_
                                    refine zv_iconst S dL_isShapes_345 ?_
                                    refine zv_irem S (by unfold zR; omega) (by unfold zR; omega) (by omega) (by omega) dL_isShapes_346 ?_
                                    refine zv_iconst S dL_isShapes_347 ?_
                                    refine zv_isub S dL_isShapes_348 ?_
                                    refine zcp_Vi (As := [.int (zI 0), .int (zI (rr_79 - 9)), .int (zI (rr_83 - 9)), .int (zI (rr_87 - 30)), .int (zI ((rr_91.tmod 3) - 1))]) (rest := []) (wr := [(hr, .inr (2, [.ref ra, .ref rb, .ref rc, .int (zI kk1_110), .int (zI f1_111), .int (zI l1_112), .int (zI b1_113), .int (zI t1_114), .int (zI x1_115), .int (zI y1_116)])), zci G ra 10 P1_107, zci G rb 10 Q1_108, zci G rc 10 M1_109]) (n := 5) S hN hK (hE0.kept hS.2.1) hP hD hS hA hl (n_X4_add l hl0 G H.size h0 qs hr hc hk SF h1 qa qb qc qe xa xb xc xe k (rr_79 - 9) (rr_83 - 9) (rr_87 - 30) ((rr_91.tmod 3) - 1) hsf (by omega) (by unfold zadok; omega)) gL_isShapes_X4_add rfl ⟨rfl, rfl⟩ (by decide +kernel) rfl ⟨Nat.le_of_ble_eq_true rfl, Nat.le_of_ble_eq_true rfl, (show (cc + 3) + 6 ≤ 2600 by omega), (show (ss + 18) + 36 ≤ 15600 by omega)⟩ [0, 1, 2, 3, 4, 5, 6] [7, 8, 9, 10] rfl rfl (by decide) (by decide) (by decide) (ci := 4) rfl rfl rfl (Nat.le_of_ble_eq_true rfl) dL_isShapes_349 rfl (fun r_ u_342 H1 locs1 hp_343 hP1 hD1 hS1 hz1 => ?_)
                                    try dsimp only at hp_343 hP1 hD1
                                    obtain ⟨rfl, hpo_344⟩ := hp_343
                                    generalize H1 = H at hP1 hD1 hS1 hz1 ⊢
                                    generalize locs1 = locs at hS1 ⊢
                                    have hS := hS1
                                    have hP : va_P G.1 vwCl [(hr, .inr (2, [.ref ra, .ref rb, .ref rc, .int (zI kk1_110), .int (zI f1_111), .int (zI l1_112), .int (zI b1_113), .int (zI t1_114), .int (zI x1_115), .int (zI y1_116)])), zci G ra 10 P1_107, zci G rb 10 Q1_108, zci G rc 10 M1_109, (h0, .inr (4, [.ref qs, .int (zI 1), .ref hr, .ref hc, .ref hk])), zcq G qs 8 SF, (h1, .inr (3, [.ref qa, .ref qb, .ref qc, .ref qe, .int (zI ((k + 1 : Nat) : Int))])), zci G qa 10 (zU xa k (rr_79 - 9)), zci G qb 10 (zU xb k (rr_83 - 9)), zci G qc 10 (zU xc k (rr_87 - 30)), zci G qe 10 (zU xe k ((rr_91.tmod 3) - 1))] H := hP1
                                    have hD : va_D A [(hr, .inr (2, [.ref ra, .ref rb, .ref rc, .int (zI kk1_110), .int (zI f1_111), .int (zI l1_112), .int (zI b1_113), .int (zI t1_114), .int (zI x1_115), .int (zI y1_116)])), zci G ra 10 P1_107, zci G rb 10 Q1_108, zci G rc 10 M1_109, (h0, .inr (4, [.ref qs, .int (zI 1), .ref hr, .ref hc, .ref hk])), zcq G qs 8 SF, (h1, .inr (3, [.ref qa, .ref qb, .ref qc, .ref qe, .int (zI ((k + 1 : Nat) : Int))])), zci G qa 10 (zU xa k (rr_79 - 9)), zci G qb 10 (zU xb k (rr_83 - 9)), zci G qc 10 (zU xc k (rr_87 - 30)), zci G qe 10 (zU xe k ((rr_91.tmod 3) - 1))] := hD1
                                    have hP : va_P G.1 vwCl [(h0, .inr (4, [.ref qs, .int (zI 1), .ref hr, .ref hc, .ref hk])), zcq G qs 8 SF, (h1, .inr (3, [.ref qa, .ref qb, .ref qc, .ref qe, .int (zI ((k + 1 : Nat) : Int))])), zci G qa 10 (zU xa k (rr_79 - 9)), zci G qb 10 (zU xb k (rr_83 - 9)), zci G qc 10 (zU xc k (rr_87 - 30)), zci G qe 10 (zU xe k ((rr_91.tmod 3) - 1)), (hr, .inr (2, [.ref ra, .ref rb, .ref rc, .int (zI kk1_110), .int (zI f1_111), .int (zI l1_112), .int (zI b1_113), .int (zI t1_114), .int (zI x1_115), .int (zI y1_116)])), zci G ra 10 P1_107, zci G rb 10 Q1_108, zci G rc 10 M1_109] H := hP.sub [4, 5, 6, 7, 8, 9, 10, 0, 1, 2, 3] rfl
                                    have hD : va_D A [(h0, .inr (4, [.ref qs, .int (zI 1), .ref hr, .ref hc, .ref hk])), zcq G qs 8 SF, (h1, .inr (3, [.ref qa, .ref qb, .ref qc, .ref qe, .int (zI ((k + 1 : Nat) : Int))])), zci G qa 10 (zU xa k (rr_79 - 9)), zci G qb 10 (zU xb k (rr_83 - 9)), zci G qc 10 (zU xc k (rr_87 - 30)), zci G qe 10 (zU xe k ((rr_91.tmod 3) - 1)), (hr, .inr (2, [.ref ra, .ref rb, .ref rc, .int (zI kk1_110), .int (zI f1_111), .int (zI l1_112), .int (zI b1_113), .int (zI t1_114), .int (zI x1_115), .int (zI y1_116)])), zci G ra 10 P1_107, zci G rb 10 Q1_108, zci G rc 10 M1_109] := hD.sub [4, 5, 6, 7, 8, 9, 10, 0, 1, 2, 3] (by decide) rfl
                                    refine zv_iload S dL_isShapes_352 (lv_at hl 9 rfl) ?_
                                    refine zv_icmp_ne (tgt := 374) S (by unfold zR; omega) (by unfold zR; omega) dL_isShapes_354 (by decide) (fun c_345 => ?_) (fun c_345 => ?_)
                                    · exact absurd rfl c_345
                                    · have I1 := zqI_put I (a := rr_79 - 9) (b := rr_83 - 9) (c := rr_87 - 30) (e := rr_91.tmod 3 - 1) (by omega) (by omega) (by omega) (by omega) (by omega) (by omega)
                                      refine zv_aload_n S dL_isShapes_357 rfl (lv_at hl 13 rfl) ?_
                                      refine zv_iconst S dL_isShapes_358 ?_
                                      refine zv_iload S dL_isShapes_359 (lv_at hl 4 rfl) ?_
                                      refine zcp_Vl (As := [.int (zI 0), .int (zI rr_91)]) (rest := []) (wr := []) (n := 2) S hN hK (hE0.kept hS.2.1) hP hD hS hA hl (n_X4_count l hl0 G H.size h0 qs hr hc hk SF h1 qa qb qc qe (zU xa k (rr_79 - 9)) (zU xb k (rr_83 - 9)) (zU xc k (rr_87 - 30)) (zU xe k ((rr_91.tmod 3) - 1)) (k + 1) ra rb rc P1_107 Q1_108 M1_109 kk1_110 f1_111 l1_112 b1_113 t1_114 x1_115 y1_116 rr_91 hsf I1 (by omega)) gL_isShapes_X4_count rfl ⟨rfl, rfl⟩ (by decide +kernel) rfl ⟨Nat.le_of_ble_eq_true rfl, Nat.le_of_ble_eq_true rfl, (show (cc + 9) + 3 ≤ 2600 by omega), (show (ss + 54) + 18 ≤ 15600 by omega)⟩ [0, 1, 2, 3, 4, 5, 6, 7, 8, 9, 10] [] rfl rfl (by decide) (by decide) (by decide) (ci := 4) rfl rfl rfl (Nat.le_of_ble_eq_true rfl) dL_isShapes_361 rfl (fun r_ u_346 H1 locs1 hp_347 hP1 hD1 hS1 hz1 => ?_)
                                      obtain ⟨P1_348, Q1_349, M1_350, kk1_351, f1_352, l1_353, b1_354, t1_355, x1_356, y1_357⟩ := u_346
                                      try dsimp only at hp_347 hP1 hD1
                                      obtain ⟨rfl, hpo_358⟩ := hp_347
                                      generalize H1 = H at hP1 hD1 hS1 hz1 ⊢
                                      generalize locs1 = locs at hS1 ⊢
                                      have hS := hS1
                                      have hP : va_P G.1 vwCl [(h0, .inr (4, [.ref qs, .int (zI 1), .ref hr, .ref hc, .ref hk])), zcq G qs 8 SF, (h1, .inr (3, [.ref qa, .ref qb, .ref qc, .ref qe, .int (zI ((k + 1) : Int))])), zci G qa 10 (zU xa k (rr_79 - 9)), zci G qb 10 (zU xb k (rr_83 - 9)), zci G qc 10 (zU xc k (rr_87 - 30)), zci G qe 10 (zU xe k ((rr_91.tmod 3) - 1)), (hr, .inr (2, [.ref ra, .ref rb, .ref rc, .int (zI kk1_351), .int (zI f1_352), .int (zI l1_353), .int (zI b1_354), .int (zI t1_355), .int (zI x1_356), .int (zI y1_357)])), zci G ra 10 P1_348, zci G rb 10 Q1_349, zci G rc 10 M1_350] H := hP1
                                      have hD : va_D A [(h0, .inr (4, [.ref qs, .int (zI 1), .ref hr, .ref hc, .ref hk])), zcq G qs 8 SF, (h1, .inr (3, [.ref qa, .ref qb, .ref qc, .ref qe, .int (zI ((k + 1) : Int))])), zci G qa 10 (zU xa k (rr_79 - 9)), zci G qb 10 (zU xb k (rr_83 - 9)), zci G qc 10 (zU xc k (rr_87 - 30)), zci G qe 10 (zU xe k ((rr_91.tmod 3) - 1)), (hr, .inr (2, [.ref ra, .ref rb, .ref rc, .int (zI kk1_351), .int (zI f1_352), .int (zI l1_353), .int (zI b1_354), .int (zI t1_355), .int (zI x1_356), .int (zI y1_357)])), zci G ra 10 P1_348, zci G rb 10 Q1_349, zci G rc 10 M1_350] := hD1
                                      refine zv_lload S dL_isShapes_364 (lv_at hl 0 rfl) ?_
                                      refine zv_lif_gt (tgt := 374) S (zpts_S _ _ _ _) (zpts_S _ _ _ _) dL_isShapes_366 dL_isShapes_367 (by decide) (fun c_359 => ?_) (fun c_359 => ?_)
                                      · exact absurd c_359 (by have q := zc_add (fa := xa) (fb := xb) (fc := xc) (fe := xe) (k := k) (a := rr_79 - 9) (b := rr_83 - 9) (c := rr_87 - 30) (e := rr_91.tmod 3 - 1) (lt := rr_91); omega)
                                      · refine zv_iconst S dL_isShapes_370 ?_
                                        refine zv_goto (tgt := 375) S dL_isShapes_371 (by decide) ?_
                                        refine zv_istore (lv' := [(4, .int (zI 1)), (14, .long (zL ((zpts xa xb (fun j => 1 * xc j + rr_91 * xe j) k : Nat) : Int))), (13, .int (zI rr_103)), (12, .int (zI rr_99)), (11, .int (zI rr_95)), (10, .int (zI rr_91)), (9, .int (zI (rr_87 - 30))), (8, .int (zI (rr_83 - 9))), (7, .int (zI (rr_79 - 9))), (6, .int (zI (i : Int))), (5, .int (zI (k : Int))), (3, .int (zI tl)), (2, .int (zI wd)), (0, .ref h0), (1, .ref bt)]) S dL_isShapes_375 hl (by decide) rfl (fun ls hl => ?_)
                                        refine zv_iinc (k0 := 10) (lv' := [(5, .int (zI ((k : Int) + 1))), (4, .int (zI 1)), (14, .long (zL ((zpts xa xb (fun j => 1 * xc j + rr_91 * xe j) k : Nat) : Int))), (13, .int (zI rr_103)), (12, .int (zI rr_99)), (11, .int (zI rr_95)), (10, .int (zI rr_91)), (9, .int (zI (rr_87 - 30))), (8, .int (zI (rr_83 - 9))), (7, .int (zI (rr_79 - 9))), (6, .int (zI (i : Int))), (3, .int (zI tl)), (2, .int (zI wd)), (0, .ref h0), (1, .ref bt)]) S dL_isShapes_377 hl rfl (by decide) rfl (fun ls hl => ?_)
                                        refine zv_goto (tgt := 535) S dL_isShapes_380 (by decide) ?_
                                        refine W.widen (k := (cc + 12)) (n := (ss + 72)) (by omega) (by omega) ?_
                                        exact JN535 (k + 1) ((k : Int) + 1) ((k + 1) : Int) (zU xa k (rr_79 - 9)) (zU xb k (rr_83 - 9)) (zU xc k (rr_87 - 30)) (zU xe k ((rr_91.tmod 3) - 1)) P1_348 Q1_349 M1_350 kk1_351 f1_352 l1_353 b1_354 t1_355 x1_356 y1_357 (cc + 12) (ss + 72) (by omega) rfl I1 (by omega) (by omega) _ _ hP hD hS _ (lv_sub hl [2, 3, 4, 5, 6, 7, 8, 9, 10, 0, 1, 11, 12, 13, 14] rfl)
                                refine zv_iload S dL_isShapes_318 (lv_at hl 7 rfl) ?_
                                refine zv_if_ne (tgt := 328) S (by unfold zR; omega) dL_isShapes_320 (by decide) (fun c_360 => ?_) (fun c_360 => ?_)
                                · refine W.widen (k := (cc + 3)) (n := (ss + 18)) (by omega) (by omega) ?_
                                  exact JN328  (fun z => c_360 z.1) _ _ hP hD hS _ (lv_sub hl [0, 1, 2, 3, 4, 5, 6, 7, 8, 9, 10, 11, 12, 13, 14] rfl)
                                · refine zv_iload S dL_isShapes_323 (lv_at hl 6 rfl) ?_
                                  refine zv_if_eq (tgt := 383) S (by unfold zR; omega) dL_isShapes_325 (by decide) (fun c_361 => ?_) (fun c_361 => ?_)
                                  · refine W.widen (k := (cc + 3)) (n := (ss + 18)) (by omega) (by omega) ?_
                                    exact JN383   _ _ hP hD hS _ (lv_sub hl [0, 1, 2, 3, 4, 5, 6, 7, 8, 9, 10, 11, 12, 13, 14] rfl)
                                  · refine W.widen (k := (cc + 3)) (n := (ss + 18)) (by omega) (by omega) ?_
                                    exact JN328  (fun z => c_361 z.2) _ _ hP hD hS _ (lv_sub hl [0, 1, 2, 3, 4, 5, 6, 7, 8, 9, 10, 11, 12, 13, 14] rfl)
                    exact LP166 _ 0 0 4 4 4 ga gb gc ge P1_63 Q1_64 M1_65 kk1_66 f1_67 l1_68 b1_69 t1_70 x1_71 y1_72 35 210 rfl rfl rfl (by omega) I0 (by omega) (by omega) (Nat.lt_succ_self _) _ _ hP hD hS _ (lv_sub hl [0, 1, 2, 3, 4, 5, 6] rfl)
