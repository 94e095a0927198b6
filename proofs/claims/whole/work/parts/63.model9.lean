theorem wd_X5_best_f51 : Cond.fieldLink RX5 51 "PointMillModel" "thrown" "I" ∈ wsX5_best := by decide +kernel
theorem in_X5_best_X5 : ∀ w ∈ wsX50, w ∈ wsX5_best := by decide +kernel
theorem wd_X5_best_f100 : Cond.fieldLink RX5 100 "PointMillModel" "isReached" "Z" ∈ wsX5_best := by decide +kernel
theorem wd_X5_best_f87 : Cond.fieldLink RX5 87 "PointMillModel" "first" "J" ∈ wsX5_best := by decide +kernel
theorem wd_X5_best_f91 : Cond.fieldLink RX5 91 "PointMillModel" "last" "J" ∈ wsX5_best := by decide +kernel
theorem wd_X5_best_f107 : Cond.fieldLink RX5 107 "PointMillModel" "low" "J" ∈ wsX5_best := by decide +kernel
theorem wd_X5_best_f104 : Cond.fieldLink RX5 104 "PointMillModel" "high" "J" ∈ wsX5_best := by decide +kernel
set_option maxHeartbeats 4000000 in
set_option maxRecDepth 100000 in
/-- the model: best -/
theorem c_X5_best (l : Launch) (G : zG) (sz : Nat) (h0 : Nat) (th : Int) (sh : Int) (ym : Nat) (ya : Nat) (yb : Nat) (yc : Nat) (ye : Nat) (yp : Nat) (yq : Nat) (yo : Nat) (ro : Int) (fi : Int) (la : Int) (lo : Int) (hi : Int) (co : Int) (yk : Nat) (yw : Nat) (yi : Nat) (ge : Int) (yx : Nat) (yy : Nat) (ir : Int) (MN : Nat → Int) (MA : Nat → Int) (MB : Nat → Int) (MC : Nat → Int) (ME : Nat → Int) (P : Nat → Int) (Qu : Nat → Int) (M : Nat → Int) (v : Int) (lt : Int) (pp : Int) (qq : Int) (wt : Int) (hsh : 0 ≤ sh ∧ sh ≤ 8) (hmn : ∀ j, j < 8 → 0 ≤ MN j ∧ MN j ≤ 10) (hRA : ∀ j, j < 80 → -60 ≤ MA j ∧ MA j ≤ 60) (hRB : ∀ j, j < 80 → -60 ≤ MB j ∧ MB j ≤ 60) (hRC : ∀ j, j < 80 → -999 ≤ MC j ∧ MC j ≤ 999) (hRE : ∀ j, j < 80 → -9 ≤ ME j ∧ ME j ≤ 9) (hv : -2147483648 ≤ v ∧ v < 2147483648) (h1 : -2147483648 ≤ lt ∧ lt < 2147483648) (h2 : -2147483648 ≤ pp ∧ pp < 2147483648) (h3 : -2147483648 ≤ qq ∧ qq < 2147483648) (h4 : -2147483648 ≤ wt ∧ wt < 2147483648) (hgg : 0 ≤ v → v < sh → zpl (zrow MA v.toNat) (zrow MB v.toNat) (MN v.toNat).toNat → 0 ≤ lt → lt ≤ 9 → zgood (zrow MA v.toNat) (zrow MB v.toNat) (zmst (-1) lt 0 MC ME v.toNat) (MN v.toNat).toNat) : Met l yX5_best wsX5_best ({ frames := 3, cells := 0, slots := 0, locals := 87 }) (va_Pc [.ref h0, .int (zI v), .int (zI lt), .int (zI pp), .int (zI qq), .int (zI wt)] (zPre G sz [(h0, .inr (5, [.int (zI th), .int (zI sh), .ref ym, .ref ya, .ref yb, .ref yc, .ref ye, .ref yp, .ref yq, .ref yo, .int (zI ro), .long (zL fi), .long (zL la), .long (zL lo), .long (zL hi), .int (zI co), .ref yk, .ref yw, .ref yi, .int (zI ge), .ref yx, .ref yy, .int (zI ir)])), zci G ym 8 MN, zci G ya 80 MA, zci G yb 80 MB, zci G yc 80 MC, zci G ye 80 ME, zcl G yp 10 P, zcl G yq 10 Qu, zcl G yo 10 M])) (va_Qi (fun (r : Int32) (u : (Int) × (Int) × (Int) × (Int) × (Int) × (Int) × (Nat → Int) × (Nat → Int) × (Nat → Int) × (Int) × (Int)) => r = zI u.1 ∧ (zbestR (0 ≤ v ∧ v < sh) (zbok lt pp qq wt) (zpl (zrow MA v.toNat) (zrow MB v.toNat) (MN v.toNat).toNat) (zrow MA v.toNat) (zrow MB v.toNat) (zmst (-1) lt 0 MC ME v.toNat) (MN v.toNat).toNat pp qq wt u.1 u.2.1)) (fun u => zW G (va_A [(h0, .inr (5, [.int (zI th), .int (zI sh), .ref ym, .ref ya, .ref yb, .ref yc, .ref ye, .ref yp, .ref yq, .ref yo, .int (zI ro), .long (zL fi), .long (zL la), .long (zL lo), .long (zL hi), .int (zI co), .ref yk, .ref yw, .ref yi, .int (zI ge), .ref yx, .ref yy, .int (zI ir)])), zci G ym 8 MN, zci G ya 80 MA, zci G yb 80 MB, zci G yc 80 MC, zci G ye 80 ME, zcl G yp 10 P, zcl G yq 10 Qu, zcl G yo 10 M] sz) ((fun (u : (Int) × (Int) × (Int) × (Int) × (Int) × (Int) × (Nat → Int) × (Nat → Int) × (Nat → Int) × (Int) × (Int)) => [(h0, .inr (5, [.int (zI u.2.1), .int (zI sh), .ref ym, .ref ya, .ref yb, .ref yc, .ref ye, .ref yp, .ref yq, .ref yo, .int (zI u.2.2.1), .long (zL u.2.2.2.1), .long (zL u.2.2.2.2.1), .long (zL u.2.2.2.2.2.2.2.2.2.1), .long (zL u.2.2.2.2.2.2.2.2.2.2), .int (zI co), .ref yk, .ref yw, .ref yi, .int (zI ge), .ref yx, .ref yy, .int (zI u.2.2.2.2.2.1)])), zci G ym 8 MN, zci G ya 80 MA, zci G yb 80 MB, zci G yc 80 MC, zci G ye 80 ME, zcl G yp 10 u.2.2.2.2.2.2.1, zcl G yq 10 u.2.2.2.2.2.2.2.1, zcl G yo 10 u.2.2.2.2.2.2.2.2.1]) u)) (va_A [(h0, .inr (5, [.int (zI th), .int (zI sh), .ref ym, .ref ya, .ref yb, .ref yc, .ref ye, .ref yp, .ref yq, .ref yo, .int (zI ro), .long (zL fi), .long (zL la), .long (zL lo), .long (zL hi), .int (zI co), .ref yk, .ref yw, .ref yi, .int (zI ge), .ref yx, .ref yy, .int (zI ir)])), zci G ym 8 MN, zci G ya 80 MA, zci G yb 80 MB, zci G yc 80 MC, zci G ye 80 ME, zcl G yp 10 P, zcl G yq 10 Qu, zcl G yo 10 M] sz)) 0 0 (va_A [(h0, .inr (5, [.int (zI th), .int (zI sh), .ref ym, .ref ya, .ref yb, .ref yc, .ref ye, .ref yp, .ref yq, .ref yo, .int (zI ro), .long (zL fi), .long (zL la), .long (zL lo), .long (zL hi), .int (zI co), .ref yk, .ref yw, .ref yi, .int (zI ge), .ref yx, .ref yy, .int (zI ir)])), zci G ym 8 MN, zci G ya 80 MA, zci G yb 80 MB, zci G yc 80 MC, zci G ye 80 ME, zcl G yp 10 P, zcl G yq 10 Qu, zcl G yo 10 M] sz) := by
  refine zM_i (post := fun (r : Int32) (u : (Int) × (Int) × (Int) × (Int) × (Int) × (Int) × (Nat → Int) × (Nat → Int) × (Nat → Int) × (Int) × (Int)) => r = zI u.1 ∧ (zbestR (0 ≤ v ∧ v < sh) (zbok lt pp qq wt) (zpl (zrow MA v.toNat) (zrow MB v.toNat) (MN v.toNat).toNat) (zrow MA v.toNat) (zrow MB v.toNat) (zmst (-1) lt 0 MC ME v.toNat) (MN v.toNat).toNat pp qq wt u.1 u.2.1)) (w1 := fun (u : (Int) × (Int) × (Int) × (Int) × (Int) × (Int) × (Nat → Int) × (Nat → Int) × (Nat → Int) × (Int) × (Int)) => [(h0, .inr (5, [.int (zI u.2.1), .int (zI sh), .ref ym, .ref ya, .ref yb, .ref yc, .ref ye, .ref yp, .ref yq, .ref yo, .int (zI u.2.2.1), .long (zL u.2.2.2.1), .long (zL u.2.2.2.2.1), .long (zL u.2.2.2.2.2.2.2.2.2.1), .long (zL u.2.2.2.2.2.2.2.2.2.2), .int (zI co), .ref yk, .ref yw, .ref yi, .int (zI ge), .ref yx, .ref yy, .int (zI u.2.2.2.2.2.1)])), zci G ym 8 MN, zci G ya 80 MA, zci G yb 80 MB, zci G yc 80 MC, zci G ye 80 ME, zcl G yp 10 u.2.2.2.2.2.2.1, zcl G yq 10 u.2.2.2.2.2.2.2.1, zcl G yo 10 u.2.2.2.2.2.2.2.2.1]) (plainFor_of_name (by decide)) rfl (Nat.le_of_ble_eq_true rfl) ?_
  intro p e s m below meth c A Q S hN hK hP hD hS hA hret ls hl
  have hl : lv_has ls 20 [(0, .ref h0), (1, .int (zI v)), (2, .int (zI lt)), (3, .int (zI pp)), (4, .int (zI qq)), (5, .int (zI wt))] := hl
  have JN48 : ∀ (are : Int) (hare : are = zb (zbok lt pp qq wt)) (hare1 : are = 0 ∨ are = 1) (H : Heap) (locs : List Loc), va_P G.1 vwCl [(h0, .inr (5, [.int (zI th), .int (zI sh), .ref ym, .ref ya, .ref yb, .ref yc, .ref ye, .ref yp, .ref yq, .ref yo, .int (zI ro), .long (zL fi), .long (zL la), .long (zL lo), .long (zL hi), .int (zI co), .ref yk, .ref yw, .ref yi, .int (zI ge), .ref yx, .ref yy, .int (zI ir)])), zci G ym 8 MN, zci G ya 80 MA, zci G yb 80 MB, zci G yc 80 MC, zci G ye 80 ME, zcl G yp 10 P, zcl G yq 10 Qu, zcl G yo 10 M] H → va_D A [(h0, .inr (5, [.int (zI th), .int (zI sh), .ref ym, .ref ya, .ref yb, .ref yc, .ref ye, .ref yp, .ref yq, .ref yo, .int (zI ro), .long (zL fi), .long (zL la), .long (zL lo), .long (zL hi), .int (zI co), .ref yk, .ref yw, .ref yi, .int (zI ge), .ref yx, .ref yy, .int (zI ir)])), zci G ym 8 MN, zci G ya 80 MA, zci G yb 80 MB, zci G yc 80 MC, zci G ye 80 ME, zcl G yp 10 P, zcl G yq 10 Qu, zcl G yo 10 M] → va_S A s.heap H locs → ∀ ls : Array Slot, lv_has ls 20 [(0, .ref h0), (1, .int (zI v)), (2, .int (zI lt)), (3, .int (zI pp)), (4, .int (zI qq)), (5, .int (zI wt))] → W p l e ({ frames := 3, cells := 0, slots := 0, locals := 87 }) s m ([.ref h0, .int (zI v), .int (zI lt), .int (zI pp), .int (zI qq), .int (zI wt)]).toArray below meth c H locs 0 0 Q (F0 m 48 ls [.int (zI are)]) := by
    intro are hare hare1 H locs hP hD hS ls hl
    refine zv_istore (lv' := [(6, .int (zI are)), (0, .ref h0), (1, .int (zI v)), (2, .int (zI lt)), (3, .int (zI pp)), (4, .int (zI qq)), (5, .int (zI wt))]) S dX5_best_48 hl (by decide) rfl (fun ls hl => ?_)
    have JN85 : ∀ (tn : Int) (htn : zthr (0 ≤ v ∧ v < sh) (zbok lt pp qq wt) (zpl (zrow MA v.toNat) (zrow MB v.toNat) (MN v.toNat).toNat) tn) (H : Heap) (locs : List Loc), va_P G.1 vwCl [(h0, .inr (5, [.int (zI th), .int (zI sh), .ref ym, .ref ya, .ref yb, .ref yc, .ref ye, .ref yp, .ref yq, .ref yo, .int (zI ro), .long (zL fi), .long (zL la), .long (zL lo), .long (zL hi), .int (zI co), .ref yk, .ref yw, .ref yi, .int (zI ge), .ref yx, .ref yy, .int (zI ir)])), zci G ym 8 MN, zci G ya 80 MA, zci G yb 80 MB, zci G yc 80 MC, zci G ye 80 ME, zcl G yp 10 P, zcl G yq 10 Qu, zcl G yo 10 M] H → va_D A [(h0, .inr (5, [.int (zI th), .int (zI sh), .ref ym, .ref ya, .ref yb, .ref yc, .ref ye, .ref yp, .ref yq, .ref yo, .int (zI ro), .long (zL fi), .long (zL la), .long (zL lo), .long (zL hi), .int (zI co), .ref yk, .ref yw, .ref yi, .int (zI ge), .ref yx, .ref yy, .int (zI ir)])), zci G ym 8 MN, zci G ya 80 MA, zci G yb 80 MB, zci G yc 80 MC, zci G ye 80 ME, zcl G yp 10 P, zcl G yq 10 Qu, zcl G yo 10 M] → va_S A s.heap H locs → ∀ ls : Array Slot, lv_has ls 20 [(6, .int (zI are)), (0, .ref h0), (1, .int (zI v)), (2, .int (zI lt)), (3, .int (zI pp)), (4, .int (zI qq)), (5, .int (zI wt))] → W p l e ({ frames := 3, cells := 0, slots := 0, locals := 87 }) s m ([.ref h0, .int (zI v), .int (zI lt), .int (zI pp), .int (zI qq), .int (zI wt)]).toArray below meth c H locs 0 0 Q (F0 m 85 ls [.int (zI tn), .ref h0]) := by
      intro tn htn H locs hP hD hS ls hl
      refine zv_put (C := RX5) (T := TX5) (N := 23) (ci := 5) (v := .int (zI tn)) S in_X5_best_X5 tyX5 tyX5_ok nmX5 hK hP hD hS 0 rfl rfl 0 (by decide) wd_X5_best_f51 rfl rfl rfl rfl (Nat.le_of_ble_eq_true rfl) dX5_best_85 (fun H locs hP hD hS => ?_)
      have hP : va_P G.1 vwCl [(h0, .inr (5, [.int (zI tn), .int (zI sh), .ref ym, .ref ya, .ref yb, .ref yc, .ref ye, .ref yp, .ref yq, .ref yo, .int (zI ro), .long (zL fi), .long (zL la), .long (zL lo), .long (zL hi), .int (zI co), .ref yk, .ref yw, .ref yi, .int (zI ge), .ref yx, .ref yy, .int (zI ir)])), zci G ym 8 MN, zci G ya 80 MA, zci G yb 80 MB, zci G yc 80 MC, zci G ye 80 ME, zcl G yp 10 P, zcl G yq 10 Qu, zcl G yo 10 M] H := hP
      have hD : va_D A [(h0, .inr (5, [.int (zI tn), .int (zI sh), .ref ym, .ref ya, .ref yb, .ref yc, .ref ye, .ref yp, .ref yq, .ref yo, .int (zI ro), .long (zL fi), .long (zL la), .long (zL lo), .long (zL hi), .int (zI co), .ref yk, .ref yw, .ref yi, .int (zI ge), .ref yx, .ref yy, .int (zI ir)])), zci G ym 8 MN, zci G ya 80 MA, zci G yb 80 MB, zci G yc 80 MC, zci G ye 80 ME, zcl G yp 10 P, zcl G yq 10 Qu, zcl G yo 10 M] := hD
      have tnR := zthr_R htn
      refine zv_aload_n S dX5_best_88 rfl (lv_at hl 1 rfl) ?_
      refine zv_get (C := RX5) (T := TX5) (N := 23) (ci := 5) (v := .int (zI tn)) S in_X5_best_X5 hK hP 0 rfl rfl 0 (by decide) wd_X5_best_f51 rfl rfl dX5_best_89 ?_
      refine zv_if_eq (tgt := 97) S (by unfold zR; omega) dX5_best_92 (by decide) (fun c_1 => ?_) (fun c_1 => ?_)
      · have kz := zthr_0 htn c_1
        have kz0 := kz.1
        have kz1 := kz.2.1.1
        have kz2 := kz.2.1.2.1
        have kz3 := kz.2.1.2.2.1
        have q0 := hmn v.toNat (by omega)
        refine zv_aload_n S dX5_best_97 rfl (lv_at hl 1 rfl) ?_
        refine zv_iconst S dX5_best_98 ?_
        refine zv_put (C := RX5) (T := TX5) (N := 23) (ci := 5) (v := .int (zI 0)) S in_X5_best_X5 tyX5 tyX5_ok nmX5 hK hP hD hS 0 rfl rfl 22 (by decide) wd_X5_best_f100 rfl rfl rfl rfl (Nat.le_of_ble_eq_true rfl) dX5_best_99 (fun H locs hP hD hS => ?_)
        have hP : va_P G.1 vwCl [(h0, .inr (5, [.int (zI tn), .int (zI sh), .ref ym, .ref ya, .ref yb, .ref yc, .ref ye, .ref yp, .ref yq, .ref yo, .int (zI ro), .long (zL fi), .long (zL la), .long (zL lo), .long (zL hi), .int (zI co), .ref yk, .ref yw, .ref yi, .int (zI ge), .ref yx, .ref yy, .int (zI 0)])), zci G ym 8 MN, zci G ya 80 MA, zci G yb 80 MB, zci G yc 80 MC, zci G ye 80 ME, zcl G yp 10 P, zcl G yq 10 Qu, zcl G yo 10 M] H := hP
        have hD : va_D A [(h0, .inr (5, [.int (zI tn), .int (zI sh), .ref ym, .ref ya, .ref yb, .ref yc, .ref ye, .ref yp, .ref yq, .ref yo, .int (zI ro), .long (zL fi), .long (zL la), .long (zL lo), .long (zL hi), .int (zI co), .ref yk, .ref yw, .ref yi, .int (zI ge), .ref yx, .ref yy, .int (zI 0)])), zci G ym 8 MN, zci G ya 80 MA, zci G yb 80 MB, zci G yc 80 MC, zci G ye 80 ME, zcl G yp 10 P, zcl G yq 10 Qu, zcl G yo 10 M] := hD
        refine zv_aload_n S dX5_best_102 rfl (lv_at hl 1 rfl) ?_
        refine zv_iload_n S dX5_best_103 rfl (lv_at hl 2 rfl) ?_
        refine zv_iload_n S dX5_best_104 rfl (lv_at hl 3 rfl) ?_
        refine zv_iconst S dX5_best_105 ?_
        refine zv_iconst S dX5_best_106 ?_
        refine zc_Vv (As := [.int (zI v), .int (zI lt), .int (zI (-1)), .int (zI 0)]) (rest := []) (wr := []) (n := 4) S hN hK hP hD hS hA hl (c_X5_looks l G H.size h0 tn sh ym ya yb yc ye yp yq yo ro fi la lo hi co yk yw yi ge yx yy 0 MN MA MB MC ME P Qu M v lt (-1) 0 v.toNat ((MN v.toNat).toNat) (by omega) (by omega) (by omega) (by omega) hRA hRB (zmst_b1 hRC hRE (by omega) (by omega) kz1) (by omega) (Or.inl rfl) rfl) gX5_best_X5_looks rfl ⟨rfl, rfl⟩ (by decide +kernel) rfl ⟨Nat.le_of_ble_eq_true rfl, Nat.le_of_ble_eq_true rfl, Nat.le_of_ble_eq_true rfl, Nat.le_of_ble_eq_true rfl⟩ [0, 1, 2, 3, 4, 5, 6, 7, 8] [] rfl rfl (by decide) (by decide) (by decide) (ci := 5) rfl rfl rfl (Nat.le_of_ble_eq_true rfl) dX5_best_107 rfl (fun u_2 H1 locs1 hp_3 hP1 hD1 hS1 hz1 => ?_)
        obtain ⟨f1_4, l1_5, r1_6, P1_7, Q1_8, M1_9⟩ := u_2
        try dsimp only at hp_3 hP1 hD1
        obtain ⟨hp1_10, hq1_11, hm1_12, hlk1_13⟩ := hp_3
        generalize H1 = H at hP1 hD1 hS1 hz1 ⊢
        generalize locs1 = locs at hS1 ⊢
        have hS := hS1
        have hP : va_P G.1 vwCl [(h0, .inr (5, [.int (zI tn), .int (zI sh), .ref ym, .ref ya, .ref yb, .ref yc, .ref ye, .ref yp, .ref yq, .ref yo, .int (zI (MN v.toNat)), .long (zL f1_4), .long (zL l1_5), .long (zL lo), .long (zL hi), .int (zI co), .ref yk, .ref yw, .ref yi, .int (zI ge), .ref yx, .ref yy, .int (zI r1_6)])), zci G ym 8 MN, zci G ya 80 MA, zci G yb 80 MB, zci G yc 80 MC, zci G ye 80 ME, zcl G yp 10 P1_7, zcl G yq 10 Q1_8, zcl G yo 10 M1_9] H := hP1
        have hD : va_D A [(h0, .inr (5, [.int (zI tn), .int (zI sh), .ref ym, .ref ya, .ref yb, .ref yc, .ref ye, .ref yp, .ref yq, .ref yo, .int (zI (MN v.toNat)), .long (zL f1_4), .long (zL l1_5), .long (zL lo), .long (zL hi), .int (zI co), .ref yk, .ref yw, .ref yi, .int (zI ge), .ref yx, .ref yy, .int (zI r1_6)])), zci G ym 8 MN, zci G ya 80 MA, zci G yb 80 MB, zci G yc 80 MC, zci G ye 80 ME, zcl G yp 10 P1_7, zcl G yq 10 Q1_8, zcl G yo 10 M1_9] := hD1
        have hgd : zgood P1_7 Q1_8 M1_9 (MN v.toNat).toNat := zgood_cg (fun i hi => by rw [hp1_10, zfill_in hi]) (fun i hi => by rw [hq1_11, zfill_in hi]) (fun i hi => by rw [hm1_12, zfill_in hi]) (hgg kz0.1 kz0.2 kz.2.2 kz1.1 kz1.2)
        have klb := zlk_b hlk1_13
        have hpb : ∀ j, j < (MN v.toNat).toNat → -60 ≤ P1_7 j ∧ P1_7 j ≤ 60 := fun j hj => by rw [hp1_10, zfill_in hj]; exact hRA _ (by omega)
        have hqb : ∀ j, j < (MN v.toNat).toNat → -60 ≤ Q1_8 j ∧ Q1_8 j ≤ 60 := fun j hj => by rw [hq1_11, zfill_in hj]; exact hRB _ (by omega)
        have hmb : ∀ j, j < (MN v.toNat).toNat → -9000 ≤ M1_9 j ∧ M1_9 j ≤ 9000 := fun j hj => by rw [hm1_12, zfill_in hj]; exact (zmst_b1 hRC hRE (by omega) (by omega) kz1) j hj
        refine zv_iconst S dX5_best_110 ?_
        refine zv_istore (lv' := [(7, .int (zI 0)), (6, .int (zI are)), (0, .ref h0), (1, .int (zI v)), (2, .int (zI lt)), (3, .int (zI pp)), (4, .int (zI qq)), (5, .int (zI wt))]) S dX5_best_111 hl (by decide) rfl (fun ls hl => ?_)
        refine zv_lconst (v := 0) S dX5_best_113 (by decide) ?_
        refine zv_lstore (lv' := [(8, .long (zL 0)), (7, .int (zI 0)), (6, .int (zI are)), (0, .ref h0), (1, .int (zI v)), (2, .int (zI lt)), (3, .int (zI pp)), (4, .int (zI qq)), (5, .int (zI wt))]) S dX5_best_114 hl (by decide) rfl (fun ls hl => ?_)
        refine zv_lconst (v := 0) S dX5_best_116 (by decide) ?_
        refine zv_lstore (lv' := [(10, .long (zL 0)), (8, .long (zL 0)), (7, .int (zI 0)), (6, .int (zI are)), (0, .ref h0), (1, .int (zI v)), (2, .int (zI lt)), (3, .int (zI pp)), (4, .int (zI qq)), (5, .int (zI wt))]) S dX5_best_117 hl (by decide) rfl (fun ls hl => ?_)
        refine zv_lconst (v := 0) S dX5_best_119 (by decide) ?_
        refine zv_lstore (lv' := [(12, .long (zL 0)), (10, .long (zL 0)), (8, .long (zL 0)), (7, .int (zI 0)), (6, .int (zI are)), (0, .ref h0), (1, .int (zI v)), (2, .int (zI lt)), (3, .int (zI pp)), (4, .int (zI qq)), (5, .int (zI wt))]) S dX5_best_120 hl (by decide) rfl (fun ls hl => ?_)
        refine zv_aload_n S dX5_best_122 rfl (lv_at hl 5 rfl) ?_
        refine zv_get (C := RX5) (T := TX5) (N := 23) (ci := 5) (v := .long (zL f1_4)) S in_X5_best_X5 hK hP 0 rfl rfl 11 (by decide) wd_X5_best_f87 rfl rfl dX5_best_123 ?_
        refine zv_lstore (lv' := [(14, .long (zL f1_4)), (12, .long (zL 0)), (10, .long (zL 0)), (8, .long (zL 0)), (7, .int (zI 0)), (6, .int (zI are)), (0, .ref h0), (1, .int (zI v)), (2, .int (zI lt)), (3, .int (zI pp)), (4, .int (zI qq)), (5, .int (zI wt))]) S dX5_best_126 hl (by decide) rfl (fun ls hl => ?_)
        have LP128 : ∀ (nf : Nat) (x1 : Int) (fl : Int) (bs : Int) (bx : Int) (bY : Int) (lo1 : Int) (hi1 : Int) (hx1 : f1_4 ≤ x1 ∧ x1 ≤ 2000001) (hst : zbst P1_7 Q1_8 M1_9 (MN v.toNat).toNat pp qq x1 fl bx bY) (hbs : fl = 0 ∨ bs = pp * bx + qq * bY), ((2000001 - x1).toNat) < nf → ∀ (H : Heap) (locs : List Loc), va_P G.1 vwCl [(h0, .inr (5, [.int (zI tn), .int (zI sh), .ref ym, .ref ya, .ref yb, .ref yc, .ref ye, .ref yp, .ref yq, .ref yo, .int (zI (MN v.toNat)), .long (zL f1_4), .long (zL l1_5), .long (zL lo1), .long (zL hi1), .int (zI co), .ref yk, .ref yw, .ref yi, .int (zI ge), .ref yx, .ref yy, .int (zI r1_6)])), zci G ym 8 MN, zci G ya 80 MA, zci G yb 80 MB, zci G yc 80 MC, zci G ye 80 ME, zcl G yp 10 P1_7, zcl G yq 10 Q1_8, zcl G yo 10 M1_9] H → va_D A [(h0, .inr (5, [.int (zI tn), .int (zI sh), .ref ym, .ref ya, .ref yb, .ref yc, .ref ye, .ref yp, .ref yq, .ref yo, .int (zI (MN v.toNat)), .long (zL f1_4), .long (zL l1_5), .long (zL lo1), .long (zL hi1), .int (zI co), .ref yk, .ref yw, .ref yi, .int (zI ge), .ref yx, .ref yy, .int (zI r1_6)])), zci G ym 8 MN, zci G ya 80 MA, zci G yb 80 MB, zci G yc 80 MC, zci G ye 80 ME, zcl G yp 10 P1_7, zcl G yq 10 Q1_8, zcl G yo 10 M1_9] → va_S A s.heap H locs → ∀ ls : Array Slot, lv_has ls 20 [(14, .long (zL x1)), (12, .long (zL bY)), (10, .long (zL bx)), (8, .long (zL bs)), (7, .int (zI fl)), (6, .int (zI are)), (0, .ref h0), (1, .int (zI v)), (2, .int (zI lt)), (3, .int (zI pp)), (4, .int (zI qq)), (5, .int (zI wt))] → W p l e ({ frames := 3, cells := 0, slots := 0, locals := 87 }) s m ([.ref h0, .int (zI v), .int (zI lt), .int (zI pp), .int (zI qq), .int (zI wt)]).toArray below meth c H locs 0 0 Q (F0 m 128 ls []) := by
          intro nf
          induction nf with
          | zero =>
            intro x1 fl bs bx bY lo1 hi1 hx1 hst hbs hf
            exact absurd hf (Nat.not_lt_zero _)
          | succ nf ih128 =>
            intro x1 fl bs bx bY lo1 hi1 hx1 hst hbs hf H locs hP hD hS ls hl
            refine zv_lload S dX5_best_128 (lv_at hl 0 rfl) ?_
            refine zv_aload_n S dX5_best_130 rfl (lv_at hl 6 rfl) ?_
            refine zv_get (C := RX5) (T := TX5) (N := 23) (ci := 5) (v := .long (zL l1_5)) S in_X5_best_X5 hK hP 0 rfl rfl 12 (by decide) wd_X5_best_f91 rfl rfl dX5_best_131 ?_
            refine zv_lif_gt (tgt := 218) S (by unfold zS; omega) (by unfold zS; omega) dX5_best_134 dX5_best_135 (by decide) (fun c_14 => ?_) (fun c_14 => ?_)
            · refine zv_aload_n S dX5_best_218 rfl (lv_at hl 6 rfl) ?_
              have fl01 := zbs_01 hst
              refine zv_iload S dX5_best_219 (lv_at hl 4 rfl) ?_
              refine zv_if_eq (tgt := 228) S (by unfold zR; omega) dX5_best_221 (by decide) (fun c_15 => ?_) (fun c_15 => ?_)
              · refine zv_iconst S dX5_best_228 ?_
                refine zv_put (C := RX5) (T := TX5) (N := 23) (ci := 5) (v := .int (zI 3)) S in_X5_best_X5 tyX5 tyX5_ok nmX5 hK hP hD hS 0 rfl rfl 0 (by decide) wd_X5_best_f51 rfl rfl rfl rfl (Nat.le_of_ble_eq_true rfl) dX5_best_229 (fun H locs hP hD hS => ?_)
                have hP : va_P G.1 vwCl [(h0, .inr (5, [.int (zI 3), .int (zI sh), .ref ym, .ref ya, .ref yb, .ref yc, .ref ye, .ref yp, .ref yq, .ref yo, .int (zI (MN v.toNat)), .long (zL f1_4), .long (zL l1_5), .long (zL lo1), .long (zL hi1), .int (zI co), .ref yk, .ref yw, .ref yi, .int (zI ge), .ref yx, .ref yy, .int (zI r1_6)])), zci G ym 8 MN, zci G ya 80 MA, zci G yb 80 MB, zci G yc 80 MC, zci G ye 80 ME, zcl G yp 10 P1_7, zcl G yq 10 Q1_8, zcl G yo 10 M1_9] H := hP
                have hD : va_D A [(h0, .inr (5, [.int (zI 3), .int (zI sh), .ref ym, .ref ya, .ref yb, .ref yc, .ref ye, .ref yp, .ref yq, .ref yo, .int (zI (MN v.toNat)), .long (zL f1_4), .long (zL l1_5), .long (zL lo1), .long (zL hi1), .int (zI co), .ref yk, .ref yw, .ref yi, .int (zI ge), .ref yx, .ref yy, .int (zI r1_6)])), zci G ym 8 MN, zci G ya 80 MA, zci G yb 80 MB, zci G yc 80 MC, zci G ye 80 ME, zcl G yp 10 P1_7, zcl G yq 10 Q1_8, zcl G yo 10 M1_9] := hD
                refine zv_iload S dX5_best_232 (lv_at hl 11 rfl) ?_
                refine zv_if_ne (tgt := 242) S (by unfold zR; omega) dX5_best_234 (by decide) (fun c_16 => ?_) (fun c_16 => ?_)
                · refine zv_iload S dX5_best_242 (lv_at hl 11 rfl) ?_
                  refine zv_iconst S dX5_best_244 ?_
                  refine zv_icmp_ne (tgt := 253) S (by unfold zR; omega) (by unfold zR; omega) dX5_best_245 (by decide) (fun c_17 => ?_) (fun c_17 => ?_)
                  · refine zv_lload S dX5_best_253 (lv_at hl 1 rfl) ?_
                    refine zv_l2i S dX5_best_255 ?_
                    exact hret _ _ _ _ _ ⟨bY, 3, (MN v.toNat), f1_4, l1_5, r1_6, P1_7, Q1_8, M1_9, lo1, hi1⟩ dX5_best_256 ⟨rfl, (show zbestR (0 ≤ v ∧ v < sh) (zbok lt pp qq wt) (zpl (zrow MA v.toNat) (zrow MB v.toNat) (MN v.toNat).toNat) (zrow MA v.toNat) (zrow MB v.toNat) (zmst (-1) lt 0 MC ME v.toNat) (MN v.toNat).toNat pp qq wt bY 3 from (Or.inl ⟨rfl, kz.1, kz.2.1, kz.2.2, zbs_f0 (zbst_cg (fun i hi => by rw [hp1_10, zfill_in hi]) (fun i hi => by rw [hq1_11, zfill_in hi]) (fun i hi => by rw [hm1_12, zfill_in hi]) (zmb_e hgd hlk1_13 hx1.2 (by omega) hst)) c_15⟩))⟩ (hP.sub [0, 1, 2, 3, 4, 5, 6, 7, 8] rfl) (hD.sub [0, 1, 2, 3, 4, 5, 6, 7, 8] (by decide) rfl) hS
                  · refine zv_lload S dX5_best_248 (lv_at hl 2 rfl) ?_
                    refine zv_goto (tgt := 255) S dX5_best_250 (by decide) ?_
                    refine zv_l2i S dX5_best_255 ?_
                    exact hret _ _ _ _ _ ⟨bx, 3, (MN v.toNat), f1_4, l1_5, r1_6, P1_7, Q1_8, M1_9, lo1, hi1⟩ dX5_best_256 ⟨rfl, (show zbestR (0 ≤ v ∧ v < sh) (zbok lt pp qq wt) (zpl (zrow MA v.toNat) (zrow MB v.toNat) (MN v.toNat).toNat) (zrow MA v.toNat) (zrow MB v.toNat) (zmst (-1) lt 0 MC ME v.toNat) (MN v.toNat).toNat pp qq wt bx 3 from (Or.inl ⟨rfl, kz.1, kz.2.1, kz.2.2, zbs_f0 (zbst_cg (fun i hi => by rw [hp1_10, zfill_in hi]) (fun i hi => by rw [hq1_11, zfill_in hi]) (fun i hi => by rw [hm1_12, zfill_in hi]) (zmb_e hgd hlk1_13 hx1.2 (by omega) hst)) c_15⟩))⟩ (hP.sub [0, 1, 2, 3, 4, 5, 6, 7, 8] rfl) (hD.sub [0, 1, 2, 3, 4, 5, 6, 7, 8] (by decide) rfl) hS
                · refine zv_lload S dX5_best_237 (lv_at hl 3 rfl) ?_
                  refine zv_goto (tgt := 255) S dX5_best_239 (by decide) ?_
                  refine zv_l2i S dX5_best_255 ?_
                  exact hret _ _ _ _ _ ⟨bs, 3, (MN v.toNat), f1_4, l1_5, r1_6, P1_7, Q1_8, M1_9, lo1, hi1⟩ dX5_best_256 ⟨rfl, (show zbestR (0 ≤ v ∧ v < sh) (zbok lt pp qq wt) (zpl (zrow MA v.toNat) (zrow MB v.toNat) (MN v.toNat).toNat) (zrow MA v.toNat) (zrow MB v.toNat) (zmst (-1) lt 0 MC ME v.toNat) (MN v.toNat).toNat pp qq wt bs 3 from (Or.inl ⟨rfl, kz.1, kz.2.1, kz.2.2, zbs_f0 (zbst_cg (fun i hi => by rw [hp1_10, zfill_in hi]) (fun i hi => by rw [hq1_11, zfill_in hi]) (fun i hi => by rw [hm1_12, zfill_in hi]) (zmb_e hgd hlk1_13 hx1.2 (by omega) hst)) c_15⟩))⟩ (hP.sub [0, 1, 2, 3, 4, 5, 6, 7, 8] rfl) (hD.sub [0, 1, 2, 3, 4, 5, 6, 7, 8] (by decide) rfl) hS
              · refine zv_iconst S dX5_best_224 ?_
                refine zv_goto (tgt := 229) S dX5_best_225 (by decide) ?_
                refine zv_put (C := RX5) (T := TX5) (N := 23) (ci := 5) (v := .int (zI 0)) S in_X5_best_X5 tyX5 tyX5_ok nmX5 hK hP hD hS 0 rfl rfl 0 (by decide) wd_X5_best_f51 rfl rfl rfl rfl (Nat.le_of_ble_eq_true rfl) dX5_best_229 (fun H locs hP hD hS => ?_)
                have hP : va_P G.1 vwCl [(h0, .inr (5, [.int (zI 0), .int (zI sh), .ref ym, .ref ya, .ref yb, .ref yc, .ref ye, .ref yp, .ref yq, .ref yo, .int (zI (MN v.toNat)), .long (zL f1_4), .long (zL l1_5), .long (zL lo1), .long (zL hi1), .int (zI co), .ref yk, .ref yw, .ref yi, .int (zI ge), .ref yx, .ref yy, .int (zI r1_6)])), zci G ym 8 MN, zci G ya 80 MA, zci G yb 80 MB, zci G yc 80 MC, zci G ye 80 ME, zcl G yp 10 P1_7, zcl G yq 10 Q1_8, zcl G yo 10 M1_9] H := hP
                have hD : va_D A [(h0, .inr (5, [.int (zI 0), .int (zI sh), .ref ym, .ref ya, .ref yb, .ref yc, .ref ye, .ref yp, .ref yq, .ref yo, .int (zI (MN v.toNat)), .long (zL f1_4), .long (zL l1_5), .long (zL lo1), .long (zL hi1), .int (zI co), .ref yk, .ref yw, .ref yi, .int (zI ge), .ref yx, .ref yy, .int (zI r1_6)])), zci G ym 8 MN, zci G ya 80 MA, zci G yb 80 MB, zci G yc 80 MC, zci G ye 80 ME, zcl G yp 10 P1_7, zcl G yq 10 Q1_8, zcl G yo 10 M1_9] := hD
                refine zv_iload S dX5_best_232 (lv_at hl 11 rfl) ?_
                refine zv_if_ne (tgt := 242) S (by unfold zR; omega) dX5_best_234 (by decide) (fun c_18 => ?_) (fun c_18 => ?_)
                · refine zv_iload S dX5_best_242 (lv_at hl 11 rfl) ?_
                  refine zv_iconst S dX5_best_244 ?_
                  refine zv_icmp_ne (tgt := 253) S (by unfold zR; omega) (by unfold zR; omega) dX5_best_245 (by decide) (fun c_19 => ?_) (fun c_19 => ?_)
                  · refine zv_lload S dX5_best_253 (lv_at hl 1 rfl) ?_
                    refine zv_l2i S dX5_best_255 ?_
                    exact hret _ _ _ _ _ ⟨bY, 0, (MN v.toNat), f1_4, l1_5, r1_6, P1_7, Q1_8, M1_9, lo1, hi1⟩ dX5_best_256 ⟨rfl, (show zbestR (0 ≤ v ∧ v < sh) (zbok lt pp qq wt) (zpl (zrow MA v.toNat) (zrow MB v.toNat) (MN v.toNat).toNat) (zrow MA v.toNat) (zrow MB v.toNat) (zmst (-1) lt 0 MC ME v.toNat) (MN v.toNat).toNat pp qq wt bY 0 from (Or.inr ⟨Or.inr (Or.inr (Or.inr ⟨rfl, kz⟩)), fun _ => ⟨bx, bY, zbs_f1 (zbst_cg (fun i hi => by rw [hp1_10, zfill_in hi]) (fun i hi => by rw [hq1_11, zfill_in hi]) (fun i hi => by rw [hm1_12, zfill_in hi]) (zmb_e hgd hlk1_13 hx1.2 (by omega) hst)) c_15, (by unfold zwhat; rw [if_neg (by omega), if_neg (by omega)])⟩⟩))⟩ (hP.sub [0, 1, 2, 3, 4, 5, 6, 7, 8] rfl) (hD.sub [0, 1, 2, 3, 4, 5, 6, 7, 8] (by decide) rfl) hS
                  · refine zv_lload S dX5_best_248 (lv_at hl 2 rfl) ?_
                    refine zv_goto (tgt := 255) S dX5_best_250 (by decide) ?_
                    refine zv_l2i S dX5_best_255 ?_
                    exact hret _ _ _ _ _ ⟨bx, 0, (MN v.toNat), f1_4, l1_5, r1_6, P1_7, Q1_8, M1_9, lo1, hi1⟩ dX5_best_256 ⟨rfl, (show zbestR (0 ≤ v ∧ v < sh) (zbok lt pp qq wt) (zpl (zrow MA v.toNat) (zrow MB v.toNat) (MN v.toNat).toNat) (zrow MA v.toNat) (zrow MB v.toNat) (zmst (-1) lt 0 MC ME v.toNat) (MN v.toNat).toNat pp qq wt bx 0 from (Or.inr ⟨Or.inr (Or.inr (Or.inr ⟨rfl, kz⟩)), fun _ => ⟨bx, bY, zbs_f1 (zbst_cg (fun i hi => by rw [hp1_10, zfill_in hi]) (fun i hi => by rw [hq1_11, zfill_in hi]) (fun i hi => by rw [hm1_12, zfill_in hi]) (zmb_e hgd hlk1_13 hx1.2 (by omega) hst)) c_15, (by unfold zwhat; rw [if_neg (by omega), if_pos (by omega)])⟩⟩))⟩ (hP.sub [0, 1, 2, 3, 4, 5, 6, 7, 8] rfl) (hD.sub [0, 1, 2, 3, 4, 5, 6, 7, 8] (by decide) rfl) hS
                · refine zv_lload S dX5_best_237 (lv_at hl 3 rfl) ?_
                  refine zv_goto (tgt := 255) S dX5_best_239 (by decide) ?_
                  refine zv_l2i S dX5_best_255 ?_
                  exact hret _ _ _ _ _ ⟨bs, 0, (MN v.toNat), f1_4, l1_5, r1_6, P1_7, Q1_8, M1_9, lo1, hi1⟩ dX5_best_256 ⟨rfl, (show zbestR (0 ≤ v ∧ v < sh) (zbok lt pp qq wt) (zpl (zrow MA v.toNat) (zrow MB v.toNat) (MN v.toNat).toNat) (zrow MA v.toNat) (zrow MB v.toNat) (zmst (-1) lt 0 MC ME v.toNat) (MN v.toNat).toNat pp qq wt bs 0 from (Or.inr ⟨Or.inr (Or.inr (Or.inr ⟨rfl, kz⟩)), fun _ => ⟨bx, bY, zbs_f1 (zbst_cg (fun i hi => by rw [hp1_10, zfill_in hi]) (fun i hi => by rw [hq1_11, zfill_in hi]) (fun i hi => by rw [hm1_12, zfill_in hi]) (zmb_e hgd hlk1_13 hx1.2 (by omega) hst)) c_15, (by unfold zwhat; rw [if_pos (by omega)]; omega)⟩⟩))⟩ (hP.sub [0, 1, 2, 3, 4, 5, 6, 7, 8] rfl) (hD.sub [0, 1, 2, 3, 4, 5, 6, 7, 8] (by decide) rfl) hS
            · refine zv_aload_n S dX5_best_138 rfl (lv_at hl 6 rfl) ?_
              refine zv_lload S dX5_best_139 (lv_at hl 0 rfl) ?_
              refine zc_Vl (As := [.long (zL x1)]) (rest := []) (wr := [zci G ym 8 MN, zci G ya 80 MA, zci G yb 80 MB, zci G yc 80 MC, zci G ye 80 ME]) (n := 1) S hN hK hP hD hS hA hl (c_X5_column l G H.size h0 tn sh ym ya yb yc ye yp yq yo (MN v.toNat) f1_4 l1_5 lo1 hi1 co yk yw yi ge yx yy r1_6 P1_7 Q1_8 M1_9 ((MN v.toNat).toNat) x1 (by omega) (by omega) hpb hqb hmb hgd.1 hgd.2.1 (by omega)) gX5_best_X5_column rfl ⟨rfl, rfl⟩ (by decide +kernel) rfl ⟨Nat.le_of_ble_eq_true rfl, Nat.le_of_ble_eq_true rfl, Nat.le_of_ble_eq_true rfl, Nat.le_of_ble_eq_true rfl⟩ [0, 6, 7, 8] [1, 2, 3, 4, 5] rfl rfl (by decide) (by decide) (by decide) (ci := 5) rfl rfl rfl (Nat.le_of_ble_eq_true rfl) dX5_best_141 rfl (fun r_ u_20 H1 locs1 hp_21 hP1 hD1 hS1 hz1 => ?_)
              obtain ⟨rr_22, l1_23, h1_24⟩ := u_20
              try dsimp only at hp_21 hP1 hD1
              obtain ⟨rfl, hcol_25, hl1_26, hh1_27⟩ := hp_21
              generalize H1 = H at hP1 hD1 hS1 hz1 ⊢
              generalize locs1 = locs at hS1 ⊢
              have hS := hS1
              have hP : va_P G.1 vwCl [zci G ym 8 MN, zci G ya 80 MA, zci G yb 80 MB, zci G yc 80 MC, zci G ye 80 ME, (h0, .inr (5, [.int (zI tn), .int (zI sh), .ref ym, .ref ya, .ref yb, .ref yc, .ref ye, .ref yp, .ref yq, .ref yo, .int (zI (MN v.toNat)), .long (zL f1_4), .long (zL l1_5), .long (zL l1_23), .long (zL h1_24), .int (zI co), .ref yk, .ref yw, .ref yi, .int (zI ge), .ref yx, .ref yy, .int (zI r1_6)])), zcl G yp 10 P1_7, zcl G yq 10 Q1_8, zcl G yo 10 M1_9] H := hP1
              have hD : va_D A [zci G ym 8 MN, zci G ya 80 MA, zci G yb 80 MB, zci G yc 80 MC, zci G ye 80 ME, (h0, .inr (5, [.int (zI tn), .int (zI sh), .ref ym, .ref ya, .ref yb, .ref yc, .ref ye, .ref yp, .ref yq, .ref yo, .int (zI (MN v.toNat)), .long (zL f1_4), .long (zL l1_5), .long (zL l1_23), .long (zL h1_24), .int (zI co), .ref yk, .ref yw, .ref yi, .int (zI ge), .ref yx, .ref yy, .int (zI r1_6)])), zcl G yp 10 P1_7, zcl G yq 10 Q1_8, zcl G yo 10 M1_9] := hD1
              have hrb : 0 ≤ rr_22 ∧ rr_22 ≤ 4000001 := zcol_rb hgd hcol_25
              refine zv_lconst (v := 0) S dX5_best_144 (by decide) ?_
              refine zv_lif_le (tgt := 209) S (by unfold zS; omega) (by unfold zS; omega) dX5_best_145 dX5_best_146 (by decide) (fun c_28 => ?_) (fun c_28 => ?_)
              · refine zv_lload S dX5_best_209 (lv_at hl 0 rfl) ?_
                refine zv_lconst (v := 1) S dX5_best_211 (by decide) ?_
                refine zv_ladd S dX5_best_212 ?_
                refine zv_lstore (lv' := [(14, .long (zL (x1 + 1))), (12, .long (zL bY)), (10, .long (zL bx)), (8, .long (zL bs)), (7, .int (zI fl)), (6, .int (zI are)), (0, .ref h0), (1, .int (zI v)), (2, .int (zI lt)), (3, .int (zI pp)), (4, .int (zI qq)), (5, .int (zI wt))]) S dX5_best_213 hl (by decide) rfl (fun ls hl => ?_)
                refine zv_goto (tgt := 128) S dX5_best_215 (by decide) ?_
                exact ih128 (x1 + 1) fl bs bx bY l1_23 h1_24 (by omega) (zbs_no hst (zmb_none hcol_25 (by omega))) hbs (by omega) _ _ (hP.sub [5, 0, 1, 2, 3, 4, 6, 7, 8] rfl) (hD.sub [5, 0, 1, 2, 3, 4, 6, 7, 8] (by decide) rfl) hS _ (lv_sub hl [0, 1, 2, 3, 4, 5, 6, 7, 8, 9, 10, 11] rfl)
              · have JN165 : ∀ (yv : Int) (hyv : 0 < qq ∧ yv = h1_24 ∨ ¬ 0 < qq ∧ yv = l1_23) (H : Heap) (locs : List Loc), va_P G.1 vwCl [zci G ym 8 MN, zci G ya 80 MA, zci G yb 80 MB, zci G yc 80 MC, zci G ye 80 ME, (h0, .inr (5, [.int (zI tn), .int (zI sh), .ref ym, .ref ya, .ref yb, .ref yc, .ref ye, .ref yp, .ref yq, .ref yo, .int (zI (MN v.toNat)), .long (zL f1_4), .long (zL l1_5), .long (zL l1_23), .long (zL h1_24), .int (zI co), .ref yk, .ref yw, .ref yi, .int (zI ge), .ref yx, .ref yy, .int (zI r1_6)])), zcl G yp 10 P1_7, zcl G yq 10 Q1_8, zcl G yo 10 M1_9] H → va_D A [zci G ym 8 MN, zci G ya 80 MA, zci G yb 80 MB, zci G yc 80 MC, zci G ye 80 ME, (h0, .inr (5, [.int (zI tn), .int (zI sh), .ref ym, .ref ya, .ref yb, .ref yc, .ref ye, .ref yp, .ref yq, .ref yo, .int (zI (MN v.toNat)), .long (zL f1_4), .long (zL l1_5), .long (zL l1_23), .long (zL h1_24), .int (zI co), .ref yk, .ref yw, .ref yi, .int (zI ge), .ref yx, .ref yy, .int (zI r1_6)])), zcl G yp 10 P1_7, zcl G yq 10 Q1_8, zcl G yo 10 M1_9] → va_S A s.heap H locs → ∀ ls : Array Slot, lv_has ls 20 [(14, .long (zL x1)), (12, .long (zL bY)), (10, .long (zL bx)), (8, .long (zL bs)), (7, .int (zI fl)), (6, .int (zI are)), (0, .ref h0), (1, .int (zI v)), (2, .int (zI lt)), (3, .int (zI pp)), (4, .int (zI qq)), (5, .int (zI wt))] → W p l e ({ frames := 3, cells := 0, slots := 0, locals := 87 }) s m ([.ref h0, .int (zI v), .int (zI lt), .int (zI pp), .int (zI qq), .int (zI wt)]).toArray below meth c H locs 0 0 Q (F0 m 165 ls [.long (zL yv)]) := by
                  intro yv hyv H locs hP hD hS ls hl
                  have hen := zmb_end hgd hcol_25 (by omega) hyv
                  have enb := hen.2.1
                  have fl01 := zbs_01 hst
                  refine zv_lstore (lv' := [(16, .long (zL yv)), (14, .long (zL x1)), (12, .long (zL bY)), (10, .long (zL bx)), (8, .long (zL bs)), (7, .int (zI fl)), (6, .int (zI are)), (0, .ref h0), (1, .int (zI v)), (2, .int (zI lt)), (3, .int (zI pp)), (4, .int (zI qq)), (5, .int (zI wt))]) S dX5_best_165 hl (by decide) rfl (fun ls hl => ?_)
                  refine zv_iload_n S dX5_best_167 rfl (lv_at hl 10 rfl) ?_
                  refine zv_i2l S (by unfold zR; omega) dX5_best_168 ?_
                  refine zv_lload S dX5_best_169 (lv_at hl 1 rfl) ?_
                  refine zv_lmul S dX5_best_171 ?_
                  refine zv_iload S dX5_best_172 (lv_at hl 11 rfl) ?_
                  refine zv_i2l S (by unfold zR; omega) dX5_best_174 ?_
                  refine zv_lload S dX5_best_175 (lv_at hl 0 rfl) ?_
                  refine zv_lmul S dX5_best_177 ?_
                  refine zv_ladd S dX5_best_178 ?_
                  refine zv_lstore (lv' := [(18, .long (zL ((pp * x1) + (qq * yv)))), (16, .long (zL yv)), (14, .long (zL x1)), (12, .long (zL bY)), (10, .long (zL bx)), (8, .long (zL bs)), (7, .int (zI fl)), (6, .int (zI are)), (0, .ref h0), (1, .int (zI v)), (2, .int (zI lt)), (3, .int (zI pp)), (4, .int (zI qq)), (5, .int (zI wt))]) S dX5_best_179 hl (by decide) rfl (fun ls hl => ?_)
                  refine zv_iload S dX5_best_181 (lv_at hl 6 rfl) ?_
                  refine zv_if_eq (tgt := 194) S (by unfold zR; omega) dX5_best_183 (by decide) (fun c_29 => ?_) (fun c_29 => ?_)
                  · refine zv_lload S dX5_best_194 (lv_at hl 0 rfl) ?_
                    refine zv_lstore (lv' := [(8, .long (zL ((pp * x1) + (qq * yv)))), (18, .long (zL ((pp * x1) + (qq * yv)))), (16, .long (zL yv)), (14, .long (zL x1)), (12, .long (zL bY)), (10, .long (zL bx)), (7, .int (zI fl)), (6, .int (zI are)), (0, .ref h0), (1, .int (zI v)), (2, .int (zI lt)), (3, .int (zI pp)), (4, .int (zI qq)), (5, .int (zI wt))]) S dX5_best_196 hl (by decide) rfl (fun ls hl => ?_)
                    refine zv_lload S dX5_best_198 (lv_at hl 3 rfl) ?_
                    refine zv_lstore (lv' := [(10, .long (zL x1)), (8, .long (zL ((pp * x1) + (qq * yv)))), (18, .long (zL ((pp * x1) + (qq * yv)))), (16, .long (zL yv)), (14, .long (zL x1)), (12, .long (zL bY)), (7, .int (zI fl)), (6, .int (zI are)), (0, .ref h0), (1, .int (zI v)), (2, .int (zI lt)), (3, .int (zI pp)), (4, .int (zI qq)), (5, .int (zI wt))]) S dX5_best_200 hl (by decide) rfl (fun ls hl => ?_)
                    refine zv_lload S dX5_best_202 (lv_at hl 3 rfl) ?_
                    refine zv_lstore (lv' := [(12, .long (zL yv)), (10, .long (zL x1)), (8, .long (zL ((pp * x1) + (qq * yv)))), (18, .long (zL ((pp * x1) + (qq * yv)))), (16, .long (zL yv)), (14, .long (zL x1)), (7, .int (zI fl)), (6, .int (zI are)), (0, .ref h0), (1, .int (zI v)), (2, .int (zI lt)), (3, .int (zI pp)), (4, .int (zI qq)), (5, .int (zI wt))]) S dX5_best_204 hl (by decide) rfl (fun ls hl => ?_)
                    refine zv_iconst S dX5_best_206 ?_
                    refine zv_istore (lv' := [(7, .int (zI 1)), (12, .long (zL yv)), (10, .long (zL x1)), (8, .long (zL ((pp * x1) + (qq * yv)))), (18, .long (zL ((pp * x1) + (qq * yv)))), (16, .long (zL yv)), (14, .long (zL x1)), (6, .int (zI are)), (0, .ref h0), (1, .int (zI v)), (2, .int (zI lt)), (3, .int (zI pp)), (4, .int (zI qq)), (5, .int (zI wt))]) S dX5_best_207 hl (by decide) rfl (fun ls hl => ?_)
                    refine zv_lload S dX5_best_209 (lv_at hl 6 rfl) ?_
                    refine zv_lconst (v := 1) S dX5_best_211 (by decide) ?_
                    refine zv_ladd S dX5_best_212 ?_
                    refine zv_lstore (lv' := [(14, .long (zL (x1 + 1))), (7, .int (zI 1)), (12, .long (zL yv)), (10, .long (zL x1)), (8, .long (zL ((pp * x1) + (qq * yv)))), (18, .long (zL ((pp * x1) + (qq * yv)))), (16, .long (zL yv)), (6, .int (zI are)), (0, .ref h0), (1, .int (zI v)), (2, .int (zI lt)), (3, .int (zI pp)), (4, .int (zI qq)), (5, .int (zI wt))]) S dX5_best_213 hl (by decide) rfl (fun ls hl => ?_)
                    refine zv_goto (tgt := 128) S dX5_best_215 (by decide) ?_
                    exact ih128 (x1 + 1) 1 ((pp * x1) + (qq * yv)) x1 yv l1_23 h1_24 (by omega) (zbs_first hst (by omega) (by omega) (zmb_end hgd hcol_25 (by omega) hyv)) (Or.inr rfl) (by omega) _ _ (hP.sub [5, 0, 1, 2, 3, 4, 6, 7, 8] rfl) (hD.sub [5, 0, 1, 2, 3, 4, 6, 7, 8] (by decide) rfl) hS _ (lv_sub hl [0, 2, 3, 4, 1, 7, 8, 9, 10, 11, 12, 13] rfl)
                  · have hbb := zbs_bounds hst (by assumption) hx1.2
                    have e1 := zmulb (a := pp) (b := x1) (A := 99) (B := 2000000) (by omega) (by omega) (by omega) (by omega)
                    have e2 := zmulb (a := qq) (b := yv) (A := 99) (B := 2000000) (by omega) (by omega) (by omega) (by omega)
                    have e3 := zmulb (a := pp) (b := bx) (A := 99) (B := 2000000) (by omega) (by omega) (by omega) (by omega)
                    have e4 := zmulb (a := qq) (b := bY) (A := 99) (B := 2000000) (by omega) (by omega) (by omega) (by omega)
                    refine zv_lload S dX5_best_186 (lv_at hl 0 rfl) ?_
                    refine zv_lload S dX5_best_188 (lv_at hl 5 rfl) ?_
                    refine zv_lif_le (tgt := 206) S (by unfold zS; omega) (by unfold zS; omega) dX5_best_190 dX5_best_191 (by decide) (fun c_30 => ?_) (fun c_30 => ?_)
                    · refine zv_iconst S dX5_best_206 ?_
                      refine zv_istore (lv' := [(7, .int (zI 1)), (18, .long (zL ((pp * x1) + (qq * yv)))), (16, .long (zL yv)), (14, .long (zL x1)), (12, .long (zL bY)), (10, .long (zL bx)), (8, .long (zL bs)), (6, .int (zI are)), (0, .ref h0), (1, .int (zI v)), (2, .int (zI lt)), (3, .int (zI pp)), (4, .int (zI qq)), (5, .int (zI wt))]) S dX5_best_207 hl (by decide) rfl (fun ls hl => ?_)
                      refine zv_lload S dX5_best_209 (lv_at hl 3 rfl) ?_
                      refine zv_lconst (v := 1) S dX5_best_211 (by decide) ?_
                      refine zv_ladd S dX5_best_212 ?_
                      refine zv_lstore (lv' := [(14, .long (zL (x1 + 1))), (7, .int (zI 1)), (18, .long (zL ((pp * x1) + (qq * yv)))), (16, .long (zL yv)), (12, .long (zL bY)), (10, .long (zL bx)), (8, .long (zL bs)), (6, .int (zI are)), (0, .ref h0), (1, .int (zI v)), (2, .int (zI lt)), (3, .int (zI pp)), (4, .int (zI qq)), (5, .int (zI wt))]) S dX5_best_213 hl (by decide) rfl (fun ls hl => ?_)
                      refine zv_goto (tgt := 128) S dX5_best_215 (by decide) ?_
                      exact ih128 (x1 + 1) 1 bs bx bY l1_23 h1_24 (by omega) (zbs_keep1 hst c_29 (zmb_end hgd hcol_25 (by omega) hyv) (by omega)) (Or.inr (by omega)) (by omega) _ _ (hP.sub [5, 0, 1, 2, 3, 4, 6, 7, 8] rfl) (hD.sub [5, 0, 1, 2, 3, 4, 6, 7, 8] (by decide) rfl) hS _ (lv_sub hl [0, 4, 5, 6, 1, 7, 8, 9, 10, 11, 12, 13] rfl)
                    · refine zv_lload S dX5_best_194 (lv_at hl 0 rfl) ?_
                      refine zv_lstore (lv' := [(8, .long (zL ((pp * x1) + (qq * yv)))), (18, .long (zL ((pp * x1) + (qq * yv)))), (16, .long (zL yv)), (14, .long (zL x1)), (12, .long (zL bY)), (10, .long (zL bx)), (7, .int (zI fl)), (6, .int (zI are)), (0, .ref h0), (1, .int (zI v)), (2, .int (zI lt)), (3, .int (zI pp)), (4, .int (zI qq)), (5, .int (zI wt))]) S dX5_best_196 hl (by decide) rfl (fun ls hl => ?_)
                      refine zv_lload S dX5_best_198 (lv_at hl 3 rfl) ?_
                      refine zv_lstore (lv' := [(10, .long (zL x1)), (8, .long (zL ((pp * x1) + (qq * yv)))), (18, .long (zL ((pp * x1) + (qq * yv)))), (16, .long (zL yv)), (14, .long (zL x1)), (12, .long (zL bY)), (7, .int (zI fl)), (6, .int (zI are)), (0, .ref h0), (1, .int (zI v)), (2, .int (zI lt)), (3, .int (zI pp)), (4, .int (zI qq)), (5, .int (zI wt))]) S dX5_best_200 hl (by decide) rfl (fun ls hl => ?_)
                      refine zv_lload S dX5_best_202 (lv_at hl 3 rfl) ?_
                      refine zv_lstore (lv' := [(12, .long (zL yv)), (10, .long (zL x1)), (8, .long (zL ((pp * x1) + (qq * yv)))), (18, .long (zL ((pp * x1) + (qq * yv)))), (16, .long (zL yv)), (14, .long (zL x1)), (7, .int (zI fl)), (6, .int (zI are)), (0, .ref h0), (1, .int (zI v)), (2, .int (zI lt)), (3, .int (zI pp)), (4, .int (zI qq)), (5, .int (zI wt))]) S dX5_best_204 hl (by decide) rfl (fun ls hl => ?_)
                      refine zv_iconst S dX5_best_206 ?_
                      refine zv_istore (lv' := [(7, .int (zI 1)), (12, .long (zL yv)), (10, .long (zL x1)), (8, .long (zL ((pp * x1) + (qq * yv)))), (18, .long (zL ((pp * x1) + (qq * yv)))), (16, .long (zL yv)), (14, .long (zL x1)), (6, .int (zI are)), (0, .ref h0), (1, .int (zI v)), (2, .int (zI lt)), (3, .int (zI pp)), (4, .int (zI qq)), (5, .int (zI wt))]) S dX5_best_207 hl (by decide) rfl (fun ls hl => ?_)
                      refine zv_lload S dX5_best_209 (lv_at hl 6 rfl) ?_
                      refine zv_lconst (v := 1) S dX5_best_211 (by decide) ?_
                      refine zv_ladd S dX5_best_212 ?_
                      refine zv_lstore (lv' := [(14, .long (zL (x1 + 1))), (7, .int (zI 1)), (12, .long (zL yv)), (10, .long (zL x1)), (8, .long (zL ((pp * x1) + (qq * yv)))), (18, .long (zL ((pp * x1) + (qq * yv)))), (16, .long (zL yv)), (6, .int (zI are)), (0, .ref h0), (1, .int (zI v)), (2, .int (zI lt)), (3, .int (zI pp)), (4, .int (zI qq)), (5, .int (zI wt))]) S dX5_best_213 hl (by decide) rfl (fun ls hl => ?_)
                      refine zv_goto (tgt := 128) S dX5_best_215 (by decide) ?_
                      exact ih128 (x1 + 1) 1 ((pp * x1) + (qq * yv)) x1 yv l1_23 h1_24 (by omega) (zbs_better hst c_29 (by omega) (zmb_end hgd hcol_25 (by omega) hyv) (by omega)) (Or.inr rfl) (by omega) _ _ (hP.sub [5, 0, 1, 2, 3, 4, 6, 7, 8] rfl) (hD.sub [5, 0, 1, 2, 3, 4, 6, 7, 8] (by decide) rfl) hS _ (lv_sub hl [0, 2, 3, 4, 1, 7, 8, 9, 10, 11, 12, 13] rfl)
                refine zv_iload S dX5_best_149 (lv_at hl 10 rfl) ?_
                refine zv_if_le (tgt := 161) S (by unfold zR; omega) dX5_best_151 (by decide) (fun c_31 => ?_) (fun c_31 => ?_)
                · refine zv_aload_n S dX5_best_161 rfl (lv_at hl 6 rfl) ?_
                  refine zv_get (C := RX5) (T := TX5) (N := 23) (ci := 5) (v := .long (zL l1_23)) S in_X5_best_X5 hK hP 5 rfl rfl 13 (by decide) wd_X5_best_f107 rfl rfl dX5_best_162 ?_
                  exact JN165 l1_23 (by omega) _ _ hP hD hS _ (lv_sub hl [0, 1, 2, 3, 4, 5, 6, 7, 8, 9, 10, 11] rfl)
                · refine zv_aload_n S dX5_best_154 rfl (lv_at hl 6 rfl) ?_
                  refine zv_get (C := RX5) (T := TX5) (N := 23) (ci := 5) (v := .long (zL h1_24)) S in_X5_best_X5 hK hP 5 rfl rfl 14 (by decide) wd_X5_best_f104 rfl rfl dX5_best_155 ?_
                  refine zv_goto (tgt := 165) S dX5_best_158 (by decide) ?_
                  exact JN165 h1_24 (by omega) _ _ hP hD hS _ (lv_sub hl [0, 1, 2, 3, 4, 5, 6, 7, 8, 9, 10, 11] rfl)
        exact LP128 _ f1_4 0 0 0 0 lo hi (by omega) (zmb_0 hgd hlk1_13) (Or.inl rfl) (Nat.lt_succ_self _) _ _ hP hD hS _ (lv_sub hl [0, 1, 2, 3, 4, 5, 6, 7, 8, 9, 10, 11] rfl)
      · refine zv_iconst S dX5_best_95 ?_
        exact hret _ _ _ _ _ ⟨0, tn, ro, fi, la, ir, P, Qu, M, lo, hi⟩ dX5_best_96 ⟨rfl, (show zbestR (0 ≤ v ∧ v < sh) (zbok lt pp qq wt) (zpl (zrow MA v.toNat) (zrow MB v.toNat) (MN v.toNat).toNat) (zrow MA v.toNat) (zrow MB v.toNat) (zmst (-1) lt 0 MC ME v.toNat) (MN v.toNat).toNat pp qq wt 0 tn from (Or.inr ⟨htn, fun z => absurd z c_1⟩))⟩ (hP.sub [0, 1, 2, 3, 4, 5, 6, 7, 8] rfl) (hD.sub [0, 1, 2, 3, 4, 5, 6, 7, 8] (by decide) rfl) hS
    refine zv_aload_n S dX5_best_50 rfl (lv_at hl 1 rfl) ?_
    refine zv_aload_n S dX5_best_51 rfl (lv_at hl 1 rfl) ?_
    refine zv_iload_n S dX5_best_52 rfl (lv_at hl 2 rfl) ?_
    refine zc_Vi (As := [.int (zI v)]) (rest := [.ref h0]) (wr := [zci G ym 8 MN, zci G ya 80 MA, zci G yb 80 MB, zci G yc 80 MC, zci G ye 80 ME, zcl G yp 10 P, zcl G yq 10 Qu, zcl G yo 10 M]) (n := 1) S hN hK hP hD hS hA hl (c_X5_isShape l G H.size h0 th sh ym ya yb yc ye yp yq yo ro fi la lo hi co yk yw yi ge yx yy ir v (by omega) (by omega)) gX5_best_X5_isShape rfl ⟨rfl, rfl⟩ (by decide +kernel) rfl ⟨Nat.le_of_ble_eq_true rfl, Nat.le_of_ble_eq_true rfl, Nat.le_of_ble_eq_true rfl, Nat.le_of_ble_eq_true rfl⟩ [0] [1, 2, 3, 4, 5, 6, 7, 8] rfl rfl (by decide) (by decide) (by decide) (ci := 5) rfl rfl rfl (Nat.le_of_ble_eq_true rfl) dX5_best_53 rfl (fun r_ u_32 H1 locs1 hp_33 hP1 hD1 hS1 hz1 => ?_)
    try dsimp only at hp_33 hP1 hD1
    subst hp_33
    generalize H1 = H at hP1 hD1 hS1 hz1 ⊢
    generalize locs1 = locs at hS1 ⊢
    have hS := hS1
    have hP : va_P G.1 vwCl [zci G ym 8 MN, zci G ya 80 MA, zci G yb 80 MB, zci G yc 80 MC, zci G ye 80 ME, zcl G yp 10 P, zcl G yq 10 Qu, zcl G yo 10 M, (h0, .inr (5, [.int (zI th), .int (zI sh), .ref ym, .ref ya, .ref yb, .ref yc, .ref ye, .ref yp, .ref yq, .ref yo, .int (zI ro), .long (zL fi), .long (zL la), .long (zL lo), .long (zL hi), .int (zI co), .ref yk, .ref yw, .ref yi, .int (zI ge), .ref yx, .ref yy, .int (zI ir)]))] H := hP1
    have hD : va_D A [zci G ym 8 MN, zci G ya 80 MA, zci G yb 80 MB, zci G yc 80 MC, zci G ye 80 ME, zcl G yp 10 P, zcl G yq 10 Qu, zcl G yo 10 M, (h0, .inr (5, [.int (zI th), .int (zI sh), .ref ym, .ref ya, .ref yb, .ref yc, .ref ye, .ref yp, .ref yq, .ref yo, .int (zI ro), .long (zL fi), .long (zL la), .long (zL lo), .long (zL hi), .int (zI co), .ref yk, .ref yw, .ref yi, .int (zI ge), .ref yx, .ref yy, .int (zI ir)]))] := hD1
    refine zv_ifb_ne (tgt := 63) S dX5_best_56 (by decide) (fun c_34 => ?_) (fun c_34 => ?_)
    · refine zv_iload S dX5_best_63 (lv_at hl 0 rfl) ?_
      refine zv_if_ne (tgt := 72) S (by unfold zR; omega) dX5_best_65 (by decide) (fun c_35 => ?_) (fun c_35 => ?_)
      · have q0 := hmn v.toNat (by omega)
        refine zv_aload_n S dX5_best_72 rfl (lv_at hl 1 rfl) ?_
        refine zv_iload_n S dX5_best_73 rfl (lv_at hl 2 rfl) ?_
        refine zc_Vi (As := [.int (zI v)]) (rest := [.ref h0]) (wr := [zci G yc 80 MC, zci G ye 80 ME, zcl G yp 10 P, zcl G yq 10 Qu, zcl G yo 10 M]) (n := 1) S hN hK hP hD hS hA hl (c_X5_holds l G H.size h0 th sh ym ya yb yc ye yp yq yo ro fi la lo hi co yk yw yi ge yx yy ir MN MA MB v v.toNat ((MN v.toNat).toNat) (by omega) (by omega) (by omega) (by omega) hRA hRB) gX5_best_X5_holds rfl ⟨rfl, rfl⟩ (by decide +kernel) rfl ⟨Nat.le_of_ble_eq_true rfl, Nat.le_of_ble_eq_true rfl, Nat.le_of_ble_eq_true rfl, Nat.le_of_ble_eq_true rfl⟩ [8, 0, 1, 2] [3, 4, 5, 6, 7] rfl rfl (by decide) (by decide) (by decide) (ci := 5) rfl rfl rfl (Nat.le_of_ble_eq_true rfl) dX5_best_74 rfl (fun r_ u_36 H1 locs1 hp_37 hP1 hD1 hS1 hz1 => ?_)
        try dsimp only at hp_37 hP1 hD1
        subst hp_37
        generalize H1 = H at hP1 hD1 hS1 hz1 ⊢
        generalize locs1 = locs at hS1 ⊢
        have hS := hS1
        have hP : va_P G.1 vwCl [zci G yc 80 MC, zci G ye 80 ME, zcl G yp 10 P, zcl G yq 10 Qu, zcl G yo 10 M, (h0, .inr (5, [.int (zI th), .int (zI sh), .ref ym, .ref ya, .ref yb, .ref yc, .ref ye, .ref yp, .ref yq, .ref yo, .int (zI ro), .long (zL fi), .long (zL la), .long (zL lo), .long (zL hi), .int (zI co), .ref yk, .ref yw, .ref yi, .int (zI ge), .ref yx, .ref yy, .int (zI ir)])), zci G ym 8 MN, zci G ya 80 MA, zci G yb 80 MB] H := hP1
        have hD : va_D A [zci G yc 80 MC, zci G ye 80 ME, zcl G yp 10 P, zcl G yq 10 Qu, zcl G yo 10 M, (h0, .inr (5, [.int (zI th), .int (zI sh), .ref ym, .ref ya, .ref yb, .ref yc, .ref ye, .ref yp, .ref yq, .ref yo, .int (zI ro), .long (zL fi), .long (zL la), .long (zL lo), .long (zL hi), .int (zI co), .ref yk, .ref yw, .ref yi, .int (zI ge), .ref yx, .ref yy, .int (zI ir)])), zci G ym 8 MN, zci G ya 80 MA, zci G yb 80 MB] := hD1
        refine zv_ifb_ne (tgt := 84) S dX5_best_77 (by decide) (fun c_38 => ?_) (fun c_38 => ?_)
        · refine zv_iconst S dX5_best_84 ?_
          exact JN85 0 (Or.inr (Or.inr (Or.inr ⟨rfl, c_34, zb_iff1.mp (hare.symm.trans (by omega)), c_38⟩))) _ _ (hP.sub [5, 6, 7, 8, 0, 1, 2, 3, 4] rfl) (hD.sub [5, 6, 7, 8, 0, 1, 2, 3, 4] (by decide) rfl) hS _ (lv_sub hl [0, 1, 2, 3, 4, 5, 6] rfl)
        · refine zv_iconst S dX5_best_80 ?_
          refine zv_goto (tgt := 85) S dX5_best_81 (by decide) ?_
          exact JN85 3 (Or.inr (Or.inr (Or.inl ⟨rfl, c_34, zb_iff1.mp (hare.symm.trans (by omega)), c_38⟩))) _ _ (hP.sub [5, 6, 7, 8, 0, 1, 2, 3, 4] rfl) (hD.sub [5, 6, 7, 8, 0, 1, 2, 3, 4] (by decide) rfl) hS _ (lv_sub hl [0, 1, 2, 3, 4, 5, 6] rfl)
      · refine zv_iconst S dX5_best_68 ?_
        refine zv_goto (tgt := 85) S dX5_best_69 (by decide) ?_
        exact JN85 2 (Or.inr (Or.inl ⟨rfl, c_34, fun z => absurd (hare.trans (zb_t z)) (by omega)⟩)) _ _ (hP.sub [8, 0, 1, 2, 3, 4, 5, 6, 7] rfl) (hD.sub [8, 0, 1, 2, 3, 4, 5, 6, 7] (by decide) rfl) hS _ (lv_sub hl [0, 1, 2, 3, 4, 5, 6] rfl)
    · refine zv_iconst S dX5_best_59 ?_
      refine zv_goto (tgt := 85) S dX5_best_60 (by decide) ?_
      exact JN85 1 (Or.inl ⟨rfl, c_34⟩) _ _ (hP.sub [8, 0, 1, 2, 3, 4, 5, 6, 7] rfl) (hD.sub [8, 0, 1, 2, 3, 4, 5, 6, 7] (by decide) rfl) hS _ (lv_sub hl [0, 1, 2, 3, 4, 5, 6] rfl)
  refine zv_iload_n S dX5_best_0 rfl (lv_at hl 2 rfl) ?_
  refine zv_iconst S dX5_best_1 ?_
  refine zv_bipush (v := 9) S dX5_best_2 (by decide) ?_
  refine zc_Si (As := [.int (zI lt), .int (zI 0), .int (zI 9)]) (rest := []) (wr := [(h0, .inr (5, [.int (zI th), .int (zI sh), .ref ym, .ref ya, .ref yb, .ref yc, .ref ye, .ref yp, .ref yq, .ref yo, .int (zI ro), .long (zL fi), .long (zL la), .long (zL lo), .long (zL hi), .int (zI co), .ref yk, .ref yw, .ref yi, .int (zI ge), .ref yx, .ref yy, .int (zI ir)])), zci G ym 8 MN, zci G ya 80 MA, zci G yb 80 MB, zci G yc 80 MC, zci G ye 80 ME, zcl G yp 10 P, zcl G yq 10 Qu, zcl G yo 10 M]) (n := 3) S hN hK hP hD hS hA hl (c_X5_in l G s.heap.size lt 0 9 (by omega) (by omega) (by omega)) gX5_best_X5_in rfl ⟨rfl, rfl⟩ (by decide +kernel) rfl ⟨Nat.le_of_ble_eq_true rfl, Nat.le_of_ble_eq_true rfl, Nat.le_of_ble_eq_true rfl, Nat.le_of_ble_eq_true rfl⟩ [] [0, 1, 2, 3, 4, 5, 6, 7, 8] rfl rfl (by decide) (by decide) (by decide) (Nat.le_of_ble_eq_true rfl) dX5_best_4 rfl (fun r_ u_39 H1 locs1 hp_40 hP1 hD1 hS1 hz1 => ?_)
  try dsimp only at hp_40 hP1 hD1
  subst hp_40
  generalize H1 = H at hP1 hD1 hS1 hz1 ⊢
  generalize locs1 = locs at hS1 ⊢
  have hS := hS1
  have hP : va_P G.1 vwCl [(h0, .inr (5, [.int (zI th), .int (zI sh), .ref ym, .ref ya, .ref yb, .ref yc, .ref ye, .ref yp, .ref yq, .ref yo, .int (zI ro), .long (zL fi), .long (zL la), .long (zL lo), .long (zL hi), .int (zI co), .ref yk, .ref yw, .ref yi, .int (zI ge), .ref yx, .ref yy, .int (zI ir)])), zci G ym 8 MN, zci G ya 80 MA, zci G yb 80 MB, zci G yc 80 MC, zci G ye 80 ME, zcl G yp 10 P, zcl G yq 10 Qu, zcl G yo 10 M] H := hP1
  have hD : va_D A [(h0, .inr (5, [.int (zI th), .int (zI sh), .ref ym, .ref ya, .ref yb, .ref yc, .ref ye, .ref yp, .ref yq, .ref yo, .int (zI ro), .long (zL fi), .long (zL la), .long (zL lo), .long (zL hi), .int (zI co), .ref yk, .ref yw, .ref yi, .int (zI ge), .ref yx, .ref yy, .int (zI ir)])), zci G ym 8 MN, zci G ya 80 MA, zci G yb 80 MB, zci G yc 80 MC, zci G ye 80 ME, zcl G yp 10 P, zcl G yq 10 Qu, zcl G yo 10 M] := hD1
  refine zv_ifb_eq (tgt := 47) S dX5_best_7 (by decide) (fun c_41 => ?_) (fun c_41 => ?_)
  · refine zv_iconst S dX5_best_47 ?_
    exact JN48 0 (zb_f (fun z => c_41 z.1)).symm (Or.inl rfl) _ _ hP hD hS _ (lv_sub hl [0, 1, 2, 3, 4, 5] rfl)
  · refine zv_iload_n S dX5_best_10 rfl (lv_at hl 3 rfl) ?_
    refine zv_bipush (v := (-99)) S dX5_best_11 (by decide) ?_
    refine zv_bipush (v := 99) S dX5_best_13 (by decide) ?_
    refine zc_Si (As := [.int (zI pp), .int (zI (-99)), .int (zI 99)]) (rest := []) (wr := [(h0, .inr (5, [.int (zI th), .int (zI sh), .ref ym, .ref ya, .ref yb, .ref yc, .ref ye, .ref yp, .ref yq, .ref yo, .int (zI ro), .long (zL fi), .long (zL la), .long (zL lo), .long (zL hi), .int (zI co), .ref yk, .ref yw, .ref yi, .int (zI ge), .ref yx, .ref yy, .int (zI ir)])), zci G ym 8 MN, zci G ya 80 MA, zci G yb 80 MB, zci G yc 80 MC, zci G ye 80 ME, zcl G yp 10 P, zcl G yq 10 Qu, zcl G yo 10 M]) (n := 3) S hN hK hP hD hS hA hl (c_X5_in l G H.size pp (-99) 99 (by omega) (by omega) (by omega)) gX5_best_X5_in rfl ⟨rfl, rfl⟩ (by decide +kernel) rfl ⟨Nat.le_of_ble_eq_true rfl, Nat.le_of_ble_eq_true rfl, Nat.le_of_ble_eq_true rfl, Nat.le_of_ble_eq_true rfl⟩ [] [0, 1, 2, 3, 4, 5, 6, 7, 8] rfl rfl (by decide) (by decide) (by decide) (Nat.le_of_ble_eq_true rfl) dX5_best_15 rfl (fun r_ u_42 H1 locs1 hp_43 hP1 hD1 hS1 hz1 => ?_)
    try dsimp only at hp_43 hP1 hD1
    subst hp_43
    generalize H1 = H at hP1 hD1 hS1 hz1 ⊢
    generalize locs1 = locs at hS1 ⊢
    have hS := hS1
    have hP : va_P G.1 vwCl [(h0, .inr (5, [.int (zI th), .int (zI sh), .ref ym, .ref ya, .ref yb, .ref yc, .ref ye, .ref yp, .ref yq, .ref yo, .int (zI ro), .long (zL fi), .long (zL la), .long (zL lo), .long (zL hi), .int (zI co), .ref yk, .ref yw, .ref yi, .int (zI ge), .ref yx, .ref yy, .int (zI ir)])), zci G ym 8 MN, zci G ya 80 MA, zci G yb 80 MB, zci G yc 80 MC, zci G ye 80 ME, zcl G yp 10 P, zcl G yq 10 Qu, zcl G yo 10 M] H := hP1
    have hD : va_D A [(h0, .inr (5, [.int (zI th), .int (zI sh), .ref ym, .ref ya, .ref yb, .ref yc, .ref ye, .ref yp, .ref yq, .ref yo, .int (zI ro), .long (zL fi), .long (zL la), .long (zL lo), .long (zL hi), .int (zI co), .ref yk, .ref yw, .ref yi, .int (zI ge), .ref yx, .ref yy, .int (zI ir)])), zci G ym 8 MN, zci G ya 80 MA, zci G yb 80 MB, zci G yc 80 MC, zci G ye 80 ME, zcl G yp 10 P, zcl G yq 10 Qu, zcl G yo 10 M] := hD1
    refine zv_ifb_eq (tgt := 47) S dX5_best_18 (by decide) (fun c_44 => ?_) (fun c_44 => ?_)
    · refine zv_iconst S dX5_best_47 ?_
      exact JN48 0 (zb_f (fun z => c_44 z.2.1)).symm (Or.inl rfl) _ _ hP hD hS _ (lv_sub hl [0, 1, 2, 3, 4, 5] rfl)
    · refine zv_iload S dX5_best_21 (lv_at hl 4 rfl) ?_
      refine zv_bipush (v := (-99)) S dX5_best_23 (by decide) ?_
      refine zv_bipush (v := 99) S dX5_best_25 (by decide) ?_
      refine zc_Si (As := [.int (zI qq), .int (zI (-99)), .int (zI 99)]) (rest := []) (wr := [(h0, .inr (5, [.int (zI th), .int (zI sh), .ref ym, .ref ya, .ref yb, .ref yc, .ref ye, .ref yp, .ref yq, .ref yo, .int (zI ro), .long (zL fi), .long (zL la), .long (zL lo), .long (zL hi), .int (zI co), .ref yk, .ref yw, .ref yi, .int (zI ge), .ref yx, .ref yy, .int (zI ir)])), zci G ym 8 MN, zci G ya 80 MA, zci G yb 80 MB, zci G yc 80 MC, zci G ye 80 ME, zcl G yp 10 P, zcl G yq 10 Qu, zcl G yo 10 M]) (n := 3) S hN hK hP hD hS hA hl (c_X5_in l G H.size qq (-99) 99 (by omega) (by omega) (by omega)) gX5_best_X5_in rfl ⟨rfl, rfl⟩ (by decide +kernel) rfl ⟨Nat.le_of_ble_eq_true rfl, Nat.le_of_ble_eq_true rfl, Nat.le_of_ble_eq_true rfl, Nat.le_of_ble_eq_true rfl⟩ [] [0, 1, 2, 3, 4, 5, 6, 7, 8] rfl rfl (by decide) (by decide) (by decide) (Nat.le_of_ble_eq_true rfl) dX5_best_27 rfl (fun r_ u_45 H1 locs1 hp_46 hP1 hD1 hS1 hz1 => ?_)
      try dsimp only at hp_46 hP1 hD1
      subst hp_46
      generalize H1 = H at hP1 hD1 hS1 hz1 ⊢
      generalize locs1 = locs at hS1 ⊢
      have hS := hS1
      have hP : va_P G.1 vwCl [(h0, .inr (5, [.int (zI th), .int (zI sh), .ref ym, .ref ya, .ref yb, .ref yc, .ref ye, .ref yp, .ref yq, .ref yo, .int (zI ro), .long (zL fi), .long (zL la), .long (zL lo), .long (zL hi), .int (zI co), .ref yk, .ref yw, .ref yi, .int (zI ge), .ref yx, .ref yy, .int (zI ir)])), zci G ym 8 MN, zci G ya 80 MA, zci G yb 80 MB, zci G yc 80 MC, zci G ye 80 ME, zcl G yp 10 P, zcl G yq 10 Qu, zcl G yo 10 M] H := hP1
      have hD : va_D A [(h0, .inr (5, [.int (zI th), .int (zI sh), .ref ym, .ref ya, .ref yb, .ref yc, .ref ye, .ref yp, .ref yq, .ref yo, .int (zI ro), .long (zL fi), .long (zL la), .long (zL lo), .long (zL hi), .int (zI co), .ref yk, .ref yw, .ref yi, .int (zI ge), .ref yx, .ref yy, .int (zI ir)])), zci G ym 8 MN, zci G ya 80 MA, zci G yb 80 MB, zci G yc 80 MC, zci G ye 80 ME, zcl G yp 10 P, zcl G yq 10 Qu, zcl G yo 10 M] := hD1
      refine zv_ifb_eq (tgt := 47) S dX5_best_30 (by decide) (fun c_47 => ?_) (fun c_47 => ?_)
      · refine zv_iconst S dX5_best_47 ?_
        exact JN48 0 (zb_f (fun z => c_47 z.2.2.1)).symm (Or.inl rfl) _ _ hP hD hS _ (lv_sub hl [0, 1, 2, 3, 4, 5] rfl)
      · refine zv_iload S dX5_best_33 (lv_at hl 5 rfl) ?_
        refine zv_iconst S dX5_best_35 ?_
        refine zv_iconst S dX5_best_36 ?_
        refine zc_Si (As := [.int (zI wt), .int (zI 0), .int (zI 2)]) (rest := []) (wr := [(h0, .inr (5, [.int (zI th), .int (zI sh), .ref ym, .ref ya, .ref yb, .ref yc, .ref ye, .ref yp, .ref yq, .ref yo, .int (zI ro), .long (zL fi), .long (zL la), .long (zL lo), .long (zL hi), .int (zI co), .ref yk, .ref yw, .ref yi, .int (zI ge), .ref yx, .ref yy, .int (zI ir)])), zci G ym 8 MN, zci G ya 80 MA, zci G yb 80 MB, zci G yc 80 MC, zci G ye 80 ME, zcl G yp 10 P, zcl G yq 10 Qu, zcl G yo 10 M]) (n := 3) S hN hK hP hD hS hA hl (c_X5_in l G H.size wt 0 2 (by omega) (by omega) (by omega)) gX5_best_X5_in rfl ⟨rfl, rfl⟩ (by decide +kernel) rfl ⟨Nat.le_of_ble_eq_true rfl, Nat.le_of_ble_eq_true rfl, Nat.le_of_ble_eq_true rfl, Nat.le_of_ble_eq_true rfl⟩ [] [0, 1, 2, 3, 4, 5, 6, 7, 8] rfl rfl (by decide) (by decide) (by decide) (Nat.le_of_ble_eq_true rfl) dX5_best_37 rfl (fun r_ u_48 H1 locs1 hp_49 hP1 hD1 hS1 hz1 => ?_)
        try dsimp only at hp_49 hP1 hD1
        subst hp_49
        generalize H1 = H at hP1 hD1 hS1 hz1 ⊢
        generalize locs1 = locs at hS1 ⊢
        have hS := hS1
        have hP : va_P G.1 vwCl [(h0, .inr (5, [.int (zI th), .int (zI sh), .ref ym, .ref ya, .ref yb, .ref yc, .ref ye, .ref yp, .ref yq, .ref yo, .int (zI ro), .long (zL fi), .long (zL la), .long (zL lo), .long (zL hi), .int (zI co), .ref yk, .ref yw, .ref yi, .int (zI ge), .ref yx, .ref yy, .int (zI ir)])), zci G ym 8 MN, zci G ya 80 MA, zci G yb 80 MB, zci G yc 80 MC, zci G ye 80 ME, zcl G yp 10 P, zcl G yq 10 Qu, zcl G yo 10 M] H := hP1
        have hD : va_D A [(h0, .inr (5, [.int (zI th), .int (zI sh), .ref ym, .ref ya, .ref yb, .ref yc, .ref ye, .ref yp, .ref yq, .ref yo, .int (zI ro), .long (zL fi), .long (zL la), .long (zL lo), .long (zL hi), .int (zI co), .ref yk, .ref yw, .ref yi, .int (zI ge), .ref yx, .ref yy, .int (zI ir)])), zci G ym 8 MN, zci G ya 80 MA, zci G yb 80 MB, zci G yc 80 MC, zci G ye 80 ME, zcl G yp 10 P, zcl G yq 10 Qu, zcl G yo 10 M] := hD1
        refine zv_ifb_eq (tgt := 47) S dX5_best_40 (by decide) (fun c_50 => ?_) (fun c_50 => ?_)
        · refine zv_iconst S dX5_best_47 ?_
          exact JN48 0 (zb_f (fun z => c_50 z.2.2.2)).symm (Or.inl rfl) _ _ hP hD hS _ (lv_sub hl [0, 1, 2, 3, 4, 5] rfl)
        · refine zv_iconst S dX5_best_43 ?_
          refine zv_goto (tgt := 48) S dX5_best_44 (by decide) ?_
          exact JN48 1 (zb_t ⟨c_41, c_44, c_47, c_50⟩).symm (Or.inr rfl) _ _ hP hD hS _ (lv_sub hl [0, 1, 2, 3, 4, 5] rfl)
