theorem wd_X5_coin_f51 : Cond.fieldLink RX5 51 "PointMillModel" "thrown" "I" ∈ wsX5_coin := by decide +kernel
theorem in_X5_coin_X5 : ∀ w ∈ wsX50, w ∈ wsX5_coin := by decide +kernel
theorem wd_X5_coin_f145 : Cond.fieldLink RX5 145 "PointMillModel" "coins" "I" ∈ wsX5_coin := by decide +kernel
theorem wd_X5_coin_f35 : Cond.fieldLink RX5 35 "PointMillModel" "isCoin" "[Z" ∈ wsX5_coin := by decide +kernel
set_option maxHeartbeats 4000000 in
set_option maxRecDepth 100000 in
/-- the model: coin -/
theorem c_X5_coin (l : Launch) (G : zG) (sz : Nat) (h0 : Nat) (th : Int) (sh : Int) (ym : Nat) (ya : Nat) (yb : Nat) (yc : Nat) (ye : Nat) (yp : Nat) (yq : Nat) (yo : Nat) (ro : Int) (fi : Int) (la : Int) (lo : Int) (hi : Int) (co : Int) (yk : Nat) (yw : Nat) (yi : Nat) (ge : Int) (yx : Nat) (yy : Nat) (ir : Int) (K : Nat → Int) (v : Int) (hKb : ∀ j, j < 61 → K j = 0 ∨ K j = 1) (hco : 0 ≤ co ∧ co ≤ 60) (hv : -2147483648 ≤ v ∧ v < 2147483648) : Met l yX5_coin wsX5_coin ({ frames := 1, cells := 0, slots := 0, locals := 22 }) (va_Pc [.ref h0, .int (zI v)] (zPre G sz [(h0, .inr (5, [.int (zI th), .int (zI sh), .ref ym, .ref ya, .ref yb, .ref yc, .ref ye, .ref yp, .ref yq, .ref yo, .int (zI ro), .long (zL fi), .long (zL la), .long (zL lo), .long (zL hi), .int (zI co), .ref yk, .ref yw, .ref yi, .int (zI ge), .ref yx, .ref yy, .int (zI ir)])), zcz G yk 61 K])) (va_Qi (fun (r : Int32) (u : (Int) × (Int) × (Int) × (Nat → Int)) => r = zI u.1 ∧ (zcoinR K co v u.1 u.2.1 u.2.2.1 u.2.2.2)) (fun u => zW G (va_A [(h0, .inr (5, [.int (zI th), .int (zI sh), .ref ym, .ref ya, .ref yb, .ref yc, .ref ye, .ref yp, .ref yq, .ref yo, .int (zI ro), .long (zL fi), .long (zL la), .long (zL lo), .long (zL hi), .int (zI co), .ref yk, .ref yw, .ref yi, .int (zI ge), .ref yx, .ref yy, .int (zI ir)])), zcz G yk 61 K] sz) ((fun (u : (Int) × (Int) × (Int) × (Nat → Int)) => [(h0, .inr (5, [.int (zI u.2.1), .int (zI sh), .ref ym, .ref ya, .ref yb, .ref yc, .ref ye, .ref yp, .ref yq, .ref yo, .int (zI ro), .long (zL fi), .long (zL la), .long (zL lo), .long (zL hi), .int (zI u.2.2.1), .ref yk, .ref yw, .ref yi, .int (zI ge), .ref yx, .ref yy, .int (zI ir)])), zcz G yk 61 u.2.2.2]) u)) (va_A [(h0, .inr (5, [.int (zI th), .int (zI sh), .ref ym, .ref ya, .ref yb, .ref yc, .ref ye, .ref yp, .ref yq, .ref yo, .int (zI ro), .long (zL fi), .long (zL la), .long (zL lo), .long (zL hi), .int (zI co), .ref yk, .ref yw, .ref yi, .int (zI ge), .ref yx, .ref yy, .int (zI ir)])), zcz G yk 61 K] sz)) 0 0 (va_A [(h0, .inr (5, [.int (zI th), .int (zI sh), .ref ym, .ref ya, .ref yb, .ref yc, .ref ye, .ref yp, .ref yq, .ref yo, .int (zI ro), .long (zL fi), .long (zL la), .long (zL lo), .long (zL hi), .int (zI co), .ref yk, .ref yw, .ref yi, .int (zI ge), .ref yx, .ref yy, .int (zI ir)])), zcz G yk 61 K] sz) := by
  refine zM_i (post := fun (r : Int32) (u : (Int) × (Int) × (Int) × (Nat → Int)) => r = zI u.1 ∧ (zcoinR K co v u.1 u.2.1 u.2.2.1 u.2.2.2)) (w1 := fun (u : (Int) × (Int) × (Int) × (Nat → Int)) => [(h0, .inr (5, [.int (zI u.2.1), .int (zI sh), .ref ym, .ref ya, .ref yb, .ref yc, .ref ye, .ref yp, .ref yq, .ref yo, .int (zI ro), .long (zL fi), .long (zL la), .long (zL lo), .long (zL hi), .int (zI u.2.2.1), .ref yk, .ref yw, .ref yi, .int (zI ge), .ref yx, .ref yy, .int (zI ir)])), zcz G yk 61 u.2.2.2]) (plainFor_of_name (by decide)) rfl (Nat.le_of_ble_eq_true rfl) ?_
  intro p e s m below meth c A Q S hN hK hP hD hS hA hret ls hl
  have hl : lv_has ls 2 [(0, .ref h0), (1, .int (zI v))] := hl
  have JN38 : ∀ (tn : Int) (htn : tn = 1 ∧ ¬ (1 ≤ v ∧ v ≤ 60) ∨ tn = 2 ∧ (1 ≤ v ∧ v ≤ 60) ∧ (K v.toNat = 0 ∧ co = 6) ∨ tn = 0 ∧ (1 ≤ v ∧ v ≤ 60) ∧ ¬ (K v.toNat = 0 ∧ co = 6)) (H : Heap) (locs : List Loc), va_P G.1 vwCl [(h0, .inr (5, [.int (zI th), .int (zI sh), .ref ym, .ref ya, .ref yb, .ref yc, .ref ye, .ref yp, .ref yq, .ref yo, .int (zI ro), .long (zL fi), .long (zL la), .long (zL lo), .long (zL hi), .int (zI co), .ref yk, .ref yw, .ref yi, .int (zI ge), .ref yx, .ref yy, .int (zI ir)])), zcz G yk 61 K] H → va_D A [(h0, .inr (5, [.int (zI th), .int (zI sh), .ref ym, .ref ya, .ref yb, .ref yc, .ref ye, .ref yp, .ref yq, .ref yo, .int (zI ro), .long (zL fi), .long (zL la), .long (zL lo), .long (zL hi), .int (zI co), .ref yk, .ref yw, .ref yi, .int (zI ge), .ref yx, .ref yy, .int (zI ir)])), zcz G yk 61 K] → va_S A s.heap H locs → ∀ ls : Array Slot, lv_has ls 2 [(0, .ref h0), (1, .int (zI v))] → W p l e ({ frames := 1, cells := 0, slots := 0, locals := 22 }) s m ([.ref h0, .int (zI v)]).toArray below meth c H locs 0 0 Q (F0 m 38 ls [.int (zI tn), .ref h0]) := by
    intro tn htn H locs hP hD hS ls hl
    refine zv_put (C := RX5) (T := TX5) (N := 23) (ci := 5) (v := .int (zI tn)) S in_X5_coin_X5 tyX5 tyX5_ok nmX5 hK hP hD hS 0 rfl rfl 0 (by decide) wd_X5_coin_f51 rfl rfl rfl rfl (Nat.le_of_ble_eq_true rfl) dX5_coin_38 (fun H locs hP hD hS => ?_)
    have hP : va_P G.1 vwCl [(h0, .inr (5, [.int (zI tn), .int (zI sh), .ref ym, .ref ya, .ref yb, .ref yc, .ref ye, .ref yp, .ref yq, .ref yo, .int (zI ro), .long (zL fi), .long (zL la), .long (zL lo), .long (zL hi), .int (zI co), .ref yk, .ref yw, .ref yi, .int (zI ge), .ref yx, .ref yy, .int (zI ir)])), zcz G yk 61 K] H := hP
    have hD : va_D A [(h0, .inr (5, [.int (zI tn), .int (zI sh), .ref ym, .ref ya, .ref yb, .ref yc, .ref ye, .ref yp, .ref yq, .ref yo, .int (zI ro), .long (zL fi), .long (zL la), .long (zL lo), .long (zL hi), .int (zI co), .ref yk, .ref yw, .ref yi, .int (zI ge), .ref yx, .ref yy, .int (zI ir)])), zcz G yk 61 K] := hD
    refine zv_aload_n S dX5_coin_41 rfl (lv_at hl 0 rfl) ?_
    refine zv_get (C := RX5) (T := TX5) (N := 23) (ci := 5) (v := .int (zI tn)) S in_X5_coin_X5 hK hP 0 rfl rfl 0 (by decide) wd_X5_coin_f51 rfl rfl dX5_coin_42 ?_
    refine zv_if_eq (tgt := 50) S (by unfold zR; omega) dX5_coin_45 (by decide) (fun c_1 => ?_) (fun c_1 => ?_)
    · have JN69 : ∀ (dv : Int) (hdv : dv = -1 ∧ ¬ K v.toNat = 0 ∨ dv = 1 ∧ K v.toNat = 0) (H : Heap) (locs : List Loc), va_P G.1 vwCl [(h0, .inr (5, [.int (zI tn), .int (zI sh), .ref ym, .ref ya, .ref yb, .ref yc, .ref ye, .ref yp, .ref yq, .ref yo, .int (zI ro), .long (zL fi), .long (zL la), .long (zL lo), .long (zL hi), .int (zI co), .ref yk, .ref yw, .ref yi, .int (zI ge), .ref yx, .ref yy, .int (zI ir)])), zcz G yk 61 K] H → va_D A [(h0, .inr (5, [.int (zI tn), .int (zI sh), .ref ym, .ref ya, .ref yb, .ref yc, .ref ye, .ref yp, .ref yq, .ref yo, .int (zI ro), .long (zL fi), .long (zL la), .long (zL lo), .long (zL hi), .int (zI co), .ref yk, .ref yw, .ref yi, .int (zI ge), .ref yx, .ref yy, .int (zI ir)])), zcz G yk 61 K] → va_S A s.heap H locs → ∀ ls : Array Slot, lv_has ls 2 [(0, .ref h0), (1, .int (zI v))] → W p l e ({ frames := 1, cells := 0, slots := 0, locals := 22 }) s m ([.ref h0, .int (zI v)]).toArray below meth c H locs 0 0 Q (F0 m 69 ls [.int (zI dv), .int (zI co), .ref h0]) := by
        intro dv hdv H locs hP hD hS ls hl
        refine zv_iadd S dX5_coin_69 ?_
        refine zv_put (C := RX5) (T := TX5) (N := 23) (ci := 5) (v := .int (zI (co + dv))) S in_X5_coin_X5 tyX5 tyX5_ok nmX5 hK hP hD hS 0 rfl rfl 15 (by decide) wd_X5_coin_f145 rfl rfl rfl rfl (Nat.le_of_ble_eq_true rfl) dX5_coin_70 (fun H locs hP hD hS => ?_)
        have hP : va_P G.1 vwCl [(h0, .inr (5, [.int (zI tn), .int (zI sh), .ref ym, .ref ya, .ref yb, .ref yc, .ref ye, .ref yp, .ref yq, .ref yo, .int (zI ro), .long (zL fi), .long (zL la), .long (zL lo), .long (zL hi), .int (zI (co + dv)), .ref yk, .ref yw, .ref yi, .int (zI ge), .ref yx, .ref yy, .int (zI ir)])), zcz G yk 61 K] H := hP
        have hD : va_D A [(h0, .inr (5, [.int (zI tn), .int (zI sh), .ref ym, .ref ya, .ref yb, .ref yc, .ref ye, .ref yp, .ref yq, .ref yo, .int (zI ro), .long (zL fi), .long (zL la), .long (zL lo), .long (zL hi), .int (zI (co + dv)), .ref yk, .ref yw, .ref yi, .int (zI ge), .ref yx, .ref yy, .int (zI ir)])), zcz G yk 61 K] := hD
        have kb := hKb v.toNat (by omega)
        refine zv_aload_n S dX5_coin_73 rfl (lv_at hl 0 rfl) ?_
        refine zv_get (C := RX5) (T := TX5) (N := 23) (ci := 5) (v := .ref yk) S in_X5_coin_X5 hK hP 0 rfl rfl 16 (by decide) wd_X5_coin_f35 rfl rfl dX5_coin_74 ?_
        refine zv_iload_n S dX5_coin_77 rfl (lv_at hl 1 rfl) ?_
        refine zv_aload_n S dX5_coin_78 rfl (lv_at hl 0 rfl) ?_
        refine zv_get (C := RX5) (T := TX5) (N := 23) (ci := 5) (v := .ref yk) S in_X5_coin_X5 hK hP 0 rfl rfl 16 (by decide) wd_X5_coin_f35 rfl rfl dX5_coin_79 ?_
        refine zv_iload_n S dX5_coin_82 rfl (lv_at hl 1 rfl) ?_
        refine zv_zald S hK hP 1 2 rfl rfl v.toNat (by omega) (by omega) (by decide) dX5_coin_83 ?_
        refine zv_if_ne (tgt := 91) S (by unfold zR; omega) dX5_coin_84 (by decide) (fun c_2 => ?_) (fun c_2 => ?_)
        · refine zv_iconst S dX5_coin_91 ?_
          refine zv_zast S hK hP hD hS 1 2 rfl rfl v.toNat (by omega) (by omega) (by decide) (by omega) dX5_coin_92 (fun H locs hP hD hS => ?_)
          have hP : va_P G.1 vwCl [(h0, .inr (5, [.int (zI tn), .int (zI sh), .ref ym, .ref ya, .ref yb, .ref yc, .ref ye, .ref yp, .ref yq, .ref yo, .int (zI ro), .long (zL fi), .long (zL la), .long (zL lo), .long (zL hi), .int (zI (co + dv)), .ref yk, .ref yw, .ref yi, .int (zI ge), .ref yx, .ref yy, .int (zI ir)])), zcz G yk 61 (zU K v.toNat 0)] H := hP
          have hD : va_D A [(h0, .inr (5, [.int (zI tn), .int (zI sh), .ref ym, .ref ya, .ref yb, .ref yc, .ref ye, .ref yp, .ref yq, .ref yo, .int (zI ro), .long (zL fi), .long (zL la), .long (zL lo), .long (zL hi), .int (zI (co + dv)), .ref yk, .ref yw, .ref yi, .int (zI ge), .ref yx, .ref yy, .int (zI ir)])), zcz G yk 61 (zU K v.toNat 0)] := hD
          refine zv_aload_n S dX5_coin_93 rfl (lv_at hl 0 rfl) ?_
          refine zv_get (C := RX5) (T := TX5) (N := 23) (ci := 5) (v := .int (zI (co + dv))) S in_X5_coin_X5 hK hP 0 rfl rfl 15 (by decide) wd_X5_coin_f145 rfl rfl dX5_coin_94 ?_
          exact hret _ _ _ _ _ ⟨(co + dv), tn, (co + dv), (zU K v.toNat 0)⟩ dX5_coin_97 ⟨rfl, (show zcoinR K co v (co + dv) tn (co + dv) (zU K v.toNat 0) from (Or.inr (Or.inr ⟨by omega, by omega, by omega, rfl, Or.inr ⟨by omega, by omega, rfl⟩⟩)))⟩ (hP.sub [0, 1] rfl) (hD.sub [0, 1] (by decide) rfl) hS
        · refine zv_iconst S dX5_coin_87 ?_
          refine zv_goto (tgt := 92) S dX5_coin_88 (by decide) ?_
          refine zv_zast S hK hP hD hS 1 2 rfl rfl v.toNat (by omega) (by omega) (by decide) (by omega) dX5_coin_92 (fun H locs hP hD hS => ?_)
          have hP : va_P G.1 vwCl [(h0, .inr (5, [.int (zI tn), .int (zI sh), .ref ym, .ref ya, .ref yb, .ref yc, .ref ye, .ref yp, .ref yq, .ref yo, .int (zI ro), .long (zL fi), .long (zL la), .long (zL lo), .long (zL hi), .int (zI (co + dv)), .ref yk, .ref yw, .ref yi, .int (zI ge), .ref yx, .ref yy, .int (zI ir)])), zcz G yk 61 (zU K v.toNat 1)] H := hP
          have hD : va_D A [(h0, .inr (5, [.int (zI tn), .int (zI sh), .ref ym, .ref ya, .ref yb, .ref yc, .ref ye, .ref yp, .ref yq, .ref yo, .int (zI ro), .long (zL fi), .long (zL la), .long (zL lo), .long (zL hi), .int (zI (co + dv)), .ref yk, .ref yw, .ref yi, .int (zI ge), .ref yx, .ref yy, .int (zI ir)])), zcz G yk 61 (zU K v.toNat 1)] := hD
          refine zv_aload_n S dX5_coin_93 rfl (lv_at hl 0 rfl) ?_
          refine zv_get (C := RX5) (T := TX5) (N := 23) (ci := 5) (v := .int (zI (co + dv))) S in_X5_coin_X5 hK hP 0 rfl rfl 15 (by decide) wd_X5_coin_f145 rfl rfl dX5_coin_94 ?_
          exact hret _ _ _ _ _ ⟨(co + dv), tn, (co + dv), (zU K v.toNat 1)⟩ dX5_coin_97 ⟨rfl, (show zcoinR K co v (co + dv) tn (co + dv) (zU K v.toNat 1) from (Or.inr (Or.inr ⟨by omega, by omega, by omega, rfl, Or.inl ⟨by omega, by omega, rfl⟩⟩)))⟩ (hP.sub [0, 1] rfl) (hD.sub [0, 1] (by decide) rfl) hS
      have kb := hKb v.toNat (by omega)
      refine zv_aload_n S dX5_coin_50 rfl (lv_at hl 0 rfl) ?_
      refine zv_dup S dX5_coin_51 rfl ?_
      refine zv_get (C := RX5) (T := TX5) (N := 23) (ci := 5) (v := .int (zI co)) S in_X5_coin_X5 hK hP 0 rfl rfl 15 (by decide) wd_X5_coin_f145 rfl rfl dX5_coin_52 ?_
      refine zv_aload_n S dX5_coin_55 rfl (lv_at hl 0 rfl) ?_
      refine zv_get (C := RX5) (T := TX5) (N := 23) (ci := 5) (v := .ref yk) S in_X5_coin_X5 hK hP 0 rfl rfl 16 (by decide) wd_X5_coin_f35 rfl rfl dX5_coin_56 ?_
      refine zv_iload_n S dX5_coin_59 rfl (lv_at hl 1 rfl) ?_
      refine zv_zald S hK hP 1 2 rfl rfl v.toNat (by omega) (by omega) (by decide) dX5_coin_60 ?_
      refine zv_if_eq (tgt := 68) S (by unfold zR; omega) dX5_coin_61 (by decide) (fun c_3 => ?_) (fun c_3 => ?_)
      · refine zv_iconst S dX5_coin_68 ?_
        exact JN69 1 (by omega) _ _ hP hD hS _ (lv_sub hl [0, 1] rfl)
      · refine zv_iconst S dX5_coin_64 ?_
        refine zv_goto (tgt := 69) S dX5_coin_65 (by decide) ?_
        exact JN69 (-1) (by omega) _ _ hP hD hS _ (lv_sub hl [0, 1] rfl)
    · refine zv_iconst S dX5_coin_48 ?_
      exact hret _ _ _ _ _ ⟨0, tn, co, K⟩ dX5_coin_49 ⟨rfl, (show zcoinR K co v 0 tn co K from (by rcases htn with h | h | h; exact Or.inl ⟨h.1, h.2, rfl, rfl⟩; exact Or.inr (Or.inl ⟨h.1, h.2.1, h.2.2, rfl, rfl⟩); exact absurd h.1 c_1))⟩ (hP.sub [0, 1] rfl) (hD.sub [0, 1] (by decide) rfl) hS
  refine zv_aload_n S dX5_coin_0 rfl (lv_at hl 0 rfl) ?_
  refine zv_iload_n S dX5_coin_1 rfl (lv_at hl 1 rfl) ?_
  refine zv_iconst S dX5_coin_2 ?_
  refine zv_bipush (v := 60) S dX5_coin_3 (by decide) ?_
  refine zc_Si (As := [.int (zI v), .int (zI 1), .int (zI 60)]) (rest := [.ref h0]) (wr := [(h0, .inr (5, [.int (zI th), .int (zI sh), .ref ym, .ref ya, .ref yb, .ref yc, .ref ye, .ref yp, .ref yq, .ref yo, .int (zI ro), .long (zL fi), .long (zL la), .long (zL lo), .long (zL hi), .int (zI co), .ref yk, .ref yw, .ref yi, .int (zI ge), .ref yx, .ref yy, .int (zI ir)])), zcz G yk 61 K]) (n := 3) S hN hK hP hD hS hA hl (c_X5_in l G s.heap.size v 1 60 (by omega) (by omega) (by omega)) gX5_coin_X5_in rfl ⟨rfl, rfl⟩ (by decide +kernel) rfl ⟨Nat.le_of_ble_eq_true rfl, Nat.le_of_ble_eq_true rfl, Nat.le_of_ble_eq_true rfl, Nat.le_of_ble_eq_true rfl⟩ [] [0, 1] rfl rfl (by decide) (by decide) (by decide) (Nat.le_of_ble_eq_true rfl) dX5_coin_5 rfl (fun r_ u_4 H1 locs1 hp_5 hP1 hD1 hS1 hz1 => ?_)
  try dsimp only at hp_5 hP1 hD1
  subst hp_5
  generalize H1 = H at hP1 hD1 hS1 hz1 ⊢
  generalize locs1 = locs at hS1 ⊢
  have hS := hS1
  have hP : va_P G.1 vwCl [(h0, .inr (5, [.int (zI th), .int (zI sh), .ref ym, .ref ya, .ref yb, .ref yc, .ref ye, .ref yp, .ref yq, .ref yo, .int (zI ro), .long (zL fi), .long (zL la), .long (zL lo), .long (zL hi), .int (zI co), .ref yk, .ref yw, .ref yi, .int (zI ge), .ref yx, .ref yy, .int (zI ir)])), zcz G yk 61 K] H := hP1
  have hD : va_D A [(h0, .inr (5, [.int (zI th), .int (zI sh), .ref ym, .ref ya, .ref yb, .ref yc, .ref ye, .ref yp, .ref yq, .ref yo, .int (zI ro), .long (zL fi), .long (zL la), .long (zL lo), .long (zL hi), .int (zI co), .ref yk, .ref yw, .ref yi, .int (zI ge), .ref yx, .ref yy, .int (zI ir)])), zcz G yk 61 K] := hD1
  refine zv_ifb_ne (tgt := 15) S dX5_coin_8 (by decide) (fun c_6 => ?_) (fun c_6 => ?_)
  · have kb := hKb v.toNat (by omega)
    refine zv_aload_n S dX5_coin_15 rfl (lv_at hl 0 rfl) ?_
    refine zv_get (C := RX5) (T := TX5) (N := 23) (ci := 5) (v := .ref yk) S in_X5_coin_X5 hK hP 0 rfl rfl 16 (by decide) wd_X5_coin_f35 rfl rfl dX5_coin_16 ?_
    refine zv_iload_n S dX5_coin_19 rfl (lv_at hl 1 rfl) ?_
    refine zv_zald S hK hP 1 2 rfl rfl v.toNat (by omega) (by omega) (by decide) dX5_coin_20 ?_
    refine zv_if_ne (tgt := 37) S (by unfold zR; omega) dX5_coin_21 (by decide) (fun c_7 => ?_) (fun c_7 => ?_)
    · refine zv_iconst S dX5_coin_37 ?_
      exact JN38 0 (by omega) _ _ hP hD hS _ (lv_sub hl [0, 1] rfl)
    · refine zv_aload_n S dX5_coin_24 rfl (lv_at hl 0 rfl) ?_
      refine zv_get (C := RX5) (T := TX5) (N := 23) (ci := 5) (v := .int (zI co)) S in_X5_coin_X5 hK hP 0 rfl rfl 15 (by decide) wd_X5_coin_f145 rfl rfl dX5_coin_25 ?_
      refine zv_bipush (v := 6) S dX5_coin_28 (by decide) ?_
      refine zv_icmp_ne (tgt := 37) S (by unfold zR; omega) (by unfold zR; omega) dX5_coin_30 (by decide) (fun c_8 => ?_) (fun c_8 => ?_)
      · refine zv_iconst S dX5_coin_37 ?_
        exact JN38 0 (by omega) _ _ hP hD hS _ (lv_sub hl [0, 1] rfl)
      · refine zv_iconst S dX5_coin_33 ?_
        refine zv_goto (tgt := 38) S dX5_coin_34 (by decide) ?_
        exact JN38 2 (by omega) _ _ hP hD hS _ (lv_sub hl [0, 1] rfl)
  · refine zv_iconst S dX5_coin_11 ?_
    refine zv_goto (tgt := 38) S dX5_coin_12 (by decide) ?_
    exact JN38 1 (by omega) _ _ hP hD hS _ (lv_sub hl [0, 1] rfl)

theorem wd_X5_ways_f51 : Cond.fieldLink RX5 51 "PointMillModel" "thrown" "I" ∈ wsX5_ways := by decide +kernel
theorem in_X5_ways_X5 : ∀ w ∈ wsX50, w ∈ wsX5_ways := by decide +kernel
theorem wd_X5_ways_f39 : Cond.fieldLink RX5 39 "PointMillModel" "waysTo" "[J" ∈ wsX5_ways := by decide +kernel
theorem wd_X5_ways_f35 : Cond.fieldLink RX5 35 "PointMillModel" "isCoin" "[Z" ∈ wsX5_ways := by decide +kernel
set_option maxHeartbeats 4000000 in
set_option maxRecDepth 100000 in
/-- the model: ways -/
theorem c_X5_ways (l : Launch) (G : zG) (sz : Nat) (h0 : Nat) (th : Int) (sh : Int) (ym : Nat) (ya : Nat) (yb : Nat) (yc : Nat) (ye : Nat) (yp : Nat) (yq : Nat) (yo : Nat) (ro : Int) (fi : Int) (la : Int) (lo : Int) (hi : Int) (co : Int) (yk : Nat) (yw : Nat) (yi : Nat) (ge : Int) (yx : Nat) (yy : Nat) (ir : Int) (K : Nat → Int) (Wt : Nat → Int) (v : Int) (hKb : ∀ j, j < 61 → K j = 0 ∨ K j = 1) (hv : -2147483648 ≤ v ∧ v < 2147483648) : Met l yX5_ways wsX5_ways ({ frames := 1, cells := 0, slots := 0, locals := 22 }) (va_Pc [.ref h0, .int (zI v)] (zPre G sz [(h0, .inr (5, [.int (zI th), .int (zI sh), .ref ym, .ref ya, .ref yb, .ref yc, .ref ye, .ref yp, .ref yq, .ref yo, .int (zI ro), .long (zL fi), .long (zL la), .long (zL lo), .long (zL hi), .int (zI co), .ref yk, .ref yw, .ref yi, .int (zI ge), .ref yx, .ref yy, .int (zI ir)])), zcz G yk 61 K, zcl G yw 1001 Wt])) (va_Ql (fun (r : Int64) (u : (Int) × (Int) × (Nat → Int)) => r = zL u.1 ∧ (zwaysR K v u.1 u.2.1)) (fun u => zW G (va_A [(h0, .inr (5, [.int (zI th), .int (zI sh), .ref ym, .ref ya, .ref yb, .ref yc, .ref ye, .ref yp, .ref yq, .ref yo, .int (zI ro), .long (zL fi), .long (zL la), .long (zL lo), .long (zL hi), .int (zI co), .ref yk, .ref yw, .ref yi, .int (zI ge), .ref yx, .ref yy, .int (zI ir)])), zcz G yk 61 K, zcl G yw 1001 Wt] sz) ((fun (u : (Int) × (Int) × (Nat → Int)) => [(h0, .inr (5, [.int (zI u.2.1), .int (zI sh), .ref ym, .ref ya, .ref yb, .ref yc, .ref ye, .ref yp, .ref yq, .ref yo, .int (zI ro), .long (zL fi), .long (zL la), .long (zL lo), .long (zL hi), .int (zI co), .ref yk, .ref yw, .ref yi, .int (zI ge), .ref yx, .ref yy, .int (zI ir)])), zcz G yk 61 K, zcl G yw 1001 u.2.2]) u)) (va_A [(h0, .inr (5, [.int (zI th), .int (zI sh), .ref ym, .ref ya, .ref yb, .ref yc, .ref ye, .ref yp, .ref yq, .ref yo, .int (zI ro), .long (zL fi), .long (zL la), .long (zL lo), .long (zL hi), .int (zI co), .ref yk, .ref yw, .ref yi, .int (zI ge), .ref yx, .ref yy, .int (zI ir)])), zcz G yk 61 K, zcl G yw 1001 Wt] sz)) 0 0 (va_A [(h0, .inr (5, [.int (zI th), .int (zI sh), .ref ym, .ref ya, .ref yb, .ref yc, .ref ye, .ref yp, .ref yq, .ref yo, .int (zI ro), .long (zL fi), .long (zL la), .long (zL lo), .long (zL hi), .int (zI co), .ref yk, .ref yw, .ref yi, .int (zI ge), .ref yx, .ref yy, .int (zI ir)])), zcz G yk 61 K, zcl G yw 1001 Wt] sz) := by
  refine zM_l (post := fun (r : Int64) (u : (Int) × (Int) × (Nat → Int)) => r = zL u.1 ∧ (zwaysR K v u.1 u.2.1)) (w1 := fun (u : (Int) × (Int) × (Nat → Int)) => [(h0, .inr (5, [.int (zI u.2.1), .int (zI sh), .ref ym, .ref ya, .ref yb, .ref yc, .ref ye, .ref yp, .ref yq, .ref yo, .int (zI ro), .long (zL fi), .long (zL la), .long (zL lo), .long (zL hi), .int (zI co), .ref yk, .ref yw, .ref yi, .int (zI ge), .ref yx, .ref yy, .int (zI ir)])), zcz G yk 61 K, zcl G yw 1001 u.2.2]) (plainFor_of_name (by decide)) rfl (Nat.le_of_ble_eq_true rfl) ?_
  intro p e s m below meth c A Q S hN hK hP hD hS hA hret ls hl
  have hl : lv_has ls 4 [(0, .ref h0), (1, .int (zI v))] := hl
  refine zv_aload_n S dX5_ways_0 rfl (lv_at hl 0 rfl) ?_
  refine zv_iload_n S dX5_ways_1 rfl (lv_at hl 1 rfl) ?_
  refine zv_iconst S dX5_ways_2 ?_
  refine zv_sipush (v := 1000) S dX5_ways_3 (by decide) ?_
  refine zc_Si (As := [.int (zI v), .int (zI 0), .int (zI 1000)]) (rest := [.ref h0]) (wr := [(h0, .inr (5, [.int (zI th), .int (zI sh), .ref ym, .ref ya, .ref yb, .ref yc, .ref ye, .ref yp, .ref yq, .ref yo, .int (zI ro), .long (zL fi), .long (zL la), .long (zL lo), .long (zL hi), .int (zI co), .ref yk, .ref yw, .ref yi, .int (zI ge), .ref yx, .ref yy, .int (zI ir)])), zcz G yk 61 K, zcl G yw 1001 Wt]) (n := 3) S hN hK hP hD hS hA hl (c_X5_in l G s.heap.size v 0 1000 (by omega) (by omega) (by omega)) gX5_ways_X5_in rfl ⟨rfl, rfl⟩ (by decide +kernel) rfl ⟨Nat.le_of_ble_eq_true rfl, Nat.le_of_ble_eq_true rfl, Nat.le_of_ble_eq_true rfl, Nat.le_of_ble_eq_true rfl⟩ [] [0, 1, 2] rfl rfl (by decide) (by decide) (by decide) (Nat.le_of_ble_eq_true rfl) dX5_ways_6 rfl (fun r_ u_1 H1 locs1 hp_2 hP1 hD1 hS1 hz1 => ?_)
  try dsimp only at hp_2 hP1 hD1
  subst hp_2
  generalize H1 = H at hP1 hD1 hS1 hz1 ⊢
  generalize locs1 = locs at hS1 ⊢
  have hS := hS1
  have hP : va_P G.1 vwCl [(h0, .inr (5, [.int (zI th), .int (zI sh), .ref ym, .ref ya, .ref yb, .ref yc, .ref ye, .ref yp, .ref yq, .ref yo, .int (zI ro), .long (zL fi), .long (zL la), .long (zL lo), .long (zL hi), .int (zI co), .ref yk, .ref yw, .ref yi, .int (zI ge), .ref yx, .ref yy, .int (zI ir)])), zcz G yk 61 K, zcl G yw 1001 Wt] H := hP1
  have hD : va_D A [(h0, .inr (5, [.int (zI th), .int (zI sh), .ref ym, .ref ya, .ref yb, .ref yc, .ref ye, .ref yp, .ref yq, .ref yo, .int (zI ro), .long (zL fi), .long (zL la), .long (zL lo), .long (zL hi), .int (zI co), .ref yk, .ref yw, .ref yi, .int (zI ge), .ref yx, .ref yy, .int (zI ir)])), zcz G yk 61 K, zcl G yw 1001 Wt] := hD1
  refine zv_ifb_eq (tgt := 16) S dX5_ways_9 (by decide) (fun c_3 => ?_) (fun c_3 => ?_)
  · refine zv_iconst S dX5_ways_16 ?_
    refine zv_put (C := RX5) (T := TX5) (N := 23) (ci := 5) (v := .int (zI 1)) S in_X5_ways_X5 tyX5 tyX5_ok nmX5 hK hP hD hS 0 rfl rfl 0 (by decide) wd_X5_ways_f51 rfl rfl rfl rfl (Nat.le_of_ble_eq_true rfl) dX5_ways_17 (fun H locs hP hD hS => ?_)
    have hP : va_P G.1 vwCl [(h0, .inr (5, [.int (zI 1), .int (zI sh), .ref ym, .ref ya, .ref yb, .ref yc, .ref ye, .ref yp, .ref yq, .ref yo, .int (zI ro), .long (zL fi), .long (zL la), .long (zL lo), .long (zL hi), .int (zI co), .ref yk, .ref yw, .ref yi, .int (zI ge), .ref yx, .ref yy, .int (zI ir)])), zcz G yk 61 K, zcl G yw 1001 Wt] H := hP
    have hD : va_D A [(h0, .inr (5, [.int (zI 1), .int (zI sh), .ref ym, .ref ya, .ref yb, .ref yc, .ref ye, .ref yp, .ref yq, .ref yo, .int (zI ro), .long (zL fi), .long (zL la), .long (zL lo), .long (zL hi), .int (zI co), .ref yk, .ref yw, .ref yi, .int (zI ge), .ref yx, .ref yy, .int (zI ir)])), zcz G yk 61 K, zcl G yw 1001 Wt] := hD
    refine zv_aload_n S dX5_ways_20 rfl (lv_at hl 0 rfl) ?_
    refine zv_get (C := RX5) (T := TX5) (N := 23) (ci := 5) (v := .int (zI 1)) S in_X5_ways_X5 hK hP 0 rfl rfl 0 (by decide) wd_X5_ways_f51 rfl rfl dX5_ways_21 ?_
    refine zv_if_eq (tgt := 29) S (by unfold zR; omega) dX5_ways_24 (by decide) (fun c_4 => ?_) (fun c_4 => ?_)
    · exact absurd c_4 (by omega)
    · refine zv_lconst (v := 0) S dX5_ways_27 (by decide) ?_
      exact hret _ _ _ _ _ ⟨0, 1, Wt⟩ dX5_ways_28 ⟨rfl, (show zwaysR K v 0 1 from (Or.inl ⟨rfl, c_3⟩))⟩ (hP.sub [0, 1, 2] rfl) (hD.sub [0, 1, 2] (by decide) rfl) hS
  · refine zv_iconst S dX5_ways_12 ?_
    refine zv_goto (tgt := 17) S dX5_ways_13 (by decide) ?_
    refine zv_put (C := RX5) (T := TX5) (N := 23) (ci := 5) (v := .int (zI 0)) S in_X5_ways_X5 tyX5 tyX5_ok nmX5 hK hP hD hS 0 rfl rfl 0 (by decide) wd_X5_ways_f51 rfl rfl rfl rfl (Nat.le_of_ble_eq_true rfl) dX5_ways_17 (fun H locs hP hD hS => ?_)
    have hP : va_P G.1 vwCl [(h0, .inr (5, [.int (zI 0), .int (zI sh), .ref ym, .ref ya, .ref yb, .ref yc, .ref ye, .ref yp, .ref yq, .ref yo, .int (zI ro), .long (zL fi), .long (zL la), .long (zL lo), .long (zL hi), .int (zI co), .ref yk, .ref yw, .ref yi, .int (zI ge), .ref yx, .ref yy, .int (zI ir)])), zcz G yk 61 K, zcl G yw 1001 Wt] H := hP
    have hD : va_D A [(h0, .inr (5, [.int (zI 0), .int (zI sh), .ref ym, .ref ya, .ref yb, .ref yc, .ref ye, .ref yp, .ref yq, .ref yo, .int (zI ro), .long (zL fi), .long (zL la), .long (zL lo), .long (zL hi), .int (zI co), .ref yk, .ref yw, .ref yi, .int (zI ge), .ref yx, .ref yy, .int (zI ir)])), zcz G yk 61 K, zcl G yw 1001 Wt] := hD
    refine zv_aload_n S dX5_ways_20 rfl (lv_at hl 0 rfl) ?_
    refine zv_get (C := RX5) (T := TX5) (N := 23) (ci := 5) (v := .int (zI 0)) S in_X5_ways_X5 hK hP 0 rfl rfl 0 (by decide) wd_X5_ways_f51 rfl rfl dX5_ways_21 ?_
    refine zv_if_eq (tgt := 29) S (by unfold zR; omega) dX5_ways_24 (by decide) (fun c_5 => ?_) (fun c_5 => ?_)
    · have hvb := c_3
      refine zv_iconst S dX5_ways_29 ?_
      refine zv_istore_n (lv' := [(2, .int (zI 0)), (0, .ref h0), (1, .int (zI v))]) S dX5_ways_30 rfl hl (by decide) rfl (fun ls hl => ?_)
      have LP31 : ∀ (nf : Nat) (j : Nat) (v2 : Int) (W1 : Nat → Int) (hv2 : v2 = (j : Int)) (hj : (j : Int) ≤ v + 1) (hW1 : ∀ i, i < j → W1 i = (if i = 0 then 1 else 0)), (1001 - j) < nf → ∀ (H : Heap) (locs : List Loc), va_P G.1 vwCl [(h0, .inr (5, [.int (zI 0), .int (zI sh), .ref ym, .ref ya, .ref yb, .ref yc, .ref ye, .ref yp, .ref yq, .ref yo, .int (zI ro), .long (zL fi), .long (zL la), .long (zL lo), .long (zL hi), .int (zI co), .ref yk, .ref yw, .ref yi, .int (zI ge), .ref yx, .ref yy, .int (zI ir)])), zcz G yk 61 K, zcl G yw 1001 W1] H → va_D A [(h0, .inr (5, [.int (zI 0), .int (zI sh), .ref ym, .ref ya, .ref yb, .ref yc, .ref ye, .ref yp, .ref yq, .ref yo, .int (zI ro), .long (zL fi), .long (zL la), .long (zL lo), .long (zL hi), .int (zI co), .ref yk, .ref yw, .ref yi, .int (zI ge), .ref yx, .ref yy, .int (zI ir)])), zcz G yk 61 K, zcl G yw 1001 W1] → va_S A s.heap H locs → ∀ ls : Array Slot, lv_has ls 4 [(2, .int (zI v2)), (0, .ref h0), (1, .int (zI v))] → W p l e ({ frames := 1, cells := 0, slots := 0, locals := 22 }) s m ([.ref h0, .int (zI v)]).toArray below meth c H locs 0 0 Q (F0 m 31 ls []) := by
        intro nf
        induction nf with
        | zero =>
          intro j v2 W1 hv2 hj hW1 hf
          exact absurd hf (Nat.not_lt_zero _)
        | succ nf ih31 =>
          intro j v2 W1 hv2 hj hW1 hf H locs hP hD hS ls hl
          refine zv_iload_n S dX5_ways_31 rfl (lv_at hl 0 rfl) ?_
          refine zv_iload_n S dX5_ways_32 rfl (lv_at hl 2 rfl) ?_
          refine zv_icmp_gt (tgt := 57) S (by unfold zR; omega) (by unfold zR; omega) dX5_ways_33 (by decide) (fun c_6 => ?_) (fun c_6 => ?_)
          · refine zv_iconst S dX5_ways_57 ?_
            refine zv_istore_n (lv' := [(2, .int (zI 1)), (0, .ref h0), (1, .int (zI v))]) S dX5_ways_58 rfl hl (by decide) rfl (fun ls hl => ?_)
            have LP59 : ∀ (nf : Nat) (j2 : Nat) (v3 : Int) (W2 : Nat → Int) (hv3 : v3 = (j2 : Int) + 1) (hj2 : j2 ≤ 60) (hW2 : zal v.toNat W2 (zws (zkm K) v.toNat j2)), (60 - j2) < nf → ∀ (H : Heap) (locs : List Loc), va_P G.1 vwCl [(h0, .inr (5, [.int (zI 0), .int (zI sh), .ref ym, .ref ya, .ref yb, .ref yc, .ref ye, .ref yp, .ref yq, .ref yo, .int (zI ro), .long (zL fi), .long (zL la), .long (zL lo), .long (zL hi), .int (zI co), .ref yk, .ref yw, .ref yi, .int (zI ge), .ref yx, .ref yy, .int (zI ir)])), zcz G yk 61 K, zcl G yw 1001 W2] H → va_D A [(h0, .inr (5, [.int (zI 0), .int (zI sh), .ref ym, .ref ya, .ref yb, .ref yc, .ref ye, .ref yp, .ref yq, .ref yo, .int (zI ro), .long (zL fi), .long (zL la), .long (zL lo), .long (zL hi), .int (zI co), .ref yk, .ref yw, .ref yi, .int (zI ge), .ref yx, .ref yy, .int (zI ir)])), zcz G yk 61 K, zcl G yw 1001 W2] → va_S A s.heap H locs → ∀ ls : Array Slot, lv_has ls 4 [(2, .int (zI v3)), (0, .ref h0), (1, .int (zI v))] → W p l e ({ frames := 1, cells := 0, slots := 0, locals := 22 }) s m ([.ref h0, .int (zI v)]).toArray below meth c H locs 0 0 Q (F0 m 59 ls []) := by
              intro nf
              induction nf with
              | zero =>
                intro j2 v3 W2 hv3 hj2 hW2 hf
                exact absurd hf (Nat.not_lt_zero _)
              | succ nf ih59 =>
                intro j2 v3 W2 hv3 hj2 hW2 hf H locs hP hD hS ls hl
                refine zv_iload_n S dX5_ways_59 rfl (lv_at hl 0 rfl) ?_
                refine zv_bipush (v := 60) S dX5_ways_60 (by decide) ?_
                refine zv_icmp_gt (tgt := 110) S (by unfold zR; omega) (by unfold zR; omega) dX5_ways_62 (by decide) (fun c_7 => ?_) (fun c_7 => ?_)
                · refine zv_aload_n S dX5_ways_110 rfl (lv_at hl 1 rfl) ?_
                  refine zv_get (C := RX5) (T := TX5) (N := 23) (ci := 5) (v := .ref yw) S in_X5_ways_X5 hK hP 0 rfl rfl 17 (by decide) wd_X5_ways_f39 rfl rfl dX5_ways_111 ?_
                  refine zv_iload_n S dX5_ways_114 rfl (lv_at hl 2 rfl) ?_
                  refine zv_lald S hK hP 2 1 rfl rfl v.toNat (by omega) (by omega) (by decide) dX5_ways_115 ?_
                  exact hret _ _ _ _ _ ⟨(W2 v.toNat), 0, W2⟩ dX5_ways_116 ⟨rfl, (show zwaysR K v (W2 v.toNat) 0 from (Or.inr ⟨rfl, c_3, by rw [hW2 v.toNat (Nat.le_refl _), show j2 = 60 by omega]⟩))⟩ (hP.sub [0, 1, 2] rfl) (hD.sub [0, 1, 2] (by decide) rfl) hS
                · refine zv_iload_n S dX5_ways_65 rfl (lv_at hl 0 rfl) ?_
                  refine zv_istore_n (lv' := [(3, .int (zI v3)), (2, .int (zI v3)), (0, .ref h0), (1, .int (zI v))]) S dX5_ways_66 rfl hl (by decide) rfl (fun ls hl => ?_)
                  have LP67 : ∀ (nf : Nat) (t : Nat) (v4 : Int) (W3 : Nat → Int) (hv4 : v4 = ((j2 + 1 + t : Nat) : Int)) (htt : t ≤ v.toNat + 1 - (j2 + 1)) (ht0 : t = 0 ∨ zkm K (j2 + 1)) (hW3 : zal v.toNat W3 (zwi (zws (zkm K) v.toNat j2) (j2 + 1) t)), (v.toNat + 1 - (j2 + 1) - t) < nf → ∀ (H : Heap) (locs : List Loc), va_P G.1 vwCl [(h0, .inr (5, [.int (zI 0), .int (zI sh), .ref ym, .ref ya, .ref yb, .ref yc, .ref ye, .ref yp, .ref yq, .ref yo, .int (zI ro), .long (zL fi), .long (zL la), .long (zL lo), .long (zL hi), .int (zI co), .ref yk, .ref yw, .ref yi, .int (zI ge), .ref yx, .ref yy, .int (zI ir)])), zcz G yk 61 K, zcl G yw 1001 W3] H → va_D A [(h0, .inr (5, [.int (zI 0), .int (zI sh), .ref ym, .ref ya, .ref yb, .ref yc, .ref ye, .ref yp, .ref yq, .ref yo, .int (zI ro), .long (zL fi), .long (zL la), .long (zL lo), .long (zL hi), .int (zI co), .ref yk, .ref yw, .ref yi, .int (zI ge), .ref yx, .ref yy, .int (zI ir)])), zcz G yk 61 K, zcl G yw 1001 W3] → va_S A s.heap H locs → ∀ ls : Array Slot, lv_has ls 4 [(3, .int (zI v4)), (2, .int (zI v3)), (0, .ref h0), (1, .int (zI v))] → W p l e ({ frames := 1, cells := 0, slots := 0, locals := 22 }) s m ([.ref h0, .int (zI v)]).toArray below meth c H locs 0 0 Q (F0 m 67 ls []) := by
                    intro nf
                    induction nf with
                    | zero =>
                      intro t v4 W3 hv4 htt ht0 hW3 hf
                      exact absurd hf (Nat.not_lt_zero _)
                    | succ nf ih67 =>
                      intro t v4 W3 hv4 htt ht0 hW3 hf H locs hP hD hS ls hl
                      refine zv_iload_n S dX5_ways_67 rfl (lv_at hl 0 rfl) ?_
                      refine zv_iload_n S dX5_ways_68 rfl (lv_at hl 3 rfl) ?_
                      refine zv_icmp_gt (tgt := 104) S (by unfold zR; omega) (by unfold zR; omega) dX5_ways_69 (by decide) (fun c_8 => ?_) (fun c_8 => ?_)
                      · refine zv_iinc (k0 := 1) (lv' := [(2, .int (zI (v3 + 1))), (3, .int (zI v4)), (0, .ref h0), (1, .int (zI v))]) S dX5_ways_104 hl rfl (by decide) rfl (fun ls hl => ?_)
                        refine zv_goto (tgt := 59) S dX5_ways_107 (by decide) ?_
                        exact ih59 (j2 + 1) (v3 + 1) W3 (by omega) (by omega) (zwl hW3 ht0 (Or.inr (by omega))) (by omega) _ _ hP hD hS _ (lv_sub hl [0, 2, 3] rfl)
                      · have kb := hKb (j2 + 1) (by omega)
                        refine zv_aload_n S dX5_ways_72 rfl (lv_at hl 2 rfl) ?_
                        refine zv_get (C := RX5) (T := TX5) (N := 23) (ci := 5) (v := .ref yk) S in_X5_ways_X5 hK hP 0 rfl rfl 16 (by decide) wd_X5_ways_f35 rfl rfl dX5_ways_73 ?_
                        refine zv_iload_n S dX5_ways_76 rfl (lv_at hl 1 rfl) ?_
                        refine zv_zald S hK hP 1 2 rfl rfl (j2 + 1) (by omega) (by omega) (by decide) dX5_ways_77 ?_
                        refine zv_if_eq (tgt := 104) S (by unfold zR; omega) dX5_ways_78 (by decide) (fun c_9 => ?_) (fun c_9 => ?_)
                        · refine zv_iinc (k0 := 1) (lv' := [(2, .int (zI (v3 + 1))), (3, .int (zI v4)), (0, .ref h0), (1, .int (zI v))]) S dX5_ways_104 hl rfl (by decide) rfl (fun ls hl => ?_)
                          refine zv_goto (tgt := 59) S dX5_ways_107 (by decide) ?_
                          exact ih59 (j2 + 1) (v3 + 1) W3 (by omega) (by omega) (zwl hW3 ht0 (Or.inl (fun z => z c_9))) (by omega) _ _ hP hD hS _ (lv_sub hl [0, 2, 3] rfl)
                        · refine zv_aload_n S dX5_ways_81 rfl (lv_at hl 2 rfl) ?_
                          refine zv_get (C := RX5) (T := TX5) (N := 23) (ci := 5) (v := .ref yw) S in_X5_ways_X5 hK hP 0 rfl rfl 17 (by decide) wd_X5_ways_f39 rfl rfl dX5_ways_82 ?_
                          refine zv_iload_n S dX5_ways_85 rfl (lv_at hl 0 rfl) ?_
                          refine zv_dup2_11 S dX5_ways_86 rfl rfl ?_
                          refine zv_lald S hK hP 2 1 rfl rfl (j2 + 1 + t) hv4 (by omega) (by decide) dX5_ways_87 ?_
                          refine zv_aload_n S dX5_ways_88 rfl (lv_at hl 2 rfl) ?_
                          refine zv_get (C := RX5) (T := TX5) (N := 23) (ci := 5) (v := .ref yw) S in_X5_ways_X5 hK hP 0 rfl rfl 17 (by decide) wd_X5_ways_f39 rfl rfl dX5_ways_89 ?_
                          refine zv_iload_n S dX5_ways_92 rfl (lv_at hl 0 rfl) ?_
                          refine zv_iload_n S dX5_ways_93 rfl (lv_at hl 1 rfl) ?_
                          refine zv_isub S dX5_ways_94 ?_
                          refine zv_lald S hK hP 2 1 rfl rfl t (by omega) (by omega) (by decide) dX5_ways_95 ?_
                          refine zv_ladd S dX5_ways_96 ?_
                          refine zv_last S hK hP hD hS 2 1 rfl rfl (j2 + 1 + t) hv4 (by omega) (by decide) dX5_ways_97 (fun H locs hP hD hS => ?_)
                          have hP : va_P G.1 vwCl [(h0, .inr (5, [.int (zI 0), .int (zI sh), .ref ym, .ref ya, .ref yb, .ref yc, .ref ye, .ref yp, .ref yq, .ref yo, .int (zI ro), .long (zL fi), .long (zL la), .long (zL lo), .long (zL hi), .int (zI co), .ref yk, .ref yw, .ref yi, .int (zI ge), .ref yx, .ref yy, .int (zI ir)])), zcz G yk 61 K, zcl G yw 1001 (zU W3 (j2 + 1 + t) ((W3 (j2 + 1 + t)) + (W3 t)))] H := hP
                          have hD : va_D A [(h0, .inr (5, [.int (zI 0), .int (zI sh), .ref ym, .ref ya, .ref yb, .ref yc, .ref ye, .ref yp, .ref yq, .ref yo, .int (zI ro), .long (zL fi), .long (zL la), .long (zL lo), .long (zL hi), .int (zI co), .ref yk, .ref yw, .ref yi, .int (zI ge), .ref yx, .ref yy, .int (zI ir)])), zcz G yk 61 K, zcl G yw 1001 (zU W3 (j2 + 1 + t) ((W3 (j2 + 1 + t)) + (W3 t)))] := hD
                          refine zv_iinc (k0 := 0) (lv' := [(3, .int (zI (v4 + 1))), (2, .int (zI v3)), (0, .ref h0), (1, .int (zI v))]) S dX5_ways_98 hl rfl (by decide) rfl (fun ls hl => ?_)
                          refine zv_goto (tgt := 67) S dX5_ways_101 (by decide) ?_
                          exact ih67 (t + 1) (v4 + 1) (zU W3 (j2 + 1 + t) ((W3 (j2 + 1 + t)) + (W3 t))) (by omega) (by omega) (Or.inr c_9) (zal_wi (by omega) hW3 (by omega)) (by omega) _ _ hP hD hS _ (lv_sub hl [0, 1, 2, 3] rfl)
                  exact LP67 _ 0 v3 W2 (by omega) (Nat.zero_le _) (Or.inl rfl) hW2 (Nat.lt_succ_self _) _ _ hP hD hS _ (lv_sub hl [0, 1, 2, 3] rfl)
            exact LP59 _ 0 1 W1 rfl (by decide) (zw0_e hW1 (by omega)) (Nat.lt_succ_self _) _ _ hP hD hS _ (lv_sub hl [0, 1, 2] rfl)
          · refine zv_aload_n S dX5_ways_36 rfl (lv_at hl 1 rfl) ?_
            refine zv_get (C := RX5) (T := TX5) (N := 23) (ci := 5) (v := .ref yw) S in_X5_ways_X5 hK hP 0 rfl rfl 17 (by decide) wd_X5_ways_f39 rfl rfl dX5_ways_37 ?_
            refine zv_iload_n S dX5_ways_40 rfl (lv_at hl 0 rfl) ?_
            refine zv_iload_n S dX5_ways_41 rfl (lv_at hl 0 rfl) ?_
            refine zv_if_ne (tgt := 49) S (by unfold zR; omega) dX5_ways_42 (by decide) (fun c_10 => ?_) (fun c_10 => ?_)
            · refine zv_lconst (v := 0) S dX5_ways_49 (by decide) ?_
              refine zv_last S hK hP hD hS 2 1 rfl rfl j hv2 (by omega) (by decide) dX5_ways_50 (fun H locs hP hD hS => ?_)
              have hP : va_P G.1 vwCl [(h0, .inr (5, [.int (zI 0), .int (zI sh), .ref ym, .ref ya, .ref yb, .ref yc, .ref ye, .ref yp, .ref yq, .ref yo, .int (zI ro), .long (zL fi), .long (zL la), .long (zL lo), .long (zL hi), .int (zI co), .ref yk, .ref yw, .ref yi, .int (zI ge), .ref yx, .ref yy, .int (zI ir)])), zcz G yk 61 K, zcl G yw 1001 (zU W1 j 0)] H := hP
              have hD : va_D A [(h0, .inr (5, [.int (zI 0), .int (zI sh), .ref ym, .ref ya, .ref yb, .ref yc, .ref ye, .ref yp, .ref yq, .ref yo, .int (zI ro), .long (zL fi), .long (zL la), .long (zL lo), .long (zL hi), .int (zI co), .ref yk, .ref yw, .ref yi, .int (zI ge), .ref yx, .ref yy, .int (zI ir)])), zcz G yk 61 K, zcl G yw 1001 (zU W1 j 0)] := hD
              refine zv_iinc (k0 := 0) (lv' := [(2, .int (zI (v2 + 1))), (0, .ref h0), (1, .int (zI v))]) S dX5_ways_51 hl rfl (by decide) rfl (fun ls hl => ?_)
              refine zv_goto (tgt := 31) S dX5_ways_54 (by decide) ?_
              exact ih31 (j + 1) (v2 + 1) (zU W1 j 0) (by omega) (by omega) (zw0_s hW1 (by rw [if_neg (by omega)])) (by omega) _ _ hP hD hS _ (lv_sub hl [0, 1, 2] rfl)
            · refine zv_lconst (v := 1) S dX5_ways_45 (by decide) ?_
              refine zv_goto (tgt := 50) S dX5_ways_46 (by decide) ?_
              refine zv_last S hK hP hD hS 2 1 rfl rfl j hv2 (by omega) (by decide) dX5_ways_50 (fun H locs hP hD hS => ?_)
              have hP : va_P G.1 vwCl [(h0, .inr (5, [.int (zI 0), .int (zI sh), .ref ym, .ref ya, .ref yb, .ref yc, .ref ye, .ref yp, .ref yq, .ref yo, .int (zI ro), .long (zL fi), .long (zL la), .long (zL lo), .long (zL hi), .int (zI co), .ref yk, .ref yw, .ref yi, .int (zI ge), .ref yx, .ref yy, .int (zI ir)])), zcz G yk 61 K, zcl G yw 1001 (zU W1 j 1)] H := hP
              have hD : va_D A [(h0, .inr (5, [.int (zI 0), .int (zI sh), .ref ym, .ref ya, .ref yb, .ref yc, .ref ye, .ref yp, .ref yq, .ref yo, .int (zI ro), .long (zL fi), .long (zL la), .long (zL lo), .long (zL hi), .int (zI co), .ref yk, .ref yw, .ref yi, .int (zI ge), .ref yx, .ref yy, .int (zI ir)])), zcz G yk 61 K, zcl G yw 1001 (zU W1 j 1)] := hD
              refine zv_iinc (k0 := 0) (lv' := [(2, .int (zI (v2 + 1))), (0, .ref h0), (1, .int (zI v))]) S dX5_ways_51 hl rfl (by decide) rfl (fun ls hl => ?_)
              refine zv_goto (tgt := 31) S dX5_ways_54 (by decide) ?_
              exact ih31 (j + 1) (v2 + 1) (zU W1 j 1) (by omega) (by omega) (zw0_s hW1 (by rw [if_pos (by omega)])) (by omega) _ _ hP hD hS _ (lv_sub hl [0, 1, 2] rfl)
      exact LP31 _ 0 0 Wt rfl (by omega) (fun i z => absurd z (Nat.not_lt_zero _)) (Nat.lt_succ_self _) _ _ hP hD hS _ (lv_sub hl [0, 1, 2] rfl)
    · exact absurd c_5 (by omega)

theorem wd_X5_hasEnd_f35 : Cond.fieldLink RX5 35 "PointMillModel" "isCoin" "[Z" ∈ wsX5_hasEnd := by decide +kernel
theorem in_X5_hasEnd_X5 : ∀ w ∈ wsX50, w ∈ wsX5_hasEnd := by decide +kernel
set_option maxHeartbeats 4000000 in
set_option maxRecDepth 100000 in
/-- the model: hasEnd -/
theorem c_X5_hasEnd (l : Launch) (G : zG) (sz : Nat) (h0 : Nat) (th : Int) (sh : Int) (ym : Nat) (ya : Nat) (yb : Nat) (yc : Nat) (ye : Nat) (yp : Nat) (yq : Nat) (yo : Nat) (ro : Int) (fi : Int) (la : Int) (lo : Int) (hi : Int) (co : Int) (yk : Nat) (yw : Nat) (yi : Nat) (ge : Int) (yx : Nat) (yy : Nat) (ir : Int) (K : Nat → Int) (hKb : ∀ j, j < 61 → K j = 0 ∨ K j = 1) : Met l yX5_hasEnd wsX5_hasEnd ({ frames := 1, cells := 0, slots := 0, locals := 24 }) (va_Pc [.ref h0] (zPre G sz [(h0, .inr (5, [.int (zI th), .int (zI sh), .ref ym, .ref ya, .ref yb, .ref yc, .ref ye, .ref yp, .ref yq, .ref yo, .int (zI ro), .long (zL fi), .long (zL la), .long (zL lo), .long (zL hi), .int (zI co), .ref yk, .ref yw, .ref yi, .int (zI ge), .ref yx, .ref yy, .int (zI ir)])), zcz G yk 61 K])) (va_Qi (fun (r : Int32) (u : Unit) => r = zI (zb (zgd (zkm K) 60 = 1))) (fun u => zW G (va_A [(h0, .inr (5, [.int (zI th), .int (zI sh), .ref ym, .ref ya, .ref yb, .ref yc, .ref ye, .ref yp, .ref yq, .ref yo, .int (zI ro), .long (zL fi), .long (zL la), .long (zL lo), .long (zL hi), .int (zI co), .ref yk, .ref yw, .ref yi, .int (zI ge), .ref yx, .ref yy, .int (zI ir)])), zcz G yk 61 K] sz) ((fun (u : Unit) => [(h0, .inr (5, [.int (zI th), .int (zI sh), .ref ym, .ref ya, .ref yb, .ref yc, .ref ye, .ref yp, .ref yq, .ref yo, .int (zI ro), .long (zL fi), .long (zL la), .long (zL lo), .long (zL hi), .int (zI co), .ref yk, .ref yw, .ref yi, .int (zI ge), .ref yx, .ref yy, .int (zI ir)])), zcz G yk 61 K]) u)) (va_A [(h0, .inr (5, [.int (zI th), .int (zI sh), .ref ym, .ref ya, .ref yb, .ref yc, .ref ye, .ref yp, .ref yq, .ref yo, .int (zI ro), .long (zL fi), .long (zL la), .long (zL lo), .long (zL hi), .int (zI co), .ref yk, .ref yw, .ref yi, .int (zI ge), .ref yx, .ref yy, .int (zI ir)])), zcz G yk 61 K] sz)) 0 0 (va_A [(h0, .inr (5, [.int (zI th), .int (zI sh), .ref ym, .ref ya, .ref yb, .ref yc, .ref ye, .ref yp, .ref yq, .ref yo, .int (zI ro), .long (zL fi), .long (zL la), .long (zL lo), .long (zL hi), .int (zI co), .ref yk, .ref yw, .ref yi, .int (zI ge), .ref yx, .ref yy, .int (zI ir)])), zcz G yk 61 K] sz) := by
  refine zM_z (post := fun (r : Int32) (u : Unit) => r = zI (zb (zgd (zkm K) 60 = 1))) (w1 := fun (u : Unit) => [(h0, .inr (5, [.int (zI th), .int (zI sh), .ref ym, .ref ya, .ref yb, .ref yc, .ref ye, .ref yp, .ref yq, .ref yo, .int (zI ro), .long (zL fi), .long (zL la), .long (zL lo), .long (zL hi), .int (zI co), .ref yk, .ref yw, .ref yi, .int (zI ge), .ref yx, .ref yy, .int (zI ir)])), zcz G yk 61 K]) (plainFor_of_name (by decide)) rfl (Nat.le_of_ble_eq_true rfl) ?_
  intro p e s m below meth c A Q S hN hK hP hD hS hA hret ls hl
  have hl : lv_has ls 3 [(0, .ref h0)] := hl
  refine zv_iconst S dX5_hasEnd_0 ?_
  refine zv_istore_n (lv' := [(1, .int (zI 0)), (0, .ref h0)]) S dX5_hasEnd_1 rfl hl (by decide) rfl (fun ls hl => ?_)
  refine zv_iconst S dX5_hasEnd_2 ?_
  refine zv_istore_n (lv' := [(2, .int (zI 1)), (1, .int (zI 0)), (0, .ref h0)]) S dX5_hasEnd_3 rfl hl (by decide) rfl (fun ls hl => ?_)
  have LP4 : ∀ (nf : Nat) (j : Nat) (v2 : Int) (dv : Int) (hv2 : v2 = (j : Int) + 1) (hj : j ≤ 60) (hdv : dv = ((zgd (zkm K) j : Nat) : Int)), (60 - j) < nf → ∀ (H : Heap) (locs : List Loc), va_P G.1 vwCl [(h0, .inr (5, [.int (zI th), .int (zI sh), .ref ym, .ref ya, .ref yb, .ref yc, .ref ye, .ref yp, .ref yq, .ref yo, .int (zI ro), .long (zL fi), .long (zL la), .long (zL lo), .long (zL hi), .int (zI co), .ref yk, .ref yw, .ref yi, .int (zI ge), .ref yx, .ref yy, .int (zI ir)])), zcz G yk 61 K] H → va_D A [(h0, .inr (5, [.int (zI th), .int (zI sh), .ref ym, .ref ya, .ref yb, .ref yc, .ref ye, .ref yp, .ref yq, .ref yo, .int (zI ro), .long (zL fi), .long (zL la), .long (zL lo), .long (zL hi), .int (zI co), .ref yk, .ref yw, .ref yi, .int (zI ge), .ref yx, .ref yy, .int (zI ir)])), zcz G yk 61 K] → va_S A s.heap H locs → ∀ ls : Array Slot, lv_has ls 3 [(2, .int (zI v2)), (1, .int (zI dv)), (0, .ref h0)] → W p l e ({ frames := 1, cells := 0, slots := 0, locals := 24 }) s m ([.ref h0]).toArray below meth c H locs 0 0 Q (F0 m 4 ls []) := by
    intro nf
    induction nf with
    | zero =>
      intro j v2 dv hv2 hj hdv hf
      exact absurd hf (Nat.not_lt_zero _)
    | succ nf ih4 =>
      intro j v2 dv hv2 hj hdv hf H locs hP hD hS ls hl
      refine zv_iload_n S dX5_hasEnd_4 rfl (lv_at hl 0 rfl) ?_
      refine zv_bipush (v := 60) S dX5_hasEnd_5 (by decide) ?_
      refine zv_icmp_gt (tgt := 35) S (by unfold zR; omega) (by unfold zR; omega) dX5_hasEnd_7 (by decide) (fun c_1 => ?_) (fun c_1 => ?_)
      · have hg := zgd_le (zkm K) j
        refine zv_iload_n S dX5_hasEnd_35 rfl (lv_at hl 1 rfl) ?_
        refine zv_iconst S dX5_hasEnd_36 ?_
        refine zv_icmp_ne (tgt := 44) S (by unfold zR; omega) (by unfold zR; omega) dX5_hasEnd_37 (by decide) (fun c_2 => ?_) (fun c_2 => ?_)
        · refine zv_iconst S dX5_hasEnd_44 ?_
          exact hret _ _ _ _ _ () dX5_hasEnd_45 (by first | exact Or.inl rfl | exact Or.inr rfl) (congrArg zI (zb_f (by have e : j = 60 := (by omega); rw [e] at hdv; omega)).symm) (hP.sub [0, 1] rfl) (hD.sub [0, 1] (by decide) rfl) hS
        · refine zv_iconst S dX5_hasEnd_40 ?_
          refine zv_goto (tgt := 45) S dX5_hasEnd_41 (by decide) ?_
          exact hret _ _ _ _ _ () dX5_hasEnd_45 (by first | exact Or.inl rfl | exact Or.inr rfl) (congrArg zI (zb_t (by have e : j = 60 := (by omega); rw [e] at hdv; omega)).symm) (hP.sub [0, 1] rfl) (hD.sub [0, 1] (by decide) rfl) hS
      · have JN28 : ∀ (nd : Int) (hnd : nd = ((zgd (zkm K) (j + 1) : Nat) : Int)) (H : Heap) (locs : List Loc), va_P G.1 vwCl [(h0, .inr (5, [.int (zI th), .int (zI sh), .ref ym, .ref ya, .ref yb, .ref yc, .ref ye, .ref yp, .ref yq, .ref yo, .int (zI ro), .long (zL fi), .long (zL la), .long (zL lo), .long (zL hi), .int (zI co), .ref yk, .ref yw, .ref yi, .int (zI ge), .ref yx, .ref yy, .int (zI ir)])), zcz G yk 61 K] H → va_D A [(h0, .inr (5, [.int (zI th), .int (zI sh), .ref ym, .ref ya, .ref yb, .ref yc, .ref ye, .ref yp, .ref yq, .ref yo, .int (zI ro), .long (zL fi), .long (zL la), .long (zL lo), .long (zL hi), .int (zI co), .ref yk, .ref yw, .ref yi, .int (zI ge), .ref yx, .ref yy, .int (zI ir)])), zcz G yk 61 K] → va_S A s.heap H locs → ∀ ls : Array Slot, lv_has ls 3 [(2, .int (zI v2)), (1, .int (zI dv)), (0, .ref h0)] → W p l e ({ frames := 1, cells := 0, slots := 0, locals := 24 }) s m ([.ref h0]).toArray below meth c H locs 0 0 Q (F0 m 28 ls [.int (zI nd)]) := by
          intro nd hnd H locs hP hD hS ls hl
          refine zv_istore_n (lv' := [(1, .int (zI nd)), (2, .int (zI v2)), (0, .ref h0)]) S dX5_hasEnd_28 rfl hl (by decide) rfl (fun ls hl => ?_)
          refine zv_iinc (k0 := 1) (lv' := [(2, .int (zI (v2 + 1))), (1, .int (zI nd)), (0, .ref h0)]) S dX5_hasEnd_29 hl rfl (by decide) rfl (fun ls hl => ?_)
          refine zv_goto (tgt := 4) S dX5_hasEnd_32 (by decide) ?_
          exact ih4 (j + 1) (v2 + 1) nd (by omega) (by omega) hnd (by omega) _ _ hP hD hS _ (lv_sub hl [0, 1, 2] rfl)
        have hg := zgd_le (zkm K) j
        have kb := hKb (j + 1) (by omega)
        refine zv_aload_n S dX5_hasEnd_10 rfl (lv_at hl 2 rfl) ?_
        refine zv_get (C := RX5) (T := TX5) (N := 23) (ci := 5) (v := .ref yk) S in_X5_hasEnd_X5 hK hP 0 rfl rfl 16 (by decide) wd_X5_hasEnd_f35 rfl rfl dX5_hasEnd_11 ?_
        refine zv_iload_n S dX5_hasEnd_14 rfl (lv_at hl 0 rfl) ?_
        refine zv_zald S hK hP 1 2 rfl rfl (j + 1) (by omega) (by omega) (by decide) dX5_hasEnd_15 ?_
        refine zv_if_eq (tgt := 27) S (by unfold zR; omega) dX5_hasEnd_16 (by decide) (fun c_3 => ?_) (fun c_3 => ?_)
        · refine zv_iload_n S dX5_hasEnd_27 rfl (lv_at hl 1 rfl) ?_
          exact JN28 dv (zgm_f hdv (fun z => z c_3)) _ _ hP hD hS _ (lv_sub hl [0, 1, 2] rfl)
        · refine zv_iload_n S dX5_hasEnd_19 rfl (lv_at hl 1 rfl) ?_
          refine zv_iload_n S dX5_hasEnd_20 rfl (lv_at hl 0 rfl) ?_
          refine zc_Si (As := [.int (zI dv), .int (zI v2)]) (rest := []) (wr := [(h0, .inr (5, [.int (zI th), .int (zI sh), .ref ym, .ref ya, .ref yb, .ref yc, .ref ye, .ref yp, .ref yq, .ref yo, .int (zI ro), .long (zL fi), .long (zL la), .long (zL lo), .long (zL hi), .int (zI co), .ref yk, .ref yw, .ref yi, .int (zI ge), .ref yx, .ref yy, .int (zI ir)])), zcz G yk 61 K]) (n := 2) S hN hK hP hD hS hA hl (c_X5_common l G H.size dv v2 (by omega) (by omega)) gX5_hasEnd_X5_common rfl ⟨rfl, rfl⟩ (by decide +kernel) rfl ⟨Nat.le_of_ble_eq_true rfl, Nat.le_of_ble_eq_true rfl, Nat.le_of_ble_eq_true rfl, Nat.le_of_ble_eq_true rfl⟩ [] [0, 1] rfl rfl (by decide) (by decide) (by decide) (Nat.le_of_ble_eq_true rfl) dX5_hasEnd_21 rfl (fun r_ u_4 H1 locs1 hp_5 hP1 hD1 hS1 hz1 => ?_)
          try dsimp only at hp_5 hP1 hD1
          subst hp_5
          generalize H1 = H at hP1 hD1 hS1 hz1 ⊢
          generalize locs1 = locs at hS1 ⊢
          have hS := hS1
          have hP : va_P G.1 vwCl [(h0, .inr (5, [.int (zI th), .int (zI sh), .ref ym, .ref ya, .ref yb, .ref yc, .ref ye, .ref yp, .ref yq, .ref yo, .int (zI ro), .long (zL fi), .long (zL la), .long (zL lo), .long (zL hi), .int (zI co), .ref yk, .ref yw, .ref yi, .int (zI ge), .ref yx, .ref yy, .int (zI ir)])), zcz G yk 61 K] H := hP1
          have hD : va_D A [(h0, .inr (5, [.int (zI th), .int (zI sh), .ref ym, .ref ya, .ref yb, .ref yc, .ref ye, .ref yp, .ref yq, .ref yo, .int (zI ro), .long (zL fi), .long (zL la), .long (zL lo), .long (zL hi), .int (zI co), .ref yk, .ref yw, .ref yi, .int (zI ge), .ref yx, .ref yy, .int (zI ir)])), zcz G yk 61 K] := hD1
          refine zv_goto (tgt := 28) S dX5_hasEnd_24 (by decide) ?_
          exact JN28 ((Nat.gcd dv.natAbs v2.natAbs : Nat) : Int) (zgm_t hv2 hdv c_3) _ _ hP hD hS _ (lv_sub hl [0, 1, 2] rfl)
  exact LP4 _ 0 1 0 rfl (by decide) rfl (Nat.lt_succ_self _) _ _ hP hD hS _ (lv_sub hl [0, 1, 2] rfl)

theorem wd_X5_pays_f42 : Cond.fieldLink RX5 42 "PointMillModel" "isPaid" "[Z" ∈ wsX5_pays := by decide +kernel
theorem in_X5_pays_X5 : ∀ w ∈ wsX50, w ∈ wsX5_pays := by decide +kernel
theorem wd_X5_pays_f35 : Cond.fieldLink RX5 35 "PointMillModel" "isCoin" "[Z" ∈ wsX5_pays := by decide +kernel
set_option maxHeartbeats 4000000 in
set_option maxRecDepth 100000 in
/-- the model: pays -/
theorem c_X5_pays (l : Launch) (G : zG) (sz : Nat) (h0 : Nat) (th : Int) (sh : Int) (ym : Nat) (ya : Nat) (yb : Nat) (yc : Nat) (ye : Nat) (yp : Nat) (yq : Nat) (yo : Nat) (ro : Int) (fi : Int) (la : Int) (lo : Int) (hi : Int) (co : Int) (yk : Nat) (yw : Nat) (yi : Nat) (ge : Int) (yx : Nat) (yy : Nat) (ir : Int) (K : Nat → Int) (Ip : Nat → Int) (hKb : ∀ j, j < 61 → K j = 0 ∨ K j = 1) : Met l yX5_pays wsX5_pays ({ frames := 0, cells := 0, slots := 0, locals := 0 }) (va_Pc [.ref h0] (zPre G sz [(h0, .inr (5, [.int (zI th), .int (zI sh), .ref ym, .ref ya, .ref yb, .ref yc, .ref ye, .ref yp, .ref yq, .ref yo, .int (zI ro), .long (zL fi), .long (zL la), .long (zL lo), .long (zL hi), .int (zI co), .ref yk, .ref yw, .ref yi, .int (zI ge), .ref yx, .ref yy, .int (zI ir)])), zcz G yk 61 K, zcz G yi 3601 Ip])) (va_Qv (fun (u : (Nat → Int)) => (∀ t, t < 3601 → u t = zb (zpay (zkm K) t))) (fun u => zW G (va_A [(h0, .inr (5, [.int (zI th), .int (zI sh), .ref ym, .ref ya, .ref yb, .ref yc, .ref ye, .ref yp, .ref yq, .ref yo, .int (zI ro), .long (zL fi), .long (zL la), .long (zL lo), .long (zL hi), .int (zI co), .ref yk, .ref yw, .ref yi, .int (zI ge), .ref yx, .ref yy, .int (zI ir)])), zcz G yk 61 K, zcz G yi 3601 Ip] sz) ((fun (u : (Nat → Int)) => [(h0, .inr (5, [.int (zI th), .int (zI sh), .ref ym, .ref ya, .ref yb, .ref yc, .ref ye, .ref yp, .ref yq, .ref yo, .int (zI ro), .long (zL fi), .long (zL la), .long (zL lo), .long (zL hi), .int (zI co), .ref yk, .ref yw, .ref yi, .int (zI ge), .ref yx, .ref yy, .int (zI ir)])), zcz G yk 61 K, zcz G yi 3601 u]) u)) (va_A [(h0, .inr (5, [.int (zI th), .int (zI sh), .ref ym, .ref ya, .ref yb, .ref yc, .ref ye, .ref yp, .ref yq, .ref yo, .int (zI ro), .long (zL fi), .long (zL la), .long (zL lo), .long (zL hi), .int (zI co), .ref yk, .ref yw, .ref yi, .int (zI ge), .ref yx, .ref yy, .int (zI ir)])), zcz G yk 61 K, zcz G yi 3601 Ip] sz)) 0 0 (va_A [(h0, .inr (5, [.int (zI th), .int (zI sh), .ref ym, .ref ya, .ref yb, .ref yc, .ref ye, .ref yp, .ref yq, .ref yo, .int (zI ro), .long (zL fi), .long (zL la), .long (zL lo), .long (zL hi), .int (zI co), .ref yk, .ref yw, .ref yi, .int (zI ge), .ref yx, .ref yy, .int (zI ir)])), zcz G yk 61 K, zcz G yi 3601 Ip] sz) := by
  refine zM_v (post := fun (u : (Nat → Int)) => (∀ t, t < 3601 → u t = zb (zpay (zkm K) t))) (w1 := fun (u : (Nat → Int)) => [(h0, .inr (5, [.int (zI th), .int (zI sh), .ref ym, .ref ya, .ref yb, .ref yc, .ref ye, .ref yp, .ref yq, .ref yo, .int (zI ro), .long (zL fi), .long (zL la), .long (zL lo), .long (zL hi), .int (zI co), .ref yk, .ref yw, .ref yi, .int (zI ge), .ref yx, .ref yy, .int (zI ir)])), zcz G yk 61 K, zcz G yi 3601 u]) (plainFor_of_name (by decide)) rfl (Nat.le_of_ble_eq_true rfl) ?_
  intro p e s m below meth c A Q S hN hK hP hD hS hA hret ls hl
  have hl : lv_has ls 3 [(0, .ref h0)] := hl
  refine zv_iconst S dX5_pays_0 ?_
  refine zv_istore_n (lv' := [(1, .int (zI 0)), (0, .ref h0)]) S dX5_pays_1 rfl hl (by decide) rfl (fun ls hl => ?_)
  have LP2 : ∀ (nf : Nat) (s1 : Nat) (v1 : Int) (I1 : Nat → Int) (hv1 : v1 = (s1 : Int)) (hs1 : s1 ≤ 3601) (hI1 : ∀ t, t < s1 → I1 t = zb (zpay (zkm K) t)), (3601 - s1) < nf → ∀ (H : Heap) (locs : List Loc), va_P G.1 vwCl [(h0, .inr (5, [.int (zI th), .int (zI sh), .ref ym, .ref ya, .ref yb, .ref yc, .ref ye, .ref yp, .ref yq, .ref yo, .int (zI ro), .long (zL fi), .long (zL la), .long (zL lo), .long (zL hi), .int (zI co), .ref yk, .ref yw, .ref yi, .int (zI ge), .ref yx, .ref yy, .int (zI ir)])), zcz G yk 61 K, zcz G yi 3601 I1] H → va_D A [(h0, .inr (5, [.int (zI th), .int (zI sh), .ref ym, .ref ya, .ref yb, .ref yc, .ref ye, .ref yp, .ref yq, .ref yo, .int (zI ro), .long (zL fi), .long (zL la), .long (zL lo), .long (zL hi), .int (zI co), .ref yk, .ref yw, .ref yi, .int (zI ge), .ref yx, .ref yy, .int (zI ir)])), zcz G yk 61 K, zcz G yi 3601 I1] → va_S A s.heap H locs → ∀ ls : Array Slot, lv_has ls 3 [(1, .int (zI v1)), (0, .ref h0)] → W p l e ({ frames := 0, cells := 0, slots := 0, locals := 0 }) s m ([.ref h0]).toArray below meth c H locs 0 0 Q (F0 m 2 ls []) := by
    intro nf
    induction nf with
    | zero =>
      intro s1 v1 I1 hv1 hs1 hI1 hf
      exact absurd hf (Nat.not_lt_zero _)
    | succ nf ih2 =>
      intro s1 v1 I1 hv1 hs1 hI1 hf H locs hP hD hS ls hl
      refine zv_iload_n S dX5_pays_2 rfl (lv_at hl 0 rfl) ?_
      refine zv_sipush (v := 3600) S dX5_pays_3 (by decide) ?_
      refine zv_icmp_gt (tgt := 89) S (by unfold zR; omega) (by unfold zR; omega) dX5_pays_6 (by decide) (fun c_1 => ?_) (fun c_1 => ?_)
      · exact hret _ _ _ _ I1 dX5_pays_89 (show ∀ t, t < 3601 → I1 t = zb (zpay (zkm K) t) from (by rw [show (3601 : Nat) = s1 by omega]; exact hI1)) (hP.sub [0, 1, 2] rfl) (hD.sub [0, 1, 2] (by decide) rfl) hS
      · have JN23 : ∀ (z0 : Int) (hz0 : z0 = zb (s1 = 0)) (hz1 : z0 = 0 ∨ z0 = 1) (H : Heap) (locs : List Loc), va_P G.1 vwCl [(h0, .inr (5, [.int (zI th), .int (zI sh), .ref ym, .ref ya, .ref yb, .ref yc, .ref ye, .ref yp, .ref yq, .ref yo, .int (zI ro), .long (zL fi), .long (zL la), .long (zL lo), .long (zL hi), .int (zI co), .ref yk, .ref yw, .ref yi, .int (zI ge), .ref yx, .ref yy, .int (zI ir)])), zcz G yk 61 K, zcz G yi 3601 I1] H → va_D A [(h0, .inr (5, [.int (zI th), .int (zI sh), .ref ym, .ref ya, .ref yb, .ref yc, .ref ye, .ref yp, .ref yq, .ref yo, .int (zI ro), .long (zL fi), .long (zL la), .long (zL lo), .long (zL hi), .int (zI co), .ref yk, .ref yw, .ref yi, .int (zI ge), .ref yx, .ref yy, .int (zI ir)])), zcz G yk 61 K, zcz G yi 3601 I1] → va_S A s.heap H locs → ∀ ls : Array Slot, lv_has ls 3 [(1, .int (zI v1)), (0, .ref h0)] → W p l e ({ frames := 0, cells := 0, slots := 0, locals := 0 }) s m ([.ref h0]).toArray below meth c H locs 0 0 Q (F0 m 23 ls [.int (zI z0), .int (zI v1), .ref yi]) := by
          intro z0 hz0 hz1 H locs hP hD hS ls hl
          refine zv_zast S hK hP hD hS 2 2 rfl rfl s1 hv1 (by omega) (by decide) hz1 dX5_pays_23 (fun H locs hP hD hS => ?_)
          have hP : va_P G.1 vwCl [(h0, .inr (5, [.int (zI th), .int (zI sh), .ref ym, .ref ya, .ref yb, .ref yc, .ref ye, .ref yp, .ref yq, .ref yo, .int (zI ro), .long (zL fi), .long (zL la), .long (zL lo), .long (zL hi), .int (zI co), .ref yk, .ref yw, .ref yi, .int (zI ge), .ref yx, .ref yy, .int (zI ir)])), zcz G yk 61 K, zcz G yi 3601 (zU I1 s1 z0)] H := hP
          have hD : va_D A [(h0, .inr (5, [.int (zI th), .int (zI sh), .ref ym, .ref ya, .ref yb, .ref yc, .ref ye, .ref yp, .ref yq, .ref yo, .int (zI ro), .long (zL fi), .long (zL la), .long (zL lo), .long (zL hi), .int (zI co), .ref yk, .ref yw, .ref yi, .int (zI ge), .ref yx, .ref yy, .int (zI ir)])), zcz G yk 61 K, zcz G yi 3601 (zU I1 s1 z0)] := hD
          refine zv_iconst S dX5_pays_24 ?_
          refine zv_istore_n (lv' := [(2, .int (zI 1)), (1, .int (zI v1)), (0, .ref h0)]) S dX5_pays_25 rfl hl (by decide) rfl (fun ls hl => ?_)
          have LP26 : ∀ (nf : Nat) (u : Nat) (v2 : Int) (I2 : Nat → Int) (hv2 : v2 = (u : Int) + 1) (hu : u ≤ 60 ∧ u ≤ s1) (hI2 : ∀ t, t < s1 → I2 t = zb (zpay (zkm K) t)) (hI3 : I2 s1 = zb (zpu (zkm K) s1 u)) (hI4 : I2 s1 = 0 ∨ I2 s1 = 1), (60 - u) < nf → ∀ (H : Heap) (locs : List Loc), va_P G.1 vwCl [(h0, .inr (5, [.int (zI th), .int (zI sh), .ref ym, .ref ya, .ref yb, .ref yc, .ref ye, .ref yp, .ref yq, .ref yo, .int (zI ro), .long (zL fi), .long (zL la), .long (zL lo), .long (zL hi), .int (zI co), .ref yk, .ref yw, .ref yi, .int (zI ge), .ref yx, .ref yy, .int (zI ir)])), zcz G yk 61 K, zcz G yi 3601 I2] H → va_D A [(h0, .inr (5, [.int (zI th), .int (zI sh), .ref ym, .ref ya, .ref yb, .ref yc, .ref ye, .ref yp, .ref yq, .ref yo, .int (zI ro), .long (zL fi), .long (zL la), .long (zL lo), .long (zL hi), .int (zI co), .ref yk, .ref yw, .ref yi, .int (zI ge), .ref yx, .ref yy, .int (zI ir)])), zcz G yk 61 K, zcz G yi 3601 I2] → va_S A s.heap H locs → ∀ ls : Array Slot, lv_has ls 3 [(2, .int (zI v2)), (1, .int (zI v1)), (0, .ref h0)] → W p l e ({ frames := 0, cells := 0, slots := 0, locals := 0 }) s m ([.ref h0]).toArray below meth c H locs 0 0 Q (F0 m 26 ls []) := by
            intro nf
            induction nf with
            | zero =>
              intro u v2 I2 hv2 hu hI2 hI3 hI4 hf
              exact absurd hf (Nat.not_lt_zero _)
            | succ nf ih26 =>
              intro u v2 I2 hv2 hu hI2 hI3 hI4 hf H locs hP hD hS ls hl
              refine zv_iload_n S dX5_pays_26 rfl (lv_at hl 0 rfl) ?_
              refine zv_bipush (v := 60) S dX5_pays_27 (by decide) ?_
              refine zv_icmp_gt (tgt := 83) S (by unfold zR; omega) (by unfold zR; omega) dX5_pays_29 (by decide) (fun c_2 => ?_) (fun c_2 => ?_)
              · refine zv_iinc (k0 := 1) (lv' := [(1, .int (zI (v1 + 1))), (2, .int (zI v2)), (0, .ref h0)]) S dX5_pays_83 hl rfl (by decide) rfl (fun ls hl => ?_)
                refine zv_goto (tgt := 2) S dX5_pays_86 (by decide) ?_
                exact ih2 (s1 + 1) (v1 + 1) I2 (by omega) (by omega) (zpi_s hI2 (fun _ _ => rfl) (by rw [hI3]; exact zb_congr (zpu_e (by omega) (by omega)))) (by omega) _ _ hP hD hS _ (lv_sub hl [0, 2] rfl)
              · refine zv_iload_n S dX5_pays_32 rfl (lv_at hl 0 rfl) ?_
                refine zv_iload_n S dX5_pays_33 rfl (lv_at hl 1 rfl) ?_
                refine zv_icmp_gt (tgt := 83) S (by unfold zR; omega) (by unfold zR; omega) dX5_pays_34 (by decide) (fun c_3 => ?_) (fun c_3 => ?_)
                · refine zv_iinc (k0 := 1) (lv' := [(1, .int (zI (v1 + 1))), (2, .int (zI v2)), (0, .ref h0)]) S dX5_pays_83 hl rfl (by decide) rfl (fun ls hl => ?_)
                  refine zv_goto (tgt := 2) S dX5_pays_86 (by decide) ?_
                  exact ih2 (s1 + 1) (v1 + 1) I2 (by omega) (by omega) (zpi_s hI2 (fun _ _ => rfl) (by rw [hI3]; exact zb_congr (zpu_e (by omega) (by omega)))) (by omega) _ _ hP hD hS _ (lv_sub hl [0, 2] rfl)
                · have JN76 : ∀ (nv : Int) (hnv : nv = zb (zpu (zkm K) s1 u ∨ (zkm K (u + 1) ∧ zpay (zkm K) (s1 - (u + 1))))) (hnv1 : nv = 0 ∨ nv = 1) (H : Heap) (locs : List Loc), va_P G.1 vwCl [(h0, .inr (5, [.int (zI th), .int (zI sh), .ref ym, .ref ya, .ref yb, .ref yc, .ref ye, .ref yp, .ref yq, .ref yo, .int (zI ro), .long (zL fi), .long (zL la), .long (zL lo), .long (zL hi), .int (zI co), .ref yk, .ref yw, .ref yi, .int (zI ge), .ref yx, .ref yy, .int (zI ir)])), zcz G yk 61 K, zcz G yi 3601 I2] H → va_D A [(h0, .inr (5, [.int (zI th), .int (zI sh), .ref ym, .ref ya, .ref yb, .ref yc, .ref ye, .ref yp, .ref yq, .ref yo, .int (zI ro), .long (zL fi), .long (zL la), .long (zL lo), .long (zL hi), .int (zI co), .ref yk, .ref yw, .ref yi, .int (zI ge), .ref yx, .ref yy, .int (zI ir)])), zcz G yk 61 K, zcz G yi 3601 I2] → va_S A s.heap H locs → ∀ ls : Array Slot, lv_has ls 3 [(2, .int (zI v2)), (1, .int (zI v1)), (0, .ref h0)] → W p l e ({ frames := 0, cells := 0, slots := 0, locals := 0 }) s m ([.ref h0]).toArray below meth c H locs 0 0 Q (F0 m 76 ls [.int (zI nv), .int (zI v1), .ref yi]) := by
                    intro nv hnv hnv1 H locs hP hD hS ls hl
                    refine zv_zast S hK hP hD hS 2 2 rfl rfl s1 hv1 (by omega) (by decide) hnv1 dX5_pays_76 (fun H locs hP hD hS => ?_)
                    have hP : va_P G.1 vwCl [(h0, .inr (5, [.int (zI th), .int (zI sh), .ref ym, .ref ya, .ref yb, .ref yc, .ref ye, .ref yp, .ref yq, .ref yo, .int (zI ro), .long (zL fi), .long (zL la), .long (zL lo), .long (zL hi), .int (zI co), .ref yk, .ref yw, .ref yi, .int (zI ge), .ref yx, .ref yy, .int (zI ir)])), zcz G yk 61 K, zcz G yi 3601 (zU I2 s1 nv)] H := hP
                    have hD : va_D A [(h0, .inr (5, [.int (zI th), .int (zI sh), .ref ym, .ref ya, .ref yb, .ref yc, .ref ye, .ref yp, .ref yq, .ref yo, .int (zI ro), .long (zL fi), .long (zL la), .long (zL lo), .long (zL hi), .int (zI co), .ref yk, .ref yw, .ref yi, .int (zI ge), .ref yx, .ref yy, .int (zI ir)])), zcz G yk 61 K, zcz G yi 3601 (zU I2 s1 nv)] := hD
                    refine zv_iinc (k0 := 0) (lv' := [(2, .int (zI (v2 + 1))), (1, .int (zI v1)), (0, .ref h0)]) S dX5_pays_77 hl rfl (by decide) rfl (fun ls hl => ?_)
                    refine zv_goto (tgt := 26) S dX5_pays_80 (by decide) ?_
                    exact ih26 (u + 1) (v2 + 1) (zU I2 s1 nv) (by omega) (by omega) (zpi_u hI2) (by rw [zU_same, hnv]; exact zb_congr (zpu_s (by omega)).symm) (by rw [zU_same]; exact hnv1) (by omega) _ _ hP hD hS _ (lv_sub hl [0, 1, 2] rfl)
                  refine zv_aload_n S dX5_pays_37 rfl (lv_at hl 2 rfl) ?_
                  refine zv_get (C := RX5) (T := TX5) (N := 23) (ci := 5) (v := .ref yi) S in_X5_pays_X5 hK hP 0 rfl rfl 18 (by decide) wd_X5_pays_f42 rfl rfl dX5_pays_38 ?_
                  refine zv_iload_n S dX5_pays_41 rfl (lv_at hl 1 rfl) ?_
                  refine zv_aload_n S dX5_pays_42 rfl (lv_at hl 2 rfl) ?_
                  refine zv_get (C := RX5) (T := TX5) (N := 23) (ci := 5) (v := .ref yi) S in_X5_pays_X5 hK hP 0 rfl rfl 18 (by decide) wd_X5_pays_f42 rfl rfl dX5_pays_43 ?_
                  refine zv_iload_n S dX5_pays_46 rfl (lv_at hl 1 rfl) ?_
                  refine zv_zald S hK hP 2 2 rfl rfl s1 hv1 (by omega) (by decide) dX5_pays_47 ?_
                  refine zv_if_ne (tgt := 71) S (by unfold zR; omega) dX5_pays_48 (by decide) (fun c_4 => ?_) (fun c_4 => ?_)
                  · refine zv_iconst S dX5_pays_71 ?_
                    refine zv_goto (tgt := 76) S dX5_pays_72 (by decide) ?_
                    exact JN76 1 (zb_t (Or.inl (zb_iff1.mp (hI3.symm.trans (by omega))))).symm (Or.inr rfl) _ _ hP hD hS _ (lv_sub hl [0, 1, 2] rfl)
                  · have kb := hKb (u + 1) (by omega)
                    refine zv_aload_n S dX5_pays_51 rfl (lv_at hl 2 rfl) ?_
                    refine zv_get (C := RX5) (T := TX5) (N := 23) (ci := 5) (v := .ref yk) S in_X5_pays_X5 hK hP 0 rfl rfl 16 (by decide) wd_X5_pays_f35 rfl rfl dX5_pays_52 ?_
                    refine zv_iload_n S dX5_pays_55 rfl (lv_at hl 0 rfl) ?_
                    refine zv_zald S hK hP 1 2 rfl rfl (u + 1) (by omega) (by omega) (by decide) dX5_pays_56 ?_
                    refine zv_if_eq (tgt := 75) S (by unfold zR; omega) dX5_pays_57 (by decide) (fun c_5 => ?_) (fun c_5 => ?_)
                    · refine zv_iconst S dX5_pays_75 ?_
                      exact JN76 0 (zb_f (fun z => z.elim (fun a => by have e := hI3.trans (zb_t a); omega) (fun b => b.1 c_5))).symm (Or.inl rfl) _ _ hP hD hS _ (lv_sub hl [0, 1, 2] rfl)
                    · have ki : I2 (s1 - (u + 1)) = 0 ∨ I2 (s1 - (u + 1)) = 1 := by rw [hI2 _ (by omega)]; exact zb_01 _
                      refine zv_aload_n S dX5_pays_60 rfl (lv_at hl 2 rfl) ?_
                      refine zv_get (C := RX5) (T := TX5) (N := 23) (ci := 5) (v := .ref yi) S in_X5_pays_X5 hK hP 0 rfl rfl 18 (by decide) wd_X5_pays_f42 rfl rfl dX5_pays_61 ?_
                      refine zv_iload_n S dX5_pays_64 rfl (lv_at hl 1 rfl) ?_
                      refine zv_iload_n S dX5_pays_65 rfl (lv_at hl 0 rfl) ?_
                      refine zv_isub S dX5_pays_66 ?_
                      refine zv_zald S hK hP 2 2 rfl rfl (s1 - (u + 1)) (by omega) (by omega) (by decide) dX5_pays_67 ?_
                      refine zv_if_eq (tgt := 75) S (by unfold zR; omega) dX5_pays_68 (by decide) (fun c_6 => ?_) (fun c_6 => ?_)
                      · refine zv_iconst S dX5_pays_75 ?_
                        exact JN76 0 (zb_f (fun z => z.elim (fun a => by have e := hI3.trans (zb_t a); omega) (fun b => by have e := (hI2 (s1 - (u + 1)) (by omega)).trans (zb_t b.2); omega))).symm (Or.inl rfl) _ _ hP hD hS _ (lv_sub hl [0, 1, 2] rfl)
                      · refine zv_iconst S dX5_pays_71 ?_
                        refine zv_goto (tgt := 76) S dX5_pays_72 (by decide) ?_
                        exact JN76 1 (zb_t (Or.inr ⟨c_5, zb_iff1.mp ((hI2 _ (by omega)).symm.trans (by omega))⟩)).symm (Or.inr rfl) _ _ hP hD hS _ (lv_sub hl [0, 1, 2] rfl)
          exact LP26 _ 0 1 (zU I1 s1 z0) rfl (by omega) (zpi_u hI1) (by rw [zU_same, hz0]; exact zb_congr zpu_0.symm) (by rw [zU_same]; exact hz1) (Nat.lt_succ_self _) _ _ hP hD hS _ (lv_sub hl [0, 1, 2] rfl)
        refine zv_aload_n S dX5_pays_9 rfl (lv_at hl 1 rfl) ?_
        refine zv_get (C := RX5) (T := TX5) (N := 23) (ci := 5) (v := .ref yi) S in_X5_pays_X5 hK hP 0 rfl rfl 18 (by decide) wd_X5_pays_f42 rfl rfl dX5_pays_10 ?_
        refine zv_iload_n S dX5_pays_13 rfl (lv_at hl 0 rfl) ?_
        refine zv_iload_n S dX5_pays_14 rfl (lv_at hl 0 rfl) ?_
        refine zv_if_ne (tgt := 22) S (by unfold zR; omega) dX5_pays_15 (by decide) (fun c_7 => ?_) (fun c_7 => ?_)
        · refine zv_iconst S dX5_pays_22 ?_
          exact JN23 0 (zb_f (by omega)).symm (Or.inl rfl) _ _ hP hD hS _ (lv_sub hl [0, 1] rfl)
        · refine zv_iconst S dX5_pays_18 ?_
          refine zv_goto (tgt := 23) S dX5_pays_19 (by decide) ?_
          exact JN23 1 (zb_t (by omega)).symm (Or.inr rfl) _ _ hP hD hS _ (lv_sub hl [0, 1] rfl)
  exact LP2 _ 0 0 Ip rfl (by decide) (fun t z => absurd z (Nat.not_lt_zero _)) (Nat.lt_succ_self _) _ _ hP hD hS _ (lv_sub hl [0, 1] rfl)
