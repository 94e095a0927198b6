theorem wd_X5_holds_f7 : Cond.fieldLink RX5 7 "PointMillModel" "many" "[I" ∈ wsX5_holds := by decide +kernel
theorem in_X5_holds_X5 : ∀ w ∈ wsX50, w ∈ wsX5_holds := by decide +kernel
theorem wd_X5_holds_f16 : Cond.fieldLink RX5 16 "PointMillModel" "b" "[I" ∈ wsX5_holds := by decide +kernel
theorem wd_X5_holds_f13 : Cond.fieldLink RX5 13 "PointMillModel" "a" "[I" ∈ wsX5_holds := by decide +kernel
set_option maxHeartbeats 4000000 in
set_option maxRecDepth 100000 in
/-- the model: holds -/
theorem c_X5_holds (l : Launch) (G : zG) (sz : Nat) (h0 : Nat) (th : Int) (sh : Int) (ym : Nat) (ya : Nat) (yb : Nat) (yc : Nat) (ye : Nat) (yp : Nat) (yq : Nat) (yo : Nat) (ro : Int) (fi : Int) (la : Int) (lo : Int) (hi : Int) (co : Int) (yk : Nat) (yw : Nat) (yi : Nat) (ge : Int) (yx : Nat) (yy : Nat) (ir : Int) (MN : Nat → Int) (MA : Nat → Int) (MB : Nat → Int) (vi : Int) (t : Nat) (k : Nat) (hvi : vi = (t : Int)) (ht : t < 8) (hk : MN t = (k : Int)) (hk2 : k ≤ 10) (hRA : ∀ j, j < 80 → -60 ≤ MA j ∧ MA j ≤ 60) (hRB : ∀ j, j < 80 → -60 ≤ MB j ∧ MB j ≤ 60) : Met l yX5_holds wsX5_holds ({ frames := 1, cells := 0, slots := 0, locals := 25 }) (va_Pc [.ref h0, .int (zI vi)] (zPre G sz [(h0, .inr (5, [.int (zI th), .int (zI sh), .ref ym, .ref ya, .ref yb, .ref yc, .ref ye, .ref yp, .ref yq, .ref yo, .int (zI ro), .long (zL fi), .long (zL la), .long (zL lo), .long (zL hi), .int (zI co), .ref yk, .ref yw, .ref yi, .int (zI ge), .ref yx, .ref yy, .int (zI ir)])), zci G ym 8 MN, zci G ya 80 MA, zci G yb 80 MB])) (va_Qi (fun (r : Int32) (u : Unit) => r = zI (zb (zpl (zrow MA t) (zrow MB t) k))) (fun u => zW G (va_A [(h0, .inr (5, [.int (zI th), .int (zI sh), .ref ym, .ref ya, .ref yb, .ref yc, .ref ye, .ref yp, .ref yq, .ref yo, .int (zI ro), .long (zL fi), .long (zL la), .long (zL lo), .long (zL hi), .int (zI co), .ref yk, .ref yw, .ref yi, .int (zI ge), .ref yx, .ref yy, .int (zI ir)])), zci G ym 8 MN, zci G ya 80 MA, zci G yb 80 MB] sz) ((fun (u : Unit) => [(h0, .inr (5, [.int (zI th), .int (zI sh), .ref ym, .ref ya, .ref yb, .ref yc, .ref ye, .ref yp, .ref yq, .ref yo, .int (zI ro), .long (zL fi), .long (zL la), .long (zL lo), .long (zL hi), .int (zI co), .ref yk, .ref yw, .ref yi, .int (zI ge), .ref yx, .ref yy, .int (zI ir)])), zci G ym 8 MN, zci G ya 80 MA, zci G yb 80 MB]) u)) (va_A [(h0, .inr (5, [.int (zI th), .int (zI sh), .ref ym, .ref ya, .ref yb, .ref yc, .ref ye, .ref yp, .ref yq, .ref yo, .int (zI ro), .long (zL fi), .long (zL la), .long (zL lo), .long (zL hi), .int (zI co), .ref yk, .ref yw, .ref yi, .int (zI ge), .ref yx, .ref yy, .int (zI ir)])), zci G ym 8 MN, zci G ya 80 MA, zci G yb 80 MB] sz)) 0 0 (va_A [(h0, .inr (5, [.int (zI th), .int (zI sh), .ref ym, .ref ya, .ref yb, .ref yc, .ref ye, .ref yp, .ref yq, .ref yo, .int (zI ro), .long (zL fi), .long (zL la), .long (zL lo), .long (zL hi), .int (zI co), .ref yk, .ref yw, .ref yi, .int (zI ge), .ref yx, .ref yy, .int (zI ir)])), zci G ym 8 MN, zci G ya 80 MA, zci G yb 80 MB] sz) := by
  subst hvi
  refine zM_z (post := fun (r : Int32) (u : Unit) => r = zI (zb (zpl (zrow MA t) (zrow MB t) k))) (w1 := fun (u : Unit) => [(h0, .inr (5, [.int (zI th), .int (zI sh), .ref ym, .ref ya, .ref yb, .ref yc, .ref ye, .ref yp, .ref yq, .ref yo, .int (zI ro), .long (zL fi), .long (zL la), .long (zL lo), .long (zL hi), .int (zI co), .ref yk, .ref yw, .ref yi, .int (zI ge), .ref yx, .ref yy, .int (zI ir)])), zci G ym 8 MN, zci G ya 80 MA, zci G yb 80 MB]) (plainFor_of_name (by decide)) rfl (Nat.le_of_ble_eq_true rfl) ?_
  intro p e s m below meth c A Q S hN hK hP hD hS hA hret ls hl
  have hl : lv_has ls 4 [(0, .ref h0), (1, .int (zI (t : Int)))] := hl
  have JN14 : ∀ (i0 : Int) (hi0 : i0 = zb (0 < k)) (hi1 : i0 = 0 ∨ i0 = 1) (H : Heap) (locs : List Loc), va_P G.1 vwCl [(h0, .inr (5, [.int (zI th), .int (zI sh), .ref ym, .ref ya, .ref yb, .ref yc, .ref ye, .ref yp, .ref yq, .ref yo, .int (zI ro), .long (zL fi), .long (zL la), .long (zL lo), .long (zL hi), .int (zI co), .ref yk, .ref yw, .ref yi, .int (zI ge), .ref yx, .ref yy, .int (zI ir)])), zci G ym 8 MN, zci G ya 80 MA, zci G yb 80 MB] H → va_D A [(h0, .inr (5, [.int (zI th), .int (zI sh), .ref ym, .ref ya, .ref yb, .ref yc, .ref ye, .ref yp, .ref yq, .ref yo, .int (zI ro), .long (zL fi), .long (zL la), .long (zL lo), .long (zL hi), .int (zI co), .ref yk, .ref yw, .ref yi, .int (zI ge), .ref yx, .ref yy, .int (zI ir)])), zci G ym 8 MN, zci G ya 80 MA, zci G yb 80 MB] → va_S A s.heap H locs → ∀ ls : Array Slot, lv_has ls 4 [(0, .ref h0), (1, .int (zI (t : Int)))] → W p l e ({ frames := 1, cells := 0, slots := 0, locals := 25 }) s m ([.ref h0, .int (zI (t : Int))]).toArray below meth c H locs 0 0 Q (F0 m 14 ls [.int (zI i0)]) := by
    intro i0 hi0 hi1 H locs hP hD hS ls hl
    refine zv_istore_n (lv' := [(2, .int (zI i0)), (0, .ref h0), (1, .int (zI (t : Int)))]) S dX5_holds_14 rfl hl (by decide) rfl (fun ls hl => ?_)
    refine zv_bipush (v := 10) S dX5_holds_15 (by decide) ?_
    refine zv_iload_n S dX5_holds_17 rfl (lv_at hl 2 rfl) ?_
    refine zv_imul S dX5_holds_18 ?_
    refine zv_istore_n (lv' := [(3, .int (zI (10 * (t : Int)))), (2, .int (zI i0)), (0, .ref h0), (1, .int (zI (t : Int)))]) S dX5_holds_19 rfl hl (by decide) rfl (fun ls hl => ?_)
    have LP20 : ∀ (nf : Nat) (i : Nat) (v3 : Int) (is : Int) (hv3 : v3 = ((10 * t + i : Nat) : Int)) (hik : i ≤ k) (his : is = zb (0 < k ∧ zplk (zrow MA t) (zrow MB t) k i)) (hib : is = 0 ∨ is = 1), (k - i) < nf → ∀ (H : Heap) (locs : List Loc), va_P G.1 vwCl [(h0, .inr (5, [.int (zI th), .int (zI sh), .ref ym, .ref ya, .ref yb, .ref yc, .ref ye, .ref yp, .ref yq, .ref yo, .int (zI ro), .long (zL fi), .long (zL la), .long (zL lo), .long (zL hi), .int (zI co), .ref yk, .ref yw, .ref yi, .int (zI ge), .ref yx, .ref yy, .int (zI ir)])), zci G ym 8 MN, zci G ya 80 MA, zci G yb 80 MB] H → va_D A [(h0, .inr (5, [.int (zI th), .int (zI sh), .ref ym, .ref ya, .ref yb, .ref yc, .ref ye, .ref yp, .ref yq, .ref yo, .int (zI ro), .long (zL fi), .long (zL la), .long (zL lo), .long (zL hi), .int (zI co), .ref yk, .ref yw, .ref yi, .int (zI ge), .ref yx, .ref yy, .int (zI ir)])), zci G ym 8 MN, zci G ya 80 MA, zci G yb 80 MB] → va_S A s.heap H locs → ∀ ls : Array Slot, lv_has ls 4 [(3, .int (zI v3)), (2, .int (zI is)), (0, .ref h0), (1, .int (zI (t : Int)))] → W p l e ({ frames := 1, cells := 0, slots := 0, locals := 25 }) s m ([.ref h0, .int (zI (t : Int))]).toArray below meth c H locs 0 0 Q (F0 m 20 ls []) := by
      intro nf
      induction nf with
      | zero =>
        intro i v3 is hv3 hik his hib hf
        exact absurd hf (Nat.not_lt_zero _)
      | succ nf ih20 =>
        intro i v3 is hv3 hik his hib hf H locs hP hD hS ls hl
        refine zv_iload_n S dX5_holds_20 rfl (lv_at hl 0 rfl) ?_
        refine zv_bipush (v := 10) S dX5_holds_21 (by decide) ?_
        refine zv_iload_n S dX5_holds_23 rfl (lv_at hl 3 rfl) ?_
        refine zv_imul S dX5_holds_24 ?_
        refine zv_aload_n S dX5_holds_25 rfl (lv_at hl 2 rfl) ?_
        refine zv_get (C := RX5) (T := TX5) (N := 23) (ci := 5) (v := .ref ym) S in_X5_holds_X5 hK hP 0 rfl rfl 2 (by decide) wd_X5_holds_f7 rfl rfl dX5_holds_26 ?_
        refine zv_iload_n S dX5_holds_29 rfl (lv_at hl 3 rfl) ?_
        refine zv_iald S hK hP 1 0 rfl rfl t rfl (by omega) (by decide) dX5_holds_30 ?_
        refine zv_iadd S dX5_holds_31 ?_
        refine zv_icmp_ge (tgt := 93) S (by unfold zR; omega) (by unfold zR; omega) dX5_holds_32 (by decide) (fun c_1 => ?_) (fun c_1 => ?_)
        · refine zv_iload_n S dX5_holds_93 rfl (lv_at hl 1 rfl) ?_
          exact hret _ _ _ _ _ () dX5_holds_94 (by rcases hib with h | h; exact Or.inl (congrArg zI h); exact Or.inr (congrArg zI h)) (congrArg zI (by rw [his, show i = k by omega]; rfl)) (hP.sub [0, 1, 2, 3] rfl) (hD.sub [0, 1, 2, 3] (by decide) rfl) hS
        · have JN86 : ∀ (is2 : Int) (hj : is2 = zb (is ≠ 0 ∧ ¬ zst (zrow MA t) (zrow MB t) k (MB (10 * t + i)) (-MA (10 * t + i)) ∧ ¬ zst (zrow MA t) (zrow MB t) k (-MB (10 * t + i)) (MA (10 * t + i)))) (hj01 : is2 = 0 ∨ is2 = 1) (H : Heap) (locs : List Loc), va_P G.1 vwCl [(h0, .inr (5, [.int (zI th), .int (zI sh), .ref ym, .ref ya, .ref yb, .ref yc, .ref ye, .ref yp, .ref yq, .ref yo, .int (zI ro), .long (zL fi), .long (zL la), .long (zL lo), .long (zL hi), .int (zI co), .ref yk, .ref yw, .ref yi, .int (zI ge), .ref yx, .ref yy, .int (zI ir)])), zci G ym 8 MN, zci G ya 80 MA, zci G yb 80 MB] H → va_D A [(h0, .inr (5, [.int (zI th), .int (zI sh), .ref ym, .ref ya, .ref yb, .ref yc, .ref ye, .ref yp, .ref yq, .ref yo, .int (zI ro), .long (zL fi), .long (zL la), .long (zL lo), .long (zL hi), .int (zI co), .ref yk, .ref yw, .ref yi, .int (zI ge), .ref yx, .ref yy, .int (zI ir)])), zci G ym 8 MN, zci G ya 80 MA, zci G yb 80 MB] → va_S A s.heap H locs → ∀ ls : Array Slot, lv_has ls 4 [(3, .int (zI v3)), (2, .int (zI is)), (0, .ref h0), (1, .int (zI (t : Int)))] → W p l e ({ frames := 1, cells := 0, slots := 0, locals := 25 }) s m ([.ref h0, .int (zI (t : Int))]).toArray below meth c H locs 0 0 Q (F0 m 86 ls [.int (zI is2)]) := by
            intro is2 hj hj01 H locs hP hD hS ls hl
            refine zv_istore_n (lv' := [(2, .int (zI is2)), (3, .int (zI v3)), (0, .ref h0), (1, .int (zI (t : Int)))]) S dX5_holds_86 rfl hl (by decide) rfl (fun ls hl => ?_)
            refine zv_iinc (k0 := 1) (lv' := [(3, .int (zI (v3 + 1))), (2, .int (zI is2)), (0, .ref h0), (1, .int (zI (t : Int)))]) S dX5_holds_87 hl rfl (by decide) rfl (fun ls hl => ?_)
            refine zv_goto (tgt := 20) S dX5_holds_90 (by decide) ?_
            exact ih20 (i + 1) (v3 + 1) is2 (by omega) (by omega) (zplk_r his hj) hj01 (by omega) _ _ hP hD hS _ (lv_sub hl [0, 1, 2, 3] rfl)
          refine zv_iload_n S dX5_holds_35 rfl (lv_at hl 1 rfl) ?_
          refine zv_if_eq (tgt := 85) S (by unfold zR; omega) dX5_holds_36 (by decide) (fun c_2 => ?_) (fun c_2 => ?_)
          · refine zv_iconst S dX5_holds_85 ?_
            exact JN86 0 (zb_0 is c_2) (Or.inl rfl) _ _ hP hD hS _ (lv_sub hl [0, 1, 2, 3] rfl)
          · refine zv_aload_n S dX5_holds_39 rfl (lv_at hl 2 rfl) ?_
            refine zv_iload_n S dX5_holds_40 rfl (lv_at hl 3 rfl) ?_
            refine zv_aload_n S dX5_holds_41 rfl (lv_at hl 2 rfl) ?_
            refine zv_get (C := RX5) (T := TX5) (N := 23) (ci := 5) (v := .ref yb) S in_X5_holds_X5 hK hP 0 rfl rfl 4 (by decide) wd_X5_holds_f16 rfl rfl dX5_holds_42 ?_
            refine zv_iload_n S dX5_holds_45 rfl (lv_at hl 0 rfl) ?_
            refine zv_iald S hK hP 3 0 rfl rfl (10 * t + i) hv3 (by omega) (by decide) dX5_holds_46 ?_
            refine zv_aload_n S dX5_holds_47 rfl (lv_at hl 2 rfl) ?_
            refine zv_get (C := RX5) (T := TX5) (N := 23) (ci := 5) (v := .ref ya) S in_X5_holds_X5 hK hP 0 rfl rfl 3 (by decide) wd_X5_holds_f13 rfl rfl dX5_holds_48 ?_
            refine zv_iload_n S dX5_holds_51 rfl (lv_at hl 0 rfl) ?_
            refine zv_iald S hK hP 2 0 rfl rfl (10 * t + i) hv3 (by omega) (by decide) dX5_holds_52 ?_
            refine zv_ineg S dX5_holds_53 ?_
            have e1 := hRA (10 * t + i) (by omega)
            have e2 := hRB (10 * t + i) (by omega)
            refine zc_Vi (As := [.int (zI (t : Int)), .int (zI (MB (10 * t + i))), .int (zI (-(MA (10 * t + i))))]) (rest := []) (wr := []) (n := 3) S hN hK hP hD hS hA hl (c_X5_isStep l G H.size h0 th sh ym ya yb yc ye yp yq yo ro fi la lo hi co yk yw yi ge yx yy ir MN MA MB t k (MB (10 * t + i)) (-(MA (10 * t + i))) ht hk hk2 (fun j hj => hRA _ (by omega)) (fun j hj => hRB _ (by omega)) (by omega) (by omega)) gX5_holds_X5_isStep rfl ⟨rfl, rfl⟩ (by decide +kernel) rfl ⟨Nat.le_of_ble_eq_true rfl, Nat.le_of_ble_eq_true rfl, Nat.le_of_ble_eq_true rfl, Nat.le_of_ble_eq_true rfl⟩ [0, 1, 2, 3] [] rfl rfl (by decide) (by decide) (by decide) (ci := 5) rfl rfl rfl (Nat.le_of_ble_eq_true rfl) dX5_holds_54 rfl (fun r_ u_3 H1 locs1 hp_4 hP1 hD1 hS1 hz1 => ?_)
            try dsimp only at hp_4 hP1 hD1
            subst hp_4
            generalize H1 = H at hP1 hD1 hS1 hz1 ⊢
            generalize locs1 = locs at hS1 ⊢
            have hS := hS1
            have hP : va_P G.1 vwCl [(h0, .inr (5, [.int (zI th), .int (zI sh), .ref ym, .ref ya, .ref yb, .ref yc, .ref ye, .ref yp, .ref yq, .ref yo, .int (zI ro), .long (zL fi), .long (zL la), .long (zL lo), .long (zL hi), .int (zI co), .ref yk, .ref yw, .ref yi, .int (zI ge), .ref yx, .ref yy, .int (zI ir)])), zci G ym 8 MN, zci G ya 80 MA, zci G yb 80 MB] H := hP1
            have hD : va_D A [(h0, .inr (5, [.int (zI th), .int (zI sh), .ref ym, .ref ya, .ref yb, .ref yc, .ref ye, .ref yp, .ref yq, .ref yo, .int (zI ro), .long (zL fi), .long (zL la), .long (zL lo), .long (zL hi), .int (zI co), .ref yk, .ref yw, .ref yi, .int (zI ge), .ref yx, .ref yy, .int (zI ir)])), zci G ym 8 MN, zci G ya 80 MA, zci G yb 80 MB] := hD1
            refine zv_ifb_ne (tgt := 85) S dX5_holds_57 (by decide) (fun c_5 => ?_) (fun c_5 => ?_)
            · refine zv_iconst S dX5_holds_85 ?_
              exact JN86 0 (zb_n is (fun z => z.1 c_5)) (Or.inl rfl) _ _ hP hD hS _ (lv_sub hl [0, 1, 2, 3] rfl)
            · refine zv_aload_n S dX5_holds_60 rfl (lv_at hl 2 rfl) ?_
              refine zv_iload_n S dX5_holds_61 rfl (lv_at hl 3 rfl) ?_
              refine zv_aload_n S dX5_holds_62 rfl (lv_at hl 2 rfl) ?_
              refine zv_get (C := RX5) (T := TX5) (N := 23) (ci := 5) (v := .ref yb) S in_X5_holds_X5 hK hP 0 rfl rfl 4 (by decide) wd_X5_holds_f16 rfl rfl dX5_holds_63 ?_
              refine zv_iload_n S dX5_holds_66 rfl (lv_at hl 0 rfl) ?_
              refine zv_iald S hK hP 3 0 rfl rfl (10 * t + i) hv3 (by omega) (by decide) dX5_holds_67 ?_
              refine zv_ineg S dX5_holds_68 ?_
              refine zv_aload_n S dX5_holds_69 rfl (lv_at hl 2 rfl) ?_
              refine zv_get (C := RX5) (T := TX5) (N := 23) (ci := 5) (v := .ref ya) S in_X5_holds_X5 hK hP 0 rfl rfl 3 (by decide) wd_X5_holds_f13 rfl rfl dX5_holds_70 ?_
              refine zv_iload_n S dX5_holds_73 rfl (lv_at hl 0 rfl) ?_
              refine zv_iald S hK hP 2 0 rfl rfl (10 * t + i) hv3 (by omega) (by decide) dX5_holds_74 ?_
              have e1 := hRA (10 * t + i) (by omega)
              have e2 := hRB (10 * t + i) (by omega)
              refine zc_Vi (As := [.int (zI (t : Int)), .int (zI (-(MB (10 * t + i)))), .int (zI (MA (10 * t + i)))]) (rest := []) (wr := []) (n := 3) S hN hK hP hD hS hA hl (c_X5_isStep l G H.size h0 th sh ym ya yb yc ye yp yq yo ro fi la lo hi co yk yw yi ge yx yy ir MN MA MB t k (-(MB (10 * t + i))) (MA (10 * t + i)) ht hk hk2 (fun j hj => hRA _ (by omega)) (fun j hj => hRB _ (by omega)) (by omega) (by omega)) gX5_holds_X5_isStep rfl ⟨rfl, rfl⟩ (by decide +kernel) rfl ⟨Nat.le_of_ble_eq_true rfl, Nat.le_of_ble_eq_true rfl, Nat.le_of_ble_eq_true rfl, Nat.le_of_ble_eq_true rfl⟩ [0, 1, 2, 3] [] rfl rfl (by decide) (by decide) (by decide) (ci := 5) rfl rfl rfl (Nat.le_of_ble_eq_true rfl) dX5_holds_75 rfl (fun r_ u_6 H1 locs1 hp_7 hP1 hD1 hS1 hz1 => ?_)
              try dsimp only at hp_7 hP1 hD1
              subst hp_7
              generalize H1 = H at hP1 hD1 hS1 hz1 ⊢
              generalize locs1 = locs at hS1 ⊢
              have hS := hS1
              have hP : va_P G.1 vwCl [(h0, .inr (5, [.int (zI th), .int (zI sh), .ref ym, .ref ya, .ref yb, .ref yc, .ref ye, .ref yp, .ref yq, .ref yo, .int (zI ro), .long (zL fi), .long (zL la), .long (zL lo), .long (zL hi), .int (zI co), .ref yk, .ref yw, .ref yi, .int (zI ge), .ref yx, .ref yy, .int (zI ir)])), zci G ym 8 MN, zci G ya 80 MA, zci G yb 80 MB] H := hP1
              have hD : va_D A [(h0, .inr (5, [.int (zI th), .int (zI sh), .ref ym, .ref ya, .ref yb, .ref yc, .ref ye, .ref yp, .ref yq, .ref yo, .int (zI ro), .long (zL fi), .long (zL la), .long (zL lo), .long (zL hi), .int (zI co), .ref yk, .ref yw, .ref yi, .int (zI ge), .ref yx, .ref yy, .int (zI ir)])), zci G ym 8 MN, zci G ya 80 MA, zci G yb 80 MB] := hD1
              refine zv_ifb_ne (tgt := 85) S dX5_holds_78 (by decide) (fun c_8 => ?_) (fun c_8 => ?_)
              · refine zv_iconst S dX5_holds_85 ?_
                exact JN86 0 (zb_n is (fun z => z.2 c_8)) (Or.inl rfl) _ _ hP hD hS _ (lv_sub hl [0, 1, 2, 3] rfl)
              · refine zv_iconst S dX5_holds_81 ?_
                refine zv_goto (tgt := 86) S dX5_holds_82 (by decide) ?_
                exact JN86 1 (zb_y is c_2 ⟨c_5, c_8⟩) (Or.inr rfl) _ _ hP hD hS _ (lv_sub hl [0, 1, 2, 3] rfl)
    exact LP20 _ 0 (10 * (t : Int)) i0 (by omega) (Nat.zero_le _) (zplk_i hi0) hi1 (Nat.lt_succ_self _) _ _ hP hD hS _ (lv_sub hl [0, 1, 2, 3] rfl)
  refine zv_aload_n S dX5_holds_0 rfl (lv_at hl 0 rfl) ?_
  refine zv_get (C := RX5) (T := TX5) (N := 23) (ci := 5) (v := .ref ym) S in_X5_holds_X5 hK hP 0 rfl rfl 2 (by decide) wd_X5_holds_f7 rfl rfl dX5_holds_1 ?_
  refine zv_iload_n S dX5_holds_4 rfl (lv_at hl 1 rfl) ?_
  refine zv_iald S hK hP 1 0 rfl rfl t rfl (by omega) (by decide) dX5_holds_5 ?_
  refine zv_if_le (tgt := 13) S (by unfold zR; omega) dX5_holds_6 (by decide) (fun c_9 => ?_) (fun c_9 => ?_)
  · refine zv_iconst S dX5_holds_13 ?_
    exact JN14 0 (zb_f (by omega)).symm (Or.inl rfl) _ _ hP hD hS _ (lv_sub hl [0, 1] rfl)
  · refine zv_iconst S dX5_holds_9 ?_
    refine zv_goto (tgt := 14) S dX5_holds_10 (by decide) ?_
    exact JN14 1 (zb_t (by omega)).symm (Or.inr rfl) _ _ hP hD hS _ (lv_sub hl [0, 1] rfl)

theorem wd_X5_isPlace_f51 : Cond.fieldLink RX5 51 "PointMillModel" "thrown" "I" ∈ wsX5_isPlace := by decide +kernel
theorem in_X5_isPlace_X5 : ∀ w ∈ wsX50, w ∈ wsX5_isPlace := by decide +kernel
set_option maxHeartbeats 4000000 in
set_option maxRecDepth 100000 in
/-- the model: isPlace -/
theorem c_X5_isPlace (l : Launch) (G : zG) (sz : Nat) (h0 : Nat) (th : Int) (sh : Int) (ym : Nat) (ya : Nat) (yb : Nat) (yc : Nat) (ye : Nat) (yp : Nat) (yq : Nat) (yo : Nat) (ro : Int) (fi : Int) (la : Int) (lo : Int) (hi : Int) (co : Int) (yk : Nat) (yw : Nat) (yi : Nat) (ge : Int) (yx : Nat) (yy : Nat) (ir : Int) (MN : Nat → Int) (MA : Nat → Int) (MB : Nat → Int) (v : Int) (hsh : 0 ≤ sh ∧ sh ≤ 8) (hmn : ∀ j, j < 8 → 0 ≤ MN j ∧ MN j ≤ 10) (hRA : ∀ j, j < 80 → -60 ≤ MA j ∧ MA j ≤ 60) (hRB : ∀ j, j < 80 → -60 ≤ MB j ∧ MB j ≤ 60) (hv : -2147483648 ≤ v ∧ v < 2147483648) : Met l yX5_isPlace wsX5_isPlace ({ frames := 2, cells := 0, slots := 0, locals := 48 }) (va_Pc [.ref h0, .int (zI v)] (zPre G sz [(h0, .inr (5, [.int (zI th), .int (zI sh), .ref ym, .ref ya, .ref yb, .ref yc, .ref ye, .ref yp, .ref yq, .ref yo, .int (zI ro), .long (zL fi), .long (zL la), .long (zL lo), .long (zL hi), .int (zI co), .ref yk, .ref yw, .ref yi, .int (zI ge), .ref yx, .ref yy, .int (zI ir)])), zci G ym 8 MN, zci G ya 80 MA, zci G yb 80 MB])) (va_Qi (fun (r : Int32) (u : (Int) × (Int)) => r = zI u.1 ∧ (zplaceR sh MN MA MB v u.1 u.2)) (fun u => zW G (va_A [(h0, .inr (5, [.int (zI th), .int (zI sh), .ref ym, .ref ya, .ref yb, .ref yc, .ref ye, .ref yp, .ref yq, .ref yo, .int (zI ro), .long (zL fi), .long (zL la), .long (zL lo), .long (zL hi), .int (zI co), .ref yk, .ref yw, .ref yi, .int (zI ge), .ref yx, .ref yy, .int (zI ir)])), zci G ym 8 MN, zci G ya 80 MA, zci G yb 80 MB] sz) ((fun (u : (Int) × (Int)) => [(h0, .inr (5, [.int (zI u.2), .int (zI sh), .ref ym, .ref ya, .ref yb, .ref yc, .ref ye, .ref yp, .ref yq, .ref yo, .int (zI ro), .long (zL fi), .long (zL la), .long (zL lo), .long (zL hi), .int (zI co), .ref yk, .ref yw, .ref yi, .int (zI ge), .ref yx, .ref yy, .int (zI ir)])), zci G ym 8 MN, zci G ya 80 MA, zci G yb 80 MB]) u)) (va_A [(h0, .inr (5, [.int (zI th), .int (zI sh), .ref ym, .ref ya, .ref yb, .ref yc, .ref ye, .ref yp, .ref yq, .ref yo, .int (zI ro), .long (zL fi), .long (zL la), .long (zL lo), .long (zL hi), .int (zI co), .ref yk, .ref yw, .ref yi, .int (zI ge), .ref yx, .ref yy, .int (zI ir)])), zci G ym 8 MN, zci G ya 80 MA, zci G yb 80 MB] sz)) 0 0 (va_A [(h0, .inr (5, [.int (zI th), .int (zI sh), .ref ym, .ref ya, .ref yb, .ref yc, .ref ye, .ref yp, .ref yq, .ref yo, .int (zI ro), .long (zL fi), .long (zL la), .long (zL lo), .long (zL hi), .int (zI co), .ref yk, .ref yw, .ref yi, .int (zI ge), .ref yx, .ref yy, .int (zI ir)])), zci G ym 8 MN, zci G ya 80 MA, zci G yb 80 MB] sz) := by
  refine zM_z (post := fun (r : Int32) (u : (Int) × (Int)) => r = zI u.1 ∧ (zplaceR sh MN MA MB v u.1 u.2)) (w1 := fun (u : (Int) × (Int)) => [(h0, .inr (5, [.int (zI u.2), .int (zI sh), .ref ym, .ref ya, .ref yb, .ref yc, .ref ye, .ref yp, .ref yq, .ref yo, .int (zI ro), .long (zL fi), .long (zL la), .long (zL lo), .long (zL hi), .int (zI co), .ref yk, .ref yw, .ref yi, .int (zI ge), .ref yx, .ref yy, .int (zI ir)])), zci G ym 8 MN, zci G ya 80 MA, zci G yb 80 MB]) (plainFor_of_name (by decide)) rfl (Nat.le_of_ble_eq_true rfl) ?_
  intro p e s m below meth c A Q S hN hK hP hD hS hA hret ls hl
  have hl : lv_has ls 2 [(0, .ref h0), (1, .int (zI v))] := hl
  refine zv_aload_n S dX5_isPlace_0 rfl (lv_at hl 0 rfl) ?_
  refine zv_aload_n S dX5_isPlace_1 rfl (lv_at hl 0 rfl) ?_
  refine zv_iload_n S dX5_isPlace_2 rfl (lv_at hl 1 rfl) ?_
  refine zc_Vi (As := [.int (zI v)]) (rest := [.ref h0]) (wr := [zci G ym 8 MN, zci G ya 80 MA, zci G yb 80 MB]) (n := 1) S hN hK hP hD hS hA hl (c_X5_isShape l G s.heap.size h0 th sh ym ya yb yc ye yp yq yo ro fi la lo hi co yk yw yi ge yx yy ir v (by omega) (by omega)) gX5_isPlace_X5_isShape rfl ⟨rfl, rfl⟩ (by decide +kernel) rfl ⟨Nat.le_of_ble_eq_true rfl, Nat.le_of_ble_eq_true rfl, Nat.le_of_ble_eq_true rfl, Nat.le_of_ble_eq_true rfl⟩ [0] [1, 2, 3] rfl rfl (by decide) (by decide) (by decide) (ci := 5) rfl rfl rfl (Nat.le_of_ble_eq_true rfl) dX5_isPlace_3 rfl (fun r_ u_1 H1 locs1 hp_2 hP1 hD1 hS1 hz1 => ?_)
  try dsimp only at hp_2 hP1 hD1
  subst hp_2
  generalize H1 = H at hP1 hD1 hS1 hz1 ⊢
  generalize locs1 = locs at hS1 ⊢
  have hS := hS1
  have hP : va_P G.1 vwCl [zci G ym 8 MN, zci G ya 80 MA, zci G yb 80 MB, (h0, .inr (5, [.int (zI th), .int (zI sh), .ref ym, .ref ya, .ref yb, .ref yc, .ref ye, .ref yp, .ref yq, .ref yo, .int (zI ro), .long (zL fi), .long (zL la), .long (zL lo), .long (zL hi), .int (zI co), .ref yk, .ref yw, .ref yi, .int (zI ge), .ref yx, .ref yy, .int (zI ir)]))] H := hP1
  have hD : va_D A [zci G ym 8 MN, zci G ya 80 MA, zci G yb 80 MB, (h0, .inr (5, [.int (zI th), .int (zI sh), .ref ym, .ref ya, .ref yb, .ref yc, .ref ye, .ref yp, .ref yq, .ref yo, .int (zI ro), .long (zL fi), .long (zL la), .long (zL lo), .long (zL hi), .int (zI co), .ref yk, .ref yw, .ref yi, .int (zI ge), .ref yx, .ref yy, .int (zI ir)]))] := hD1
  refine zv_ifb_eq (tgt := 13) S dX5_isPlace_6 (by decide) (fun c_3 => ?_) (fun c_3 => ?_)
  · refine zv_iconst S dX5_isPlace_13 ?_
    refine zv_put (C := RX5) (T := TX5) (N := 23) (ci := 5) (v := .int (zI 1)) S in_X5_isPlace_X5 tyX5 tyX5_ok nmX5 hK hP hD hS 3 rfl rfl 0 (by decide) wd_X5_isPlace_f51 rfl rfl rfl rfl (Nat.le_of_ble_eq_true rfl) dX5_isPlace_14 (fun H locs hP hD hS => ?_)
    have hP : va_P G.1 vwCl [zci G ym 8 MN, zci G ya 80 MA, zci G yb 80 MB, (h0, .inr (5, [.int (zI 1), .int (zI sh), .ref ym, .ref ya, .ref yb, .ref yc, .ref ye, .ref yp, .ref yq, .ref yo, .int (zI ro), .long (zL fi), .long (zL la), .long (zL lo), .long (zL hi), .int (zI co), .ref yk, .ref yw, .ref yi, .int (zI ge), .ref yx, .ref yy, .int (zI ir)]))] H := hP
    have hD : va_D A [zci G ym 8 MN, zci G ya 80 MA, zci G yb 80 MB, (h0, .inr (5, [.int (zI 1), .int (zI sh), .ref ym, .ref ya, .ref yb, .ref yc, .ref ye, .ref yp, .ref yq, .ref yo, .int (zI ro), .long (zL fi), .long (zL la), .long (zL lo), .long (zL hi), .int (zI co), .ref yk, .ref yw, .ref yi, .int (zI ge), .ref yx, .ref yy, .int (zI ir)]))] := hD
    refine zv_aload_n S dX5_isPlace_17 rfl (lv_at hl 0 rfl) ?_
    refine zv_get (C := RX5) (T := TX5) (N := 23) (ci := 5) (v := .int (zI 1)) S in_X5_isPlace_X5 hK hP 3 rfl rfl 0 (by decide) wd_X5_isPlace_f51 rfl rfl dX5_isPlace_18 ?_
    refine zv_if_ne (tgt := 36) S (by unfold zR; omega) dX5_isPlace_21 (by decide) (fun c_4 => ?_) (fun c_4 => ?_)
    · refine zv_iconst S dX5_isPlace_36 ?_
      exact hret _ _ _ _ _ ⟨0, 1⟩ dX5_isPlace_37 (Or.inl rfl) ⟨rfl, (show zplaceR sh MN MA MB v 0 1 from (Or.inl ⟨rfl, c_3⟩))⟩ (hP.sub [3, 0, 1, 2] rfl) (hD.sub [3, 0, 1, 2] (by decide) rfl) hS
    · exact absurd c_4 (by omega)
  · refine zv_iconst S dX5_isPlace_9 ?_
    refine zv_goto (tgt := 14) S dX5_isPlace_10 (by decide) ?_
    refine zv_put (C := RX5) (T := TX5) (N := 23) (ci := 5) (v := .int (zI 0)) S in_X5_isPlace_X5 tyX5 tyX5_ok nmX5 hK hP hD hS 3 rfl rfl 0 (by decide) wd_X5_isPlace_f51 rfl rfl rfl rfl (Nat.le_of_ble_eq_true rfl) dX5_isPlace_14 (fun H locs hP hD hS => ?_)
    have hP : va_P G.1 vwCl [zci G ym 8 MN, zci G ya 80 MA, zci G yb 80 MB, (h0, .inr (5, [.int (zI 0), .int (zI sh), .ref ym, .ref ya, .ref yb, .ref yc, .ref ye, .ref yp, .ref yq, .ref yo, .int (zI ro), .long (zL fi), .long (zL la), .long (zL lo), .long (zL hi), .int (zI co), .ref yk, .ref yw, .ref yi, .int (zI ge), .ref yx, .ref yy, .int (zI ir)]))] H := hP
    have hD : va_D A [zci G ym 8 MN, zci G ya 80 MA, zci G yb 80 MB, (h0, .inr (5, [.int (zI 0), .int (zI sh), .ref ym, .ref ya, .ref yb, .ref yc, .ref ye, .ref yp, .ref yq, .ref yo, .int (zI ro), .long (zL fi), .long (zL la), .long (zL lo), .long (zL hi), .int (zI co), .ref yk, .ref yw, .ref yi, .int (zI ge), .ref yx, .ref yy, .int (zI ir)]))] := hD
    refine zv_aload_n S dX5_isPlace_17 rfl (lv_at hl 0 rfl) ?_
    refine zv_get (C := RX5) (T := TX5) (N := 23) (ci := 5) (v := .int (zI 0)) S in_X5_isPlace_X5 hK hP 3 rfl rfl 0 (by decide) wd_X5_isPlace_f51 rfl rfl dX5_isPlace_18 ?_
    refine zv_if_ne (tgt := 36) S (by unfold zR; omega) dX5_isPlace_21 (by decide) (fun c_5 => ?_) (fun c_5 => ?_)
    · exact absurd c_5 (by omega)
    · have q0 := hmn v.toNat (by omega)
      refine zv_aload_n S dX5_isPlace_24 rfl (lv_at hl 0 rfl) ?_
      refine zv_iload_n S dX5_isPlace_25 rfl (lv_at hl 1 rfl) ?_
      refine zc_Vi (As := [.int (zI v)]) (rest := []) (wr := []) (n := 1) S hN hK hP hD hS hA hl (c_X5_holds l G H.size h0 0 sh ym ya yb yc ye yp yq yo ro fi la lo hi co yk yw yi ge yx yy ir MN MA MB v v.toNat ((MN v.toNat).toNat) (by omega) (by omega) (by omega) (by omega) hRA hRB) gX5_isPlace_X5_holds rfl ⟨rfl, rfl⟩ (by decide +kernel) rfl ⟨Nat.le_of_ble_eq_true rfl, Nat.le_of_ble_eq_true rfl, Nat.le_of_ble_eq_true rfl, Nat.le_of_ble_eq_true rfl⟩ [3, 0, 1, 2] [] rfl rfl (by decide) (by decide) (by decide) (ci := 5) rfl rfl rfl (Nat.le_of_ble_eq_true rfl) dX5_isPlace_26 rfl (fun r_ u_6 H1 locs1 hp_7 hP1 hD1 hS1 hz1 => ?_)
      try dsimp only at hp_7 hP1 hD1
      subst hp_7
      generalize H1 = H at hP1 hD1 hS1 hz1 ⊢
      generalize locs1 = locs at hS1 ⊢
      have hS := hS1
      have hP : va_P G.1 vwCl [(h0, .inr (5, [.int (zI 0), .int (zI sh), .ref ym, .ref ya, .ref yb, .ref yc, .ref ye, .ref yp, .ref yq, .ref yo, .int (zI ro), .long (zL fi), .long (zL la), .long (zL lo), .long (zL hi), .int (zI co), .ref yk, .ref yw, .ref yi, .int (zI ge), .ref yx, .ref yy, .int (zI ir)])), zci G ym 8 MN, zci G ya 80 MA, zci G yb 80 MB] H := hP1
      have hD : va_D A [(h0, .inr (5, [.int (zI 0), .int (zI sh), .ref ym, .ref ya, .ref yb, .ref yc, .ref ye, .ref yp, .ref yq, .ref yo, .int (zI ro), .long (zL fi), .long (zL la), .long (zL lo), .long (zL hi), .int (zI co), .ref yk, .ref yw, .ref yi, .int (zI ge), .ref yx, .ref yy, .int (zI ir)])), zci G ym 8 MN, zci G ya 80 MA, zci G yb 80 MB] := hD1
      refine zv_ifb_eq (tgt := 36) S dX5_isPlace_29 (by decide) (fun c_8 => ?_) (fun c_8 => ?_)
      · refine zv_iconst S dX5_isPlace_36 ?_
        exact hret _ _ _ _ _ ⟨0, 0⟩ dX5_isPlace_37 (by first | exact Or.inl rfl | exact Or.inr rfl) ⟨rfl, (show zplaceR sh MN MA MB v 0 0 from (Or.inr ⟨rfl, c_3, (zb_f c_8).symm⟩))⟩ (hP.sub [0, 1, 2, 3] rfl) (hD.sub [0, 1, 2, 3] (by decide) rfl) hS
      · refine zv_iconst S dX5_isPlace_32 ?_
        refine zv_goto (tgt := 37) S dX5_isPlace_33 (by decide) ?_
        exact hret _ _ _ _ _ ⟨1, 0⟩ dX5_isPlace_37 (by first | exact Or.inl rfl | exact Or.inr rfl) ⟨rfl, (show zplaceR sh MN MA MB v 1 0 from (Or.inr ⟨rfl, c_3, (zb_t c_8).symm⟩))⟩ (hP.sub [0, 1, 2, 3] rfl) (hD.sub [0, 1, 2, 3] (by decide) rfl) hS

theorem wd_X5_inequality_f51 : Cond.fieldLink RX5 51 "PointMillModel" "thrown" "I" ∈ wsX5_inequality := by decide +kernel
theorem in_X5_inequality_X5 : ∀ w ∈ wsX50, w ∈ wsX5_inequality := by decide +kernel
theorem wd_X5_inequality_f22 : Cond.fieldLink RX5 22 "PointMillModel" "e" "[I" ∈ wsX5_inequality := by decide +kernel
theorem wd_X5_inequality_f19 : Cond.fieldLink RX5 19 "PointMillModel" "c" "[I" ∈ wsX5_inequality := by decide +kernel
theorem wd_X5_inequality_f16 : Cond.fieldLink RX5 16 "PointMillModel" "b" "[I" ∈ wsX5_inequality := by decide +kernel
theorem wd_X5_inequality_f13 : Cond.fieldLink RX5 13 "PointMillModel" "a" "[I" ∈ wsX5_inequality := by decide +kernel
set_option maxHeartbeats 4000000 in
set_option maxRecDepth 100000 in
/-- the model: inequality -/
theorem c_X5_inequality (l : Launch) (G : zG) (sz : Nat) (h0 : Nat) (th : Int) (sh : Int) (ym : Nat) (ya : Nat) (yb : Nat) (yc : Nat) (ye : Nat) (yp : Nat) (yq : Nat) (yo : Nat) (ro : Int) (fi : Int) (la : Int) (lo : Int) (hi : Int) (co : Int) (yk : Nat) (yw : Nat) (yi : Nat) (ge : Int) (yx : Nat) (yy : Nat) (ir : Int) (MN : Nat → Int) (MA : Nat → Int) (MB : Nat → Int) (MC : Nat → Int) (ME : Nat → Int) (v : Int) (rw : Int) (wt : Int) (hsh : 0 ≤ sh ∧ sh ≤ 8) (hmn : ∀ j, j < 8 → 0 ≤ MN j ∧ MN j ≤ 10) (hv : -2147483648 ≤ v ∧ v < 2147483648) (h1 : -2147483648 ≤ rw ∧ rw < 2147483648) (h2 : -2147483648 ≤ wt ∧ wt < 2147483648) : Met l yX5_inequality wsX5_inequality ({ frames := 3, cells := 0, slots := 0, locals := 65 }) (va_Pc [.ref h0, .int (zI v), .int (zI rw), .int (zI wt)] (zPre G sz [(h0, .inr (5, [.int (zI th), .int (zI sh), .ref ym, .ref ya, .ref yb, .ref yc, .ref ye, .ref yp, .ref yq, .ref yo, .int (zI ro), .long (zL fi), .long (zL la), .long (zL lo), .long (zL hi), .int (zI co), .ref yk, .ref yw, .ref yi, .int (zI ge), .ref yx, .ref yy, .int (zI ir)])), zci G ym 8 MN, zci G ya 80 MA, zci G yb 80 MB, zci G yc 80 MC, zci G ye 80 ME])) (va_Qi (fun (r : Int32) (u : (Int) × (Int)) => r = zI u.1 ∧ (zineR sh MN MA MB MC ME v rw wt u.1 u.2)) (fun u => zW G (va_A [(h0, .inr (5, [.int (zI th), .int (zI sh), .ref ym, .ref ya, .ref yb, .ref yc, .ref ye, .ref yp, .ref yq, .ref yo, .int (zI ro), .long (zL fi), .long (zL la), .long (zL lo), .long (zL hi), .int (zI co), .ref yk, .ref yw, .ref yi, .int (zI ge), .ref yx, .ref yy, .int (zI ir)])), zci G ym 8 MN, zci G ya 80 MA, zci G yb 80 MB, zci G yc 80 MC, zci G ye 80 ME] sz) ((fun (u : (Int) × (Int)) => [(h0, .inr (5, [.int (zI u.2), .int (zI sh), .ref ym, .ref ya, .ref yb, .ref yc, .ref ye, .ref yp, .ref yq, .ref yo, .int (zI ro), .long (zL fi), .long (zL la), .long (zL lo), .long (zL hi), .int (zI co), .ref yk, .ref yw, .ref yi, .int (zI ge), .ref yx, .ref yy, .int (zI ir)])), zci G ym 8 MN, zci G ya 80 MA, zci G yb 80 MB, zci G yc 80 MC, zci G ye 80 ME]) u)) (va_A [(h0, .inr (5, [.int (zI th), .int (zI sh), .ref ym, .ref ya, .ref yb, .ref yc, .ref ye, .ref yp, .ref yq, .ref yo, .int (zI ro), .long (zL fi), .long (zL la), .long (zL lo), .long (zL hi), .int (zI co), .ref yk, .ref yw, .ref yi, .int (zI ge), .ref yx, .ref yy, .int (zI ir)])), zci G ym 8 MN, zci G ya 80 MA, zci G yb 80 MB, zci G yc 80 MC, zci G ye 80 ME] sz)) 0 0 (va_A [(h0, .inr (5, [.int (zI th), .int (zI sh), .ref ym, .ref ya, .ref yb, .ref yc, .ref ye, .ref yp, .ref yq, .ref yo, .int (zI ro), .long (zL fi), .long (zL la), .long (zL lo), .long (zL hi), .int (zI co), .ref yk, .ref yw, .ref yi, .int (zI ge), .ref yx, .ref yy, .int (zI ir)])), zci G ym 8 MN, zci G ya 80 MA, zci G yb 80 MB, zci G yc 80 MC, zci G ye 80 ME] sz) := by
  refine zM_i (post := fun (r : Int32) (u : (Int) × (Int)) => r = zI u.1 ∧ (zineR sh MN MA MB MC ME v rw wt u.1 u.2)) (w1 := fun (u : (Int) × (Int)) => [(h0, .inr (5, [.int (zI u.2), .int (zI sh), .ref ym, .ref ya, .ref yb, .ref yc, .ref ye, .ref yp, .ref yq, .ref yo, .int (zI ro), .long (zL fi), .long (zL la), .long (zL lo), .long (zL hi), .int (zI co), .ref yk, .ref yw, .ref yi, .int (zI ge), .ref yx, .ref yy, .int (zI ir)])), zci G ym 8 MN, zci G ya 80 MA, zci G yb 80 MB, zci G yc 80 MC, zci G ye 80 ME]) (plainFor_of_name (by decide)) rfl (Nat.le_of_ble_eq_true rfl) ?_
  intro p e s m below meth c A Q S hN hK hP hD hS hA hret ls hl
  have hl : lv_has ls 5 [(0, .ref h0), (1, .int (zI v)), (2, .int (zI rw)), (3, .int (zI wt))] := hl
  have JN28 : ∀ (tn : Int) (htn : tn = 1 ∧ ¬ ((0 ≤ v ∧ v < sh) ∧ 0 ≤ rw ∧ rw < MN v.toNat) ∨ tn = 2 ∧ ((0 ≤ v ∧ v < sh) ∧ 0 ≤ rw ∧ rw < MN v.toNat) ∧ ¬ (0 ≤ wt ∧ wt ≤ 3) ∨ tn = 0 ∧ ((0 ≤ v ∧ v < sh) ∧ 0 ≤ rw ∧ rw < MN v.toNat) ∧ (0 ≤ wt ∧ wt ≤ 3)) (H : Heap) (locs : List Loc), va_P G.1 vwCl [(h0, .inr (5, [.int (zI th), .int (zI sh), .ref ym, .ref ya, .ref yb, .ref yc, .ref ye, .ref yp, .ref yq, .ref yo, .int (zI ro), .long (zL fi), .long (zL la), .long (zL lo), .long (zL hi), .int (zI co), .ref yk, .ref yw, .ref yi, .int (zI ge), .ref yx, .ref yy, .int (zI ir)])), zci G ym 8 MN, zci G ya 80 MA, zci G yb 80 MB, zci G yc 80 MC, zci G ye 80 ME] H → va_D A [(h0, .inr (5, [.int (zI th), .int (zI sh), .ref ym, .ref ya, .ref yb, .ref yc, .ref ye, .ref yp, .ref yq, .ref yo, .int (zI ro), .long (zL fi), .long (zL la), .long (zL lo), .long (zL hi), .int (zI co), .ref yk, .ref yw, .ref yi, .int (zI ge), .ref yx, .ref yy, .int (zI ir)])), zci G ym 8 MN, zci G ya 80 MA, zci G yb 80 MB, zci G yc 80 MC, zci G ye 80 ME] → va_S A s.heap H locs → ∀ ls : Array Slot, lv_has ls 5 [(0, .ref h0), (1, .int (zI v)), (2, .int (zI rw)), (3, .int (zI wt))] → W p l e ({ frames := 3, cells := 0, slots := 0, locals := 65 }) s m ([.ref h0, .int (zI v), .int (zI rw), .int (zI wt)]).toArray below meth c H locs 0 0 Q (F0 m 28 ls [.int (zI tn), .ref h0]) := by
    intro tn htn H locs hP hD hS ls hl
    refine zv_put (C := RX5) (T := TX5) (N := 23) (ci := 5) (v := .int (zI tn)) S in_X5_inequality_X5 tyX5 tyX5_ok nmX5 hK hP hD hS 0 rfl rfl 0 (by decide) wd_X5_inequality_f51 rfl rfl rfl rfl (Nat.le_of_ble_eq_true rfl) dX5_inequality_28 (fun H locs hP hD hS => ?_)
    have hP : va_P G.1 vwCl [(h0, .inr (5, [.int (zI tn), .int (zI sh), .ref ym, .ref ya, .ref yb, .ref yc, .ref ye, .ref yp, .ref yq, .ref yo, .int (zI ro), .long (zL fi), .long (zL la), .long (zL lo), .long (zL hi), .int (zI co), .ref yk, .ref yw, .ref yi, .int (zI ge), .ref yx, .ref yy, .int (zI ir)])), zci G ym 8 MN, zci G ya 80 MA, zci G yb 80 MB, zci G yc 80 MC, zci G ye 80 ME] H := hP
    have hD : va_D A [(h0, .inr (5, [.int (zI tn), .int (zI sh), .ref ym, .ref ya, .ref yb, .ref yc, .ref ye, .ref yp, .ref yq, .ref yo, .int (zI ro), .long (zL fi), .long (zL la), .long (zL lo), .long (zL hi), .int (zI co), .ref yk, .ref yw, .ref yi, .int (zI ge), .ref yx, .ref yy, .int (zI ir)])), zci G ym 8 MN, zci G ya 80 MA, zci G yb 80 MB, zci G yc 80 MC, zci G ye 80 ME] := hD
    refine zv_aload_n S dX5_inequality_31 rfl (lv_at hl 0 rfl) ?_
    refine zv_get (C := RX5) (T := TX5) (N := 23) (ci := 5) (v := .int (zI tn)) S in_X5_inequality_X5 hK hP 0 rfl rfl 0 (by decide) wd_X5_inequality_f51 rfl rfl dX5_inequality_32 ?_
    refine zv_if_eq (tgt := 40) S (by unfold zR; omega) dX5_inequality_35 (by decide) (fun c_1 => ?_) (fun c_1 => ?_)
    · have q0 : ((0 ≤ v ∧ v < sh) ∧ 0 ≤ rw ∧ rw < MN v.toNat) ∧ (0 ≤ wt ∧ wt ≤ 3) := (by omega)
      have q1 := hmn v.toNat (by omega)
      refine zv_bipush (v := 10) S dX5_inequality_40 (by decide) ?_
      refine zv_iload_n S dX5_inequality_42 rfl (lv_at hl 1 rfl) ?_
      refine zv_imul S dX5_inequality_43 ?_
      refine zv_iload_n S dX5_inequality_44 rfl (lv_at hl 2 rfl) ?_
      refine zv_iadd S dX5_inequality_45 ?_
      refine zv_istore (lv' := [(4, .int (zI ((10 * v) + rw))), (0, .ref h0), (1, .int (zI v)), (2, .int (zI rw)), (3, .int (zI wt))]) S dX5_inequality_46 hl (by decide) rfl (fun ls hl => ?_)
      refine zv_iload_n S dX5_inequality_48 rfl (lv_at hl 4 rfl) ?_
      refine zv_if_ne (tgt := 62) S (by unfold zR; omega) dX5_inequality_49 (by decide) (fun c_2 => ?_) (fun c_2 => ?_)
      · refine zv_iload_n S dX5_inequality_62 rfl (lv_at hl 4 rfl) ?_
        refine zv_iconst S dX5_inequality_63 ?_
        refine zv_icmp_ne (tgt := 77) S (by unfold zR; omega) (by unfold zR; omega) dX5_inequality_64 (by decide) (fun c_3 => ?_) (fun c_3 => ?_)
        · refine zv_iload_n S dX5_inequality_77 rfl (lv_at hl 4 rfl) ?_
          refine zv_iconst S dX5_inequality_78 ?_
          refine zv_icmp_ne (tgt := 92) S (by unfold zR; omega) (by unfold zR; omega) dX5_inequality_79 (by decide) (fun c_4 => ?_) (fun c_4 => ?_)
          · refine zv_aload_n S dX5_inequality_92 rfl (lv_at hl 1 rfl) ?_
            refine zv_get (C := RX5) (T := TX5) (N := 23) (ci := 5) (v := .ref ye) S in_X5_inequality_X5 hK hP 0 rfl rfl 6 (by decide) wd_X5_inequality_f22 rfl rfl dX5_inequality_93 ?_
            refine zv_iload S dX5_inequality_96 (lv_at hl 0 rfl) ?_
            refine zv_iald S hK hP 5 0 rfl rfl (10 * v.toNat + rw.toNat) (by omega) (by omega) (by decide) dX5_inequality_98 ?_
            exact hret _ _ _ _ _ ⟨(ME (10 * v.toNat + rw.toNat)), tn⟩ dX5_inequality_99 ⟨rfl, (show zineR sh MN MA MB MC ME v rw wt (ME (10 * v.toNat + rw.toNat)) tn from (by rcases htn with h | h | h; exact absurd h.1 (by omega); exact absurd h.1 (by omega); exact Or.inr (Or.inr ⟨h.1, h.2.1, h.2.2, by unfold zpart; rw [if_neg (by omega), if_neg (by omega), if_neg (by omega)]⟩)))⟩ (hP.sub [0, 1, 2, 3, 4, 5] rfl) (hD.sub [0, 1, 2, 3, 4, 5] (by decide) rfl) hS
          · refine zv_aload_n S dX5_inequality_82 rfl (lv_at hl 1 rfl) ?_
            refine zv_get (C := RX5) (T := TX5) (N := 23) (ci := 5) (v := .ref yc) S in_X5_inequality_X5 hK hP 0 rfl rfl 5 (by decide) wd_X5_inequality_f19 rfl rfl dX5_inequality_83 ?_
            refine zv_iload S dX5_inequality_86 (lv_at hl 0 rfl) ?_
            refine zv_iald S hK hP 4 0 rfl rfl (10 * v.toNat + rw.toNat) (by omega) (by omega) (by decide) dX5_inequality_88 ?_
            refine zv_goto (tgt := 99) S dX5_inequality_89 (by decide) ?_
            exact hret _ _ _ _ _ ⟨(MC (10 * v.toNat + rw.toNat)), tn⟩ dX5_inequality_99 ⟨rfl, (show zineR sh MN MA MB MC ME v rw wt (MC (10 * v.toNat + rw.toNat)) tn from (by rcases htn with h | h | h; exact absurd h.1 (by omega); exact absurd h.1 (by omega); exact Or.inr (Or.inr ⟨h.1, h.2.1, h.2.2, by unfold zpart; rw [if_neg (by omega), if_neg (by omega), if_pos (by omega)]⟩)))⟩ (hP.sub [0, 1, 2, 3, 4, 5] rfl) (hD.sub [0, 1, 2, 3, 4, 5] (by decide) rfl) hS
        · refine zv_aload_n S dX5_inequality_67 rfl (lv_at hl 1 rfl) ?_
          refine zv_get (C := RX5) (T := TX5) (N := 23) (ci := 5) (v := .ref yb) S in_X5_inequality_X5 hK hP 0 rfl rfl 4 (by decide) wd_X5_inequality_f16 rfl rfl dX5_inequality_68 ?_
          refine zv_iload S dX5_inequality_71 (lv_at hl 0 rfl) ?_
          refine zv_iald S hK hP 3 0 rfl rfl (10 * v.toNat + rw.toNat) (by omega) (by omega) (by decide) dX5_inequality_73 ?_
          refine zv_goto (tgt := 99) S dX5_inequality_74 (by decide) ?_
          exact hret _ _ _ _ _ ⟨(MB (10 * v.toNat + rw.toNat)), tn⟩ dX5_inequality_99 ⟨rfl, (show zineR sh MN MA MB MC ME v rw wt (MB (10 * v.toNat + rw.toNat)) tn from (by rcases htn with h | h | h; exact absurd h.1 (by omega); exact absurd h.1 (by omega); exact Or.inr (Or.inr ⟨h.1, h.2.1, h.2.2, by unfold zpart; rw [if_neg (by omega), if_pos (by omega)]⟩)))⟩ (hP.sub [0, 1, 2, 3, 4, 5] rfl) (hD.sub [0, 1, 2, 3, 4, 5] (by decide) rfl) hS
      · refine zv_aload_n S dX5_inequality_52 rfl (lv_at hl 1 rfl) ?_
        refine zv_get (C := RX5) (T := TX5) (N := 23) (ci := 5) (v := .ref ya) S in_X5_inequality_X5 hK hP 0 rfl rfl 3 (by decide) wd_X5_inequality_f13 rfl rfl dX5_inequality_53 ?_
        refine zv_iload S dX5_inequality_56 (lv_at hl 0 rfl) ?_
        refine zv_iald S hK hP 2 0 rfl rfl (10 * v.toNat + rw.toNat) (by omega) (by omega) (by decide) dX5_inequality_58 ?_
        refine zv_goto (tgt := 99) S dX5_inequality_59 (by decide) ?_
        exact hret _ _ _ _ _ ⟨(MA (10 * v.toNat + rw.toNat)), tn⟩ dX5_inequality_99 ⟨rfl, (show zineR sh MN MA MB MC ME v rw wt (MA (10 * v.toNat + rw.toNat)) tn from (by rcases htn with h | h | h; exact absurd h.1 (by omega); exact absurd h.1 (by omega); exact Or.inr (Or.inr ⟨h.1, h.2.1, h.2.2, by unfold zpart; rw [if_pos (by omega)]⟩)))⟩ (hP.sub [0, 1, 2, 3, 4, 5] rfl) (hD.sub [0, 1, 2, 3, 4, 5] (by decide) rfl) hS
    · refine zv_iconst S dX5_inequality_38 ?_
      exact hret _ _ _ _ _ ⟨0, tn⟩ dX5_inequality_39 ⟨rfl, (show zineR sh MN MA MB MC ME v rw wt 0 tn from (by rcases htn with h | h | h; exact Or.inl h; exact Or.inr (Or.inl h); exact absurd h.1 c_1))⟩ (hP.sub [0, 1, 2, 3, 4, 5] rfl) (hD.sub [0, 1, 2, 3, 4, 5] (by decide) rfl) hS
  refine zv_aload_n S dX5_inequality_0 rfl (lv_at hl 0 rfl) ?_
  refine zv_aload_n S dX5_inequality_1 rfl (lv_at hl 0 rfl) ?_
  refine zv_iload_n S dX5_inequality_2 rfl (lv_at hl 1 rfl) ?_
  refine zv_iload_n S dX5_inequality_3 rfl (lv_at hl 2 rfl) ?_
  refine zc_Vi (As := [.int (zI v), .int (zI rw)]) (rest := [.ref h0]) (wr := [zci G ya 80 MA, zci G yb 80 MB, zci G yc 80 MC, zci G ye 80 ME]) (n := 2) S hN hK hP hD hS hA hl (c_X5_isRow l G s.heap.size h0 th sh ym ya yb yc ye yp yq yo ro fi la lo hi co yk yw yi ge yx yy ir MN v rw (by omega) (by omega) (by omega) (by omega)) gX5_inequality_X5_isRow rfl ⟨rfl, rfl⟩ (by decide +kernel) rfl ⟨Nat.le_of_ble_eq_true rfl, Nat.le_of_ble_eq_true rfl, Nat.le_of_ble_eq_true rfl, Nat.le_of_ble_eq_true rfl⟩ [0, 1] [2, 3, 4, 5] rfl rfl (by decide) (by decide) (by decide) (ci := 5) rfl rfl rfl (Nat.le_of_ble_eq_true rfl) dX5_inequality_4 rfl (fun r_ u_5 H1 locs1 hp_6 hP1 hD1 hS1 hz1 => ?_)
  try dsimp only at hp_6 hP1 hD1
  subst hp_6
  generalize H1 = H at hP1 hD1 hS1 hz1 ⊢
  generalize locs1 = locs at hS1 ⊢
  have hS := hS1
  have hP : va_P G.1 vwCl [zci G ya 80 MA, zci G yb 80 MB, zci G yc 80 MC, zci G ye 80 ME, (h0, .inr (5, [.int (zI th), .int (zI sh), .ref ym, .ref ya, .ref yb, .ref yc, .ref ye, .ref yp, .ref yq, .ref yo, .int (zI ro), .long (zL fi), .long (zL la), .long (zL lo), .long (zL hi), .int (zI co), .ref yk, .ref yw, .ref yi, .int (zI ge), .ref yx, .ref yy, .int (zI ir)])), zci G ym 8 MN] H := hP1
  have hD : va_D A [zci G ya 80 MA, zci G yb 80 MB, zci G yc 80 MC, zci G ye 80 ME, (h0, .inr (5, [.int (zI th), .int (zI sh), .ref ym, .ref ya, .ref yb, .ref yc, .ref ye, .ref yp, .ref yq, .ref yo, .int (zI ro), .long (zL fi), .long (zL la), .long (zL lo), .long (zL hi), .int (zI co), .ref yk, .ref yw, .ref yi, .int (zI ge), .ref yx, .ref yy, .int (zI ir)])), zci G ym 8 MN] := hD1
  refine zv_ifb_ne (tgt := 14) S dX5_inequality_7 (by decide) (fun c_7 => ?_) (fun c_7 => ?_)
  · refine zv_iload_n S dX5_inequality_14 rfl (lv_at hl 3 rfl) ?_
    refine zv_iconst S dX5_inequality_15 ?_
    refine zv_iconst S dX5_inequality_16 ?_
    refine zc_Si (As := [.int (zI wt), .int (zI 0), .int (zI 3)]) (rest := [.ref h0]) (wr := [zci G ya 80 MA, zci G yb 80 MB, zci G yc 80 MC, zci G ye 80 ME, (h0, .inr (5, [.int (zI th), .int (zI sh), .ref ym, .ref ya, .ref yb, .ref yc, .ref ye, .ref yp, .ref yq, .ref yo, .int (zI ro), .long (zL fi), .long (zL la), .long (zL lo), .long (zL hi), .int (zI co), .ref yk, .ref yw, .ref yi, .int (zI ge), .ref yx, .ref yy, .int (zI ir)])), zci G ym 8 MN]) (n := 3) S hN hK hP hD hS hA hl (c_X5_in l G H.size wt 0 3 (by omega) (by omega) (by omega)) gX5_inequality_X5_in rfl ⟨rfl, rfl⟩ (by decide +kernel) rfl ⟨Nat.le_of_ble_eq_true rfl, Nat.le_of_ble_eq_true rfl, Nat.le_of_ble_eq_true rfl, Nat.le_of_ble_eq_true rfl⟩ [] [0, 1, 2, 3, 4, 5] rfl rfl (by decide) (by decide) (by decide) (Nat.le_of_ble_eq_true rfl) dX5_inequality_17 rfl (fun r_ u_8 H1 locs1 hp_9 hP1 hD1 hS1 hz1 => ?_)
    try dsimp only at hp_9 hP1 hD1
    subst hp_9
    generalize H1 = H at hP1 hD1 hS1 hz1 ⊢
    generalize locs1 = locs at hS1 ⊢
    have hS := hS1
    have hP : va_P G.1 vwCl [zci G ya 80 MA, zci G yb 80 MB, zci G yc 80 MC, zci G ye 80 ME, (h0, .inr (5, [.int (zI th), .int (zI sh), .ref ym, .ref ya, .ref yb, .ref yc, .ref ye, .ref yp, .ref yq, .ref yo, .int (zI ro), .long (zL fi), .long (zL la), .long (zL lo), .long (zL hi), .int (zI co), .ref yk, .ref yw, .ref yi, .int (zI ge), .ref yx, .ref yy, .int (zI ir)])), zci G ym 8 MN] H := hP1
    have hD : va_D A [zci G ya 80 MA, zci G yb 80 MB, zci G yc 80 MC, zci G ye 80 ME, (h0, .inr (5, [.int (zI th), .int (zI sh), .ref ym, .ref ya, .ref yb, .ref yc, .ref ye, .ref yp, .ref yq, .ref yo, .int (zI ro), .long (zL fi), .long (zL la), .long (zL lo), .long (zL hi), .int (zI co), .ref yk, .ref yw, .ref yi, .int (zI ge), .ref yx, .ref yy, .int (zI ir)])), zci G ym 8 MN] := hD1
    refine zv_ifb_ne (tgt := 27) S dX5_inequality_20 (by decide) (fun c_10 => ?_) (fun c_10 => ?_)
    · refine zv_iconst S dX5_inequality_27 ?_
      exact JN28 0 (by omega) _ _ (hP.sub [4, 5, 0, 1, 2, 3] rfl) (hD.sub [4, 5, 0, 1, 2, 3] (by decide) rfl) hS _ (lv_sub hl [0, 1, 2, 3] rfl)
    · refine zv_iconst S dX5_inequality_23 ?_
      refine zv_goto (tgt := 28) S dX5_inequality_24 (by decide) ?_
      exact JN28 2 (by omega) _ _ (hP.sub [4, 5, 0, 1, 2, 3] rfl) (hD.sub [4, 5, 0, 1, 2, 3] (by decide) rfl) hS _ (lv_sub hl [0, 1, 2, 3] rfl)
  · refine zv_iconst S dX5_inequality_10 ?_
    refine zv_goto (tgt := 28) S dX5_inequality_11 (by decide) ?_
    exact JN28 1 (by omega) _ _ (hP.sub [4, 5, 0, 1, 2, 3] rfl) (hD.sub [4, 5, 0, 1, 2, 3] (by decide) rfl) hS _ (lv_sub hl [0, 1, 2, 3] rfl)
