theorem wd_X5_column_f84 : Cond.fieldLink RX5 84 "PointMillModel" "rows" "I" ∈ wsX5_column := by decide +kernel
theorem in_X5_column_X5 : ∀ w ∈ wsX50, w ∈ wsX5_column := by decide +kernel
theorem wd_X5_column_f104 : Cond.fieldLink RX5 104 "PointMillModel" "high" "J" ∈ wsX5_column := by decide +kernel
theorem wd_X5_column_f107 : Cond.fieldLink RX5 107 "PointMillModel" "low" "J" ∈ wsX5_column := by decide +kernel
theorem wd_X5_column_f32 : Cond.fieldLink RX5 32 "PointMillModel" "most" "[J" ∈ wsX5_column := by decide +kernel
theorem wd_X5_column_f25 : Cond.fieldLink RX5 25 "PointMillModel" "p" "[J" ∈ wsX5_column := by decide +kernel
theorem wd_X5_column_f29 : Cond.fieldLink RX5 29 "PointMillModel" "q" "[J" ∈ wsX5_column := by decide +kernel
set_option maxHeartbeats 4000000 in
set_option maxRecDepth 100000 in
/-- the model: column -/
theorem c_X5_column (l : Launch) (G : zG) (sz : Nat) (h0 : Nat) (th : Int) (sh : Int) (ym : Nat) (ya : Nat) (yb : Nat) (yc : Nat) (ye : Nat) (yp : Nat) (yq : Nat) (yo : Nat) (ro : Int) (fi : Int) (la : Int) (lo : Int) (hi : Int) (co : Int) (yk : Nat) (yw : Nat) (yi : Nat) (ge : Int) (yx : Nat) (yy : Nat) (ir : Int) (P : Nat → Int) (Qu : Nat → Int) (M : Nat → Int) (k : Nat) (x : Int) (hkr : ro = (k : Int)) (hk2 : k ≤ 10) (hP0 : ∀ j, j < k → -60 ≤ P j ∧ P j ≤ 60) (hQ0 : ∀ j, j < k → -60 ≤ Qu j ∧ Qu j ≤ 60) (hM0 : ∀ j, j < k → -9000 ≤ M j ∧ M j ≤ 9000) (hup : ∃ i, i < k ∧ 0 < Qu i) (hdn : ∃ i, i < k ∧ Qu i < 0) (hx : -2000000 ≤ x ∧ x ≤ 2000000) : Met l yX5_column wsX5_column ({ frames := 1, cells := 0, slots := 0, locals := 25 }) (va_Pc [.ref h0, .long (zL x)] (zPre G sz [(h0, .inr (5, [.int (zI th), .int (zI sh), .ref ym, .ref ya, .ref yb, .ref yc, .ref ye, .ref yp, .ref yq, .ref yo, .int (zI ro), .long (zL fi), .long (zL la), .long (zL lo), .long (zL hi), .int (zI co), .ref yk, .ref yw, .ref yi, .int (zI ge), .ref yx, .ref yy, .int (zI ir)])), zcl G yp 10 P, zcl G yq 10 Qu, zcl G yo 10 M])) (va_Ql (fun (r : Int64) (u : (Int) × (Int) × (Int)) => r = zL u.1 ∧ (zcolR P Qu M k x u.1 u.2.1 u.2.2) ∧ (-200000000 ≤ u.2.1 ∧ u.2.1 ≤ 200000000) ∧ (-200000000 ≤ u.2.2 ∧ u.2.2 ≤ 200000000)) (fun u => zW G (va_A [(h0, .inr (5, [.int (zI th), .int (zI sh), .ref ym, .ref ya, .ref yb, .ref yc, .ref ye, .ref yp, .ref yq, .ref yo, .int (zI ro), .long (zL fi), .long (zL la), .long (zL lo), .long (zL hi), .int (zI co), .ref yk, .ref yw, .ref yi, .int (zI ge), .ref yx, .ref yy, .int (zI ir)])), zcl G yp 10 P, zcl G yq 10 Qu, zcl G yo 10 M] sz) ((fun (u : (Int) × (Int) × (Int)) => [(h0, .inr (5, [.int (zI th), .int (zI sh), .ref ym, .ref ya, .ref yb, .ref yc, .ref ye, .ref yp, .ref yq, .ref yo, .int (zI ro), .long (zL fi), .long (zL la), .long (zL u.2.1), .long (zL u.2.2), .int (zI co), .ref yk, .ref yw, .ref yi, .int (zI ge), .ref yx, .ref yy, .int (zI ir)])), zcl G yp 10 P, zcl G yq 10 Qu, zcl G yo 10 M]) u)) (va_A [(h0, .inr (5, [.int (zI th), .int (zI sh), .ref ym, .ref ya, .ref yb, .ref yc, .ref ye, .ref yp, .ref yq, .ref yo, .int (zI ro), .long (zL fi), .long (zL la), .long (zL lo), .long (zL hi), .int (zI co), .ref yk, .ref yw, .ref yi, .int (zI ge), .ref yx, .ref yy, .int (zI ir)])), zcl G yp 10 P, zcl G yq 10 Qu, zcl G yo 10 M] sz)) 0 0 (va_A [(h0, .inr (5, [.int (zI th), .int (zI sh), .ref ym, .ref ya, .ref yb, .ref yc, .ref ye, .ref yp, .ref yq, .ref yo, .int (zI ro), .long (zL fi), .long (zL la), .long (zL lo), .long (zL hi), .int (zI co), .ref yk, .ref yw, .ref yi, .int (zI ge), .ref yx, .ref yy, .int (zI ir)])), zcl G yp 10 P, zcl G yq 10 Qu, zcl G yo 10 M] sz) := by
  refine zM_l (post := fun (r : Int64) (u : (Int) × (Int) × (Int)) => r = zL u.1 ∧ (zcolR P Qu M k x u.1 u.2.1 u.2.2) ∧ (-200000000 ≤ u.2.1 ∧ u.2.1 ≤ 200000000) ∧ (-200000000 ≤ u.2.2 ∧ u.2.2 ≤ 200000000)) (w1 := fun (u : (Int) × (Int) × (Int)) => [(h0, .inr (5, [.int (zI th), .int (zI sh), .ref ym, .ref ya, .ref yb, .ref yc, .ref ye, .ref yp, .ref yq, .ref yo, .int (zI ro), .long (zL fi), .long (zL la), .long (zL u.2.1), .long (zL u.2.2), .int (zI co), .ref yk, .ref yw, .ref yi, .int (zI ge), .ref yx, .ref yy, .int (zI ir)])), zcl G yp 10 P, zcl G yq 10 Qu, zcl G yo 10 M]) (plainFor_of_name (by decide)) rfl (Nat.le_of_ble_eq_true rfl) ?_
  intro p e s m below meth c A Q S hN hK hP hD hS hA hret ls hl
  have hl : lv_has ls 11 [(0, .ref h0), (1, .long (zL x))] := hl
  refine zv_iconst S dX5_column_0 ?_
  refine zv_istore_n (lv' := [(3, .int (zI 0)), (0, .ref h0), (1, .long (zL x))]) S dX5_column_1 rfl hl (by decide) rfl (fun ls hl => ?_)
  refine zv_iconst S dX5_column_2 ?_
  refine zv_istore (lv' := [(4, .int (zI 0)), (3, .int (zI 0)), (0, .ref h0), (1, .long (zL x))]) S dX5_column_3 hl (by decide) rfl (fun ls hl => ?_)
  refine zv_iconst S dX5_column_5 ?_
  refine zv_istore (lv' := [(5, .int (zI 1)), (4, .int (zI 0)), (3, .int (zI 0)), (0, .ref h0), (1, .long (zL x))]) S dX5_column_6 hl (by decide) rfl (fun ls hl => ?_)
  refine zv_iconst S dX5_column_8 ?_
  refine zv_istore (lv' := [(6, .int (zI 0)), (5, .int (zI 1)), (4, .int (zI 0)), (3, .int (zI 0)), (0, .ref h0), (1, .long (zL x))]) S dX5_column_9 hl (by decide) rfl (fun ls hl => ?_)
  have LP11 : ∀ (nf : Nat) (i : Nat) (v6 : Int) (up : Int) (dn : Int) (is : Int) (hi1 : Int) (lo1 : Int) (hv6 : v6 = (i : Int)) (hik : i ≤ k) (hcu : zcu P Qu M i x up hi1) (hcd : zcd P Qu M i x dn lo1) (his : is = zb (zflat P Qu M i x)) (hib : is = 0 ∨ is = 1), (k - i) < nf → ∀ (H : Heap) (locs : List Loc), va_P G.1 vwCl [(h0, .inr (5, [.int (zI th), .int (zI sh), .ref ym, .ref ya, .ref yb, .ref yc, .ref ye, .ref yp, .ref yq, .ref yo, .int (zI ro), .long (zL fi), .long (zL la), .long (zL lo1), .long (zL hi1), .int (zI co), .ref yk, .ref yw, .ref yi, .int (zI ge), .ref yx, .ref yy, .int (zI ir)])), zcl G yp 10 P, zcl G yq 10 Qu, zcl G yo 10 M] H → va_D A [(h0, .inr (5, [.int (zI th), .int (zI sh), .ref ym, .ref ya, .ref yb, .ref yc, .ref ye, .ref yp, .ref yq, .ref yo, .int (zI ro), .long (zL fi), .long (zL la), .long (zL lo1), .long (zL hi1), .int (zI co), .ref yk, .ref yw, .ref yi, .int (zI ge), .ref yx, .ref yy, .int (zI ir)])), zcl G yp 10 P, zcl G yq 10 Qu, zcl G yo 10 M] → va_S A s.heap H locs → ∀ ls : Array Slot, lv_has ls 11 [(6, .int (zI v6)), (5, .int (zI is)), (4, .int (zI dn)), (3, .int (zI up)), (0, .ref h0), (1, .long (zL x))] → W p l e ({ frames := 1, cells := 0, slots := 0, locals := 25 }) s m ([.ref h0, .long (zL x)]).toArray below meth c H locs 0 0 Q (F0 m 11 ls []) := by
    intro nf
    induction nf with
    | zero =>
      intro i v6 up dn is hi1 lo1 hv6 hik hcu hcd his hib hf
      exact absurd hf (Nat.not_lt_zero _)
    | succ nf ih11 =>
      intro i v6 up dn is hi1 lo1 hv6 hik hcu hcd his hib hf H locs hP hD hS ls hl
      refine zv_iload S dX5_column_11 (lv_at hl 0 rfl) ?_
      refine zv_aload_n S dX5_column_13 rfl (lv_at hl 4 rfl) ?_
      refine zv_get (C := RX5) (T := TX5) (N := 23) (ci := 5) (v := .int (zI ro)) S in_X5_column_X5 hK hP 0 rfl rfl 10 (by decide) wd_X5_column_f84 rfl rfl dX5_column_14 ?_
      refine zv_icmp_ge (tgt := 184) S (by unfold zR; omega) (by unfold zR; omega) dX5_column_17 (by decide) (fun c_1 => ?_) (fun c_1 => ?_)
      · have uu := zcu_01 hcu
        have dd := zcd_01 hcd
        have ub := zcu_b (by have e : i = k := (by omega); rw [e] at hcu; exact hcu) hup
        have db := zcd_b (by have e : i = k := (by omega); rw [e] at hcd; exact hcd) hdn
        refine zv_iload S dX5_column_184 (lv_at hl 1 rfl) ?_
        refine zv_if_eq (tgt := 215) S (by unfold zR; omega) dX5_column_186 (by decide) (fun c_2 => ?_) (fun c_2 => ?_)
        · refine zv_lconst (v := 0) S dX5_column_215 (by decide) ?_
          exact hret _ _ _ _ _ ⟨0, lo1, hi1⟩ dX5_column_216 ⟨rfl, (show zcolR P Qu M k x 0 lo1 hi1 from (by have e : i = k := (by omega); rw [e] at hcu hcd his; exact zcolR_0 hcu hcd hup hdn (Or.inl (fun z => absurd (his.trans (zb_t z)) (by omega))))), (show -200000000 ≤ lo1 ∧ lo1 ≤ 200000000 from (zcd_b (by have e : i = k := (by omega); rw [e] at hcd; exact hcd) hdn)), (show -200000000 ≤ hi1 ∧ hi1 ≤ 200000000 from (zcu_b (by have e : i = k := (by omega); rw [e] at hcu; exact hcu) hup))⟩ (hP.sub [0, 1, 2, 3] rfl) (hD.sub [0, 1, 2, 3] (by decide) rfl) hS
        · refine zv_aload_n S dX5_column_189 rfl (lv_at hl 4 rfl) ?_
          refine zv_get (C := RX5) (T := TX5) (N := 23) (ci := 5) (v := .long (zL hi1)) S in_X5_column_X5 hK hP 0 rfl rfl 14 (by decide) wd_X5_column_f104 rfl rfl dX5_column_190 ?_
          refine zv_aload_n S dX5_column_193 rfl (lv_at hl 4 rfl) ?_
          refine zv_get (C := RX5) (T := TX5) (N := 23) (ci := 5) (v := .long (zL lo1)) S in_X5_column_X5 hK hP 0 rfl rfl 13 (by decide) wd_X5_column_f107 rfl rfl dX5_column_194 ?_
          refine zv_lif_lt (tgt := 215) S (by unfold zS; omega) (by unfold zS; omega) dX5_column_197 dX5_column_198 (by decide) (fun c_3 => ?_) (fun c_3 => ?_)
          · refine zv_lconst (v := 0) S dX5_column_215 (by decide) ?_
            exact hret _ _ _ _ _ ⟨0, lo1, hi1⟩ dX5_column_216 ⟨rfl, (show zcolR P Qu M k x 0 lo1 hi1 from (by have e : i = k := (by omega); rw [e] at hcu hcd his; exact zcolR_0 hcu hcd hup hdn (Or.inr (by omega)))), (show -200000000 ≤ lo1 ∧ lo1 ≤ 200000000 from (zcd_b (by have e : i = k := (by omega); rw [e] at hcd; exact hcd) hdn)), (show -200000000 ≤ hi1 ∧ hi1 ≤ 200000000 from (zcu_b (by have e : i = k := (by omega); rw [e] at hcu; exact hcu) hup))⟩ (hP.sub [0, 1, 2, 3] rfl) (hD.sub [0, 1, 2, 3] (by decide) rfl) hS
          · refine zv_aload_n S dX5_column_201 rfl (lv_at hl 4 rfl) ?_
            refine zv_get (C := RX5) (T := TX5) (N := 23) (ci := 5) (v := .long (zL hi1)) S in_X5_column_X5 hK hP 0 rfl rfl 14 (by decide) wd_X5_column_f104 rfl rfl dX5_column_202 ?_
            refine zv_aload_n S dX5_column_205 rfl (lv_at hl 4 rfl) ?_
            refine zv_get (C := RX5) (T := TX5) (N := 23) (ci := 5) (v := .long (zL lo1)) S in_X5_column_X5 hK hP 0 rfl rfl 13 (by decide) wd_X5_column_f107 rfl rfl dX5_column_206 ?_
            refine zv_lsub S dX5_column_209 ?_
            refine zv_lconst (v := 1) S dX5_column_210 (by decide) ?_
            refine zv_ladd S dX5_column_211 ?_
            refine zv_goto (tgt := 216) S dX5_column_212 (by decide) ?_
            exact hret _ _ _ _ _ ⟨((hi1 - lo1) + 1), lo1, hi1⟩ dX5_column_216 ⟨rfl, (show zcolR P Qu M k x ((hi1 - lo1) + 1) lo1 hi1 from (by have e : i = k := (by omega); rw [e] at hcu hcd his; exact zcolR_1 hcu hcd hup hdn (zb_iff1.mp (by omega)) (by omega))), (show -200000000 ≤ lo1 ∧ lo1 ≤ 200000000 from (zcd_b (by have e : i = k := (by omega); rw [e] at hcd; exact hcd) hdn)), (show -200000000 ≤ hi1 ∧ hi1 ≤ 200000000 from (zcu_b (by have e : i = k := (by omega); rw [e] at hcu; exact hcu) hup))⟩ (hP.sub [0, 1, 2, 3] rfl) (hD.sub [0, 1, 2, 3] (by decide) rfl) hS
      · have q1 := hQ0 i (by omega)
        have p1 := hP0 i (by omega)
        have m1 := hM0 i (by omega)
        have mm1 := zmulb p1.1 p1.2 hx.1 hx.2
        have uu := zcu_01 hcu
        have dd := zcd_01 hcd
        refine zv_aload_n S dX5_column_20 rfl (lv_at hl 4 rfl) ?_
        refine zv_get (C := RX5) (T := TX5) (N := 23) (ci := 5) (v := .ref yo) S in_X5_column_X5 hK hP 0 rfl rfl 9 (by decide) wd_X5_column_f32 rfl rfl dX5_column_21 ?_
        refine zv_iload S dX5_column_24 (lv_at hl 0 rfl) ?_
        refine zv_lald S hK hP 3 1 rfl rfl i hv6 (by omega) (by decide) dX5_column_26 ?_
        refine zv_aload_n S dX5_column_27 rfl (lv_at hl 4 rfl) ?_
        refine zv_get (C := RX5) (T := TX5) (N := 23) (ci := 5) (v := .ref yp) S in_X5_column_X5 hK hP 0 rfl rfl 7 (by decide) wd_X5_column_f25 rfl rfl dX5_column_28 ?_
        refine zv_iload S dX5_column_31 (lv_at hl 0 rfl) ?_
        refine zv_lald S hK hP 1 1 rfl rfl i hv6 (by omega) (by decide) dX5_column_33 ?_
        refine zv_lload_n S dX5_column_34 rfl (lv_at hl 5 rfl) ?_
        refine zv_lmul S dX5_column_35 ?_
        refine zv_lsub S dX5_column_36 ?_
        refine zv_lstore (lv' := [(7, .long (zL ((M i) - ((P i) * x)))), (6, .int (zI v6)), (5, .int (zI is)), (4, .int (zI dn)), (3, .int (zI up)), (0, .ref h0), (1, .long (zL x))]) S dX5_column_37 hl (by decide) rfl (fun ls hl => ?_)
        refine zv_aload_n S dX5_column_39 rfl (lv_at hl 5 rfl) ?_
        refine zv_get (C := RX5) (T := TX5) (N := 23) (ci := 5) (v := .ref yq) S in_X5_column_X5 hK hP 0 rfl rfl 8 (by decide) wd_X5_column_f29 rfl rfl dX5_column_40 ?_
        refine zv_iload S dX5_column_43 (lv_at hl 1 rfl) ?_
        refine zv_lald S hK hP 2 1 rfl rfl i hv6 (by omega) (by decide) dX5_column_45 ?_
        refine zv_lconst (v := 0) S dX5_column_46 (by decide) ?_
        refine zv_lif_le (tgt := 97) S (by unfold zS; omega) (by unfold zS; omega) dX5_column_47 dX5_column_48 (by decide) (fun c_4 => ?_) (fun c_4 => ?_)
        · refine zv_aload_n S dX5_column_97 rfl (lv_at hl 5 rfl) ?_
          refine zv_get (C := RX5) (T := TX5) (N := 23) (ci := 5) (v := .ref yq) S in_X5_column_X5 hK hP 0 rfl rfl 8 (by decide) wd_X5_column_f29 rfl rfl dX5_column_98 ?_
          refine zv_iload S dX5_column_101 (lv_at hl 1 rfl) ?_
          refine zv_lald S hK hP 2 1 rfl rfl i hv6 (by omega) (by decide) dX5_column_103 ?_
          refine zv_lconst (v := 0) S dX5_column_104 (by decide) ?_
          refine zv_lif_ge (tgt := 159) S (by unfold zS; omega) (by unfold zS; omega) dX5_column_105 dX5_column_106 (by decide) (fun c_5 => ?_) (fun c_5 => ?_)
          · have JN176 : ∀ (is2 : Int) (hj : is2 = zb (is ≠ 0 ∧ 0 ≤ M i - P i * x)) (hj01 : is2 = 0 ∨ is2 = 1) (H : Heap) (locs : List Loc), va_P G.1 vwCl [(h0, .inr (5, [.int (zI th), .int (zI sh), .ref ym, .ref ya, .ref yb, .ref yc, .ref ye, .ref yp, .ref yq, .ref yo, .int (zI ro), .long (zL fi), .long (zL la), .long (zL lo1), .long (zL hi1), .int (zI co), .ref yk, .ref yw, .ref yi, .int (zI ge), .ref yx, .ref yy, .int (zI ir)])), zcl G yp 10 P, zcl G yq 10 Qu, zcl G yo 10 M] H → va_D A [(h0, .inr (5, [.int (zI th), .int (zI sh), .ref ym, .ref ya, .ref yb, .ref yc, .ref ye, .ref yp, .ref yq, .ref yo, .int (zI ro), .long (zL fi), .long (zL la), .long (zL lo1), .long (zL hi1), .int (zI co), .ref yk, .ref yw, .ref yi, .int (zI ge), .ref yx, .ref yy, .int (zI ir)])), zcl G yp 10 P, zcl G yq 10 Qu, zcl G yo 10 M] → va_S A s.heap H locs → ∀ ls : Array Slot, lv_has ls 11 [(7, .long (zL ((M i) - ((P i) * x)))), (6, .int (zI v6)), (5, .int (zI is)), (4, .int (zI dn)), (3, .int (zI up)), (0, .ref h0), (1, .long (zL x))] → W p l e ({ frames := 1, cells := 0, slots := 0, locals := 25 }) s m ([.ref h0, .long (zL x)]).toArray below meth c H locs 0 0 Q (F0 m 176 ls [.int (zI is2)]) := by
              intro is2 hj hj01 H locs hP hD hS ls hl
              refine zv_istore (lv' := [(5, .int (zI is2)), (7, .long (zL ((M i) - ((P i) * x)))), (6, .int (zI v6)), (4, .int (zI dn)), (3, .int (zI up)), (0, .ref h0), (1, .long (zL x))]) S dX5_column_176 hl (by decide) rfl (fun ls hl => ?_)
              refine zv_iinc (k0 := 2) (lv' := [(6, .int (zI (v6 + 1))), (5, .int (zI is2)), (7, .long (zL ((M i) - ((P i) * x)))), (4, .int (zI dn)), (3, .int (zI up)), (0, .ref h0), (1, .long (zL x))]) S dX5_column_178 hl rfl (by decide) rfl (fun ls hl => ?_)
              refine zv_goto (tgt := 11) S dX5_column_181 (by decide) ?_
              exact ih11 (i + 1) (v6 + 1) up dn is2 hi1 lo1 (by omega) (by omega) (zcu_n hcu (by omega)) (zcd_n hcd (by omega)) (zflat_s (by omega) his hj) hj01 (by omega) _ _ hP hD hS _ (lv_sub hl [0, 1, 3, 4, 5, 6] rfl)
            refine zv_iload S dX5_column_159 (lv_at hl 2 rfl) ?_
            refine zv_if_eq (tgt := 175) S (by unfold zR; omega) dX5_column_161 (by decide) (fun c_6 => ?_) (fun c_6 => ?_)
            · refine zv_iconst S dX5_column_175 ?_
              exact JN176 0 (zb_0 is c_6) (Or.inl rfl) _ _ hP hD hS _ (lv_sub hl [0, 1, 2, 3, 4, 5, 6] rfl)
            · refine zv_lload S dX5_column_164 (lv_at hl 0 rfl) ?_
              refine zv_lconst (v := 0) S dX5_column_166 (by decide) ?_
              refine zv_lif_lt (tgt := 175) S (by unfold zS; omega) (by unfold zS; omega) dX5_column_167 dX5_column_168 (by decide) (fun c_7 => ?_) (fun c_7 => ?_)
              · refine zv_iconst S dX5_column_175 ?_
                exact JN176 0 (zb_n is (by omega)) (Or.inl rfl) _ _ hP hD hS _ (lv_sub hl [0, 1, 2, 3, 4, 5, 6] rfl)
              · refine zv_iconst S dX5_column_171 ?_
                refine zv_goto (tgt := 176) S dX5_column_172 (by decide) ?_
                exact JN176 1 (zb_y is c_6 (by omega)) (Or.inr rfl) _ _ hP hD hS _ (lv_sub hl [0, 1, 2, 3, 4, 5, 6] rfl)
          · refine zv_lload S dX5_column_109 (lv_at hl 0 rfl) ?_
            refine zv_aload_n S dX5_column_111 rfl (lv_at hl 5 rfl) ?_
            refine zv_get (C := RX5) (T := TX5) (N := 23) (ci := 5) (v := .ref yq) S in_X5_column_X5 hK hP 0 rfl rfl 8 (by decide) wd_X5_column_f29 rfl rfl dX5_column_112 ?_
            refine zv_iload S dX5_column_115 (lv_at hl 1 rfl) ?_
            refine zv_lald S hK hP 2 1 rfl rfl i hv6 (by omega) (by decide) dX5_column_117 ?_
            refine zv_lneg S dX5_column_118 ?_
            refine zc_Sl (As := [.long (zL ((M i) - ((P i) * x))), .long (zL (-(Qu i)))]) (rest := []) (wr := [(h0, .inr (5, [.int (zI th), .int (zI sh), .ref ym, .ref ya, .ref yb, .ref yc, .ref ye, .ref yp, .ref yq, .ref yo, .int (zI ro), .long (zL fi), .long (zL la), .long (zL lo1), .long (zL hi1), .int (zI co), .ref yk, .ref yw, .ref yi, .int (zI ge), .ref yx, .ref yy, .int (zI ir)])), zcl G yp 10 P, zcl G yq 10 Qu, zcl G yo 10 M]) (n := 2) S hN hK hP hD hS hA hl (c_X5_floor l G H.size ((M i) - ((P i) * x)) (-(Qu i)) (by omega) (by omega)) gX5_column_X5_floor rfl ⟨rfl, rfl⟩ (by decide +kernel) rfl ⟨Nat.le_of_ble_eq_true rfl, Nat.le_of_ble_eq_true rfl, Nat.le_of_ble_eq_true rfl, Nat.le_of_ble_eq_true rfl⟩ [] [0, 1, 2, 3] rfl rfl (by decide) (by decide) (by decide) (Nat.le_of_ble_eq_true rfl) dX5_column_119 rfl (fun r_ u_8 H1 locs1 hp_9 hP1 hD1 hS1 hz1 => ?_)
            try dsimp only at hp_9 hP1 hD1
            subst hp_9
            generalize H1 = H at hP1 hD1 hS1 hz1 ⊢
            generalize locs1 = locs at hS1 ⊢
            have hS := hS1
            have hP : va_P G.1 vwCl [(h0, .inr (5, [.int (zI th), .int (zI sh), .ref ym, .ref ya, .ref yb, .ref yc, .ref ye, .ref yp, .ref yq, .ref yo, .int (zI ro), .long (zL fi), .long (zL la), .long (zL lo1), .long (zL hi1), .int (zI co), .ref yk, .ref yw, .ref yi, .int (zI ge), .ref yx, .ref yy, .int (zI ir)])), zcl G yp 10 P, zcl G yq 10 Qu, zcl G yo 10 M] H := hP1
            have hD : va_D A [(h0, .inr (5, [.int (zI th), .int (zI sh), .ref ym, .ref ya, .ref yb, .ref yc, .ref ye, .ref yp, .ref yq, .ref yo, .int (zI ro), .long (zL fi), .long (zL la), .long (zL lo1), .long (zL hi1), .int (zI co), .ref yk, .ref yw, .ref yi, .int (zI ge), .ref yx, .ref yy, .int (zI ir)])), zcl G yp 10 P, zcl G yq 10 Qu, zcl G yo 10 M] := hD1
            refine zv_lneg S dX5_column_122 ?_
            have hb1 := zdivb (A := 200000000) (x := M i - P i * x) (show 0 < -Qu i by omega) (by omega) (by omega)
            refine zv_lstore (lv' := [(9, .long (zL (-(((M i) - ((P i) * x)) / (-(Qu i)))))), (7, .long (zL ((M i) - ((P i) * x)))), (6, .int (zI v6)), (5, .int (zI is)), (4, .int (zI dn)), (3, .int (zI up)), (0, .ref h0), (1, .long (zL x))]) S dX5_column_123 hl (by decide) rfl (fun ls hl => ?_)
            have JN150 : ∀ (nl : Int) (hnl : nl = (-((M i - P i * x) / (-Qu i))) ∧ (dn = 0 ∨ lo1 < (-((M i - P i * x) / (-Qu i)))) ∨ nl = lo1 ∧ ¬ dn = 0 ∧ ¬ lo1 < (-((M i - P i * x) / (-Qu i)))) (H : Heap) (locs : List Loc), va_P G.1 vwCl [(h0, .inr (5, [.int (zI th), .int (zI sh), .ref ym, .ref ya, .ref yb, .ref yc, .ref ye, .ref yp, .ref yq, .ref yo, .int (zI ro), .long (zL fi), .long (zL la), .long (zL lo1), .long (zL hi1), .int (zI co), .ref yk, .ref yw, .ref yi, .int (zI ge), .ref yx, .ref yy, .int (zI ir)])), zcl G yp 10 P, zcl G yq 10 Qu, zcl G yo 10 M] H → va_D A [(h0, .inr (5, [.int (zI th), .int (zI sh), .ref ym, .ref ya, .ref yb, .ref yc, .ref ye, .ref yp, .ref yq, .ref yo, .int (zI ro), .long (zL fi), .long (zL la), .long (zL lo1), .long (zL hi1), .int (zI co), .ref yk, .ref yw, .ref yi, .int (zI ge), .ref yx, .ref yy, .int (zI ir)])), zcl G yp 10 P, zcl G yq 10 Qu, zcl G yo 10 M] → va_S A s.heap H locs → ∀ ls : Array Slot, lv_has ls 11 [(9, .long (zL (-(((M i) - ((P i) * x)) / (-(Qu i)))))), (7, .long (zL ((M i) - ((P i) * x)))), (6, .int (zI v6)), (5, .int (zI is)), (4, .int (zI dn)), (3, .int (zI up)), (0, .ref h0), (1, .long (zL x))] → W p l e ({ frames := 1, cells := 0, slots := 0, locals := 25 }) s m ([.ref h0, .long (zL x)]).toArray below meth c H locs 0 0 Q (F0 m 150 ls [.long (zL nl), .ref h0]) := by
              intro nl hnl H locs hP hD hS ls hl
              refine zv_put (C := RX5) (T := TX5) (N := 23) (ci := 5) (v := .long (zL nl)) S in_X5_column_X5 tyX5 tyX5_ok nmX5 hK hP hD hS 0 rfl rfl 13 (by decide) wd_X5_column_f107 rfl rfl rfl rfl (Nat.le_of_ble_eq_true rfl) dX5_column_150 (fun H locs hP hD hS => ?_)
              have hP : va_P G.1 vwCl [(h0, .inr (5, [.int (zI th), .int (zI sh), .ref ym, .ref ya, .ref yb, .ref yc, .ref ye, .ref yp, .ref yq, .ref yo, .int (zI ro), .long (zL fi), .long (zL la), .long (zL nl), .long (zL hi1), .int (zI co), .ref yk, .ref yw, .ref yi, .int (zI ge), .ref yx, .ref yy, .int (zI ir)])), zcl G yp 10 P, zcl G yq 10 Qu, zcl G yo 10 M] H := hP
              have hD : va_D A [(h0, .inr (5, [.int (zI th), .int (zI sh), .ref ym, .ref ya, .ref yb, .ref yc, .ref ye, .ref yp, .ref yq, .ref yo, .int (zI ro), .long (zL fi), .long (zL la), .long (zL nl), .long (zL hi1), .int (zI co), .ref yk, .ref yw, .ref yi, .int (zI ge), .ref yx, .ref yy, .int (zI ir)])), zcl G yp 10 P, zcl G yq 10 Qu, zcl G yo 10 M] := hD
              refine zv_iconst S dX5_column_153 ?_
              refine zv_istore (lv' := [(4, .int (zI 1)), (9, .long (zL (-(((M i) - ((P i) * x)) / (-(Qu i)))))), (7, .long (zL ((M i) - ((P i) * x)))), (6, .int (zI v6)), (5, .int (zI is)), (3, .int (zI up)), (0, .ref h0), (1, .long (zL x))]) S dX5_column_154 hl (by decide) rfl (fun ls hl => ?_)
              refine zv_goto (tgt := 178) S dX5_column_156 (by decide) ?_
              refine zv_iinc (k0 := 3) (lv' := [(6, .int (zI (v6 + 1))), (4, .int (zI 1)), (9, .long (zL (-(((M i) - ((P i) * x)) / (-(Qu i)))))), (7, .long (zL ((M i) - ((P i) * x)))), (5, .int (zI is)), (3, .int (zI up)), (0, .ref h0), (1, .long (zL x))]) S dX5_column_178 hl rfl (by decide) rfl (fun ls hl => ?_)
              refine zv_goto (tgt := 11) S dX5_column_181 (by decide) ?_
              exact ih11 (i + 1) (v6 + 1) up 1 is hi1 nl (by omega) (by omega) (zcu_n hcu (by omega)) (zcd_s hcd (by omega) hb1 hnl) (by rw [his]; exact zb_congr (zflat_n (by omega)).symm) hib (by omega) _ _ hP hD hS _ (lv_sub hl [0, 4, 1, 5, 6, 7] rfl)
            refine zv_aload_n S dX5_column_125 rfl (lv_at hl 6 rfl) ?_
            refine zv_iload S dX5_column_126 (lv_at hl 4 rfl) ?_
            refine zv_if_eq (tgt := 141) S (by unfold zR; omega) dX5_column_128 (by decide) (fun c_10 => ?_) (fun c_10 => ?_)
            · refine zv_lload S dX5_column_141 (lv_at hl 0 rfl) ?_
              refine zv_goto (tgt := 150) S dX5_column_143 (by decide) ?_
              exact JN150 (-(((M i) - ((P i) * x)) / (-(Qu i)))) (by omega) _ _ hP hD hS _ (lv_sub hl [0, 1, 2, 3, 4, 5, 6, 7] rfl)
            · refine zv_lload S dX5_column_131 (lv_at hl 0 rfl) ?_
              refine zv_aload_n S dX5_column_133 rfl (lv_at hl 6 rfl) ?_
              refine zv_get (C := RX5) (T := TX5) (N := 23) (ci := 5) (v := .long (zL lo1)) S in_X5_column_X5 hK hP 0 rfl rfl 13 (by decide) wd_X5_column_f107 rfl rfl dX5_column_134 ?_
              refine zv_lif_le (tgt := 146) S (by unfold zS; omega) (by unfold zS; omega) dX5_column_137 dX5_column_138 (by decide) (fun c_11 => ?_) (fun c_11 => ?_)
              · refine zv_aload_n S dX5_column_146 rfl (lv_at hl 6 rfl) ?_
                refine zv_get (C := RX5) (T := TX5) (N := 23) (ci := 5) (v := .long (zL lo1)) S in_X5_column_X5 hK hP 0 rfl rfl 13 (by decide) wd_X5_column_f107 rfl rfl dX5_column_147 ?_
                exact JN150 lo1 (by omega) _ _ hP hD hS _ (lv_sub hl [0, 1, 2, 3, 4, 5, 6, 7] rfl)
              · refine zv_lload S dX5_column_141 (lv_at hl 0 rfl) ?_
                refine zv_goto (tgt := 150) S dX5_column_143 (by decide) ?_
                exact JN150 (-(((M i) - ((P i) * x)) / (-(Qu i)))) (by omega) _ _ hP hD hS _ (lv_sub hl [0, 1, 2, 3, 4, 5, 6, 7] rfl)
        · refine zv_lload S dX5_column_51 (lv_at hl 0 rfl) ?_
          refine zv_aload_n S dX5_column_53 rfl (lv_at hl 5 rfl) ?_
          refine zv_get (C := RX5) (T := TX5) (N := 23) (ci := 5) (v := .ref yq) S in_X5_column_X5 hK hP 0 rfl rfl 8 (by decide) wd_X5_column_f29 rfl rfl dX5_column_54 ?_
          refine zv_iload S dX5_column_57 (lv_at hl 1 rfl) ?_
          refine zv_lald S hK hP 2 1 rfl rfl i hv6 (by omega) (by decide) dX5_column_59 ?_
          refine zc_Sl (As := [.long (zL ((M i) - ((P i) * x))), .long (zL (Qu i))]) (rest := []) (wr := [(h0, .inr (5, [.int (zI th), .int (zI sh), .ref ym, .ref ya, .ref yb, .ref yc, .ref ye, .ref yp, .ref yq, .ref yo, .int (zI ro), .long (zL fi), .long (zL la), .long (zL lo1), .long (zL hi1), .int (zI co), .ref yk, .ref yw, .ref yi, .int (zI ge), .ref yx, .ref yy, .int (zI ir)])), zcl G yp 10 P, zcl G yq 10 Qu, zcl G yo 10 M]) (n := 2) S hN hK hP hD hS hA hl (c_X5_floor l G H.size ((M i) - ((P i) * x)) (Qu i) (by omega) (by omega)) gX5_column_X5_floor rfl ⟨rfl, rfl⟩ (by decide +kernel) rfl ⟨Nat.le_of_ble_eq_true rfl, Nat.le_of_ble_eq_true rfl, Nat.le_of_ble_eq_true rfl, Nat.le_of_ble_eq_true rfl⟩ [] [0, 1, 2, 3] rfl rfl (by decide) (by decide) (by decide) (Nat.le_of_ble_eq_true rfl) dX5_column_60 rfl (fun r_ u_12 H1 locs1 hp_13 hP1 hD1 hS1 hz1 => ?_)
          try dsimp only at hp_13 hP1 hD1
          subst hp_13
          generalize H1 = H at hP1 hD1 hS1 hz1 ⊢
          generalize locs1 = locs at hS1 ⊢
          have hS := hS1
          have hP : va_P G.1 vwCl [(h0, .inr (5, [.int (zI th), .int (zI sh), .ref ym, .ref ya, .ref yb, .ref yc, .ref ye, .ref yp, .ref yq, .ref yo, .int (zI ro), .long (zL fi), .long (zL la), .long (zL lo1), .long (zL hi1), .int (zI co), .ref yk, .ref yw, .ref yi, .int (zI ge), .ref yx, .ref yy, .int (zI ir)])), zcl G yp 10 P, zcl G yq 10 Qu, zcl G yo 10 M] H := hP1
          have hD : va_D A [(h0, .inr (5, [.int (zI th), .int (zI sh), .ref ym, .ref ya, .ref yb, .ref yc, .ref ye, .ref yp, .ref yq, .ref yo, .int (zI ro), .long (zL fi), .long (zL la), .long (zL lo1), .long (zL hi1), .int (zI co), .ref yk, .ref yw, .ref yi, .int (zI ge), .ref yx, .ref yy, .int (zI ir)])), zcl G yp 10 P, zcl G yq 10 Qu, zcl G yo 10 M] := hD1
          have hb1 := zdivb (A := 200000000) (x := M i - P i * x) (show 0 < Qu i by omega) (by omega) (by omega)
          refine zv_lstore (lv' := [(9, .long (zL (((M i) - ((P i) * x)) / (Qu i)))), (7, .long (zL ((M i) - ((P i) * x)))), (6, .int (zI v6)), (5, .int (zI is)), (4, .int (zI dn)), (3, .int (zI up)), (0, .ref h0), (1, .long (zL x))]) S dX5_column_63 hl (by decide) rfl (fun ls hl => ?_)
          have JN89 : ∀ (nh : Int) (hnh : nh = ((M i - P i * x) / Qu i) ∧ (up = 0 ∨ ((M i - P i * x) / Qu i) < hi1) ∨ nh = hi1 ∧ ¬ up = 0 ∧ ¬ ((M i - P i * x) / Qu i) < hi1) (H : Heap) (locs : List Loc), va_P G.1 vwCl [(h0, .inr (5, [.int (zI th), .int (zI sh), .ref ym, .ref ya, .ref yb, .ref yc, .ref ye, .ref yp, .ref yq, .ref yo, .int (zI ro), .long (zL fi), .long (zL la), .long (zL lo1), .long (zL hi1), .int (zI co), .ref yk, .ref yw, .ref yi, .int (zI ge), .ref yx, .ref yy, .int (zI ir)])), zcl G yp 10 P, zcl G yq 10 Qu, zcl G yo 10 M] H → va_D A [(h0, .inr (5, [.int (zI th), .int (zI sh), .ref ym, .ref ya, .ref yb, .ref yc, .ref ye, .ref yp, .ref yq, .ref yo, .int (zI ro), .long (zL fi), .long (zL la), .long (zL lo1), .long (zL hi1), .int (zI co), .ref yk, .ref yw, .ref yi, .int (zI ge), .ref yx, .ref yy, .int (zI ir)])), zcl G yp 10 P, zcl G yq 10 Qu, zcl G yo 10 M] → va_S A s.heap H locs → ∀ ls : Array Slot, lv_has ls 11 [(9, .long (zL (((M i) - ((P i) * x)) / (Qu i)))), (7, .long (zL ((M i) - ((P i) * x)))), (6, .int (zI v6)), (5, .int (zI is)), (4, .int (zI dn)), (3, .int (zI up)), (0, .ref h0), (1, .long (zL x))] → W p l e ({ frames := 1, cells := 0, slots := 0, locals := 25 }) s m ([.ref h0, .long (zL x)]).toArray below meth c H locs 0 0 Q (F0 m 89 ls [.long (zL nh), .ref h0]) := by
            intro nh hnh H locs hP hD hS ls hl
            refine zv_put (C := RX5) (T := TX5) (N := 23) (ci := 5) (v := .long (zL nh)) S in_X5_column_X5 tyX5 tyX5_ok nmX5 hK hP hD hS 0 rfl rfl 14 (by decide) wd_X5_column_f104 rfl rfl rfl rfl (Nat.le_of_ble_eq_true rfl) dX5_column_89 (fun H locs hP hD hS => ?_)
            have hP : va_P G.1 vwCl [(h0, .inr (5, [.int (zI th), .int (zI sh), .ref ym, .ref ya, .ref yb, .ref yc, .ref ye, .ref yp, .ref yq, .ref yo, .int (zI ro), .long (zL fi), .long (zL la), .long (zL lo1), .long (zL nh), .int (zI co), .ref yk, .ref yw, .ref yi, .int (zI ge), .ref yx, .ref yy, .int (zI ir)])), zcl G yp 10 P, zcl G yq 10 Qu, zcl G yo 10 M] H := hP
            have hD : va_D A [(h0, .inr (5, [.int (zI th), .int (zI sh), .ref ym, .ref ya, .ref yb, .ref yc, .ref ye, .ref yp, .ref yq, .ref yo, .int (zI ro), .long (zL fi), .long (zL la), .long (zL lo1), .long (zL nh), .int (zI co), .ref yk, .ref yw, .ref yi, .int (zI ge), .ref yx, .ref yy, .int (zI ir)])), zcl G yp 10 P, zcl G yq 10 Qu, zcl G yo 10 M] := hD
            refine zv_iconst S dX5_column_92 ?_
            refine zv_istore_n (lv' := [(3, .int (zI 1)), (9, .long (zL (((M i) - ((P i) * x)) / (Qu i)))), (7, .long (zL ((M i) - ((P i) * x)))), (6, .int (zI v6)), (5, .int (zI is)), (4, .int (zI dn)), (0, .ref h0), (1, .long (zL x))]) S dX5_column_93 rfl hl (by decide) rfl (fun ls hl => ?_)
            refine zv_goto (tgt := 178) S dX5_column_94 (by decide) ?_
            refine zv_iinc (k0 := 3) (lv' := [(6, .int (zI (v6 + 1))), (3, .int (zI 1)), (9, .long (zL (((M i) - ((P i) * x)) / (Qu i)))), (7, .long (zL ((M i) - ((P i) * x)))), (5, .int (zI is)), (4, .int (zI dn)), (0, .ref h0), (1, .long (zL x))]) S dX5_column_178 hl rfl (by decide) rfl (fun ls hl => ?_)
            refine zv_goto (tgt := 11) S dX5_column_181 (by decide) ?_
            exact ih11 (i + 1) (v6 + 1) 1 dn is nh lo1 (by omega) (by omega) (zcu_s hcu (by omega) hb1 hnh) (zcd_n hcd (by omega)) (by rw [his]; exact zb_congr (zflat_n (by omega)).symm) hib (by omega) _ _ hP hD hS _ (lv_sub hl [0, 4, 5, 1, 6, 7] rfl)
          refine zv_aload_n S dX5_column_65 rfl (lv_at hl 6 rfl) ?_
          refine zv_iload_n S dX5_column_66 rfl (lv_at hl 5 rfl) ?_
          refine zv_if_eq (tgt := 80) S (by unfold zR; omega) dX5_column_67 (by decide) (fun c_14 => ?_) (fun c_14 => ?_)
          · refine zv_lload S dX5_column_80 (lv_at hl 0 rfl) ?_
            refine zv_goto (tgt := 89) S dX5_column_82 (by decide) ?_
            exact JN89 (((M i) - ((P i) * x)) / (Qu i)) (by omega) _ _ hP hD hS _ (lv_sub hl [0, 1, 2, 3, 4, 5, 6, 7] rfl)
          · refine zv_lload S dX5_column_70 (lv_at hl 0 rfl) ?_
            refine zv_aload_n S dX5_column_72 rfl (lv_at hl 6 rfl) ?_
            refine zv_get (C := RX5) (T := TX5) (N := 23) (ci := 5) (v := .long (zL hi1)) S in_X5_column_X5 hK hP 0 rfl rfl 14 (by decide) wd_X5_column_f104 rfl rfl dX5_column_73 ?_
            refine zv_lif_ge (tgt := 85) S (by unfold zS; omega) (by unfold zS; omega) dX5_column_76 dX5_column_77 (by decide) (fun c_15 => ?_) (fun c_15 => ?_)
            · refine zv_aload_n S dX5_column_85 rfl (lv_at hl 6 rfl) ?_
              refine zv_get (C := RX5) (T := TX5) (N := 23) (ci := 5) (v := .long (zL hi1)) S in_X5_column_X5 hK hP 0 rfl rfl 14 (by decide) wd_X5_column_f104 rfl rfl dX5_column_86 ?_
              exact JN89 hi1 (by omega) _ _ hP hD hS _ (lv_sub hl [0, 1, 2, 3, 4, 5, 6, 7] rfl)
            · refine zv_lload S dX5_column_80 (lv_at hl 0 rfl) ?_
              refine zv_goto (tgt := 89) S dX5_column_82 (by decide) ?_
              exact JN89 (((M i) - ((P i) * x)) / (Qu i)) (by omega) _ _ hP hD hS _ (lv_sub hl [0, 1, 2, 3, 4, 5, 6, 7] rfl)
  exact LP11 _ 0 0 0 0 1 hi lo rfl (Nat.zero_le _) zcu_0 zcd_0 (zb_t zflat_0).symm (Or.inr rfl) (Nat.lt_succ_self _) _ _ hP hD hS _ (lv_sub hl [0, 1, 2, 3, 4, 5] rfl)
