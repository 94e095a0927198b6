theorem wd_X5_looks_f7 : Cond.fieldLink RX5 7 "PointMillModel" "many" "[I" ∈ wsX5_looks := by decide +kernel
theorem in_X5_looks_X5 : ∀ w ∈ wsX50, w ∈ wsX5_looks := by decide +kernel
theorem wd_X5_looks_f84 : Cond.fieldLink RX5 84 "PointMillModel" "rows" "I" ∈ wsX5_looks := by decide +kernel
theorem wd_X5_looks_f87 : Cond.fieldLink RX5 87 "PointMillModel" "first" "J" ∈ wsX5_looks := by decide +kernel
theorem wd_X5_looks_f91 : Cond.fieldLink RX5 91 "PointMillModel" "last" "J" ∈ wsX5_looks := by decide +kernel
theorem wd_X5_looks_f25 : Cond.fieldLink RX5 25 "PointMillModel" "p" "[J" ∈ wsX5_looks := by decide +kernel
theorem wd_X5_looks_f13 : Cond.fieldLink RX5 13 "PointMillModel" "a" "[I" ∈ wsX5_looks := by decide +kernel
theorem wd_X5_looks_f29 : Cond.fieldLink RX5 29 "PointMillModel" "q" "[J" ∈ wsX5_looks := by decide +kernel
theorem wd_X5_looks_f16 : Cond.fieldLink RX5 16 "PointMillModel" "b" "[I" ∈ wsX5_looks := by decide +kernel
theorem wd_X5_looks_f32 : Cond.fieldLink RX5 32 "PointMillModel" "most" "[J" ∈ wsX5_looks := by decide +kernel
theorem wd_X5_looks_f19 : Cond.fieldLink RX5 19 "PointMillModel" "c" "[I" ∈ wsX5_looks := by decide +kernel
theorem wd_X5_looks_f22 : Cond.fieldLink RX5 22 "PointMillModel" "e" "[I" ∈ wsX5_looks := by decide +kernel
set_option maxHeartbeats 4000000 in
set_option maxRecDepth 100000 in
/-- the model: looks -/
theorem c_X5_looks (l : Launch) (G : zG) (sz : Nat) (h0 : Nat) (th : Int) (sh : Int) (ym : Nat) (ya : Nat) (yb : Nat) (yc : Nat) (ye : Nat) (yp : Nat) (yq : Nat) (yo : Nat) (ro : Int) (fi : Int) (la : Int) (lo : Int) (hi : Int) (co : Int) (yk : Nat) (yw : Nat) (yi : Nat) (ge : Int) (yx : Nat) (yy : Nat) (ir : Int) (MN : Nat → Int) (MA : Nat → Int) (MB : Nat → Int) (MC : Nat → Int) (ME : Nat → Int) (P : Nat → Int) (Qu : Nat → Int) (M : Nat → Int) (vi : Int) (lt : Int) (tm : Int) (inr : Int) (t : Nat) (k : Nat) (hvi : vi = (t : Int)) (ht : t < 8) (hk : MN t = (k : Int)) (hk2 : k ≤ 10) (hRA : ∀ j, j < 80 → -60 ≤ MA j ∧ MA j ≤ 60) (hRB : ∀ j, j < 80 → -60 ≤ MB j ∧ MB j ≤ 60) (hMb : ∀ j, j < k → -9000 ≤ zmst tm lt inr MC ME t j ∧ zmst tm lt inr MC ME t j ≤ 9000) (hlt : -2147483648 ≤ tm ∧ tm < 2147483648) (hinr : inr = 0 ∨ inr = 1) (hir : ir = 0) : Met l yX5_looks wsX5_looks ({ frames := 2, cells := 0, slots := 0, locals := 61 }) (va_Pc [.ref h0, .int (zI vi), .int (zI lt), .int (zI tm), .int (zI inr)] (zPre G sz [(h0, .inr (5, [.int (zI th), .int (zI sh), .ref ym, .ref ya, .ref yb, .ref yc, .ref ye, .ref yp, .ref yq, .ref yo, .int (zI ro), .long (zL fi), .long (zL la), .long (zL lo), .long (zL hi), .int (zI co), .ref yk, .ref yw, .ref yi, .int (zI ge), .ref yx, .ref yy, .int (zI ir)])), zci G ym 8 MN, zci G ya 80 MA, zci G yb 80 MB, zci G yc 80 MC, zci G ye 80 ME, zcl G yp 10 P, zcl G yq 10 Qu, zcl G yo 10 M])) (va_Qv (fun (u : (Int) × (Int) × (Int) × (Nat → Int) × (Nat → Int) × (Nat → Int)) => (u.2.2.2.1 = zfill (zrow MA t) P k) ∧ (u.2.2.2.2.1 = zfill (zrow MB t) Qu k) ∧ (u.2.2.2.2.2 = zfill (zmst tm lt inr MC ME t) M k) ∧ (zlk u.2.2.2.1 u.2.2.2.2.1 u.2.2.2.2.2 k (fun a b => a < k ∧ b < a) u.1 u.2.1 u.2.2.1)) (fun u => zW G (va_A [(h0, .inr (5, [.int (zI th), .int (zI sh), .ref ym, .ref ya, .ref yb, .ref yc, .ref ye, .ref yp, .ref yq, .ref yo, .int (zI ro), .long (zL fi), .long (zL la), .long (zL lo), .long (zL hi), .int (zI co), .ref yk, .ref yw, .ref yi, .int (zI ge), .ref yx, .ref yy, .int (zI ir)])), zci G ym 8 MN, zci G ya 80 MA, zci G yb 80 MB, zci G yc 80 MC, zci G ye 80 ME, zcl G yp 10 P, zcl G yq 10 Qu, zcl G yo 10 M] sz) ((fun (u : (Int) × (Int) × (Int) × (Nat → Int) × (Nat → Int) × (Nat → Int)) => [(h0, .inr (5, [.int (zI th), .int (zI sh), .ref ym, .ref ya, .ref yb, .ref yc, .ref ye, .ref yp, .ref yq, .ref yo, .int (zI (MN t)), .long (zL u.1), .long (zL u.2.1), .long (zL lo), .long (zL hi), .int (zI co), .ref yk, .ref yw, .ref yi, .int (zI ge), .ref yx, .ref yy, .int (zI u.2.2.1)])), zci G ym 8 MN, zci G ya 80 MA, zci G yb 80 MB, zci G yc 80 MC, zci G ye 80 ME, zcl G yp 10 u.2.2.2.1, zcl G yq 10 u.2.2.2.2.1, zcl G yo 10 u.2.2.2.2.2]) u)) (va_A [(h0, .inr (5, [.int (zI th), .int (zI sh), .ref ym, .ref ya, .ref yb, .ref yc, .ref ye, .ref yp, .ref yq, .ref yo, .int (zI ro), .long (zL fi), .long (zL la), .long (zL lo), .long (zL hi), .int (zI co), .ref yk, .ref yw, .ref yi, .int (zI ge), .ref yx, .ref yy, .int (zI ir)])), zci G ym 8 MN, zci G ya 80 MA, zci G yb 80 MB, zci G yc 80 MC, zci G ye 80 ME, zcl G yp 10 P, zcl G yq 10 Qu, zcl G yo 10 M] sz)) 0 0 (va_A [(h0, .inr (5, [.int (zI th), .int (zI sh), .ref ym, .ref ya, .ref yb, .ref yc, .ref ye, .ref yp, .ref yq, .ref yo, .int (zI ro), .long (zL fi), .long (zL la), .long (zL lo), .long (zL hi), .int (zI co), .ref yk, .ref yw, .ref yi, .int (zI ge), .ref yx, .ref yy, .int (zI ir)])), zci G ym 8 MN, zci G ya 80 MA, zci G yb 80 MB, zci G yc 80 MC, zci G ye 80 ME, zcl G yp 10 P, zcl G yq 10 Qu, zcl G yo 10 M] sz) := by
  subst hvi
  refine zM_v (post := fun (u : (Int) × (Int) × (Int) × (Nat → Int) × (Nat → Int) × (Nat → Int)) => (u.2.2.2.1 = zfill (zrow MA t) P k) ∧ (u.2.2.2.2.1 = zfill (zrow MB t) Qu k) ∧ (u.2.2.2.2.2 = zfill (zmst tm lt inr MC ME t) M k) ∧ (zlk u.2.2.2.1 u.2.2.2.2.1 u.2.2.2.2.2 k (fun a b => a < k ∧ b < a) u.1 u.2.1 u.2.2.1)) (w1 := fun (u : (Int) × (Int) × (Int) × (Nat → Int) × (Nat → Int) × (Nat → Int)) => [(h0, .inr (5, [.int (zI th), .int (zI sh), .ref ym, .ref ya, .ref yb, .ref yc, .ref ye, .ref yp, .ref yq, .ref yo, .int (zI (MN t)), .long (zL u.1), .long (zL u.2.1), .long (zL lo), .long (zL hi), .int (zI co), .ref yk, .ref yw, .ref yi, .int (zI ge), .ref yx, .ref yy, .int (zI u.2.2.1)])), zci G ym 8 MN, zci G ya 80 MA, zci G yb 80 MB, zci G yc 80 MC, zci G ye 80 ME, zcl G yp 10 u.2.2.2.1, zcl G yq 10 u.2.2.2.2.1, zcl G yo 10 u.2.2.2.2.2]) (plainFor_of_name (by decide)) rfl (Nat.le_of_ble_eq_true rfl) ?_
  intro p e s m below meth c A Q S hN hK hP hD hS hA hret ls hl
  have hl : lv_has ls 7 [(0, .ref h0), (1, .int (zI (t : Int))), (2, .int (zI lt)), (3, .int (zI tm)), (4, .int (zI inr))] := hl
  refine zv_aload_n S dX5_looks_0 rfl (lv_at hl 0 rfl) ?_
  refine zv_aload_n S dX5_looks_1 rfl (lv_at hl 0 rfl) ?_
  refine zv_get (C := RX5) (T := TX5) (N := 23) (ci := 5) (v := .ref ym) S in_X5_looks_X5 hK hP 0 rfl rfl 2 (by decide) wd_X5_looks_f7 rfl rfl dX5_looks_2 ?_
  refine zv_iload_n S dX5_looks_5 rfl (lv_at hl 1 rfl) ?_
  refine zv_iald S hK hP 1 0 rfl rfl t rfl (by omega) (by decide) dX5_looks_6 ?_
  refine zv_put (C := RX5) (T := TX5) (N := 23) (ci := 5) (v := .int (zI (MN t))) S in_X5_looks_X5 tyX5 tyX5_ok nmX5 hK hP hD hS 0 rfl rfl 10 (by decide) wd_X5_looks_f84 rfl rfl rfl rfl (Nat.le_of_ble_eq_true rfl) dX5_looks_7 (fun H locs hP hD hS => ?_)
  have hP : va_P G.1 vwCl [(h0, .inr (5, [.int (zI th), .int (zI sh), .ref ym, .ref ya, .ref yb, .ref yc, .ref ye, .ref yp, .ref yq, .ref yo, .int (zI (MN t)), .long (zL fi), .long (zL la), .long (zL lo), .long (zL hi), .int (zI co), .ref yk, .ref yw, .ref yi, .int (zI ge), .ref yx, .ref yy, .int (zI ir)])), zci G ym 8 MN, zci G ya 80 MA, zci G yb 80 MB, zci G yc 80 MC, zci G ye 80 ME, zcl G yp 10 P, zcl G yq 10 Qu, zcl G yo 10 M] H := hP
  have hD : va_D A [(h0, .inr (5, [.int (zI th), .int (zI sh), .ref ym, .ref ya, .ref yb, .ref yc, .ref ye, .ref yp, .ref yq, .ref yo, .int (zI (MN t)), .long (zL fi), .long (zL la), .long (zL lo), .long (zL hi), .int (zI co), .ref yk, .ref yw, .ref yi, .int (zI ge), .ref yx, .ref yy, .int (zI ir)])), zci G ym 8 MN, zci G ya 80 MA, zci G yb 80 MB, zci G yc 80 MC, zci G ye 80 ME, zcl G yp 10 P, zcl G yq 10 Qu, zcl G yo 10 M] := hD
  refine zv_iconst S dX5_looks_10 ?_
  refine zv_istore (lv' := [(5, .int (zI 0)), (0, .ref h0), (1, .int (zI (t : Int))), (2, .int (zI lt)), (3, .int (zI tm)), (4, .int (zI inr))]) S dX5_looks_11 hl (by decide) rfl (fun ls hl => ?_)
  have LP13 : ∀ (nf : Nat) (i : Nat) (v5 : Int) (P1 : Nat → Int) (Q1 : Nat → Int) (M1 : Nat → Int) (hv5 : v5 = (i : Int)) (hik : i ≤ k) (hP1 : P1 = zfill (zrow MA t) P i) (hQ1 : Q1 = zfill (zrow MB t) Qu i) (hM1 : M1 = zfill (zmst tm lt inr MC ME t) M i), (k - i) < nf → ∀ (H : Heap) (locs : List Loc), va_P G.1 vwCl [(h0, .inr (5, [.int (zI th), .int (zI sh), .ref ym, .ref ya, .ref yb, .ref yc, .ref ye, .ref yp, .ref yq, .ref yo, .int (zI (MN t)), .long (zL fi), .long (zL la), .long (zL lo), .long (zL hi), .int (zI co), .ref yk, .ref yw, .ref yi, .int (zI ge), .ref yx, .ref yy, .int (zI ir)])), zci G ym 8 MN, zci G ya 80 MA, zci G yb 80 MB, zci G yc 80 MC, zci G ye 80 ME, zcl G yp 10 P1, zcl G yq 10 Q1, zcl G yo 10 M1] H → va_D A [(h0, .inr (5, [.int (zI th), .int (zI sh), .ref ym, .ref ya, .ref yb, .ref yc, .ref ye, .ref yp, .ref yq, .ref yo, .int (zI (MN t)), .long (zL fi), .long (zL la), .long (zL lo), .long (zL hi), .int (zI co), .ref yk, .ref yw, .ref yi, .int (zI ge), .ref yx, .ref yy, .int (zI ir)])), zci G ym 8 MN, zci G ya 80 MA, zci G yb 80 MB, zci G yc 80 MC, zci G ye 80 ME, zcl G yp 10 P1, zcl G yq 10 Q1, zcl G yo 10 M1] → va_S A s.heap H locs → ∀ ls : Array Slot, lv_has ls 7 [(5, .int (zI v5)), (0, .ref h0), (1, .int (zI (t : Int))), (2, .int (zI lt)), (3, .int (zI tm)), (4, .int (zI inr))] → W p l e ({ frames := 2, cells := 0, slots := 0, locals := 61 }) s m ([.ref h0, .int (zI (t : Int)), .int (zI lt), .int (zI tm), .int (zI inr)]).toArray below meth c H locs 0 0 Q (F0 m 13 ls []) := by
    intro nf
    induction nf with
    | zero =>
      intro i v5 P1 Q1 M1 hv5 hik hP1 hQ1 hM1 hf
      exact absurd hf (Nat.not_lt_zero _)
    | succ nf ih13 =>
      intro i v5 P1 Q1 M1 hv5 hik hP1 hQ1 hM1 hf H locs hP hD hS ls hl
      refine zv_iload S dX5_looks_13 (lv_at hl 0 rfl) ?_
      refine zv_aload_n S dX5_looks_15 rfl (lv_at hl 1 rfl) ?_
      refine zv_get (C := RX5) (T := TX5) (N := 23) (ci := 5) (v := .int (zI (MN t))) S in_X5_looks_X5 hK hP 0 rfl rfl 10 (by decide) wd_X5_looks_f84 rfl rfl dX5_looks_16 ?_
      refine zv_icmp_ge (tgt := 119) S (by unfold zR; omega) (by unfold zR; omega) dX5_looks_19 (by decide) (fun c_1 => ?_) (fun c_1 => ?_)
      · have ei : i = k := by omega
        have hpb : ∀ j, j < k → -60 ≤ P1 j ∧ P1 j ≤ 60 := fun j hj => by rw [hP1, ei, zfill_in hj]; exact hRA _ (by omega)
        have hqb : ∀ j, j < k → -60 ≤ Q1 j ∧ Q1 j ≤ 60 := fun j hj => by rw [hQ1, ei, zfill_in hj]; exact hRB _ (by omega)
        have hmb : ∀ j, j < k → -9000 ≤ M1 j ∧ M1 j ≤ 9000 := fun j hj => by rw [hM1, ei, zfill_in hj]; exact hMb j hj
        refine zv_aload_n S dX5_looks_119 rfl (lv_at hl 1 rfl) ?_
        refine zv_lconst (v := 1) S dX5_looks_120 (by decide) ?_
        refine zv_put (C := RX5) (T := TX5) (N := 23) (ci := 5) (v := .long (zL 1)) S in_X5_looks_X5 tyX5 tyX5_ok nmX5 hK hP hD hS 0 rfl rfl 11 (by decide) wd_X5_looks_f87 rfl rfl rfl rfl (Nat.le_of_ble_eq_true rfl) dX5_looks_121 (fun H locs hP hD hS => ?_)
        have hP : va_P G.1 vwCl [(h0, .inr (5, [.int (zI th), .int (zI sh), .ref ym, .ref ya, .ref yb, .ref yc, .ref ye, .ref yp, .ref yq, .ref yo, .int (zI (MN t)), .long (zL 1), .long (zL la), .long (zL lo), .long (zL hi), .int (zI co), .ref yk, .ref yw, .ref yi, .int (zI ge), .ref yx, .ref yy, .int (zI ir)])), zci G ym 8 MN, zci G ya 80 MA, zci G yb 80 MB, zci G yc 80 MC, zci G ye 80 ME, zcl G yp 10 P1, zcl G yq 10 Q1, zcl G yo 10 M1] H := hP
        have hD : va_D A [(h0, .inr (5, [.int (zI th), .int (zI sh), .ref ym, .ref ya, .ref yb, .ref yc, .ref ye, .ref yp, .ref yq, .ref yo, .int (zI (MN t)), .long (zL 1), .long (zL la), .long (zL lo), .long (zL hi), .int (zI co), .ref yk, .ref yw, .ref yi, .int (zI ge), .ref yx, .ref yy, .int (zI ir)])), zci G ym 8 MN, zci G ya 80 MA, zci G yb 80 MB, zci G yc 80 MC, zci G ye 80 ME, zcl G yp 10 P1, zcl G yq 10 Q1, zcl G yo 10 M1] := hD
        refine zv_aload_n S dX5_looks_124 rfl (lv_at hl 1 rfl) ?_
        refine zv_lconst (v := 0) S dX5_looks_125 (by decide) ?_
        refine zv_put (C := RX5) (T := TX5) (N := 23) (ci := 5) (v := .long (zL 0)) S in_X5_looks_X5 tyX5 tyX5_ok nmX5 hK hP hD hS 0 rfl rfl 12 (by decide) wd_X5_looks_f91 rfl rfl rfl rfl (Nat.le_of_ble_eq_true rfl) dX5_looks_126 (fun H locs hP hD hS => ?_)
        have hP : va_P G.1 vwCl [(h0, .inr (5, [.int (zI th), .int (zI sh), .ref ym, .ref ya, .ref yb, .ref yc, .ref ye, .ref yp, .ref yq, .ref yo, .int (zI (MN t)), .long (zL 1), .long (zL 0), .long (zL lo), .long (zL hi), .int (zI co), .ref yk, .ref yw, .ref yi, .int (zI ge), .ref yx, .ref yy, .int (zI ir)])), zci G ym 8 MN, zci G ya 80 MA, zci G yb 80 MB, zci G yc 80 MC, zci G ye 80 ME, zcl G yp 10 P1, zcl G yq 10 Q1, zcl G yo 10 M1] H := hP
        have hD : va_D A [(h0, .inr (5, [.int (zI th), .int (zI sh), .ref ym, .ref ya, .ref yb, .ref yc, .ref ye, .ref yp, .ref yq, .ref yo, .int (zI (MN t)), .long (zL 1), .long (zL 0), .long (zL lo), .long (zL hi), .int (zI co), .ref yk, .ref yw, .ref yi, .int (zI ge), .ref yx, .ref yy, .int (zI ir)])), zci G ym 8 MN, zci G ya 80 MA, zci G yb 80 MB, zci G yc 80 MC, zci G ye 80 ME, zcl G yp 10 P1, zcl G yq 10 Q1, zcl G yo 10 M1] := hD
        refine zv_iconst S dX5_looks_129 ?_
        refine zv_istore (lv' := [(5, .int (zI 0)), (0, .ref h0), (1, .int (zI (t : Int))), (2, .int (zI lt)), (3, .int (zI tm)), (4, .int (zI inr))]) S dX5_looks_130 hl (by decide) rfl (fun ls hl => ?_)
        have LP132 : ∀ (nf : Nat) (i2 : Nat) (v5b : Int) (f1 : Int) (l1 : Int) (r1 : Int) (hv5b : v5b = (i2 : Int)) (hi2k : i2 ≤ k) (hlo : zlk P1 Q1 M1 k (fun a b => a < i2 ∧ b < a) f1 l1 r1), (k - i2) < nf → ∀ (H : Heap) (locs : List Loc), va_P G.1 vwCl [(h0, .inr (5, [.int (zI th), .int (zI sh), .ref ym, .ref ya, .ref yb, .ref yc, .ref ye, .ref yp, .ref yq, .ref yo, .int (zI (MN t)), .long (zL f1), .long (zL l1), .long (zL lo), .long (zL hi), .int (zI co), .ref yk, .ref yw, .ref yi, .int (zI ge), .ref yx, .ref yy, .int (zI r1)])), zci G ym 8 MN, zci G ya 80 MA, zci G yb 80 MB, zci G yc 80 MC, zci G ye 80 ME, zcl G yp 10 P1, zcl G yq 10 Q1, zcl G yo 10 M1] H → va_D A [(h0, .inr (5, [.int (zI th), .int (zI sh), .ref ym, .ref ya, .ref yb, .ref yc, .ref ye, .ref yp, .ref yq, .ref yo, .int (zI (MN t)), .long (zL f1), .long (zL l1), .long (zL lo), .long (zL hi), .int (zI co), .ref yk, .ref yw, .ref yi, .int (zI ge), .ref yx, .ref yy, .int (zI r1)])), zci G ym 8 MN, zci G ya 80 MA, zci G yb 80 MB, zci G yc 80 MC, zci G ye 80 ME, zcl G yp 10 P1, zcl G yq 10 Q1, zcl G yo 10 M1] → va_S A s.heap H locs → ∀ ls : Array Slot, lv_has ls 7 [(5, .int (zI v5b)), (0, .ref h0), (1, .int (zI (t : Int))), (2, .int (zI lt)), (3, .int (zI tm)), (4, .int (zI inr))] → W p l e ({ frames := 2, cells := 0, slots := 0, locals := 61 }) s m ([.ref h0, .int (zI (t : Int)), .int (zI lt), .int (zI tm), .int (zI inr)]).toArray below meth c H locs 0 0 Q (F0 m 132 ls []) := by
          intro nf
          induction nf with
          | zero =>
            intro i2 v5b f1 l1 r1 hv5b hi2k hlo hf
            exact absurd hf (Nat.not_lt_zero _)
          | succ nf ih132 =>
            intro i2 v5b f1 l1 r1 hv5b hi2k hlo hf H locs hP hD hS ls hl
            refine zv_iload S dX5_looks_132 (lv_at hl 0 rfl) ?_
            refine zv_aload_n S dX5_looks_134 rfl (lv_at hl 1 rfl) ?_
            refine zv_get (C := RX5) (T := TX5) (N := 23) (ci := 5) (v := .int (zI (MN t))) S in_X5_looks_X5 hK hP 0 rfl rfl 10 (by decide) wd_X5_looks_f84 rfl rfl dX5_looks_135 ?_
            refine zv_icmp_ge (tgt := 171) S (by unfold zR; omega) (by unfold zR; omega) dX5_looks_138 (by decide) (fun c_2 => ?_) (fun c_2 => ?_)
            · exact hret _ _ _ _ ⟨f1, l1, r1, P1, Q1, M1⟩ dX5_looks_171 ⟨(show P1 = zfill (zrow MA t) P k from (by rw [hP1, ei])), (show Q1 = zfill (zrow MB t) Qu k from (by rw [hQ1, ei])), (show M1 = zfill (zmst tm lt inr MC ME t) M k from (by rw [hM1, ei])), (show zlk P1 Q1 M1 k (fun a b => a < k ∧ b < a) f1 l1 r1 from (zlk_c hlo (fun a b z => by omega)))⟩ (hP.sub [0, 1, 2, 3, 4, 5, 6, 7, 8] rfl) (hD.sub [0, 1, 2, 3, 4, 5, 6, 7, 8] (by decide) rfl) hS
            · refine zv_iconst S dX5_looks_141 ?_
              refine zv_istore (lv' := [(6, .int (zI 0)), (5, .int (zI v5b)), (0, .ref h0), (1, .int (zI (t : Int))), (2, .int (zI lt)), (3, .int (zI tm)), (4, .int (zI inr))]) S dX5_looks_142 hl (by decide) rfl (fun ls hl => ?_)
              have LP144 : ∀ (nf : Nat) (j2 : Nat) (v6 : Int) (f2 : Int) (l2 : Int) (r2 : Int) (hv6 : v6 = (j2 : Int)) (hj2k : j2 ≤ i2) (hli : zlk P1 Q1 M1 k (fun a b => (a < i2 ∧ b < a) ∨ (a = i2 ∧ b < j2)) f2 l2 r2), (i2 - j2) < nf → ∀ (H : Heap) (locs : List Loc), va_P G.1 vwCl [(h0, .inr (5, [.int (zI th), .int (zI sh), .ref ym, .ref ya, .ref yb, .ref yc, .ref ye, .ref yp, .ref yq, .ref yo, .int (zI (MN t)), .long (zL f2), .long (zL l2), .long (zL lo), .long (zL hi), .int (zI co), .ref yk, .ref yw, .ref yi, .int (zI ge), .ref yx, .ref yy, .int (zI r2)])), zci G ym 8 MN, zci G ya 80 MA, zci G yb 80 MB, zci G yc 80 MC, zci G ye 80 ME, zcl G yp 10 P1, zcl G yq 10 Q1, zcl G yo 10 M1] H → va_D A [(h0, .inr (5, [.int (zI th), .int (zI sh), .ref ym, .ref ya, .ref yb, .ref yc, .ref ye, .ref yp, .ref yq, .ref yo, .int (zI (MN t)), .long (zL f2), .long (zL l2), .long (zL lo), .long (zL hi), .int (zI co), .ref yk, .ref yw, .ref yi, .int (zI ge), .ref yx, .ref yy, .int (zI r2)])), zci G ym 8 MN, zci G ya 80 MA, zci G yb 80 MB, zci G yc 80 MC, zci G ye 80 ME, zcl G yp 10 P1, zcl G yq 10 Q1, zcl G yo 10 M1] → va_S A s.heap H locs → ∀ ls : Array Slot, lv_has ls 7 [(6, .int (zI v6)), (5, .int (zI v5b)), (0, .ref h0), (1, .int (zI (t : Int))), (2, .int (zI lt)), (3, .int (zI tm)), (4, .int (zI inr))] → W p l e ({ frames := 2, cells := 0, slots := 0, locals := 61 }) s m ([.ref h0, .int (zI (t : Int)), .int (zI lt), .int (zI tm), .int (zI inr)]).toArray below meth c H locs 0 0 Q (F0 m 144 ls []) := by
                intro nf
                induction nf with
                | zero =>
                  intro j2 v6 f2 l2 r2 hv6 hj2k hli hf
                  exact absurd hf (Nat.not_lt_zero _)
                | succ nf ih144 =>
                  intro j2 v6 f2 l2 r2 hv6 hj2k hli hf H locs hP hD hS ls hl
                  refine zv_iload S dX5_looks_144 (lv_at hl 0 rfl) ?_
                  refine zv_iload S dX5_looks_146 (lv_at hl 1 rfl) ?_
                  refine zv_icmp_ge (tgt := 165) S (by unfold zR; omega) (by unfold zR; omega) dX5_looks_148 (by decide) (fun c_3 => ?_) (fun c_3 => ?_)
                  · refine zv_iinc (k0 := 1) (lv' := [(5, .int (zI (v5b + 1))), (6, .int (zI v6)), (0, .ref h0), (1, .int (zI (t : Int))), (2, .int (zI lt)), (3, .int (zI tm)), (4, .int (zI inr))]) S dX5_looks_165 hl rfl (by decide) rfl (fun ls hl => ?_)
                    refine zv_goto (tgt := 132) S dX5_looks_168 (by decide) ?_
                    exact ih132 (i2 + 1) (v5b + 1) f2 l2 r2 (by omega) (by omega) (zlk_c hli (fun a b z => by omega)) (by omega) _ _ hP hD hS _ (lv_sub hl [0, 2, 3, 4, 5, 6] rfl)
                  · refine zv_aload_n S dX5_looks_151 rfl (lv_at hl 2 rfl) ?_
                    refine zv_iload S dX5_looks_152 (lv_at hl 1 rfl) ?_
                    refine zv_iload S dX5_looks_154 (lv_at hl 0 rfl) ?_
                    refine zc_Vv (As := [.int (zI v5b), .int (zI v6)]) (rest := []) (wr := [zci G ym 8 MN, zci G ya 80 MA, zci G yb 80 MB, zci G yc 80 MC, zci G ye 80 ME]) (n := 2) S hN hK hP hD hS hA hl (c_X5_meets l G H.size h0 th sh ym ya yb yc ye yp yq yo (MN t) f2 l2 lo hi co yk yw yi ge yx yy r2 P1 Q1 M1 k (fun a b => (a < i2 ∧ b < a) ∨ (a = i2 ∧ b < j2)) v5b v6 i2 j2 hv5b hv6 hk hk2 (by omega) (by omega) hpb hqb hmb hli) gX5_looks_X5_meets rfl ⟨rfl, rfl⟩ (by decide +kernel) rfl ⟨Nat.le_of_ble_eq_true rfl, Nat.le_of_ble_eq_true rfl, Nat.le_of_ble_eq_true rfl, Nat.le_of_ble_eq_true rfl⟩ [0, 6, 7, 8] [1, 2, 3, 4, 5] rfl rfl (by decide) (by decide) (by decide) (ci := 5) rfl rfl rfl (Nat.le_of_ble_eq_true rfl) dX5_looks_156 rfl (fun u_4 H1 locs1 hp_5 hP1 hD1 hS1 hz1 => ?_)
                    obtain ⟨f1_6, l1_7, r1_8⟩ := u_4
                    try dsimp only at hp_5 hP1 hD1
                    have hlk1_9 := hp_5
                    generalize H1 = H at hP1 hD1 hS1 hz1 ⊢
                    generalize locs1 = locs at hS1 ⊢
                    have hS := hS1
                    have hP : va_P G.1 vwCl [zci G ym 8 MN, zci G ya 80 MA, zci G yb 80 MB, zci G yc 80 MC, zci G ye 80 ME, (h0, .inr (5, [.int (zI th), .int (zI sh), .ref ym, .ref ya, .ref yb, .ref yc, .ref ye, .ref yp, .ref yq, .ref yo, .int (zI (MN t)), .long (zL f1_6), .long (zL l1_7), .long (zL lo), .long (zL hi), .int (zI co), .ref yk, .ref yw, .ref yi, .int (zI ge), .ref yx, .ref yy, .int (zI r1_8)])), zcl G yp 10 P1, zcl G yq 10 Q1, zcl G yo 10 M1] H := hP1
                    have hD : va_D A [zci G ym 8 MN, zci G ya 80 MA, zci G yb 80 MB, zci G yc 80 MC, zci G ye 80 ME, (h0, .inr (5, [.int (zI th), .int (zI sh), .ref ym, .ref ya, .ref yb, .ref yc, .ref ye, .ref yp, .ref yq, .ref yo, .int (zI (MN t)), .long (zL f1_6), .long (zL l1_7), .long (zL lo), .long (zL hi), .int (zI co), .ref yk, .ref yw, .ref yi, .int (zI ge), .ref yx, .ref yy, .int (zI r1_8)])), zcl G yp 10 P1, zcl G yq 10 Q1, zcl G yo 10 M1] := hD1
                    refine zv_iinc (k0 := 0) (lv' := [(6, .int (zI (v6 + 1))), (5, .int (zI v5b)), (0, .ref h0), (1, .int (zI (t : Int))), (2, .int (zI lt)), (3, .int (zI tm)), (4, .int (zI inr))]) S dX5_looks_159 hl rfl (by decide) rfl (fun ls hl => ?_)
                    refine zv_goto (tgt := 144) S dX5_looks_162 (by decide) ?_
                    exact ih144 (j2 + 1) (v6 + 1) f1_6 l1_7 r1_8 (by omega) (by omega) (zlk_c hlk1_9 (fun a b z => by omega)) (by omega) _ _ (hP.sub [5, 0, 1, 2, 3, 4, 6, 7, 8] rfl) (hD.sub [5, 0, 1, 2, 3, 4, 6, 7, 8] (by decide) rfl) hS _ (lv_sub hl [0, 1, 2, 3, 4, 5, 6] rfl)
              exact LP144 _ 0 0 f1 l1 r1 rfl (Nat.zero_le _) (zlk_c hlo (fun a b z => by omega)) (Nat.lt_succ_self _) _ _ hP hD hS _ (lv_sub hl [0, 1, 2, 3, 4, 5, 6] rfl)
        exact LP132 _ 0 0 1 0 ir rfl (Nat.zero_le _) (by rw [hir]; exact zlk_0 (fun a b z => absurd z.1 (Nat.not_lt_zero _))) (Nat.lt_succ_self _) _ _ hP hD hS _ (lv_sub hl [0, 1, 2, 3, 4, 5] rfl)
      · refine zv_bipush (v := 10) S dX5_looks_22 (by decide) ?_
        refine zv_iload_n S dX5_looks_24 rfl (lv_at hl 2 rfl) ?_
        refine zv_imul S dX5_looks_25 ?_
        refine zv_iload S dX5_looks_26 (lv_at hl 0 rfl) ?_
        refine zv_iadd S dX5_looks_28 ?_
        refine zv_istore (lv' := [(6, .int (zI ((10 * (t : Int)) + v5))), (5, .int (zI v5)), (0, .ref h0), (1, .int (zI (t : Int))), (2, .int (zI lt)), (3, .int (zI tm)), (4, .int (zI inr))]) S dX5_looks_29 hl (by decide) rfl (fun ls hl => ?_)
        refine zv_aload_n S dX5_looks_31 rfl (lv_at hl 2 rfl) ?_
        refine zv_get (C := RX5) (T := TX5) (N := 23) (ci := 5) (v := .ref yp) S in_X5_looks_X5 hK hP 0 rfl rfl 7 (by decide) wd_X5_looks_f25 rfl rfl dX5_looks_32 ?_
        refine zv_iload S dX5_looks_35 (lv_at hl 1 rfl) ?_
        refine zv_aload_n S dX5_looks_37 rfl (lv_at hl 2 rfl) ?_
        refine zv_get (C := RX5) (T := TX5) (N := 23) (ci := 5) (v := .ref ya) S in_X5_looks_X5 hK hP 0 rfl rfl 3 (by decide) wd_X5_looks_f13 rfl rfl dX5_looks_38 ?_
        refine zv_iload S dX5_looks_41 (lv_at hl 0 rfl) ?_
        refine zv_iald S hK hP 2 0 rfl rfl (10 * t + i) (by omega) (by omega) (by decide) dX5_looks_43 ?_
        refine zv_i2l S (by have q := hRA (10 * t + i) (by omega); unfold zR; omega) dX5_looks_44 ?_
        refine zv_last S hK hP hD hS 6 1 rfl rfl i hv5 (by omega) (by decide) dX5_looks_45 (fun H locs hP hD hS => ?_)
        have hP : va_P G.1 vwCl [(h0, .inr (5, [.int (zI th), .int (zI sh), .ref ym, .ref ya, .ref yb, .ref yc, .ref ye, .ref yp, .ref yq, .ref yo, .int (zI (MN t)), .long (zL fi), .long (zL la), .long (zL lo), .long (zL hi), .int (zI co), .ref yk, .ref yw, .ref yi, .int (zI ge), .ref yx, .ref yy, .int (zI ir)])), zci G ym 8 MN, zci G ya 80 MA, zci G yb 80 MB, zci G yc 80 MC, zci G ye 80 ME, zcl G yp 10 (zU P1 i (MA (10 * t + i))), zcl G yq 10 Q1, zcl G yo 10 M1] H := hP
        have hD : va_D A [(h0, .inr (5, [.int (zI th), .int (zI sh), .ref ym, .ref ya, .ref yb, .ref yc, .ref ye, .ref yp, .ref yq, .ref yo, .int (zI (MN t)), .long (zL fi), .long (zL la), .long (zL lo), .long (zL hi), .int (zI co), .ref yk, .ref yw, .ref yi, .int (zI ge), .ref yx, .ref yy, .int (zI ir)])), zci G ym 8 MN, zci G ya 80 MA, zci G yb 80 MB, zci G yc 80 MC, zci G ye 80 ME, zcl G yp 10 (zU P1 i (MA (10 * t + i))), zcl G yq 10 Q1, zcl G yo 10 M1] := hD
        refine zv_aload_n S dX5_looks_46 rfl (lv_at hl 2 rfl) ?_
        refine zv_get (C := RX5) (T := TX5) (N := 23) (ci := 5) (v := .ref yq) S in_X5_looks_X5 hK hP 0 rfl rfl 8 (by decide) wd_X5_looks_f29 rfl rfl dX5_looks_47 ?_
        refine zv_iload S dX5_looks_50 (lv_at hl 1 rfl) ?_
        refine zv_aload_n S dX5_looks_52 rfl (lv_at hl 2 rfl) ?_
        refine zv_get (C := RX5) (T := TX5) (N := 23) (ci := 5) (v := .ref yb) S in_X5_looks_X5 hK hP 0 rfl rfl 4 (by decide) wd_X5_looks_f16 rfl rfl dX5_looks_53 ?_
        refine zv_iload S dX5_looks_56 (lv_at hl 0 rfl) ?_
        refine zv_iald S hK hP 3 0 rfl rfl (10 * t + i) (by omega) (by omega) (by decide) dX5_looks_58 ?_
        refine zv_i2l S (by have q := hRB (10 * t + i) (by omega); unfold zR; omega) dX5_looks_59 ?_
        refine zv_last S hK hP hD hS 7 1 rfl rfl i hv5 (by omega) (by decide) dX5_looks_60 (fun H locs hP hD hS => ?_)
        have hP : va_P G.1 vwCl [(h0, .inr (5, [.int (zI th), .int (zI sh), .ref ym, .ref ya, .ref yb, .ref yc, .ref ye, .ref yp, .ref yq, .ref yo, .int (zI (MN t)), .long (zL fi), .long (zL la), .long (zL lo), .long (zL hi), .int (zI co), .ref yk, .ref yw, .ref yi, .int (zI ge), .ref yx, .ref yy, .int (zI ir)])), zci G ym 8 MN, zci G ya 80 MA, zci G yb 80 MB, zci G yc 80 MC, zci G ye 80 ME, zcl G yp 10 (zU P1 i (MA (10 * t + i))), zcl G yq 10 (zU Q1 i (MB (10 * t + i))), zcl G yo 10 M1] H := hP
        have hD : va_D A [(h0, .inr (5, [.int (zI th), .int (zI sh), .ref ym, .ref ya, .ref yb, .ref yc, .ref ye, .ref yp, .ref yq, .ref yo, .int (zI (MN t)), .long (zL fi), .long (zL la), .long (zL lo), .long (zL hi), .int (zI co), .ref yk, .ref yw, .ref yi, .int (zI ge), .ref yx, .ref yy, .int (zI ir)])), zci G ym 8 MN, zci G ya 80 MA, zci G yb 80 MB, zci G yc 80 MC, zci G ye 80 ME, zcl G yp 10 (zU P1 i (MA (10 * t + i))), zcl G yq 10 (zU Q1 i (MB (10 * t + i))), zcl G yo 10 M1] := hD
        have JN100 : ∀ (vm : Int) (hvm : vm = (if tm < 0 then MC (10 * t + i) + ME (10 * t + i) * lt else MC (10 * t + i) * tm)) (H : Heap) (locs : List Loc), va_P G.1 vwCl [(h0, .inr (5, [.int (zI th), .int (zI sh), .ref ym, .ref ya, .ref yb, .ref yc, .ref ye, .ref yp, .ref yq, .ref yo, .int (zI (MN t)), .long (zL fi), .long (zL la), .long (zL lo), .long (zL hi), .int (zI co), .ref yk, .ref yw, .ref yi, .int (zI ge), .ref yx, .ref yy, .int (zI ir)])), zci G ym 8 MN, zci G ya 80 MA, zci G yb 80 MB, zci G yc 80 MC, zci G ye 80 ME, zcl G yp 10 (zU P1 i (MA (10 * t + i))), zcl G yq 10 (zU Q1 i (MB (10 * t + i))), zcl G yo 10 M1] H → va_D A [(h0, .inr (5, [.int (zI th), .int (zI sh), .ref ym, .ref ya, .ref yb, .ref yc, .ref ye, .ref yp, .ref yq, .ref yo, .int (zI (MN t)), .long (zL fi), .long (zL la), .long (zL lo), .long (zL hi), .int (zI co), .ref yk, .ref yw, .ref yi, .int (zI ge), .ref yx, .ref yy, .int (zI ir)])), zci G ym 8 MN, zci G ya 80 MA, zci G yb 80 MB, zci G yc 80 MC, zci G ye 80 ME, zcl G yp 10 (zU P1 i (MA (10 * t + i))), zcl G yq 10 (zU Q1 i (MB (10 * t + i))), zcl G yo 10 M1] → va_S A s.heap H locs → ∀ ls : Array Slot, lv_has ls 7 [(6, .int (zI ((10 * (t : Int)) + v5))), (5, .int (zI v5)), (0, .ref h0), (1, .int (zI (t : Int))), (2, .int (zI lt)), (3, .int (zI tm)), (4, .int (zI inr))] → W p l e ({ frames := 2, cells := 0, slots := 0, locals := 61 }) s m ([.ref h0, .int (zI (t : Int)), .int (zI lt), .int (zI tm), .int (zI inr)]).toArray below meth c H locs 0 0 Q (F0 m 100 ls [.int (zI vm), .int (zI v5), .ref yo]) := by
          intro vm hvm H locs hP hD hS ls hl
          refine zv_iload S dX5_looks_100 (lv_at hl 6 rfl) ?_
          refine zv_if_eq (tgt := 109) S (by unfold zR; omega) dX5_looks_102 (by decide) (fun c_10 => ?_) (fun c_10 => ?_)
          · refine zv_iconst S dX5_looks_109 ?_
            refine zv_isub S dX5_looks_110 ?_
            have mb := hMb i (by omega)
            have mz : vm - 0 = zmst tm lt inr MC ME t i := by unfold zmst; rw [hvm, show (if inr = 0 then (0 : Int) else 1) = 0 from if_pos (by omega)]
            refine zv_i2l S (by unfold zR; omega) dX5_looks_111 ?_
            refine zv_last S hK hP hD hS 8 1 rfl rfl i hv5 (by omega) (by decide) dX5_looks_112 (fun H locs hP hD hS => ?_)
            have hP : va_P G.1 vwCl [(h0, .inr (5, [.int (zI th), .int (zI sh), .ref ym, .ref ya, .ref yb, .ref yc, .ref ye, .ref yp, .ref yq, .ref yo, .int (zI (MN t)), .long (zL fi), .long (zL la), .long (zL lo), .long (zL hi), .int (zI co), .ref yk, .ref yw, .ref yi, .int (zI ge), .ref yx, .ref yy, .int (zI ir)])), zci G ym 8 MN, zci G ya 80 MA, zci G yb 80 MB, zci G yc 80 MC, zci G ye 80 ME, zcl G yp 10 (zU P1 i (MA (10 * t + i))), zcl G yq 10 (zU Q1 i (MB (10 * t + i))), zcl G yo 10 (zU M1 i (vm - 0))] H := hP
            have hD : va_D A [(h0, .inr (5, [.int (zI th), .int (zI sh), .ref ym, .ref ya, .ref yb, .ref yc, .ref ye, .ref yp, .ref yq, .ref yo, .int (zI (MN t)), .long (zL fi), .long (zL la), .long (zL lo), .long (zL hi), .int (zI co), .ref yk, .ref yw, .ref yi, .int (zI ge), .ref yx, .ref yy, .int (zI ir)])), zci G ym 8 MN, zci G ya 80 MA, zci G yb 80 MB, zci G yc 80 MC, zci G ye 80 ME, zcl G yp 10 (zU P1 i (MA (10 * t + i))), zcl G yq 10 (zU Q1 i (MB (10 * t + i))), zcl G yo 10 (zU M1 i (vm - 0))] := hD
            refine zv_iinc (k0 := 1) (lv' := [(5, .int (zI (v5 + 1))), (6, .int (zI ((10 * (t : Int)) + v5))), (0, .ref h0), (1, .int (zI (t : Int))), (2, .int (zI lt)), (3, .int (zI tm)), (4, .int (zI inr))]) S dX5_looks_113 hl rfl (by decide) rfl (fun ls hl => ?_)
            refine zv_goto (tgt := 13) S dX5_looks_116 (by decide) ?_
            exact ih13 (i + 1) (v5 + 1) (zU P1 i (MA (10 * t + i))) (zU Q1 i (MB (10 * t + i))) (zU M1 i (vm - 0)) (by omega) (by omega) (by rw [hP1]; exact zfill_next rfl) (by rw [hQ1]; exact zfill_next rfl) (by rw [hM1]; exact zfill_next mz) (by omega) _ _ hP hD hS _ (lv_sub hl [0, 2, 3, 4, 5, 6] rfl)
          · refine zv_iconst S dX5_looks_105 ?_
            refine zv_goto (tgt := 110) S dX5_looks_106 (by decide) ?_
            refine zv_isub S dX5_looks_110 ?_
            have mb := hMb i (by omega)
            have mz : vm - 1 = zmst tm lt inr MC ME t i := by unfold zmst; rw [hvm, show (if inr = 0 then (0 : Int) else 1) = 1 from if_neg (by omega)]
            refine zv_i2l S (by unfold zR; omega) dX5_looks_111 ?_
            refine zv_last S hK hP hD hS 8 1 rfl rfl i hv5 (by omega) (by decide) dX5_looks_112 (fun H locs hP hD hS => ?_)
            have hP : va_P G.1 vwCl [(h0, .inr (5, [.int (zI th), .int (zI sh), .ref ym, .ref ya, .ref yb, .ref yc, .ref ye, .ref yp, .ref yq, .ref yo, .int (zI (MN t)), .long (zL fi), .long (zL la), .long (zL lo), .long (zL hi), .int (zI co), .ref yk, .ref yw, .ref yi, .int (zI ge), .ref yx, .ref yy, .int (zI ir)])), zci G ym 8 MN, zci G ya 80 MA, zci G yb 80 MB, zci G yc 80 MC, zci G ye 80 ME, zcl G yp 10 (zU P1 i (MA (10 * t + i))), zcl G yq 10 (zU Q1 i (MB (10 * t + i))), zcl G yo 10 (zU M1 i (vm - 1))] H := hP
            have hD : va_D A [(h0, .inr (5, [.int (zI th), .int (zI sh), .ref ym, .ref ya, .ref yb, .ref yc, .ref ye, .ref yp, .ref yq, .ref yo, .int (zI (MN t)), .long (zL fi), .long (zL la), .long (zL lo), .long (zL hi), .int (zI co), .ref yk, .ref yw, .ref yi, .int (zI ge), .ref yx, .ref yy, .int (zI ir)])), zci G ym 8 MN, zci G ya 80 MA, zci G yb 80 MB, zci G yc 80 MC, zci G ye 80 ME, zcl G yp 10 (zU P1 i (MA (10 * t + i))), zcl G yq 10 (zU Q1 i (MB (10 * t + i))), zcl G yo 10 (zU M1 i (vm - 1))] := hD
            refine zv_iinc (k0 := 1) (lv' := [(5, .int (zI (v5 + 1))), (6, .int (zI ((10 * (t : Int)) + v5))), (0, .ref h0), (1, .int (zI (t : Int))), (2, .int (zI lt)), (3, .int (zI tm)), (4, .int (zI inr))]) S dX5_looks_113 hl rfl (by decide) rfl (fun ls hl => ?_)
            refine zv_goto (tgt := 13) S dX5_looks_116 (by decide) ?_
            exact ih13 (i + 1) (v5 + 1) (zU P1 i (MA (10 * t + i))) (zU Q1 i (MB (10 * t + i))) (zU M1 i (vm - 1)) (by omega) (by omega) (by rw [hP1]; exact zfill_next rfl) (by rw [hQ1]; exact zfill_next rfl) (by rw [hM1]; exact zfill_next mz) (by omega) _ _ hP hD hS _ (lv_sub hl [0, 2, 3, 4, 5, 6] rfl)
        refine zv_aload_n S dX5_looks_61 rfl (lv_at hl 2 rfl) ?_
        refine zv_get (C := RX5) (T := TX5) (N := 23) (ci := 5) (v := .ref yo) S in_X5_looks_X5 hK hP 0 rfl rfl 9 (by decide) wd_X5_looks_f32 rfl rfl dX5_looks_62 ?_
        refine zv_iload S dX5_looks_65 (lv_at hl 1 rfl) ?_
        refine zv_iload_n S dX5_looks_67 rfl (lv_at hl 5 rfl) ?_
        refine zv_if_ge (tgt := 91) S (by unfold zR; omega) dX5_looks_68 (by decide) (fun c_11 => ?_) (fun c_11 => ?_)
        · refine zv_aload_n S dX5_looks_91 rfl (lv_at hl 2 rfl) ?_
          refine zv_get (C := RX5) (T := TX5) (N := 23) (ci := 5) (v := .ref yc) S in_X5_looks_X5 hK hP 0 rfl rfl 5 (by decide) wd_X5_looks_f19 rfl rfl dX5_looks_92 ?_
          refine zv_iload S dX5_looks_95 (lv_at hl 0 rfl) ?_
          refine zv_iald S hK hP 4 0 rfl rfl (10 * t + i) (by omega) (by omega) (by decide) dX5_looks_97 ?_
          refine zv_iload_n S dX5_looks_98 rfl (lv_at hl 5 rfl) ?_
          refine zv_imul S dX5_looks_99 ?_
          exact JN100 ((MC (10 * t + i)) * tm) (by rw [if_neg (by omega)]) _ _ hP hD hS _ (lv_sub hl [0, 1, 2, 3, 4, 5, 6] rfl)
        · refine zv_aload_n S dX5_looks_71 rfl (lv_at hl 2 rfl) ?_
          refine zv_get (C := RX5) (T := TX5) (N := 23) (ci := 5) (v := .ref yc) S in_X5_looks_X5 hK hP 0 rfl rfl 5 (by decide) wd_X5_looks_f19 rfl rfl dX5_looks_72 ?_
          refine zv_iload S dX5_looks_75 (lv_at hl 0 rfl) ?_
          refine zv_iald S hK hP 4 0 rfl rfl (10 * t + i) (by omega) (by omega) (by decide) dX5_looks_77 ?_
          refine zv_aload_n S dX5_looks_78 rfl (lv_at hl 2 rfl) ?_
          refine zv_get (C := RX5) (T := TX5) (N := 23) (ci := 5) (v := .ref ye) S in_X5_looks_X5 hK hP 0 rfl rfl 6 (by decide) wd_X5_looks_f22 rfl rfl dX5_looks_79 ?_
          refine zv_iload S dX5_looks_82 (lv_at hl 0 rfl) ?_
          refine zv_iald S hK hP 5 0 rfl rfl (10 * t + i) (by omega) (by omega) (by decide) dX5_looks_84 ?_
          refine zv_iload_n S dX5_looks_85 rfl (lv_at hl 4 rfl) ?_
          refine zv_imul S dX5_looks_86 ?_
          refine zv_iadd S dX5_looks_87 ?_
          refine zv_goto (tgt := 100) S dX5_looks_88 (by decide) ?_
          exact JN100 ((MC (10 * t + i)) + ((ME (10 * t + i)) * lt)) (by rw [if_pos (by omega)]) _ _ hP hD hS _ (lv_sub hl [0, 1, 2, 3, 4, 5, 6] rfl)
  exact LP13 _ 0 0 P Qu M rfl (Nat.zero_le _) zfill_0.symm zfill_0.symm zfill_0.symm (Nat.lt_succ_self _) _ _ hP hD hS _ (lv_sub hl [0, 1, 2, 3, 4, 5] rfl)
