theorem wd_X5_puts_f7 : Cond.fieldLink RX5 7 "PointMillModel" "many" "[I" ∈ wsX5_puts := by decide +kernel
theorem in_X5_puts_X5 : ∀ w ∈ wsX50, w ∈ wsX5_puts := by decide +kernel
theorem wd_X5_puts_f13 : Cond.fieldLink RX5 13 "PointMillModel" "a" "[I" ∈ wsX5_puts := by decide +kernel
theorem wd_X5_puts_f16 : Cond.fieldLink RX5 16 "PointMillModel" "b" "[I" ∈ wsX5_puts := by decide +kernel
theorem wd_X5_puts_f19 : Cond.fieldLink RX5 19 "PointMillModel" "c" "[I" ∈ wsX5_puts := by decide +kernel
theorem wd_X5_puts_f22 : Cond.fieldLink RX5 22 "PointMillModel" "e" "[I" ∈ wsX5_puts := by decide +kernel
set_option maxHeartbeats 4000000 in
set_option maxRecDepth 100000 in
/-- the model: puts -/
theorem c_X5_puts (l : Launch) (G : zG) (sz : Nat) (h0 : Nat) (th : Int) (sh : Int) (ym : Nat) (ya : Nat) (yb : Nat) (yc : Nat) (ye : Nat) (yp : Nat) (yq : Nat) (yo : Nat) (ro : Int) (fi : Int) (la : Int) (lo : Int) (hi : Int) (co : Int) (yk : Nat) (yw : Nat) (yi : Nat) (ge : Int) (yx : Nat) (yy : Nat) (ir : Int) (MN : Nat → Int) (MA : Nat → Int) (MB : Nat → Int) (MC : Nat → Int) (ME : Nat → Int) (vi : Int) (t : Nat) (k : Nat) (nx : Int) (ny : Int) (nc : Int) (ne : Int) (hvi : vi = (t : Int)) (ht : t < 8) (hk : MN t = (k : Int)) (hk2 : k < 10) : Met l yX5_puts wsX5_puts ({ frames := 0, cells := 0, slots := 0, locals := 0 }) (va_Pc [.ref h0, .int (zI vi), .int (zI nx), .int (zI ny), .int (zI nc), .int (zI ne)] (zPre G sz [(h0, .inr (5, [.int (zI th), .int (zI sh), .ref ym, .ref ya, .ref yb, .ref yc, .ref ye, .ref yp, .ref yq, .ref yo, .int (zI ro), .long (zL fi), .long (zL la), .long (zL lo), .long (zL hi), .int (zI co), .ref yk, .ref yw, .ref yi, .int (zI ge), .ref yx, .ref yy, .int (zI ir)])), zci G ym 8 MN, zci G ya 80 MA, zci G yb 80 MB, zci G yc 80 MC, zci G ye 80 ME])) (va_Qi (fun (r : Int32) (u : Unit) => r = zI (MN t)) (fun u => zW G (va_A [(h0, .inr (5, [.int (zI th), .int (zI sh), .ref ym, .ref ya, .ref yb, .ref yc, .ref ye, .ref yp, .ref yq, .ref yo, .int (zI ro), .long (zL fi), .long (zL la), .long (zL lo), .long (zL hi), .int (zI co), .ref yk, .ref yw, .ref yi, .int (zI ge), .ref yx, .ref yy, .int (zI ir)])), zci G ym 8 MN, zci G ya 80 MA, zci G yb 80 MB, zci G yc 80 MC, zci G ye 80 ME] sz) ((fun (u : Unit) => [(h0, .inr (5, [.int (zI th), .int (zI sh), .ref ym, .ref ya, .ref yb, .ref yc, .ref ye, .ref yp, .ref yq, .ref yo, .int (zI ro), .long (zL fi), .long (zL la), .long (zL lo), .long (zL hi), .int (zI co), .ref yk, .ref yw, .ref yi, .int (zI ge), .ref yx, .ref yy, .int (zI ir)])), zci G ym 8 (zU MN t (MN t + 1)), zci G ya 80 (zU MA (10 * t + k) nx), zci G yb 80 (zU MB (10 * t + k) ny), zci G yc 80 (zU MC (10 * t + k) nc), zci G ye 80 (zU ME (10 * t + k) ne)]) u)) (va_A [(h0, .inr (5, [.int (zI th), .int (zI sh), .ref ym, .ref ya, .ref yb, .ref yc, .ref ye, .ref yp, .ref yq, .ref yo, .int (zI ro), .long (zL fi), .long (zL la), .long (zL lo), .long (zL hi), .int (zI co), .ref yk, .ref yw, .ref yi, .int (zI ge), .ref yx, .ref yy, .int (zI ir)])), zci G ym 8 MN, zci G ya 80 MA, zci G yb 80 MB, zci G yc 80 MC, zci G ye 80 ME] sz)) 0 0 (va_A [(h0, .inr (5, [.int (zI th), .int (zI sh), .ref ym, .ref ya, .ref yb, .ref yc, .ref ye, .ref yp, .ref yq, .ref yo, .int (zI ro), .long (zL fi), .long (zL la), .long (zL lo), .long (zL hi), .int (zI co), .ref yk, .ref yw, .ref yi, .int (zI ge), .ref yx, .ref yy, .int (zI ir)])), zci G ym 8 MN, zci G ya 80 MA, zci G yb 80 MB, zci G yc 80 MC, zci G ye 80 ME] sz) := by
  subst hvi
  refine zM_i (post := fun (r : Int32) (u : Unit) => r = zI (MN t)) (w1 := fun (u : Unit) => [(h0, .inr (5, [.int (zI th), .int (zI sh), .ref ym, .ref ya, .ref yb, .ref yc, .ref ye, .ref yp, .ref yq, .ref yo, .int (zI ro), .long (zL fi), .long (zL la), .long (zL lo), .long (zL hi), .int (zI co), .ref yk, .ref yw, .ref yi, .int (zI ge), .ref yx, .ref yy, .int (zI ir)])), zci G ym 8 (zU MN t (MN t + 1)), zci G ya 80 (zU MA (10 * t + k) nx), zci G yb 80 (zU MB (10 * t + k) ny), zci G yc 80 (zU MC (10 * t + k) nc), zci G ye 80 (zU ME (10 * t + k) ne)]) (plainFor_of_name (by decide)) rfl (Nat.le_of_ble_eq_true rfl) ?_
  intro p e s m below meth c A Q S hN hK hP hD hS hA hret ls hl
  have hl : lv_has ls 7 [(0, .ref h0), (1, .int (zI (t : Int))), (2, .int (zI nx)), (3, .int (zI ny)), (4, .int (zI nc)), (5, .int (zI ne))] := hl
  refine zv_bipush (v := 10) S dX5_puts_0 (by decide) ?_
  refine zv_iload_n S dX5_puts_2 rfl (lv_at hl 1 rfl) ?_
  refine zv_imul S dX5_puts_3 ?_
  refine zv_aload_n S dX5_puts_4 rfl (lv_at hl 0 rfl) ?_
  refine zv_get (C := RX5) (T := TX5) (N := 23) (ci := 5) (v := .ref ym) S in_X5_puts_X5 hK hP 0 rfl rfl 2 (by decide) wd_X5_puts_f7 rfl rfl dX5_puts_5 ?_
  refine zv_iload_n S dX5_puts_8 rfl (lv_at hl 1 rfl) ?_
  refine zv_iald S hK hP 1 0 rfl rfl t rfl (by omega) (by decide) dX5_puts_9 ?_
  refine zv_iadd S dX5_puts_10 ?_
  refine zv_istore (lv' := [(6, .int (zI ((10 * (t : Int)) + (MN t)))), (0, .ref h0), (1, .int (zI (t : Int))), (2, .int (zI nx)), (3, .int (zI ny)), (4, .int (zI nc)), (5, .int (zI ne))]) S dX5_puts_11 hl (by decide) rfl (fun ls hl => ?_)
  refine zv_aload_n S dX5_puts_13 rfl (lv_at hl 1 rfl) ?_
  refine zv_get (C := RX5) (T := TX5) (N := 23) (ci := 5) (v := .ref ya) S in_X5_puts_X5 hK hP 0 rfl rfl 3 (by decide) wd_X5_puts_f13 rfl rfl dX5_puts_14 ?_
  refine zv_iload S dX5_puts_17 (lv_at hl 0 rfl) ?_
  refine zv_iload_n S dX5_puts_19 rfl (lv_at hl 3 rfl) ?_
  refine zv_iast S hK hP hD hS 2 0 rfl rfl (10 * t + k) (by rw [hk]; omega) (by omega) (by decide) dX5_puts_20 (fun H locs hP hD hS => ?_)
  have hP : va_P G.1 vwCl [(h0, .inr (5, [.int (zI th), .int (zI sh), .ref ym, .ref ya, .ref yb, .ref yc, .ref ye, .ref yp, .ref yq, .ref yo, .int (zI ro), .long (zL fi), .long (zL la), .long (zL lo), .long (zL hi), .int (zI co), .ref yk, .ref yw, .ref yi, .int (zI ge), .ref yx, .ref yy, .int (zI ir)])), zci G ym 8 MN, zci G ya 80 (zU MA (10 * t + k) nx), zci G yb 80 MB, zci G yc 80 MC, zci G ye 80 ME] H := hP
  have hD : va_D A [(h0, .inr (5, [.int (zI th), .int (zI sh), .ref ym, .ref ya, .ref yb, .ref yc, .ref ye, .ref yp, .ref yq, .ref yo, .int (zI ro), .long (zL fi), .long (zL la), .long (zL lo), .long (zL hi), .int (zI co), .ref yk, .ref yw, .ref yi, .int (zI ge), .ref yx, .ref yy, .int (zI ir)])), zci G ym 8 MN, zci G ya 80 (zU MA (10 * t + k) nx), zci G yb 80 MB, zci G yc 80 MC, zci G ye 80 ME] := hD
  refine zv_aload_n S dX5_puts_21 rfl (lv_at hl 1 rfl) ?_
  refine zv_get (C := RX5) (T := TX5) (N := 23) (ci := 5) (v := .ref yb) S in_X5_puts_X5 hK hP 0 rfl rfl 4 (by decide) wd_X5_puts_f16 rfl rfl dX5_puts_22 ?_
  refine zv_iload S dX5_puts_25 (lv_at hl 0 rfl) ?_
  refine zv_iload_n S dX5_puts_27 rfl (lv_at hl 4 rfl) ?_
  refine zv_iast S hK hP hD hS 3 0 rfl rfl (10 * t + k) (by rw [hk]; omega) (by omega) (by decide) dX5_puts_28 (fun H locs hP hD hS => ?_)
  have hP : va_P G.1 vwCl [(h0, .inr (5, [.int (zI th), .int (zI sh), .ref ym, .ref ya, .ref yb, .ref yc, .ref ye, .ref yp, .ref yq, .ref yo, .int (zI ro), .long (zL fi), .long (zL la), .long (zL lo), .long (zL hi), .int (zI co), .ref yk, .ref yw, .ref yi, .int (zI ge), .ref yx, .ref yy, .int (zI ir)])), zci G ym 8 MN, zci G ya 80 (zU MA (10 * t + k) nx), zci G yb 80 (zU MB (10 * t + k) ny), zci G yc 80 MC, zci G ye 80 ME] H := hP
  have hD : va_D A [(h0, .inr (5, [.int (zI th), .int (zI sh), .ref ym, .ref ya, .ref yb, .ref yc, .ref ye, .ref yp, .ref yq, .ref yo, .int (zI ro), .long (zL fi), .long (zL la), .long (zL lo), .long (zL hi), .int (zI co), .ref yk, .ref yw, .ref yi, .int (zI ge), .ref yx, .ref yy, .int (zI ir)])), zci G ym 8 MN, zci G ya 80 (zU MA (10 * t + k) nx), zci G yb 80 (zU MB (10 * t + k) ny), zci G yc 80 MC, zci G ye 80 ME] := hD
  refine zv_aload_n S dX5_puts_29 rfl (lv_at hl 1 rfl) ?_
  refine zv_get (C := RX5) (T := TX5) (N := 23) (ci := 5) (v := .ref yc) S in_X5_puts_X5 hK hP 0 rfl rfl 5 (by decide) wd_X5_puts_f19 rfl rfl dX5_puts_30 ?_
  refine zv_iload S dX5_puts_33 (lv_at hl 0 rfl) ?_
  refine zv_iload S dX5_puts_35 (lv_at hl 5 rfl) ?_
  refine zv_iast S hK hP hD hS 4 0 rfl rfl (10 * t + k) (by rw [hk]; omega) (by omega) (by decide) dX5_puts_37 (fun H locs hP hD hS => ?_)
  have hP : va_P G.1 vwCl [(h0, .inr (5, [.int (zI th), .int (zI sh), .ref ym, .ref ya, .ref yb, .ref yc, .ref ye, .ref yp, .ref yq, .ref yo, .int (zI ro), .long (zL fi), .long (zL la), .long (zL lo), .long (zL hi), .int (zI co), .ref yk, .ref yw, .ref yi, .int (zI ge), .ref yx, .ref yy, .int (zI ir)])), zci G ym 8 MN, zci G ya 80 (zU MA (10 * t + k) nx), zci G yb 80 (zU MB (10 * t + k) ny), zci G yc 80 (zU MC (10 * t + k) nc), zci G ye 80 ME] H := hP
  have hD : va_D A [(h0, .inr (5, [.int (zI th), .int (zI sh), .ref ym, .ref ya, .ref yb, .ref yc, .ref ye, .ref yp, .ref yq, .ref yo, .int (zI ro), .long (zL fi), .long (zL la), .long (zL lo), .long (zL hi), .int (zI co), .ref yk, .ref yw, .ref yi, .int (zI ge), .ref yx, .ref yy, .int (zI ir)])), zci G ym 8 MN, zci G ya 80 (zU MA (10 * t + k) nx), zci G yb 80 (zU MB (10 * t + k) ny), zci G yc 80 (zU MC (10 * t + k) nc), zci G ye 80 ME] := hD
  refine zv_aload_n S dX5_puts_38 rfl (lv_at hl 1 rfl) ?_
  refine zv_get (C := RX5) (T := TX5) (N := 23) (ci := 5) (v := .ref ye) S in_X5_puts_X5 hK hP 0 rfl rfl 6 (by decide) wd_X5_puts_f22 rfl rfl dX5_puts_39 ?_
  refine zv_iload S dX5_puts_42 (lv_at hl 0 rfl) ?_
  refine zv_iload S dX5_puts_44 (lv_at hl 6 rfl) ?_
  refine zv_iast S hK hP hD hS 5 0 rfl rfl (10 * t + k) (by rw [hk]; omega) (by omega) (by decide) dX5_puts_46 (fun H locs hP hD hS => ?_)
  have hP : va_P G.1 vwCl [(h0, .inr (5, [.int (zI th), .int (zI sh), .ref ym, .ref ya, .ref yb, .ref yc, .ref ye, .ref yp, .ref yq, .ref yo, .int (zI ro), .long (zL fi), .long (zL la), .long (zL lo), .long (zL hi), .int (zI co), .ref yk, .ref yw, .ref yi, .int (zI ge), .ref yx, .ref yy, .int (zI ir)])), zci G ym 8 MN, zci G ya 80 (zU MA (10 * t + k) nx), zci G yb 80 (zU MB (10 * t + k) ny), zci G yc 80 (zU MC (10 * t + k) nc), zci G ye 80 (zU ME (10 * t + k) ne)] H := hP
  have hD : va_D A [(h0, .inr (5, [.int (zI th), .int (zI sh), .ref ym, .ref ya, .ref yb, .ref yc, .ref ye, .ref yp, .ref yq, .ref yo, .int (zI ro), .long (zL fi), .long (zL la), .long (zL lo), .long (zL hi), .int (zI co), .ref yk, .ref yw, .ref yi, .int (zI ge), .ref yx, .ref yy, .int (zI ir)])), zci G ym 8 MN, zci G ya 80 (zU MA (10 * t + k) nx), zci G yb 80 (zU MB (10 * t + k) ny), zci G yc 80 (zU MC (10 * t + k) nc), zci G ye 80 (zU ME (10 * t + k) ne)] := hD
  refine zv_aload_n S dX5_puts_47 rfl (lv_at hl 1 rfl) ?_
  refine zv_get (C := RX5) (T := TX5) (N := 23) (ci := 5) (v := .ref ym) S in_X5_puts_X5 hK hP 0 rfl rfl 2 (by decide) wd_X5_puts_f7 rfl rfl dX5_puts_48 ?_
  refine zv_iload_n S dX5_puts_51 rfl (lv_at hl 2 rfl) ?_
  refine zv_dup2_11 S dX5_puts_52 rfl rfl ?_
  refine zv_iald S hK hP 1 0 rfl rfl t rfl (by omega) (by decide) dX5_puts_53 ?_
  refine zv_iconst S dX5_puts_54 ?_
  refine zv_iadd S dX5_puts_55 ?_
  refine zv_iast S hK hP hD hS 1 0 rfl rfl t rfl (by omega) (by decide) dX5_puts_56 (fun H locs hP hD hS => ?_)
  have hP : va_P G.1 vwCl [(h0, .inr (5, [.int (zI th), .int (zI sh), .ref ym, .ref ya, .ref yb, .ref yc, .ref ye, .ref yp, .ref yq, .ref yo, .int (zI ro), .long (zL fi), .long (zL la), .long (zL lo), .long (zL hi), .int (zI co), .ref yk, .ref yw, .ref yi, .int (zI ge), .ref yx, .ref yy, .int (zI ir)])), zci G ym 8 (zU MN t ((MN t) + 1)), zci G ya 80 (zU MA (10 * t + k) nx), zci G yb 80 (zU MB (10 * t + k) ny), zci G yc 80 (zU MC (10 * t + k) nc), zci G ye 80 (zU ME (10 * t + k) ne)] H := hP
  have hD : va_D A [(h0, .inr (5, [.int (zI th), .int (zI sh), .ref ym, .ref ya, .ref yb, .ref yc, .ref ye, .ref yp, .ref yq, .ref yo, .int (zI ro), .long (zL fi), .long (zL la), .long (zL lo), .long (zL hi), .int (zI co), .ref yk, .ref yw, .ref yi, .int (zI ge), .ref yx, .ref yy, .int (zI ir)])), zci G ym 8 (zU MN t ((MN t) + 1)), zci G ya 80 (zU MA (10 * t + k) nx), zci G yb 80 (zU MB (10 * t + k) ny), zci G yc 80 (zU MC (10 * t + k) nc), zci G ye 80 (zU ME (10 * t + k) ne)] := hD
  refine zv_aload_n S dX5_puts_57 rfl (lv_at hl 1 rfl) ?_
  refine zv_get (C := RX5) (T := TX5) (N := 23) (ci := 5) (v := .ref ym) S in_X5_puts_X5 hK hP 0 rfl rfl 2 (by decide) wd_X5_puts_f7 rfl rfl dX5_puts_58 ?_
  refine zv_iload_n S dX5_puts_61 rfl (lv_at hl 2 rfl) ?_
  refine zv_iald S hK hP 1 0 rfl rfl t rfl (by omega) (by decide) dX5_puts_62 ?_
  refine zv_iconst S dX5_puts_63 ?_
  refine zv_isub S dX5_puts_64 ?_
  exact hret _ _ _ _ _ () dX5_puts_65 (congrArg zI (by rw [zU_same]; omega)) (hP.sub [0, 1, 2, 3, 4, 5] rfl) (hD.sub [0, 1, 2, 3, 4, 5] (by decide) rfl) hS

theorem wd_X5_add_f7 : Cond.fieldLink RX5 7 "PointMillModel" "many" "[I" ∈ wsX5_add := by decide +kernel
theorem in_X5_add_X5 : ∀ w ∈ wsX50, w ∈ wsX5_add := by decide +kernel
theorem wd_X5_add_f51 : Cond.fieldLink RX5 51 "PointMillModel" "thrown" "I" ∈ wsX5_add := by decide +kernel
set_option maxHeartbeats 4000000 in
set_option maxRecDepth 100000 in
/-- the model: add -/
theorem c_X5_add (l : Launch) (G : zG) (sz : Nat) (h0 : Nat) (th : Int) (sh : Int) (ym : Nat) (ya : Nat) (yb : Nat) (yc : Nat) (ye : Nat) (yp : Nat) (yq : Nat) (yo : Nat) (ro : Int) (fi : Int) (la : Int) (lo : Int) (hi : Int) (co : Int) (yk : Nat) (yw : Nat) (yi : Nat) (ge : Int) (yx : Nat) (yy : Nat) (ir : Int) (MN : Nat → Int) (MA : Nat → Int) (MB : Nat → Int) (MC : Nat → Int) (ME : Nat → Int) (v : Int) (nx : Int) (ny : Int) (nc : Int) (ne : Int) (hsh : 0 ≤ sh ∧ sh ≤ 8) (hmn : ∀ j, j < 8 → 0 ≤ MN j ∧ MN j ≤ 10) (hv : -2147483648 ≤ v ∧ v < 2147483648) (h1 : -2147483648 ≤ nx ∧ nx < 2147483648) (h2 : -2147483648 ≤ ny ∧ ny < 2147483648) (h3 : -2147483648 ≤ nc ∧ nc < 2147483648) (h4 : -2147483648 ≤ ne ∧ ne < 2147483648) : Met l yX5_add wsX5_add ({ frames := 2, cells := 0, slots := 0, locals := 43 }) (va_Pc [.ref h0, .int (zI v), .int (zI nx), .int (zI ny), .int (zI nc), .int (zI ne)] (zPre G sz [(h0, .inr (5, [.int (zI th), .int (zI sh), .ref ym, .ref ya, .ref yb, .ref yc, .ref ye, .ref yp, .ref yq, .ref yo, .int (zI ro), .long (zL fi), .long (zL la), .long (zL lo), .long (zL hi), .int (zI co), .ref yk, .ref yw, .ref yi, .int (zI ge), .ref yx, .ref yy, .int (zI ir)])), zci G ym 8 MN, zci G ya 80 MA, zci G yb 80 MB, zci G yc 80 MC, zci G ye 80 ME])) (va_Qi (fun (r : Int32) (u : (Int) × (Int) × (Nat → Int) × (Nat → Int) × (Nat → Int) × (Nat → Int) × (Nat → Int)) => r = zI u.1 ∧ (zaddR sh MN MA MB MC ME v nx ny nc ne u.1 u.2.1 u.2.2.1 u.2.2.2.1 u.2.2.2.2.1 u.2.2.2.2.2.1 u.2.2.2.2.2.2)) (fun u => zW G (va_A [(h0, .inr (5, [.int (zI th), .int (zI sh), .ref ym, .ref ya, .ref yb, .ref yc, .ref ye, .ref yp, .ref yq, .ref yo, .int (zI ro), .long (zL fi), .long (zL la), .long (zL lo), .long (zL hi), .int (zI co), .ref yk, .ref yw, .ref yi, .int (zI ge), .ref yx, .ref yy, .int (zI ir)])), zci G ym 8 MN, zci G ya 80 MA, zci G yb 80 MB, zci G yc 80 MC, zci G ye 80 ME] sz) ((fun (u : (Int) × (Int) × (Nat → Int) × (Nat → Int) × (Nat → Int) × (Nat → Int) × (Nat → Int)) => [(h0, .inr (5, [.int (zI u.2.1), .int (zI sh), .ref ym, .ref ya, .ref yb, .ref yc, .ref ye, .ref yp, .ref yq, .ref yo, .int (zI ro), .long (zL fi), .long (zL la), .long (zL lo), .long (zL hi), .int (zI co), .ref yk, .ref yw, .ref yi, .int (zI ge), .ref yx, .ref yy, .int (zI ir)])), zci G ym 8 u.2.2.1, zci G ya 80 u.2.2.2.1, zci G yb 80 u.2.2.2.2.1, zci G yc 80 u.2.2.2.2.2.1, zci G ye 80 u.2.2.2.2.2.2]) u)) (va_A [(h0, .inr (5, [.int (zI th), .int (zI sh), .ref ym, .ref ya, .ref yb, .ref yc, .ref ye, .ref yp, .ref yq, .ref yo, .int (zI ro), .long (zL fi), .long (zL la), .long (zL lo), .long (zL hi), .int (zI co), .ref yk, .ref yw, .ref yi, .int (zI ge), .ref yx, .ref yy, .int (zI ir)])), zci G ym 8 MN, zci G ya 80 MA, zci G yb 80 MB, zci G yc 80 MC, zci G ye 80 ME] sz)) 0 0 (va_A [(h0, .inr (5, [.int (zI th), .int (zI sh), .ref ym, .ref ya, .ref yb, .ref yc, .ref ye, .ref yp, .ref yq, .ref yo, .int (zI ro), .long (zL fi), .long (zL la), .long (zL lo), .long (zL hi), .int (zI co), .ref yk, .ref yw, .ref yi, .int (zI ge), .ref yx, .ref yy, .int (zI ir)])), zci G ym 8 MN, zci G ya 80 MA, zci G yb 80 MB, zci G yc 80 MC, zci G ye 80 ME] sz) := by
  refine zM_i (post := fun (r : Int32) (u : (Int) × (Int) × (Nat → Int) × (Nat → Int) × (Nat → Int) × (Nat → Int) × (Nat → Int)) => r = zI u.1 ∧ (zaddR sh MN MA MB MC ME v nx ny nc ne u.1 u.2.1 u.2.2.1 u.2.2.2.1 u.2.2.2.2.1 u.2.2.2.2.2.1 u.2.2.2.2.2.2)) (w1 := fun (u : (Int) × (Int) × (Nat → Int) × (Nat → Int) × (Nat → Int) × (Nat → Int) × (Nat → Int)) => [(h0, .inr (5, [.int (zI u.2.1), .int (zI sh), .ref ym, .ref ya, .ref yb, .ref yc, .ref ye, .ref yp, .ref yq, .ref yo, .int (zI ro), .long (zL fi), .long (zL la), .long (zL lo), .long (zL hi), .int (zI co), .ref yk, .ref yw, .ref yi, .int (zI ge), .ref yx, .ref yy, .int (zI ir)])), zci G ym 8 u.2.2.1, zci G ya 80 u.2.2.2.1, zci G yb 80 u.2.2.2.2.1, zci G yc 80 u.2.2.2.2.2.1, zci G ye 80 u.2.2.2.2.2.2]) (plainFor_of_name (by decide)) rfl (Nat.le_of_ble_eq_true rfl) ?_
  intro p e s m below meth c A Q S hN hK hP hD hS hA hret ls hl
  have hl : lv_has ls 7 [(0, .ref h0), (1, .int (zI v)), (2, .int (zI nx)), (3, .int (zI ny)), (4, .int (zI nc)), (5, .int (zI ne))] := hl
  have JN59 : ∀ (is : Int) (his : is = zb (zadok nx ny nc ne)) (H : Heap) (locs : List Loc), va_P G.1 vwCl [(h0, .inr (5, [.int (zI th), .int (zI sh), .ref ym, .ref ya, .ref yb, .ref yc, .ref ye, .ref yp, .ref yq, .ref yo, .int (zI ro), .long (zL fi), .long (zL la), .long (zL lo), .long (zL hi), .int (zI co), .ref yk, .ref yw, .ref yi, .int (zI ge), .ref yx, .ref yy, .int (zI ir)])), zci G ym 8 MN, zci G ya 80 MA, zci G yb 80 MB, zci G yc 80 MC, zci G ye 80 ME] H → va_D A [(h0, .inr (5, [.int (zI th), .int (zI sh), .ref ym, .ref ya, .ref yb, .ref yc, .ref ye, .ref yp, .ref yq, .ref yo, .int (zI ro), .long (zL fi), .long (zL la), .long (zL lo), .long (zL hi), .int (zI co), .ref yk, .ref yw, .ref yi, .int (zI ge), .ref yx, .ref yy, .int (zI ir)])), zci G ym 8 MN, zci G ya 80 MA, zci G yb 80 MB, zci G yc 80 MC, zci G ye 80 ME] → va_S A s.heap H locs → ∀ ls : Array Slot, lv_has ls 7 [(0, .ref h0), (1, .int (zI v)), (2, .int (zI nx)), (3, .int (zI ny)), (4, .int (zI nc)), (5, .int (zI ne))] → W p l e ({ frames := 2, cells := 0, slots := 0, locals := 43 }) s m ([.ref h0, .int (zI v), .int (zI nx), .int (zI ny), .int (zI nc), .int (zI ne)]).toArray below meth c H locs 0 0 Q (F0 m 59 ls [.int (zI is)]) := by
    intro is his H locs hP hD hS ls hl
    refine zv_istore (lv' := [(6, .int (zI is)), (0, .ref h0), (1, .int (zI v)), (2, .int (zI nx)), (3, .int (zI ny)), (4, .int (zI nc)), (5, .int (zI ne))]) S dX5_add_59 hl (by decide) rfl (fun ls hl => ?_)
    refine zv_aload_n S dX5_add_61 rfl (lv_at hl 1 rfl) ?_
    refine zv_aload_n S dX5_add_62 rfl (lv_at hl 1 rfl) ?_
    refine zv_iload_n S dX5_add_63 rfl (lv_at hl 2 rfl) ?_
    refine zc_Vi (As := [.int (zI v)]) (rest := [.ref h0]) (wr := [zci G ym 8 MN, zci G ya 80 MA, zci G yb 80 MB, zci G yc 80 MC, zci G ye 80 ME]) (n := 1) S hN hK hP hD hS hA hl (c_X5_isShape l G H.size h0 th sh ym ya yb yc ye yp yq yo ro fi la lo hi co yk yw yi ge yx yy ir v (by omega) (by omega)) gX5_add_X5_isShape rfl ⟨rfl, rfl⟩ (by decide +kernel) rfl ⟨Nat.le_of_ble_eq_true rfl, Nat.le_of_ble_eq_true rfl, Nat.le_of_ble_eq_true rfl, Nat.le_of_ble_eq_true rfl⟩ [0] [1, 2, 3, 4, 5] rfl rfl (by decide) (by decide) (by decide) (ci := 5) rfl rfl rfl (Nat.le_of_ble_eq_true rfl) dX5_add_64 rfl (fun r_ u_1 H1 locs1 hp_2 hP1 hD1 hS1 hz1 => ?_)
    try dsimp only at hp_2 hP1 hD1
    subst hp_2
    generalize H1 = H at hP1 hD1 hS1 hz1 ⊢
    generalize locs1 = locs at hS1 ⊢
    have hS := hS1
    have hP : va_P G.1 vwCl [zci G ym 8 MN, zci G ya 80 MA, zci G yb 80 MB, zci G yc 80 MC, zci G ye 80 ME, (h0, .inr (5, [.int (zI th), .int (zI sh), .ref ym, .ref ya, .ref yb, .ref yc, .ref ye, .ref yp, .ref yq, .ref yo, .int (zI ro), .long (zL fi), .long (zL la), .long (zL lo), .long (zL hi), .int (zI co), .ref yk, .ref yw, .ref yi, .int (zI ge), .ref yx, .ref yy, .int (zI ir)]))] H := hP1
    have hD : va_D A [zci G ym 8 MN, zci G ya 80 MA, zci G yb 80 MB, zci G yc 80 MC, zci G ye 80 ME, (h0, .inr (5, [.int (zI th), .int (zI sh), .ref ym, .ref ya, .ref yb, .ref yc, .ref ye, .ref yp, .ref yq, .ref yo, .int (zI ro), .long (zL fi), .long (zL la), .long (zL lo), .long (zL hi), .int (zI co), .ref yk, .ref yw, .ref yi, .int (zI ge), .ref yx, .ref yy, .int (zI ir)]))] := hD1
    refine zv_ifb_ne (tgt := 74) S dX5_add_67 (by decide) (fun c_3 => ?_) (fun c_3 => ?_)
    · refine zv_iload S dX5_add_74 (lv_at hl 0 rfl) ?_
      refine zv_if_ne (tgt := 83) S (by rw [his]; exact zb_R _) dX5_add_76 (by decide) (fun c_4 => ?_) (fun c_4 => ?_)
      · refine zv_aload_n S dX5_add_83 rfl (lv_at hl 1 rfl) ?_
        refine zv_get (C := RX5) (T := TX5) (N := 23) (ci := 5) (v := .ref ym) S in_X5_add_X5 hK hP 5 rfl rfl 2 (by decide) wd_X5_add_f7 rfl rfl dX5_add_84 ?_
        refine zv_iload_n S dX5_add_87 rfl (lv_at hl 2 rfl) ?_
        refine zv_iald S hK hP 0 0 rfl rfl v.toNat (by omega) (by omega) (by decide) dX5_add_88 ?_
        refine zv_bipush (v := 10) S dX5_add_89 (by decide) ?_
        have q0 := hmn v.toNat (by omega)
        refine zv_icmp_ne (tgt := 98) S (by unfold zR; omega) (by unfold zR; omega) dX5_add_91 (by decide) (fun c_5 => ?_) (fun c_5 => ?_)
        · refine zv_iconst S dX5_add_98 ?_
          refine zv_put (C := RX5) (T := TX5) (N := 23) (ci := 5) (v := .int (zI 0)) S in_X5_add_X5 tyX5 tyX5_ok nmX5 hK hP hD hS 5 rfl rfl 0 (by decide) wd_X5_add_f51 rfl rfl rfl rfl (Nat.le_of_ble_eq_true rfl) dX5_add_99 (fun H locs hP hD hS => ?_)
          have hP : va_P G.1 vwCl [zci G ym 8 MN, zci G ya 80 MA, zci G yb 80 MB, zci G yc 80 MC, zci G ye 80 ME, (h0, .inr (5, [.int (zI 0), .int (zI sh), .ref ym, .ref ya, .ref yb, .ref yc, .ref ye, .ref yp, .ref yq, .ref yo, .int (zI ro), .long (zL fi), .long (zL la), .long (zL lo), .long (zL hi), .int (zI co), .ref yk, .ref yw, .ref yi, .int (zI ge), .ref yx, .ref yy, .int (zI ir)]))] H := hP
          have hD : va_D A [zci G ym 8 MN, zci G ya 80 MA, zci G yb 80 MB, zci G yc 80 MC, zci G ye 80 ME, (h0, .inr (5, [.int (zI 0), .int (zI sh), .ref ym, .ref ya, .ref yb, .ref yc, .ref ye, .ref yp, .ref yq, .ref yo, .int (zI ro), .long (zL fi), .long (zL la), .long (zL lo), .long (zL hi), .int (zI co), .ref yk, .ref yw, .ref yi, .int (zI ge), .ref yx, .ref yy, .int (zI ir)]))] := hD
          refine zv_aload_n S dX5_add_102 rfl (lv_at hl 1 rfl) ?_
          refine zv_get (C := RX5) (T := TX5) (N := 23) (ci := 5) (v := .int (zI 0)) S in_X5_add_X5 hK hP 5 rfl rfl 0 (by decide) wd_X5_add_f51 rfl rfl dX5_add_103 ?_
          refine zv_if_eq (tgt := 113) S (by unfold zR; omega) dX5_add_106 (by decide) (fun c_6 => ?_) (fun c_6 => ?_)
          · refine zv_aload_n S dX5_add_113 rfl (lv_at hl 1 rfl) ?_
            refine zv_iload_n S dX5_add_114 rfl (lv_at hl 2 rfl) ?_
            refine zv_iload_n S dX5_add_115 rfl (lv_at hl 3 rfl) ?_
            refine zv_iload_n S dX5_add_116 rfl (lv_at hl 4 rfl) ?_
            refine zv_iload S dX5_add_117 (lv_at hl 5 rfl) ?_
            refine zv_iload S dX5_add_119 (lv_at hl 6 rfl) ?_
            refine zc_Vi (As := [.int (zI v), .int (zI nx), .int (zI ny), .int (zI nc), .int (zI ne)]) (rest := []) (wr := []) (n := 5) S hN hK hP hD hS hA hl (c_X5_puts l G H.size h0 0 sh ym ya yb yc ye yp yq yo ro fi la lo hi co yk yw yi ge yx yy ir MN MA MB MC ME v v.toNat ((MN v.toNat).toNat) nx ny nc ne (by omega) (by omega) (by omega) (by omega)) gX5_add_X5_puts rfl ⟨rfl, rfl⟩ (by decide +kernel) rfl ⟨Nat.le_of_ble_eq_true rfl, Nat.le_of_ble_eq_true rfl, Nat.le_of_ble_eq_true rfl, Nat.le_of_ble_eq_true rfl⟩ [5, 0, 1, 2, 3, 4] [] rfl rfl (by decide) (by decide) (by decide) (ci := 5) rfl rfl rfl (Nat.le_of_ble_eq_true rfl) dX5_add_121 rfl (fun r_ u_7 H1 locs1 hp_8 hP1 hD1 hS1 hz1 => ?_)
            try dsimp only at hp_8 hP1 hD1
            subst hp_8
            generalize H1 = H at hP1 hD1 hS1 hz1 ⊢
            generalize locs1 = locs at hS1 ⊢
            have hS := hS1
            have hP : va_P G.1 vwCl [(h0, .inr (5, [.int (zI 0), .int (zI sh), .ref ym, .ref ya, .ref yb, .ref yc, .ref ye, .ref yp, .ref yq, .ref yo, .int (zI ro), .long (zL fi), .long (zL la), .long (zL lo), .long (zL hi), .int (zI co), .ref yk, .ref yw, .ref yi, .int (zI ge), .ref yx, .ref yy, .int (zI ir)])), zci G ym 8 (zU MN v.toNat (MN v.toNat + 1)), zci G ya 80 (zU MA (10 * v.toNat + ((MN v.toNat).toNat)) nx), zci G yb 80 (zU MB (10 * v.toNat + ((MN v.toNat).toNat)) ny), zci G yc 80 (zU MC (10 * v.toNat + ((MN v.toNat).toNat)) nc), zci G ye 80 (zU ME (10 * v.toNat + ((MN v.toNat).toNat)) ne)] H := hP1
            have hD : va_D A [(h0, .inr (5, [.int (zI 0), .int (zI sh), .ref ym, .ref ya, .ref yb, .ref yc, .ref ye, .ref yp, .ref yq, .ref yo, .int (zI ro), .long (zL fi), .long (zL la), .long (zL lo), .long (zL hi), .int (zI co), .ref yk, .ref yw, .ref yi, .int (zI ge), .ref yx, .ref yy, .int (zI ir)])), zci G ym 8 (zU MN v.toNat (MN v.toNat + 1)), zci G ya 80 (zU MA (10 * v.toNat + ((MN v.toNat).toNat)) nx), zci G yb 80 (zU MB (10 * v.toNat + ((MN v.toNat).toNat)) ny), zci G yc 80 (zU MC (10 * v.toNat + ((MN v.toNat).toNat)) nc), zci G ye 80 (zU ME (10 * v.toNat + ((MN v.toNat).toNat)) ne)] := hD1
            exact hret _ _ _ _ _ ⟨(MN v.toNat), 0, (zU MN v.toNat (MN v.toNat + 1)), (zU MA (10 * v.toNat + ((MN v.toNat).toNat)) nx), (zU MB (10 * v.toNat + ((MN v.toNat).toNat)) ny), (zU MC (10 * v.toNat + ((MN v.toNat).toNat)) nc), (zU ME (10 * v.toNat + ((MN v.toNat).toNat)) ne)⟩ dX5_add_124 ⟨rfl, (show zaddR sh MN MA MB MC ME v nx ny nc ne (MN v.toNat) 0 (zU MN v.toNat (MN v.toNat + 1)) (zU MA (10 * v.toNat + ((MN v.toNat).toNat)) nx) (zU MB (10 * v.toNat + ((MN v.toNat).toNat)) ny) (zU MC (10 * v.toNat + ((MN v.toNat).toNat)) nc) (zU ME (10 * v.toNat + ((MN v.toNat).toNat)) ne) from ⟨fun z => absurd c_3 z, fun _ z2 => absurd (zb_iff1.mp (by rcases zb_01 (zadok nx ny nc ne) with q | q; exact absurd (his.trans q) c_4; exact q)) z2, fun _ _ z3 => absurd z3 c_5, fun _ _ _ => ⟨rfl, rfl, rfl, rfl, rfl, rfl, rfl⟩⟩)⟩ (hP.sub [0, 1, 2, 3, 4, 5] rfl) (hD.sub [0, 1, 2, 3, 4, 5] (by decide) rfl) hS
          · exact absurd c_6 (by omega)
        · refine zv_iconst S dX5_add_94 ?_
          refine zv_goto (tgt := 99) S dX5_add_95 (by decide) ?_
          refine zv_put (C := RX5) (T := TX5) (N := 23) (ci := 5) (v := .int (zI 3)) S in_X5_add_X5 tyX5 tyX5_ok nmX5 hK hP hD hS 5 rfl rfl 0 (by decide) wd_X5_add_f51 rfl rfl rfl rfl (Nat.le_of_ble_eq_true rfl) dX5_add_99 (fun H locs hP hD hS => ?_)
          have hP : va_P G.1 vwCl [zci G ym 8 MN, zci G ya 80 MA, zci G yb 80 MB, zci G yc 80 MC, zci G ye 80 ME, (h0, .inr (5, [.int (zI 3), .int (zI sh), .ref ym, .ref ya, .ref yb, .ref yc, .ref ye, .ref yp, .ref yq, .ref yo, .int (zI ro), .long (zL fi), .long (zL la), .long (zL lo), .long (zL hi), .int (zI co), .ref yk, .ref yw, .ref yi, .int (zI ge), .ref yx, .ref yy, .int (zI ir)]))] H := hP
          have hD : va_D A [zci G ym 8 MN, zci G ya 80 MA, zci G yb 80 MB, zci G yc 80 MC, zci G ye 80 ME, (h0, .inr (5, [.int (zI 3), .int (zI sh), .ref ym, .ref ya, .ref yb, .ref yc, .ref ye, .ref yp, .ref yq, .ref yo, .int (zI ro), .long (zL fi), .long (zL la), .long (zL lo), .long (zL hi), .int (zI co), .ref yk, .ref yw, .ref yi, .int (zI ge), .ref yx, .ref yy, .int (zI ir)]))] := hD
          refine zv_aload_n S dX5_add_102 rfl (lv_at hl 1 rfl) ?_
          refine zv_get (C := RX5) (T := TX5) (N := 23) (ci := 5) (v := .int (zI 3)) S in_X5_add_X5 hK hP 5 rfl rfl 0 (by decide) wd_X5_add_f51 rfl rfl dX5_add_103 ?_
          refine zv_if_eq (tgt := 113) S (by unfold zR; omega) dX5_add_106 (by decide) (fun c_9 => ?_) (fun c_9 => ?_)
          · exact absurd c_9 (by omega)
          · refine zv_iconst S dX5_add_109 ?_
            refine zv_goto (tgt := 124) S dX5_add_110 (by decide) ?_
            exact hret _ _ _ _ _ ⟨0, 3, MN, MA, MB, MC, ME⟩ dX5_add_124 ⟨rfl, (show zaddR sh MN MA MB MC ME v nx ny nc ne 0 3 MN MA MB MC ME from ⟨fun z => absurd c_3 z, fun _ z2 => absurd (zb_iff1.mp (by rcases zb_01 (zadok nx ny nc ne) with q | q; exact absurd (his.trans q) c_4; exact q)) z2, fun _ _ _ => ⟨rfl, ⟨rfl, rfl, rfl, rfl, rfl⟩⟩, fun _ _ z3 => absurd c_5 z3⟩)⟩ (hP.sub [5, 0, 1, 2, 3, 4] rfl) (hD.sub [5, 0, 1, 2, 3, 4] (by decide) rfl) hS
      · refine zv_iconst S dX5_add_79 ?_
        refine zv_goto (tgt := 99) S dX5_add_80 (by decide) ?_
        refine zv_put (C := RX5) (T := TX5) (N := 23) (ci := 5) (v := .int (zI 2)) S in_X5_add_X5 tyX5 tyX5_ok nmX5 hK hP hD hS 5 rfl rfl 0 (by decide) wd_X5_add_f51 rfl rfl rfl rfl (Nat.le_of_ble_eq_true rfl) dX5_add_99 (fun H locs hP hD hS => ?_)
        have hP : va_P G.1 vwCl [zci G ym 8 MN, zci G ya 80 MA, zci G yb 80 MB, zci G yc 80 MC, zci G ye 80 ME, (h0, .inr (5, [.int (zI 2), .int (zI sh), .ref ym, .ref ya, .ref yb, .ref yc, .ref ye, .ref yp, .ref yq, .ref yo, .int (zI ro), .long (zL fi), .long (zL la), .long (zL lo), .long (zL hi), .int (zI co), .ref yk, .ref yw, .ref yi, .int (zI ge), .ref yx, .ref yy, .int (zI ir)]))] H := hP
        have hD : va_D A [zci G ym 8 MN, zci G ya 80 MA, zci G yb 80 MB, zci G yc 80 MC, zci G ye 80 ME, (h0, .inr (5, [.int (zI 2), .int (zI sh), .ref ym, .ref ya, .ref yb, .ref yc, .ref ye, .ref yp, .ref yq, .ref yo, .int (zI ro), .long (zL fi), .long (zL la), .long (zL lo), .long (zL hi), .int (zI co), .ref yk, .ref yw, .ref yi, .int (zI ge), .ref yx, .ref yy, .int (zI ir)]))] := hD
        refine zv_aload_n S dX5_add_102 rfl (lv_at hl 1 rfl) ?_
        refine zv_get (C := RX5) (T := TX5) (N := 23) (ci := 5) (v := .int (zI 2)) S in_X5_add_X5 hK hP 5 rfl rfl 0 (by decide) wd_X5_add_f51 rfl rfl dX5_add_103 ?_
        refine zv_if_eq (tgt := 113) S (by unfold zR; omega) dX5_add_106 (by decide) (fun c_10 => ?_) (fun c_10 => ?_)
        · exact absurd c_10 (by omega)
        · refine zv_iconst S dX5_add_109 ?_
          refine zv_goto (tgt := 124) S dX5_add_110 (by decide) ?_
          exact hret _ _ _ _ _ ⟨0, 2, MN, MA, MB, MC, ME⟩ dX5_add_124 ⟨rfl, (show zaddR sh MN MA MB MC ME v nx ny nc ne 0 2 MN MA MB MC ME from ⟨fun z => absurd c_3 z, fun _ _ => ⟨rfl, ⟨rfl, rfl, rfl, rfl, rfl⟩⟩, fun _ z2 => absurd z2 (fun z2 => by rw [his, zb_t z2] at c_4; omega), fun _ z2 => absurd z2 (fun z2 => by rw [his, zb_t z2] at c_4; omega)⟩)⟩ (hP.sub [5, 0, 1, 2, 3, 4] rfl) (hD.sub [5, 0, 1, 2, 3, 4] (by decide) rfl) hS
    · refine zv_iconst S dX5_add_70 ?_
      refine zv_goto (tgt := 99) S dX5_add_71 (by decide) ?_
      refine zv_put (C := RX5) (T := TX5) (N := 23) (ci := 5) (v := .int (zI 1)) S in_X5_add_X5 tyX5 tyX5_ok nmX5 hK hP hD hS 5 rfl rfl 0 (by decide) wd_X5_add_f51 rfl rfl rfl rfl (Nat.le_of_ble_eq_true rfl) dX5_add_99 (fun H locs hP hD hS => ?_)
      have hP : va_P G.1 vwCl [zci G ym 8 MN, zci G ya 80 MA, zci G yb 80 MB, zci G yc 80 MC, zci G ye 80 ME, (h0, .inr (5, [.int (zI 1), .int (zI sh), .ref ym, .ref ya, .ref yb, .ref yc, .ref ye, .ref yp, .ref yq, .ref yo, .int (zI ro), .long (zL fi), .long (zL la), .long (zL lo), .long (zL hi), .int (zI co), .ref yk, .ref yw, .ref yi, .int (zI ge), .ref yx, .ref yy, .int (zI ir)]))] H := hP
      have hD : va_D A [zci G ym 8 MN, zci G ya 80 MA, zci G yb 80 MB, zci G yc 80 MC, zci G ye 80 ME, (h0, .inr (5, [.int (zI 1), .int (zI sh), .ref ym, .ref ya, .ref yb, .ref yc, .ref ye, .ref yp, .ref yq, .ref yo, .int (zI ro), .long (zL fi), .long (zL la), .long (zL lo), .long (zL hi), .int (zI co), .ref yk, .ref yw, .ref yi, .int (zI ge), .ref yx, .ref yy, .int (zI ir)]))] := hD
      refine zv_aload_n S dX5_add_102 rfl (lv_at hl 1 rfl) ?_
      refine zv_get (C := RX5) (T := TX5) (N := 23) (ci := 5) (v := .int (zI 1)) S in_X5_add_X5 hK hP 5 rfl rfl 0 (by decide) wd_X5_add_f51 rfl rfl dX5_add_103 ?_
      refine zv_if_eq (tgt := 113) S (by unfold zR; omega) dX5_add_106 (by decide) (fun c_11 => ?_) (fun c_11 => ?_)
      · exact absurd c_11 (by omega)
      · refine zv_iconst S dX5_add_109 ?_
        refine zv_goto (tgt := 124) S dX5_add_110 (by decide) ?_
        exact hret _ _ _ _ _ ⟨0, 1, MN, MA, MB, MC, ME⟩ dX5_add_124 ⟨rfl, (show zaddR sh MN MA MB MC ME v nx ny nc ne 0 1 MN MA MB MC ME from ⟨fun _ => ⟨rfl, ⟨rfl, rfl, rfl, rfl, rfl⟩⟩, fun z => absurd z c_3, fun z => absurd z c_3, fun z => absurd z c_3⟩)⟩ (hP.sub [5, 0, 1, 2, 3, 4] rfl) (hD.sub [5, 0, 1, 2, 3, 4] (by decide) rfl) hS
  refine zv_iload_n S dX5_add_0 rfl (lv_at hl 2 rfl) ?_
  refine zv_bipush (v := (-9)) S dX5_add_1 (by decide) ?_
  refine zv_bipush (v := 9) S dX5_add_3 (by decide) ?_
  refine zc_Si (As := [.int (zI nx), .int (zI (-9)), .int (zI 9)]) (rest := []) (wr := [(h0, .inr (5, [.int (zI th), .int (zI sh), .ref ym, .ref ya, .ref yb, .ref yc, .ref ye, .ref yp, .ref yq, .ref yo, .int (zI ro), .long (zL fi), .long (zL la), .long (zL lo), .long (zL hi), .int (zI co), .ref yk, .ref yw, .ref yi, .int (zI ge), .ref yx, .ref yy, .int (zI ir)])), zci G ym 8 MN, zci G ya 80 MA, zci G yb 80 MB, zci G yc 80 MC, zci G ye 80 ME]) (n := 3) S hN hK hP hD hS hA hl (c_X5_in l G s.heap.size nx (-9) 9 (by omega) (by omega) (by omega)) gX5_add_X5_in rfl ⟨rfl, rfl⟩ (by decide +kernel) rfl ⟨Nat.le_of_ble_eq_true rfl, Nat.le_of_ble_eq_true rfl, Nat.le_of_ble_eq_true rfl, Nat.le_of_ble_eq_true rfl⟩ [] [0, 1, 2, 3, 4, 5] rfl rfl (by decide) (by decide) (by decide) (Nat.le_of_ble_eq_true rfl) dX5_add_5 rfl (fun r_ u_12 H1 locs1 hp_13 hP1 hD1 hS1 hz1 => ?_)
  try dsimp only at hp_13 hP1 hD1
  subst hp_13
  generalize H1 = H at hP1 hD1 hS1 hz1 ⊢
  generalize locs1 = locs at hS1 ⊢
  have hS := hS1
  have hP : va_P G.1 vwCl [(h0, .inr (5, [.int (zI th), .int (zI sh), .ref ym, .ref ya, .ref yb, .ref yc, .ref ye, .ref yp, .ref yq, .ref yo, .int (zI ro), .long (zL fi), .long (zL la), .long (zL lo), .long (zL hi), .int (zI co), .ref yk, .ref yw, .ref yi, .int (zI ge), .ref yx, .ref yy, .int (zI ir)])), zci G ym 8 MN, zci G ya 80 MA, zci G yb 80 MB, zci G yc 80 MC, zci G ye 80 ME] H := hP1
  have hD : va_D A [(h0, .inr (5, [.int (zI th), .int (zI sh), .ref ym, .ref ya, .ref yb, .ref yc, .ref ye, .ref yp, .ref yq, .ref yo, .int (zI ro), .long (zL fi), .long (zL la), .long (zL lo), .long (zL hi), .int (zI co), .ref yk, .ref yw, .ref yi, .int (zI ge), .ref yx, .ref yy, .int (zI ir)])), zci G ym 8 MN, zci G ya 80 MA, zci G yb 80 MB, zci G yc 80 MC, zci G ye 80 ME] := hD1
  refine zv_ifb_eq (tgt := 58) S dX5_add_8 (by decide) (fun c_14 => ?_) (fun c_14 => ?_)
  · refine zv_iconst S dX5_add_58 ?_
    exact JN59 0 ((zb_f (fun z => c_14 z.1)).symm) _ _ hP hD hS _ (lv_sub hl [0, 1, 2, 3, 4, 5] rfl)
  · refine zv_iload_n S dX5_add_11 rfl (lv_at hl 3 rfl) ?_
    refine zv_bipush (v := (-9)) S dX5_add_12 (by decide) ?_
    refine zv_bipush (v := 9) S dX5_add_14 (by decide) ?_
    refine zc_Si (As := [.int (zI ny), .int (zI (-9)), .int (zI 9)]) (rest := []) (wr := [(h0, .inr (5, [.int (zI th), .int (zI sh), .ref ym, .ref ya, .ref yb, .ref yc, .ref ye, .ref yp, .ref yq, .ref yo, .int (zI ro), .long (zL fi), .long (zL la), .long (zL lo), .long (zL hi), .int (zI co), .ref yk, .ref yw, .ref yi, .int (zI ge), .ref yx, .ref yy, .int (zI ir)])), zci G ym 8 MN, zci G ya 80 MA, zci G yb 80 MB, zci G yc 80 MC, zci G ye 80 ME]) (n := 3) S hN hK hP hD hS hA hl (c_X5_in l G H.size ny (-9) 9 (by omega) (by omega) (by omega)) gX5_add_X5_in rfl ⟨rfl, rfl⟩ (by decide +kernel) rfl ⟨Nat.le_of_ble_eq_true rfl, Nat.le_of_ble_eq_true rfl, Nat.le_of_ble_eq_true rfl, Nat.le_of_ble_eq_true rfl⟩ [] [0, 1, 2, 3, 4, 5] rfl rfl (by decide) (by decide) (by decide) (Nat.le_of_ble_eq_true rfl) dX5_add_16 rfl (fun r_ u_15 H1 locs1 hp_16 hP1 hD1 hS1 hz1 => ?_)
    try dsimp only at hp_16 hP1 hD1
    subst hp_16
    generalize H1 = H at hP1 hD1 hS1 hz1 ⊢
    generalize locs1 = locs at hS1 ⊢
    have hS := hS1
    have hP : va_P G.1 vwCl [(h0, .inr (5, [.int (zI th), .int (zI sh), .ref ym, .ref ya, .ref yb, .ref yc, .ref ye, .ref yp, .ref yq, .ref yo, .int (zI ro), .long (zL fi), .long (zL la), .long (zL lo), .long (zL hi), .int (zI co), .ref yk, .ref yw, .ref yi, .int (zI ge), .ref yx, .ref yy, .int (zI ir)])), zci G ym 8 MN, zci G ya 80 MA, zci G yb 80 MB, zci G yc 80 MC, zci G ye 80 ME] H := hP1
    have hD : va_D A [(h0, .inr (5, [.int (zI th), .int (zI sh), .ref ym, .ref ya, .ref yb, .ref yc, .ref ye, .ref yp, .ref yq, .ref yo, .int (zI ro), .long (zL fi), .long (zL la), .long (zL lo), .long (zL hi), .int (zI co), .ref yk, .ref yw, .ref yi, .int (zI ge), .ref yx, .ref yy, .int (zI ir)])), zci G ym 8 MN, zci G ya 80 MA, zci G yb 80 MB, zci G yc 80 MC, zci G ye 80 ME] := hD1
    refine zv_ifb_eq (tgt := 58) S dX5_add_19 (by decide) (fun c_17 => ?_) (fun c_17 => ?_)
    · refine zv_iconst S dX5_add_58 ?_
      exact JN59 0 ((zb_f (fun z => c_17 z.2.1)).symm) _ _ hP hD hS _ (lv_sub hl [0, 1, 2, 3, 4, 5] rfl)
    · refine zv_iload S dX5_add_22 (lv_at hl 4 rfl) ?_
      refine zv_bipush (v := (-99)) S dX5_add_24 (by decide) ?_
      refine zv_bipush (v := 99) S dX5_add_26 (by decide) ?_
      refine zc_Si (As := [.int (zI nc), .int (zI (-99)), .int (zI 99)]) (rest := []) (wr := [(h0, .inr (5, [.int (zI th), .int (zI sh), .ref ym, .ref ya, .ref yb, .ref yc, .ref ye, .ref yp, .ref yq, .ref yo, .int (zI ro), .long (zL fi), .long (zL la), .long (zL lo), .long (zL hi), .int (zI co), .ref yk, .ref yw, .ref yi, .int (zI ge), .ref yx, .ref yy, .int (zI ir)])), zci G ym 8 MN, zci G ya 80 MA, zci G yb 80 MB, zci G yc 80 MC, zci G ye 80 ME]) (n := 3) S hN hK hP hD hS hA hl (c_X5_in l G H.size nc (-99) 99 (by omega) (by omega) (by omega)) gX5_add_X5_in rfl ⟨rfl, rfl⟩ (by decide +kernel) rfl ⟨Nat.le_of_ble_eq_true rfl, Nat.le_of_ble_eq_true rfl, Nat.le_of_ble_eq_true rfl, Nat.le_of_ble_eq_true rfl⟩ [] [0, 1, 2, 3, 4, 5] rfl rfl (by decide) (by decide) (by decide) (Nat.le_of_ble_eq_true rfl) dX5_add_28 rfl (fun r_ u_18 H1 locs1 hp_19 hP1 hD1 hS1 hz1 => ?_)
      try dsimp only at hp_19 hP1 hD1
      subst hp_19
      generalize H1 = H at hP1 hD1 hS1 hz1 ⊢
      generalize locs1 = locs at hS1 ⊢
      have hS := hS1
      have hP : va_P G.1 vwCl [(h0, .inr (5, [.int (zI th), .int (zI sh), .ref ym, .ref ya, .ref yb, .ref yc, .ref ye, .ref yp, .ref yq, .ref yo, .int (zI ro), .long (zL fi), .long (zL la), .long (zL lo), .long (zL hi), .int (zI co), .ref yk, .ref yw, .ref yi, .int (zI ge), .ref yx, .ref yy, .int (zI ir)])), zci G ym 8 MN, zci G ya 80 MA, zci G yb 80 MB, zci G yc 80 MC, zci G ye 80 ME] H := hP1
      have hD : va_D A [(h0, .inr (5, [.int (zI th), .int (zI sh), .ref ym, .ref ya, .ref yb, .ref yc, .ref ye, .ref yp, .ref yq, .ref yo, .int (zI ro), .long (zL fi), .long (zL la), .long (zL lo), .long (zL hi), .int (zI co), .ref yk, .ref yw, .ref yi, .int (zI ge), .ref yx, .ref yy, .int (zI ir)])), zci G ym 8 MN, zci G ya 80 MA, zci G yb 80 MB, zci G yc 80 MC, zci G ye 80 ME] := hD1
      refine zv_ifb_eq (tgt := 58) S dX5_add_31 (by decide) (fun c_20 => ?_) (fun c_20 => ?_)
      · refine zv_iconst S dX5_add_58 ?_
        exact JN59 0 ((zb_f (fun z => c_20 z.2.2.1)).symm) _ _ hP hD hS _ (lv_sub hl [0, 1, 2, 3, 4, 5] rfl)
      · refine zv_iload S dX5_add_34 (lv_at hl 5 rfl) ?_
        refine zv_bipush (v := (-9)) S dX5_add_36 (by decide) ?_
        refine zv_bipush (v := 9) S dX5_add_38 (by decide) ?_
        refine zc_Si (As := [.int (zI ne), .int (zI (-9)), .int (zI 9)]) (rest := []) (wr := [(h0, .inr (5, [.int (zI th), .int (zI sh), .ref ym, .ref ya, .ref yb, .ref yc, .ref ye, .ref yp, .ref yq, .ref yo, .int (zI ro), .long (zL fi), .long (zL la), .long (zL lo), .long (zL hi), .int (zI co), .ref yk, .ref yw, .ref yi, .int (zI ge), .ref yx, .ref yy, .int (zI ir)])), zci G ym 8 MN, zci G ya 80 MA, zci G yb 80 MB, zci G yc 80 MC, zci G ye 80 ME]) (n := 3) S hN hK hP hD hS hA hl (c_X5_in l G H.size ne (-9) 9 (by omega) (by omega) (by omega)) gX5_add_X5_in rfl ⟨rfl, rfl⟩ (by decide +kernel) rfl ⟨Nat.le_of_ble_eq_true rfl, Nat.le_of_ble_eq_true rfl, Nat.le_of_ble_eq_true rfl, Nat.le_of_ble_eq_true rfl⟩ [] [0, 1, 2, 3, 4, 5] rfl rfl (by decide) (by decide) (by decide) (Nat.le_of_ble_eq_true rfl) dX5_add_40 rfl (fun r_ u_21 H1 locs1 hp_22 hP1 hD1 hS1 hz1 => ?_)
        try dsimp only at hp_22 hP1 hD1
        subst hp_22
        generalize H1 = H at hP1 hD1 hS1 hz1 ⊢
        generalize locs1 = locs at hS1 ⊢
        have hS := hS1
        have hP : va_P G.1 vwCl [(h0, .inr (5, [.int (zI th), .int (zI sh), .ref ym, .ref ya, .ref yb, .ref yc, .ref ye, .ref yp, .ref yq, .ref yo, .int (zI ro), .long (zL fi), .long (zL la), .long (zL lo), .long (zL hi), .int (zI co), .ref yk, .ref yw, .ref yi, .int (zI ge), .ref yx, .ref yy, .int (zI ir)])), zci G ym 8 MN, zci G ya 80 MA, zci G yb 80 MB, zci G yc 80 MC, zci G ye 80 ME] H := hP1
        have hD : va_D A [(h0, .inr (5, [.int (zI th), .int (zI sh), .ref ym, .ref ya, .ref yb, .ref yc, .ref ye, .ref yp, .ref yq, .ref yo, .int (zI ro), .long (zL fi), .long (zL la), .long (zL lo), .long (zL hi), .int (zI co), .ref yk, .ref yw, .ref yi, .int (zI ge), .ref yx, .ref yy, .int (zI ir)])), zci G ym 8 MN, zci G ya 80 MA, zci G yb 80 MB, zci G yc 80 MC, zci G ye 80 ME] := hD1
        refine zv_ifb_eq (tgt := 58) S dX5_add_43 (by decide) (fun c_23 => ?_) (fun c_23 => ?_)
        · refine zv_iconst S dX5_add_58 ?_
          exact JN59 0 ((zb_f (fun z => c_23 z.2.2.2.1)).symm) _ _ hP hD hS _ (lv_sub hl [0, 1, 2, 3, 4, 5] rfl)
        · refine zv_iload_n S dX5_add_46 rfl (lv_at hl 2 rfl) ?_
          refine zv_if_ne (tgt := 54) S (by unfold zR; omega) dX5_add_47 (by decide) (fun c_24 => ?_) (fun c_24 => ?_)
          · refine zv_iconst S dX5_add_54 ?_
            refine zv_goto (tgt := 59) S dX5_add_55 (by decide) ?_
            exact JN59 1 ((zb_t ⟨by assumption, by assumption, by assumption, by assumption, by omega⟩).symm) _ _ hP hD hS _ (lv_sub hl [0, 1, 2, 3, 4, 5] rfl)
          · refine zv_iload_n S dX5_add_50 rfl (lv_at hl 3 rfl) ?_
            refine zv_if_eq (tgt := 58) S (by unfold zR; omega) dX5_add_51 (by decide) (fun c_25 => ?_) (fun c_25 => ?_)
            · refine zv_iconst S dX5_add_58 ?_
              exact JN59 0 ((zb_f (fun z => z.2.2.2.2 ⟨by omega, by omega⟩)).symm) _ _ hP hD hS _ (lv_sub hl [0, 1, 2, 3, 4, 5] rfl)
            · refine zv_iconst S dX5_add_54 ?_
              refine zv_goto (tgt := 59) S dX5_add_55 (by decide) ?_
              exact JN59 1 ((zb_t ⟨by assumption, by assumption, by assumption, by assumption, by omega⟩).symm) _ _ hP hD hS _ (lv_sub hl [0, 1, 2, 3, 4, 5] rfl)

theorem wd_X5_isStep_f7 : Cond.fieldLink RX5 7 "PointMillModel" "many" "[I" ∈ wsX5_isStep := by decide +kernel
theorem in_X5_isStep_X5 : ∀ w ∈ wsX50, w ∈ wsX5_isStep := by decide +kernel
theorem wd_X5_isStep_f13 : Cond.fieldLink RX5 13 "PointMillModel" "a" "[I" ∈ wsX5_isStep := by decide +kernel
theorem wd_X5_isStep_f16 : Cond.fieldLink RX5 16 "PointMillModel" "b" "[I" ∈ wsX5_isStep := by decide +kernel
set_option maxHeartbeats 4000000 in
set_option maxRecDepth 100000 in
/-- the model: isStep -/
theorem c_X5_isStep (l : Launch) (G : zG) (sz : Nat) (h0 : Nat) (th : Int) (sh : Int) (ym : Nat) (ya : Nat) (yb : Nat) (yc : Nat) (ye : Nat) (yp : Nat) (yq : Nat) (yo : Nat) (ro : Int) (fi : Int) (la : Int) (lo : Int) (hi : Int) (co : Int) (yk : Nat) (yw : Nat) (yi : Nat) (ge : Int) (yx : Nat) (yy : Nat) (ir : Int) (MN : Nat → Int) (MA : Nat → Int) (MB : Nat → Int) (t : Nat) (k : Nat) (x : Int) (y : Int) (ht : t < 8) (hk : MN t = (k : Int)) (hk2 : k ≤ 10) (hXA : ∀ j, j < k → -60 ≤ MA (10 * t + j) ∧ MA (10 * t + j) ≤ 60) (hXB : ∀ j, j < k → -60 ≤ MB (10 * t + j) ∧ MB (10 * t + j) ≤ 60) (hx : -60 ≤ x ∧ x ≤ 60) (hy : -60 ≤ y ∧ y ≤ 60) : Met l yX5_isStep wsX5_isStep ({ frames := 0, cells := 0, slots := 0, locals := 0 }) (va_Pc [.ref h0, .int (zI (t : Int)), .int (zI x), .int (zI y)] (zPre G sz [(h0, .inr (5, [.int (zI th), .int (zI sh), .ref ym, .ref ya, .ref yb, .ref yc, .ref ye, .ref yp, .ref yq, .ref yo, .int (zI ro), .long (zL fi), .long (zL la), .long (zL lo), .long (zL hi), .int (zI co), .ref yk, .ref yw, .ref yi, .int (zI ge), .ref yx, .ref yy, .int (zI ir)])), zci G ym 8 MN, zci G ya 80 MA, zci G yb 80 MB])) (va_Qi (fun (r : Int32) (u : Unit) => r = zI (zb (zst (zrow MA t) (zrow MB t) k x y))) (fun u => zW G (va_A [(h0, .inr (5, [.int (zI th), .int (zI sh), .ref ym, .ref ya, .ref yb, .ref yc, .ref ye, .ref yp, .ref yq, .ref yo, .int (zI ro), .long (zL fi), .long (zL la), .long (zL lo), .long (zL hi), .int (zI co), .ref yk, .ref yw, .ref yi, .int (zI ge), .ref yx, .ref yy, .int (zI ir)])), zci G ym 8 MN, zci G ya 80 MA, zci G yb 80 MB] sz) ((fun (u : Unit) => [(h0, .inr (5, [.int (zI th), .int (zI sh), .ref ym, .ref ya, .ref yb, .ref yc, .ref ye, .ref yp, .ref yq, .ref yo, .int (zI ro), .long (zL fi), .long (zL la), .long (zL lo), .long (zL hi), .int (zI co), .ref yk, .ref yw, .ref yi, .int (zI ge), .ref yx, .ref yy, .int (zI ir)])), zci G ym 8 MN, zci G ya 80 MA, zci G yb 80 MB]) u)) (va_A [(h0, .inr (5, [.int (zI th), .int (zI sh), .ref ym, .ref ya, .ref yb, .ref yc, .ref ye, .ref yp, .ref yq, .ref yo, .int (zI ro), .long (zL fi), .long (zL la), .long (zL lo), .long (zL hi), .int (zI co), .ref yk, .ref yw, .ref yi, .int (zI ge), .ref yx, .ref yy, .int (zI ir)])), zci G ym 8 MN, zci G ya 80 MA, zci G yb 80 MB] sz)) 0 0 (va_A [(h0, .inr (5, [.int (zI th), .int (zI sh), .ref ym, .ref ya, .ref yb, .ref yc, .ref ye, .ref yp, .ref yq, .ref yo, .int (zI ro), .long (zL fi), .long (zL la), .long (zL lo), .long (zL hi), .int (zI co), .ref yk, .ref yw, .ref yi, .int (zI ge), .ref yx, .ref yy, .int (zI ir)])), zci G ym 8 MN, zci G ya 80 MA, zci G yb 80 MB] sz) := by
  refine zM_z (post := fun (r : Int32) (u : Unit) => r = zI (zb (zst (zrow MA t) (zrow MB t) k x y))) (w1 := fun (u : Unit) => [(h0, .inr (5, [.int (zI th), .int (zI sh), .ref ym, .ref ya, .ref yb, .ref yc, .ref ye, .ref yp, .ref yq, .ref yo, .int (zI ro), .long (zL fi), .long (zL la), .long (zL lo), .long (zL hi), .int (zI co), .ref yk, .ref yw, .ref yi, .int (zI ge), .ref yx, .ref yy, .int (zI ir)])), zci G ym 8 MN, zci G ya 80 MA, zci G yb 80 MB]) (plainFor_of_name (by decide)) rfl (Nat.le_of_ble_eq_true rfl) ?_
  intro p e s m below meth c A Q S hN hK hP hD hS hA hret ls hl
  have hl : lv_has ls 6 [(0, .ref h0), (1, .int (zI (t : Int))), (2, .int (zI x)), (3, .int (zI y))] := hl
  refine zv_iconst S dX5_isStep_0 ?_
  refine zv_istore (lv' := [(4, .int (zI 1)), (0, .ref h0), (1, .int (zI (t : Int))), (2, .int (zI x)), (3, .int (zI y))]) S dX5_isStep_1 hl (by decide) rfl (fun ls hl => ?_)
  refine zv_bipush (v := 10) S dX5_isStep_3 (by decide) ?_
  refine zv_iload_n S dX5_isStep_5 rfl (lv_at hl 2 rfl) ?_
  refine zv_imul S dX5_isStep_6 ?_
  refine zv_istore (lv' := [(5, .int (zI (10 * (t : Int)))), (4, .int (zI 1)), (0, .ref h0), (1, .int (zI (t : Int))), (2, .int (zI x)), (3, .int (zI y))]) S dX5_isStep_7 hl (by decide) rfl (fun ls hl => ?_)
  have LP9 : ∀ (nf : Nat) (i : Nat) (v5 : Int) (is : Int) (hv5 : v5 = ((10 * t + i : Nat) : Int)) (hik : i ≤ k) (his : is = zb (zst (zrow MA t) (zrow MB t) i x y)) (hib : is = 0 ∨ is = 1), (k - i) < nf → ∀ (H : Heap) (locs : List Loc), va_P G.1 vwCl [(h0, .inr (5, [.int (zI th), .int (zI sh), .ref ym, .ref ya, .ref yb, .ref yc, .ref ye, .ref yp, .ref yq, .ref yo, .int (zI ro), .long (zL fi), .long (zL la), .long (zL lo), .long (zL hi), .int (zI co), .ref yk, .ref yw, .ref yi, .int (zI ge), .ref yx, .ref yy, .int (zI ir)])), zci G ym 8 MN, zci G ya 80 MA, zci G yb 80 MB] H → va_D A [(h0, .inr (5, [.int (zI th), .int (zI sh), .ref ym, .ref ya, .ref yb, .ref yc, .ref ye, .ref yp, .ref yq, .ref yo, .int (zI ro), .long (zL fi), .long (zL la), .long (zL lo), .long (zL hi), .int (zI co), .ref yk, .ref yw, .ref yi, .int (zI ge), .ref yx, .ref yy, .int (zI ir)])), zci G ym 8 MN, zci G ya 80 MA, zci G yb 80 MB] → va_S A s.heap H locs → ∀ ls : Array Slot, lv_has ls 6 [(5, .int (zI v5)), (4, .int (zI is)), (0, .ref h0), (1, .int (zI (t : Int))), (2, .int (zI x)), (3, .int (zI y))] → W p l e ({ frames := 0, cells := 0, slots := 0, locals := 0 }) s m ([.ref h0, .int (zI (t : Int)), .int (zI x), .int (zI y)]).toArray below meth c H locs 0 0 Q (F0 m 9 ls []) := by
    intro nf
    induction nf with
    | zero =>
      intro i v5 is hv5 hik his hib hf
      exact absurd hf (Nat.not_lt_zero _)
    | succ nf ih9 =>
      intro i v5 is hv5 hik his hib hf H locs hP hD hS ls hl
      refine zv_iload S dX5_isStep_9 (lv_at hl 0 rfl) ?_
      refine zv_bipush (v := 10) S dX5_isStep_11 (by decide) ?_
      refine zv_iload_n S dX5_isStep_13 rfl (lv_at hl 3 rfl) ?_
      refine zv_imul S dX5_isStep_14 ?_
      refine zv_aload_n S dX5_isStep_15 rfl (lv_at hl 2 rfl) ?_
      refine zv_get (C := RX5) (T := TX5) (N := 23) (ci := 5) (v := .ref ym) S in_X5_isStep_X5 hK hP 0 rfl rfl 2 (by decide) wd_X5_isStep_f7 rfl rfl dX5_isStep_16 ?_
      refine zv_iload_n S dX5_isStep_19 rfl (lv_at hl 3 rfl) ?_
      refine zv_iald S hK hP 1 0 rfl rfl t rfl (by omega) (by decide) dX5_isStep_20 ?_
      refine zv_iadd S dX5_isStep_21 ?_
      refine zv_icmp_ge (tgt := 65) S (by unfold zR; omega) (by unfold zR; omega) dX5_isStep_22 (by decide) (fun c_1 => ?_) (fun c_1 => ?_)
      · refine zv_iload S dX5_isStep_65 (lv_at hl 1 rfl) ?_
        exact hret _ _ _ _ _ () dX5_isStep_67 (by rcases hib with h | h; exact Or.inl (congrArg zI h); exact Or.inr (congrArg zI h)) (congrArg zI (by rw [his, show i = k by omega])) (hP.sub [0, 1, 2, 3] rfl) (hD.sub [0, 1, 2, 3] (by decide) rfl) hS
      · have JN57 : ∀ (is2 : Int) (hj : is2 = zb (is ≠ 0 ∧ MA (10 * t + i) * x + MB (10 * t + i) * y ≤ 0)) (hj01 : is2 = 0 ∨ is2 = 1) (H : Heap) (locs : List Loc), va_P G.1 vwCl [(h0, .inr (5, [.int (zI th), .int (zI sh), .ref ym, .ref ya, .ref yb, .ref yc, .ref ye, .ref yp, .ref yq, .ref yo, .int (zI ro), .long (zL fi), .long (zL la), .long (zL lo), .long (zL hi), .int (zI co), .ref yk, .ref yw, .ref yi, .int (zI ge), .ref yx, .ref yy, .int (zI ir)])), zci G ym 8 MN, zci G ya 80 MA, zci G yb 80 MB] H → va_D A [(h0, .inr (5, [.int (zI th), .int (zI sh), .ref ym, .ref ya, .ref yb, .ref yc, .ref ye, .ref yp, .ref yq, .ref yo, .int (zI ro), .long (zL fi), .long (zL la), .long (zL lo), .long (zL hi), .int (zI co), .ref yk, .ref yw, .ref yi, .int (zI ge), .ref yx, .ref yy, .int (zI ir)])), zci G ym 8 MN, zci G ya 80 MA, zci G yb 80 MB] → va_S A s.heap H locs → ∀ ls : Array Slot, lv_has ls 6 [(5, .int (zI v5)), (4, .int (zI is)), (0, .ref h0), (1, .int (zI (t : Int))), (2, .int (zI x)), (3, .int (zI y))] → W p l e ({ frames := 0, cells := 0, slots := 0, locals := 0 }) s m ([.ref h0, .int (zI (t : Int)), .int (zI x), .int (zI y)]).toArray below meth c H locs 0 0 Q (F0 m 57 ls [.int (zI is2)]) := by
          intro is2 hj hj01 H locs hP hD hS ls hl
          refine zv_istore (lv' := [(4, .int (zI is2)), (5, .int (zI v5)), (0, .ref h0), (1, .int (zI (t : Int))), (2, .int (zI x)), (3, .int (zI y))]) S dX5_isStep_57 hl (by decide) rfl (fun ls hl => ?_)
          refine zv_iinc (k0 := 1) (lv' := [(5, .int (zI (v5 + 1))), (4, .int (zI is2)), (0, .ref h0), (1, .int (zI (t : Int))), (2, .int (zI x)), (3, .int (zI y))]) S dX5_isStep_59 hl rfl (by decide) rfl (fun ls hl => ?_)
          refine zv_goto (tgt := 9) S dX5_isStep_62 (by decide) ?_
          exact ih9 (i + 1) (v5 + 1) is2 (by omega) (by omega) (zstr_s his hj) hj01 (by omega) _ _ hP hD hS _ (lv_sub hl [0, 1, 2, 3, 4, 5] rfl)
        refine zv_iload S dX5_isStep_25 (lv_at hl 1 rfl) ?_
        refine zv_if_eq (tgt := 56) S (by unfold zR; omega) dX5_isStep_27 (by decide) (fun c_2 => ?_) (fun c_2 => ?_)
        · refine zv_iconst S dX5_isStep_56 ?_
          exact JN57 0 (zb_0 is c_2) (Or.inl rfl) _ _ hP hD hS _ (lv_sub hl [0, 1, 2, 3, 4, 5] rfl)
        · refine zv_aload_n S dX5_isStep_30 rfl (lv_at hl 2 rfl) ?_
          refine zv_get (C := RX5) (T := TX5) (N := 23) (ci := 5) (v := .ref ya) S in_X5_isStep_X5 hK hP 0 rfl rfl 3 (by decide) wd_X5_isStep_f13 rfl rfl dX5_isStep_31 ?_
          refine zv_iload S dX5_isStep_34 (lv_at hl 0 rfl) ?_
          refine zv_iald S hK hP 2 0 rfl rfl (10 * t + i) hv5 (by omega) (by decide) dX5_isStep_36 ?_
          refine zv_iload_n S dX5_isStep_37 rfl (lv_at hl 4 rfl) ?_
          refine zv_imul S dX5_isStep_38 ?_
          refine zv_aload_n S dX5_isStep_39 rfl (lv_at hl 2 rfl) ?_
          refine zv_get (C := RX5) (T := TX5) (N := 23) (ci := 5) (v := .ref yb) S in_X5_isStep_X5 hK hP 0 rfl rfl 4 (by decide) wd_X5_isStep_f16 rfl rfl dX5_isStep_40 ?_
          refine zv_iload S dX5_isStep_43 (lv_at hl 0 rfl) ?_
          refine zv_iald S hK hP 3 0 rfl rfl (10 * t + i) hv5 (by omega) (by decide) dX5_isStep_45 ?_
          refine zv_iload_n S dX5_isStep_46 rfl (lv_at hl 5 rfl) ?_
          refine zv_imul S dX5_isStep_47 ?_
          refine zv_iadd S dX5_isStep_48 ?_
          have e1 := hXA i (by omega)
          have e2 := hXB i (by omega)
          have m1 := zmulb e1.1 e1.2 hx.1 hx.2
          have m2 := zmulb e2.1 e2.2 hy.1 hy.2
          refine zv_if_gt (tgt := 56) S (by unfold zR; omega) dX5_isStep_49 (by decide) (fun c_3 => ?_) (fun c_3 => ?_)
          · refine zv_iconst S dX5_isStep_56 ?_
            exact JN57 0 (zb_n is (by omega)) (Or.inl rfl) _ _ hP hD hS _ (lv_sub hl [0, 1, 2, 3, 4, 5] rfl)
          · refine zv_iconst S dX5_isStep_52 ?_
            refine zv_goto (tgt := 57) S dX5_isStep_53 (by decide) ?_
            exact JN57 1 (zb_y is c_2 (by omega)) (Or.inr rfl) _ _ hP hD hS _ (lv_sub hl [0, 1, 2, 3, 4, 5] rfl)
  exact LP9 _ 0 (10 * (t : Int)) 1 (by omega) (Nat.zero_le _) (zb_t zst_0).symm (Or.inr rfl) (Nat.lt_succ_self _) _ _ hP hD hS _ (lv_sub hl [0, 1, 2, 3, 4, 5] rfl)
