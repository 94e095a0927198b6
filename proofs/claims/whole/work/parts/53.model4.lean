theorem wd_X5_move_f51 : Cond.fieldLink RX5 51 "PointMillModel" "thrown" "I" ∈ wsX5_move := by decide +kernel
theorem in_X5_move_X5 : ∀ w ∈ wsX50, w ∈ wsX5_move := by decide +kernel
theorem wd_X5_move_f7 : Cond.fieldLink RX5 7 "PointMillModel" "many" "[I" ∈ wsX5_move := by decide +kernel
theorem wd_X5_move_f13 : Cond.fieldLink RX5 13 "PointMillModel" "a" "[I" ∈ wsX5_move := by decide +kernel
theorem wd_X5_move_f16 : Cond.fieldLink RX5 16 "PointMillModel" "b" "[I" ∈ wsX5_move := by decide +kernel
set_option maxHeartbeats 4000000 in
set_option maxRecDepth 100000 in
/-- the model: move -/
theorem c_X5_move (l : Launch) (G : zG) (sz : Nat) (h0 : Nat) (th : Int) (sh : Int) (ym : Nat) (ya : Nat) (yb : Nat) (yc : Nat) (ye : Nat) (yp : Nat) (yq : Nat) (yo : Nat) (ro : Int) (fi : Int) (la : Int) (lo : Int) (hi : Int) (co : Int) (yk : Nat) (yw : Nat) (yi : Nat) (ge : Int) (yx : Nat) (yy : Nat) (ir : Int) (MN : Nat → Int) (MA : Nat → Int) (MB : Nat → Int) (v : Int) (its : Int) (hsh : 0 ≤ sh ∧ sh ≤ 8) (hmn : ∀ j, j < 8 → 0 ≤ MN j ∧ MN j ≤ 10) (hRA : ∀ j, j < 80 → -60 ≤ MA j ∧ MA j ≤ 60) (hRB : ∀ j, j < 80 → -60 ≤ MB j ∧ MB j ≤ 60) (hv : -2147483648 ≤ v ∧ v < 2147483648) (h1 : -2147483648 ≤ its ∧ its < 2147483648) : Met l yX5_move wsX5_move ({ frames := 2, cells := 0, slots := 0, locals := 43 }) (va_Pc [.ref h0, .int (zI v), .int (zI its)] (zPre G sz [(h0, .inr (5, [.int (zI th), .int (zI sh), .ref ym, .ref ya, .ref yb, .ref yc, .ref ye, .ref yp, .ref yq, .ref yo, .int (zI ro), .long (zL fi), .long (zL la), .long (zL lo), .long (zL hi), .int (zI co), .ref yk, .ref yw, .ref yi, .int (zI ge), .ref yx, .ref yy, .int (zI ir)])), zci G ym 8 MN, zci G ya 80 MA, zci G yb 80 MB])) (va_Qi (fun (r : Int32) (u : (Int) × (Int) × (Nat → Int) × (Nat → Int)) => r = zI u.1 ∧ (zmoveR sh MN MA MB v its u.1 u.2.1 u.2.2.1 u.2.2.2)) (fun u => zW G (va_A [(h0, .inr (5, [.int (zI th), .int (zI sh), .ref ym, .ref ya, .ref yb, .ref yc, .ref ye, .ref yp, .ref yq, .ref yo, .int (zI ro), .long (zL fi), .long (zL la), .long (zL lo), .long (zL hi), .int (zI co), .ref yk, .ref yw, .ref yi, .int (zI ge), .ref yx, .ref yy, .int (zI ir)])), zci G ym 8 MN, zci G ya 80 MA, zci G yb 80 MB] sz) ((fun (u : (Int) × (Int) × (Nat → Int) × (Nat → Int)) => [(h0, .inr (5, [.int (zI u.2.1), .int (zI sh), .ref ym, .ref ya, .ref yb, .ref yc, .ref ye, .ref yp, .ref yq, .ref yo, .int (zI ro), .long (zL fi), .long (zL la), .long (zL lo), .long (zL hi), .int (zI co), .ref yk, .ref yw, .ref yi, .int (zI ge), .ref yx, .ref yy, .int (zI ir)])), zci G ym 8 MN, zci G ya 80 u.2.2.1, zci G yb 80 u.2.2.2]) u)) (va_A [(h0, .inr (5, [.int (zI th), .int (zI sh), .ref ym, .ref ya, .ref yb, .ref yc, .ref ye, .ref yp, .ref yq, .ref yo, .int (zI ro), .long (zL fi), .long (zL la), .long (zL lo), .long (zL hi), .int (zI co), .ref yk, .ref yw, .ref yi, .int (zI ge), .ref yx, .ref yy, .int (zI ir)])), zci G ym 8 MN, zci G ya 80 MA, zci G yb 80 MB] sz)) 0 0 (va_A [(h0, .inr (5, [.int (zI th), .int (zI sh), .ref ym, .ref ya, .ref yb, .ref yc, .ref ye, .ref yp, .ref yq, .ref yo, .int (zI ro), .long (zL fi), .long (zL la), .long (zL lo), .long (zL hi), .int (zI co), .ref yk, .ref yw, .ref yi, .int (zI ge), .ref yx, .ref yy, .int (zI ir)])), zci G ym 8 MN, zci G ya 80 MA, zci G yb 80 MB] sz) := by
  refine zM_i (post := fun (r : Int32) (u : (Int) × (Int) × (Nat → Int) × (Nat → Int)) => r = zI u.1 ∧ (zmoveR sh MN MA MB v its u.1 u.2.1 u.2.2.1 u.2.2.2)) (w1 := fun (u : (Int) × (Int) × (Nat → Int) × (Nat → Int)) => [(h0, .inr (5, [.int (zI u.2.1), .int (zI sh), .ref ym, .ref ya, .ref yb, .ref yc, .ref ye, .ref yp, .ref yq, .ref yo, .int (zI ro), .long (zL fi), .long (zL la), .long (zL lo), .long (zL hi), .int (zI co), .ref yk, .ref yw, .ref yi, .int (zI ge), .ref yx, .ref yy, .int (zI ir)])), zci G ym 8 MN, zci G ya 80 u.2.2.1, zci G yb 80 u.2.2.2]) (plainFor_of_name (by decide)) rfl (Nat.le_of_ble_eq_true rfl) ?_
  intro p e s m below meth c A Q S hN hK hP hD hS hA hret ls hl
  have hl : lv_has ls 6 [(0, .ref h0), (1, .int (zI v)), (2, .int (zI its))] := hl
  have JN27 : ∀ (tn : Int) (htn : tn = 1 ∧ ¬ (0 ≤ v ∧ v < sh) ∨ tn = 2 ∧ (0 ≤ v ∧ v < sh) ∧ ¬ (0 ≤ its ∧ its ≤ 2) ∨ tn = 0 ∧ (0 ≤ v ∧ v < sh) ∧ (0 ≤ its ∧ its ≤ 2)) (H : Heap) (locs : List Loc), va_P G.1 vwCl [(h0, .inr (5, [.int (zI th), .int (zI sh), .ref ym, .ref ya, .ref yb, .ref yc, .ref ye, .ref yp, .ref yq, .ref yo, .int (zI ro), .long (zL fi), .long (zL la), .long (zL lo), .long (zL hi), .int (zI co), .ref yk, .ref yw, .ref yi, .int (zI ge), .ref yx, .ref yy, .int (zI ir)])), zci G ym 8 MN, zci G ya 80 MA, zci G yb 80 MB] H → va_D A [(h0, .inr (5, [.int (zI th), .int (zI sh), .ref ym, .ref ya, .ref yb, .ref yc, .ref ye, .ref yp, .ref yq, .ref yo, .int (zI ro), .long (zL fi), .long (zL la), .long (zL lo), .long (zL hi), .int (zI co), .ref yk, .ref yw, .ref yi, .int (zI ge), .ref yx, .ref yy, .int (zI ir)])), zci G ym 8 MN, zci G ya 80 MA, zci G yb 80 MB] → va_S A s.heap H locs → ∀ ls : Array Slot, lv_has ls 6 [(0, .ref h0), (1, .int (zI v)), (2, .int (zI its))] → W p l e ({ frames := 2, cells := 0, slots := 0, locals := 43 }) s m ([.ref h0, .int (zI v), .int (zI its)]).toArray below meth c H locs 0 0 Q (F0 m 27 ls [.int (zI tn), .ref h0]) := by
    intro tn htn H locs hP hD hS ls hl
    refine zv_put (C := RX5) (T := TX5) (N := 23) (ci := 5) (v := .int (zI tn)) S in_X5_move_X5 tyX5 tyX5_ok nmX5 hK hP hD hS 0 rfl rfl 0 (by decide) wd_X5_move_f51 rfl rfl rfl rfl (Nat.le_of_ble_eq_true rfl) dX5_move_27 (fun H locs hP hD hS => ?_)
    have hP : va_P G.1 vwCl [(h0, .inr (5, [.int (zI tn), .int (zI sh), .ref ym, .ref ya, .ref yb, .ref yc, .ref ye, .ref yp, .ref yq, .ref yo, .int (zI ro), .long (zL fi), .long (zL la), .long (zL lo), .long (zL hi), .int (zI co), .ref yk, .ref yw, .ref yi, .int (zI ge), .ref yx, .ref yy, .int (zI ir)])), zci G ym 8 MN, zci G ya 80 MA, zci G yb 80 MB] H := hP
    have hD : va_D A [(h0, .inr (5, [.int (zI tn), .int (zI sh), .ref ym, .ref ya, .ref yb, .ref yc, .ref ye, .ref yp, .ref yq, .ref yo, .int (zI ro), .long (zL fi), .long (zL la), .long (zL lo), .long (zL hi), .int (zI co), .ref yk, .ref yw, .ref yi, .int (zI ge), .ref yx, .ref yy, .int (zI ir)])), zci G ym 8 MN, zci G ya 80 MA, zci G yb 80 MB] := hD
    refine zv_iconst S dX5_move_30 ?_
    refine zv_istore_n (lv' := [(3, .int (zI 0)), (0, .ref h0), (1, .int (zI v)), (2, .int (zI its))]) S dX5_move_31 rfl hl (by decide) rfl (fun ls hl => ?_)
    have LP32 : ∀ (nf : Nat) (i : Nat) (v3 : Int) (th1 : Int) (hv3 : v3 = (i : Int)) (hi10 : i ≤ 10) (hti : i = 0 ∨ (its = 1 ∧ (i : Int) ≤ MN v.toNat)) (hm : zmvq (zrow MA v.toNat) (zrow MB v.toNat) (MN v.toNat).toNat i its tn th1), (11 - i) < nf → ∀ (H : Heap) (locs : List Loc), va_P G.1 vwCl [(h0, .inr (5, [.int (zI th1), .int (zI sh), .ref ym, .ref ya, .ref yb, .ref yc, .ref ye, .ref yp, .ref yq, .ref yo, .int (zI ro), .long (zL fi), .long (zL la), .long (zL lo), .long (zL hi), .int (zI co), .ref yk, .ref yw, .ref yi, .int (zI ge), .ref yx, .ref yy, .int (zI ir)])), zci G ym 8 MN, zci G ya 80 MA, zci G yb 80 MB] H → va_D A [(h0, .inr (5, [.int (zI th1), .int (zI sh), .ref ym, .ref ya, .ref yb, .ref yc, .ref ye, .ref yp, .ref yq, .ref yo, .int (zI ro), .long (zL fi), .long (zL la), .long (zL lo), .long (zL hi), .int (zI co), .ref yk, .ref yw, .ref yi, .int (zI ge), .ref yx, .ref yy, .int (zI ir)])), zci G ym 8 MN, zci G ya 80 MA, zci G yb 80 MB] → va_S A s.heap H locs → ∀ ls : Array Slot, lv_has ls 6 [(3, .int (zI v3)), (0, .ref h0), (1, .int (zI v)), (2, .int (zI its))] → W p l e ({ frames := 2, cells := 0, slots := 0, locals := 43 }) s m ([.ref h0, .int (zI v), .int (zI its)]).toArray below meth c H locs 0 0 Q (F0 m 32 ls []) := by
      intro nf
      induction nf with
      | zero =>
        intro i v3 th1 hv3 hi10 hti hm hf
        exact absurd hf (Nat.not_lt_zero _)
      | succ nf ih32 =>
        intro i v3 th1 hv3 hi10 hti hm hf H locs hP hD hS ls hl
        refine zv_aload_n S dX5_move_32 rfl (lv_at hl 1 rfl) ?_
        have JN102 : ∀ (hex : th1 ≠ 0 ∨ its ≠ 1 ∨ MN v.toNat ≤ (i : Int)) (H : Heap) (locs : List Loc), va_P G.1 vwCl [(h0, .inr (5, [.int (zI th1), .int (zI sh), .ref ym, .ref ya, .ref yb, .ref yc, .ref ye, .ref yp, .ref yq, .ref yo, .int (zI ro), .long (zL fi), .long (zL la), .long (zL lo), .long (zL hi), .int (zI co), .ref yk, .ref yw, .ref yi, .int (zI ge), .ref yx, .ref yy, .int (zI ir)])), zci G ym 8 MN, zci G ya 80 MA, zci G yb 80 MB] H → va_D A [(h0, .inr (5, [.int (zI th1), .int (zI sh), .ref ym, .ref ya, .ref yb, .ref yc, .ref ye, .ref yp, .ref yq, .ref yo, .int (zI ro), .long (zL fi), .long (zL la), .long (zL lo), .long (zL hi), .int (zI co), .ref yk, .ref yw, .ref yi, .int (zI ge), .ref yx, .ref yy, .int (zI ir)])), zci G ym 8 MN, zci G ya 80 MA, zci G yb 80 MB] → va_S A s.heap H locs → ∀ ls : Array Slot, lv_has ls 6 [(3, .int (zI v3)), (0, .ref h0), (1, .int (zI v)), (2, .int (zI its))] → W p l e ({ frames := 2, cells := 0, slots := 0, locals := 43 }) s m ([.ref h0, .int (zI v), .int (zI its)]).toArray below meth c H locs 0 0 Q (F0 m 102 ls []) := by
          intro hex H locs hP hD hS ls hl
          refine zv_aload_n S dX5_move_102 rfl (lv_at hl 1 rfl) ?_
          have hthR : 0 ≤ th1 ∧ th1 ≤ 3 := zmvq_R hm (by omega)
          refine zv_get (C := RX5) (T := TX5) (N := 23) (ci := 5) (v := .int (zI th1)) S in_X5_move_X5 hK hP 0 rfl rfl 0 (by decide) wd_X5_move_f51 rfl rfl dX5_move_103 ?_
          refine zv_if_eq (tgt := 111) S (by unfold zR; omega) dX5_move_106 (by decide) (fun c_1 => ?_) (fun c_1 => ?_)
          · have hz1 := zmvq_tn hm (by omega)
            have q0 := hmn v.toNat (by omega)
            have hz : (0 ≤ v ∧ v < sh) ∧ (0 ≤ its ∧ its ≤ 2) ∧ (its = 1 → zsl (zrow MA v.toNat) (zrow MB v.toNat) (MN v.toNat).toNat) := ⟨by omega, by omega, fun z j hj => hz1.2 j (by omega)⟩
            refine zv_bipush (v := 10) S dX5_move_111 (by decide) ?_
            refine zv_iload_n S dX5_move_113 rfl (lv_at hl 2 rfl) ?_
            refine zv_imul S dX5_move_114 ?_
            refine zv_istore_n (lv' := [(3, .int (zI (10 * v))), (0, .ref h0), (1, .int (zI v)), (2, .int (zI its))]) S dX5_move_115 rfl hl (by decide) rfl (fun ls hl => ?_)
            have LP116 : ∀ (nf : Nat) (i2 : Nat) (v3b : Int) (A1 : Nat → Int) (B1 : Nat → Int) (hv3b : v3b = ((10 * v.toNat + i2 : Nat) : Int)) (hik : (i2 : Int) ≤ MN v.toNat) (hA1 : A1 = zfl MA (zmva its MA MB) (10 * v.toNat) i2) (hB1 : B1 = zfl MB (zmvb its MA MB) (10 * v.toNat) i2), ((MN v.toNat).toNat - i2) < nf → ∀ (H : Heap) (locs : List Loc), va_P G.1 vwCl [(h0, .inr (5, [.int (zI th1), .int (zI sh), .ref ym, .ref ya, .ref yb, .ref yc, .ref ye, .ref yp, .ref yq, .ref yo, .int (zI ro), .long (zL fi), .long (zL la), .long (zL lo), .long (zL hi), .int (zI co), .ref yk, .ref yw, .ref yi, .int (zI ge), .ref yx, .ref yy, .int (zI ir)])), zci G ym 8 MN, zci G ya 80 A1, zci G yb 80 B1] H → va_D A [(h0, .inr (5, [.int (zI th1), .int (zI sh), .ref ym, .ref ya, .ref yb, .ref yc, .ref ye, .ref yp, .ref yq, .ref yo, .int (zI ro), .long (zL fi), .long (zL la), .long (zL lo), .long (zL hi), .int (zI co), .ref yk, .ref yw, .ref yi, .int (zI ge), .ref yx, .ref yy, .int (zI ir)])), zci G ym 8 MN, zci G ya 80 A1, zci G yb 80 B1] → va_S A s.heap H locs → ∀ ls : Array Slot, lv_has ls 6 [(3, .int (zI v3b)), (0, .ref h0), (1, .int (zI v)), (2, .int (zI its))] → W p l e ({ frames := 2, cells := 0, slots := 0, locals := 43 }) s m ([.ref h0, .int (zI v), .int (zI its)]).toArray below meth c H locs 0 0 Q (F0 m 116 ls []) := by
              intro nf
              induction nf with
              | zero =>
                intro i2 v3b A1 B1 hv3b hik hA1 hB1 hf
                exact absurd hf (Nat.not_lt_zero _)
              | succ nf ih116 =>
                intro i2 v3b A1 B1 hv3b hik hA1 hB1 hf H locs hP hD hS ls hl
                refine zv_iload_n S dX5_move_116 rfl (lv_at hl 0 rfl) ?_
                refine zv_bipush (v := 10) S dX5_move_117 (by decide) ?_
                refine zv_iload_n S dX5_move_119 rfl (lv_at hl 2 rfl) ?_
                refine zv_imul S dX5_move_120 ?_
                refine zv_aload_n S dX5_move_121 rfl (lv_at hl 1 rfl) ?_
                refine zv_get (C := RX5) (T := TX5) (N := 23) (ci := 5) (v := .ref ym) S in_X5_move_X5 hK hP 0 rfl rfl 2 (by decide) wd_X5_move_f7 rfl rfl dX5_move_122 ?_
                refine zv_iload_n S dX5_move_125 rfl (lv_at hl 2 rfl) ?_
                refine zv_iald S hK hP 1 0 rfl rfl v.toNat (by omega) (by omega) (by decide) dX5_move_126 ?_
                refine zv_iadd S dX5_move_127 ?_
                refine zv_icmp_ge (tgt := 211) S (by unfold zR; omega) (by unfold zR; omega) dX5_move_128 (by decide) (fun c_2 => ?_) (fun c_2 => ?_)
                · refine zv_aload_n S dX5_move_211 rfl (lv_at hl 1 rfl) ?_
                  refine zv_get (C := RX5) (T := TX5) (N := 23) (ci := 5) (v := .ref ym) S in_X5_move_X5 hK hP 0 rfl rfl 2 (by decide) wd_X5_move_f7 rfl rfl dX5_move_212 ?_
                  refine zv_iload_n S dX5_move_215 rfl (lv_at hl 2 rfl) ?_
                  refine zv_iald S hK hP 1 0 rfl rfl v.toNat (by omega) (by omega) (by decide) dX5_move_216 ?_
                  exact hret _ _ _ _ _ ⟨(MN v.toNat), th1, A1, B1⟩ dX5_move_217 ⟨rfl, (show zmoveR sh MN MA MB v its (MN v.toNat) th1 A1 B1 from (Or.inr (Or.inr (Or.inr ⟨by omega, hz.1, hz.2.1, hz.2.2, rfl, by rw [hA1, show i2 = (MN v.toNat).toNat by omega], by rw [hB1, show i2 = (MN v.toNat).toNat by omega]⟩))))⟩ (hP.sub [0, 1, 2, 3] rfl) (hD.sub [0, 1, 2, 3] (by decide) rfl) hS
                · have f1 := hRA (10 * v.toNat + i2) (by omega)
                  have f2 := hRB (10 * v.toNat + i2) (by omega)
                  have g1 : A1 (10 * v.toNat + i2) = MA (10 * v.toNat + i2) := by rw [hA1, zfl_out (by omega)]
                  have g2 : B1 (10 * v.toNat + i2) = MB (10 * v.toNat + i2) := by rw [hB1, zfl_out (by omega)]
                  refine zv_aload_n S dX5_move_131 rfl (lv_at hl 1 rfl) ?_
                  refine zv_get (C := RX5) (T := TX5) (N := 23) (ci := 5) (v := .ref ya) S in_X5_move_X5 hK hP 0 rfl rfl 3 (by decide) wd_X5_move_f13 rfl rfl dX5_move_132 ?_
                  refine zv_iload_n S dX5_move_135 rfl (lv_at hl 0 rfl) ?_
                  refine zv_iald S hK hP 2 0 rfl rfl (10 * v.toNat + i2) hv3b (by omega) (by decide) dX5_move_136 ?_
                  refine zv_istore (lv' := [(4, .int (zI (A1 (10 * v.toNat + i2)))), (3, .int (zI v3b)), (0, .ref h0), (1, .int (zI v)), (2, .int (zI its))]) S dX5_move_137 hl (by decide) rfl (fun ls hl => ?_)
                  refine zv_aload_n S dX5_move_139 rfl (lv_at hl 2 rfl) ?_
                  refine zv_get (C := RX5) (T := TX5) (N := 23) (ci := 5) (v := .ref yb) S in_X5_move_X5 hK hP 0 rfl rfl 4 (by decide) wd_X5_move_f16 rfl rfl dX5_move_140 ?_
                  refine zv_iload_n S dX5_move_143 rfl (lv_at hl 1 rfl) ?_
                  refine zv_iald S hK hP 3 0 rfl rfl (10 * v.toNat + i2) hv3b (by omega) (by decide) dX5_move_144 ?_
                  refine zv_istore (lv' := [(5, .int (zI (B1 (10 * v.toNat + i2)))), (4, .int (zI (A1 (10 * v.toNat + i2)))), (3, .int (zI v3b)), (0, .ref h0), (1, .int (zI v)), (2, .int (zI its))]) S dX5_move_145 hl (by decide) rfl (fun ls hl => ?_)
                  have JN174 : ∀ (vx : Int) (hxa : vx = zmva its MA MB (10 * v.toNat + i2)) (H : Heap) (locs : List Loc), va_P G.1 vwCl [(h0, .inr (5, [.int (zI th1), .int (zI sh), .ref ym, .ref ya, .ref yb, .ref yc, .ref ye, .ref yp, .ref yq, .ref yo, .int (zI ro), .long (zL fi), .long (zL la), .long (zL lo), .long (zL hi), .int (zI co), .ref yk, .ref yw, .ref yi, .int (zI ge), .ref yx, .ref yy, .int (zI ir)])), zci G ym 8 MN, zci G ya 80 A1, zci G yb 80 B1] H → va_D A [(h0, .inr (5, [.int (zI th1), .int (zI sh), .ref ym, .ref ya, .ref yb, .ref yc, .ref ye, .ref yp, .ref yq, .ref yo, .int (zI ro), .long (zL fi), .long (zL la), .long (zL lo), .long (zL hi), .int (zI co), .ref yk, .ref yw, .ref yi, .int (zI ge), .ref yx, .ref yy, .int (zI ir)])), zci G ym 8 MN, zci G ya 80 A1, zci G yb 80 B1] → va_S A s.heap H locs → ∀ ls : Array Slot, lv_has ls 6 [(5, .int (zI (B1 (10 * v.toNat + i2)))), (4, .int (zI (A1 (10 * v.toNat + i2)))), (3, .int (zI v3b)), (0, .ref h0), (1, .int (zI v)), (2, .int (zI its))] → W p l e ({ frames := 2, cells := 0, slots := 0, locals := 43 }) s m ([.ref h0, .int (zI v), .int (zI its)]).toArray below meth c H locs 0 0 Q (F0 m 174 ls [.int (zI vx), .int (zI v3b), .ref ya]) := by
                    intro vx hxa H locs hP hD hS ls hl
                    refine zv_iast S hK hP hD hS 2 0 rfl rfl (10 * v.toNat + i2) hv3b (by omega) (by decide) dX5_move_174 (fun H locs hP hD hS => ?_)
                    have hP : va_P G.1 vwCl [(h0, .inr (5, [.int (zI th1), .int (zI sh), .ref ym, .ref ya, .ref yb, .ref yc, .ref ye, .ref yp, .ref yq, .ref yo, .int (zI ro), .long (zL fi), .long (zL la), .long (zL lo), .long (zL hi), .int (zI co), .ref yk, .ref yw, .ref yi, .int (zI ge), .ref yx, .ref yy, .int (zI ir)])), zci G ym 8 MN, zci G ya 80 (zU A1 (10 * v.toNat + i2) vx), zci G yb 80 B1] H := hP
                    have hD : va_D A [(h0, .inr (5, [.int (zI th1), .int (zI sh), .ref ym, .ref ya, .ref yb, .ref yc, .ref ye, .ref yp, .ref yq, .ref yo, .int (zI ro), .long (zL fi), .long (zL la), .long (zL lo), .long (zL hi), .int (zI co), .ref yk, .ref yw, .ref yi, .int (zI ge), .ref yx, .ref yy, .int (zI ir)])), zci G ym 8 MN, zci G ya 80 (zU A1 (10 * v.toNat + i2) vx), zci G yb 80 B1] := hD
                    have JN204 : ∀ (vy : Int) (hxb : vy = zmvb its MA MB (10 * v.toNat + i2)) (H : Heap) (locs : List Loc), va_P G.1 vwCl [(h0, .inr (5, [.int (zI th1), .int (zI sh), .ref ym, .ref ya, .ref yb, .ref yc, .ref ye, .ref yp, .ref yq, .ref yo, .int (zI ro), .long (zL fi), .long (zL la), .long (zL lo), .long (zL hi), .int (zI co), .ref yk, .ref yw, .ref yi, .int (zI ge), .ref yx, .ref yy, .int (zI ir)])), zci G ym 8 MN, zci G ya 80 (zU A1 (10 * v.toNat + i2) vx), zci G yb 80 B1] H → va_D A [(h0, .inr (5, [.int (zI th1), .int (zI sh), .ref ym, .ref ya, .ref yb, .ref yc, .ref ye, .ref yp, .ref yq, .ref yo, .int (zI ro), .long (zL fi), .long (zL la), .long (zL lo), .long (zL hi), .int (zI co), .ref yk, .ref yw, .ref yi, .int (zI ge), .ref yx, .ref yy, .int (zI ir)])), zci G ym 8 MN, zci G ya 80 (zU A1 (10 * v.toNat + i2) vx), zci G yb 80 B1] → va_S A s.heap H locs → ∀ ls : Array Slot, lv_has ls 6 [(5, .int (zI (B1 (10 * v.toNat + i2)))), (4, .int (zI (A1 (10 * v.toNat + i2)))), (3, .int (zI v3b)), (0, .ref h0), (1, .int (zI v)), (2, .int (zI its))] → W p l e ({ frames := 2, cells := 0, slots := 0, locals := 43 }) s m ([.ref h0, .int (zI v), .int (zI its)]).toArray below meth c H locs 0 0 Q (F0 m 204 ls [.int (zI vy), .int (zI v3b), .ref yb]) := by
                      intro vy hxb H locs hP hD hS ls hl
                      refine zv_iast S hK hP hD hS 3 0 rfl rfl (10 * v.toNat + i2) hv3b (by omega) (by decide) dX5_move_204 (fun H locs hP hD hS => ?_)
                      have hP : va_P G.1 vwCl [(h0, .inr (5, [.int (zI th1), .int (zI sh), .ref ym, .ref ya, .ref yb, .ref yc, .ref ye, .ref yp, .ref yq, .ref yo, .int (zI ro), .long (zL fi), .long (zL la), .long (zL lo), .long (zL hi), .int (zI co), .ref yk, .ref yw, .ref yi, .int (zI ge), .ref yx, .ref yy, .int (zI ir)])), zci G ym 8 MN, zci G ya 80 (zU A1 (10 * v.toNat + i2) vx), zci G yb 80 (zU B1 (10 * v.toNat + i2) vy)] H := hP
                      have hD : va_D A [(h0, .inr (5, [.int (zI th1), .int (zI sh), .ref ym, .ref ya, .ref yb, .ref yc, .ref ye, .ref yp, .ref yq, .ref yo, .int (zI ro), .long (zL fi), .long (zL la), .long (zL lo), .long (zL hi), .int (zI co), .ref yk, .ref yw, .ref yi, .int (zI ge), .ref yx, .ref yy, .int (zI ir)])), zci G ym 8 MN, zci G ya 80 (zU A1 (10 * v.toNat + i2) vx), zci G yb 80 (zU B1 (10 * v.toNat + i2) vy)] := hD
                      refine zv_iinc (k0 := 2) (lv' := [(3, .int (zI (v3b + 1))), (5, .int (zI (B1 (10 * v.toNat + i2)))), (4, .int (zI (A1 (10 * v.toNat + i2)))), (0, .ref h0), (1, .int (zI v)), (2, .int (zI its))]) S dX5_move_205 hl rfl (by decide) rfl (fun ls hl => ?_)
                      refine zv_goto (tgt := 116) S dX5_move_208 (by decide) ?_
                      exact ih116 (i2 + 1) (v3b + 1) (zU A1 (10 * v.toNat + i2) vx) (zU B1 (10 * v.toNat + i2) vy) (by omega) (by omega) (by rw [hA1]; exact zfl_s hxa) (by rw [hB1]; exact zfl_s hxb) (by omega) _ _ hP hD hS _ (lv_sub hl [0, 3, 4, 5] rfl)
                    refine zv_aload_n S dX5_move_175 rfl (lv_at hl 3 rfl) ?_
                    refine zv_get (C := RX5) (T := TX5) (N := 23) (ci := 5) (v := .ref yb) S in_X5_move_X5 hK hP 0 rfl rfl 4 (by decide) wd_X5_move_f16 rfl rfl dX5_move_176 ?_
                    refine zv_iload_n S dX5_move_179 rfl (lv_at hl 2 rfl) ?_
                    refine zv_iload_n S dX5_move_180 rfl (lv_at hl 5 rfl) ?_
                    refine zv_if_ne (tgt := 189) S (by unfold zR; omega) dX5_move_181 (by decide) (fun c_3 => ?_) (fun c_3 => ?_)
                    · refine zv_iload_n S dX5_move_189 rfl (lv_at hl 5 rfl) ?_
                      refine zv_iconst S dX5_move_190 ?_
                      refine zv_icmp_ne (tgt := 202) S (by unfold zR; omega) (by unfold zR; omega) dX5_move_191 (by decide) (fun c_4 => ?_) (fun c_4 => ?_)
                      · refine zv_iload S dX5_move_202 (lv_at hl 0 rfl) ?_
                        exact JN204 (B1 (10 * v.toNat + i2)) (by unfold zmvb; rw [if_neg c_3, if_neg c_4]; omega) _ _ hP hD hS _ (lv_sub hl [0, 1, 2, 3, 4, 5] rfl)
                      · refine zv_iload S dX5_move_194 (lv_at hl 0 rfl) ?_
                        refine zv_iload S dX5_move_196 (lv_at hl 1 rfl) ?_
                        refine zv_isub S dX5_move_198 ?_
                        refine zv_goto (tgt := 204) S dX5_move_199 (by decide) ?_
                        exact JN204 ((B1 (10 * v.toNat + i2)) - (A1 (10 * v.toNat + i2))) (by unfold zmvb; rw [if_neg c_3, if_pos c_4]; omega) _ _ hP hD hS _ (lv_sub hl [0, 1, 2, 3, 4, 5] rfl)
                    · refine zv_iload S dX5_move_184 (lv_at hl 1 rfl) ?_
                      refine zv_goto (tgt := 204) S dX5_move_186 (by decide) ?_
                      exact JN204 (A1 (10 * v.toNat + i2)) (by unfold zmvb; rw [if_pos c_3]; omega) _ _ hP hD hS _ (lv_sub hl [0, 1, 2, 3, 4, 5] rfl)
                  refine zv_aload_n S dX5_move_147 rfl (lv_at hl 3 rfl) ?_
                  refine zv_get (C := RX5) (T := TX5) (N := 23) (ci := 5) (v := .ref ya) S in_X5_move_X5 hK hP 0 rfl rfl 3 (by decide) wd_X5_move_f13 rfl rfl dX5_move_148 ?_
                  refine zv_iload_n S dX5_move_151 rfl (lv_at hl 2 rfl) ?_
                  refine zv_iload_n S dX5_move_152 rfl (lv_at hl 5 rfl) ?_
                  refine zv_if_ne (tgt := 161) S (by unfold zR; omega) dX5_move_153 (by decide) (fun c_5 => ?_) (fun c_5 => ?_)
                  · refine zv_iload_n S dX5_move_161 rfl (lv_at hl 5 rfl) ?_
                    refine zv_iconst S dX5_move_162 ?_
                    refine zv_icmp_ne (tgt := 171) S (by unfold zR; omega) (by unfold zR; omega) dX5_move_163 (by decide) (fun c_6 => ?_) (fun c_6 => ?_)
                    · refine zv_iload S dX5_move_171 (lv_at hl 1 rfl) ?_
                      refine zv_ineg S dX5_move_173 ?_
                      exact JN174 (-(A1 (10 * v.toNat + i2))) (by unfold zmva; rw [if_neg c_5, if_neg c_6]; omega) _ _ hP hD hS _ (lv_sub hl [0, 1, 2, 3, 4, 5] rfl)
                    · refine zv_iload S dX5_move_166 (lv_at hl 1 rfl) ?_
                      refine zv_goto (tgt := 174) S dX5_move_168 (by decide) ?_
                      exact JN174 (A1 (10 * v.toNat + i2)) (by unfold zmva; rw [if_neg c_5, if_pos c_6]; omega) _ _ hP hD hS _ (lv_sub hl [0, 1, 2, 3, 4, 5] rfl)
                  · refine zv_iload S dX5_move_156 (lv_at hl 0 rfl) ?_
                    refine zv_goto (tgt := 174) S dX5_move_158 (by decide) ?_
                    exact JN174 (B1 (10 * v.toNat + i2)) (by unfold zmva; rw [if_pos c_5]; omega) _ _ hP hD hS _ (lv_sub hl [0, 1, 2, 3, 4, 5] rfl)
            exact LP116 _ 0 (10 * v) MA MB (by omega) (by omega) zfl_0.symm zfl_0.symm (Nat.lt_succ_self _) _ _ hP hD hS _ (lv_sub hl [0, 1, 2, 3] rfl)
          · refine zv_iconst S dX5_move_109 ?_
            exact hret _ _ _ _ _ ⟨0, th1, MA, MB⟩ dX5_move_110 ⟨rfl, (show zmoveR sh MN MA MB v its 0 th1 MA MB from (by rcases hm with h | h; rcases htn with g | g | g; exact Or.inl ⟨by omega, g.2, rfl, rfl⟩; exact Or.inr (Or.inl ⟨by omega, g.2.1, g.2.2, rfl, rfl⟩); exact absurd (h.1.trans g.1) c_1; exact Or.inr (Or.inr (Or.inl ⟨h.1, by omega, h.2.2.1, h.2.2.2, rfl, rfl⟩))))⟩ (hP.sub [0, 1, 2, 3] rfl) (hD.sub [0, 1, 2, 3] (by decide) rfl) hS
        have hthR : 0 ≤ th1 ∧ th1 ≤ 3 := zmvq_R hm (by omega)
        refine zv_get (C := RX5) (T := TX5) (N := 23) (ci := 5) (v := .int (zI th1)) S in_X5_move_X5 hK hP 0 rfl rfl 0 (by decide) wd_X5_move_f51 rfl rfl dX5_move_33 ?_
        refine zv_if_ne (tgt := 102) S (by unfold zR; omega) dX5_move_36 (by decide) (fun c_7 => ?_) (fun c_7 => ?_)
        · exact JN102  (by omega) _ _ hP hD hS _ (lv_sub hl [0, 1, 2, 3] rfl)
        · refine zv_iload_n S dX5_move_39 rfl (lv_at hl 3 rfl) ?_
          refine zv_iconst S dX5_move_40 ?_
          refine zv_icmp_ne (tgt := 102) S (by unfold zR; omega) (by unfold zR; omega) dX5_move_41 (by decide) (fun c_8 => ?_) (fun c_8 => ?_)
          · exact JN102  (by omega) _ _ hP hD hS _ (lv_sub hl [0, 1, 2, 3] rfl)
          · have c_th := c_7
            have c_it := c_8
            have hz0 := zmvq_tn hm c_th
            have q0 := hmn v.toNat (by omega)
            refine zv_iload_n S dX5_move_44 rfl (lv_at hl 0 rfl) ?_
            refine zv_aload_n S dX5_move_45 rfl (lv_at hl 1 rfl) ?_
            refine zv_get (C := RX5) (T := TX5) (N := 23) (ci := 5) (v := .ref ym) S in_X5_move_X5 hK hP 0 rfl rfl 2 (by decide) wd_X5_move_f7 rfl rfl dX5_move_46 ?_
            refine zv_iload_n S dX5_move_49 rfl (lv_at hl 2 rfl) ?_
            refine zv_iald S hK hP 1 0 rfl rfl v.toNat (by omega) (by omega) (by decide) dX5_move_50 ?_
            refine zv_icmp_ge (tgt := 102) S (by unfold zR; omega) (by unfold zR; omega) dX5_move_51 (by decide) (fun c_9 => ?_) (fun c_9 => ?_)
            · exact JN102  (by omega) _ _ hP hD hS _ (lv_sub hl [0, 1, 2, 3] rfl)
            · have e1 := hRA (10 * v.toNat + i) (by omega)
              have e2 := hRB (10 * v.toNat + i) (by omega)
              refine zv_aload_n S dX5_move_54 rfl (lv_at hl 1 rfl) ?_
              refine zv_aload_n S dX5_move_55 rfl (lv_at hl 1 rfl) ?_
              refine zv_get (C := RX5) (T := TX5) (N := 23) (ci := 5) (v := .ref yb) S in_X5_move_X5 hK hP 0 rfl rfl 4 (by decide) wd_X5_move_f16 rfl rfl dX5_move_56 ?_
              refine zv_bipush (v := 10) S dX5_move_59 (by decide) ?_
              refine zv_iload_n S dX5_move_61 rfl (lv_at hl 2 rfl) ?_
              refine zv_imul S dX5_move_62 ?_
              refine zv_iload_n S dX5_move_63 rfl (lv_at hl 0 rfl) ?_
              refine zv_iadd S dX5_move_64 ?_
              refine zv_iald S hK hP 3 0 rfl rfl (10 * v.toNat + i) (by omega) (by omega) (by decide) dX5_move_65 ?_
              refine zv_aload_n S dX5_move_66 rfl (lv_at hl 1 rfl) ?_
              refine zv_get (C := RX5) (T := TX5) (N := 23) (ci := 5) (v := .ref ya) S in_X5_move_X5 hK hP 0 rfl rfl 3 (by decide) wd_X5_move_f13 rfl rfl dX5_move_67 ?_
              refine zv_bipush (v := 10) S dX5_move_70 (by decide) ?_
              refine zv_iload_n S dX5_move_72 rfl (lv_at hl 2 rfl) ?_
              refine zv_imul S dX5_move_73 ?_
              refine zv_iload_n S dX5_move_74 rfl (lv_at hl 0 rfl) ?_
              refine zv_iadd S dX5_move_75 ?_
              refine zv_iald S hK hP 2 0 rfl rfl (10 * v.toNat + i) (by omega) (by omega) (by decide) dX5_move_76 ?_
              refine zv_isub S dX5_move_77 ?_
              refine zv_bipush (v := (-60)) S dX5_move_78 (by decide) ?_
              refine zv_bipush (v := 60) S dX5_move_80 (by decide) ?_
              refine zc_Si (As := [.int (zI ((MB (10 * v.toNat + i)) - (MA (10 * v.toNat + i)))), .int (zI (-60)), .int (zI 60)]) (rest := [.ref h0]) (wr := [(h0, .inr (5, [.int (zI th1), .int (zI sh), .ref ym, .ref ya, .ref yb, .ref yc, .ref ye, .ref yp, .ref yq, .ref yo, .int (zI ro), .long (zL fi), .long (zL la), .long (zL lo), .long (zL hi), .int (zI co), .ref yk, .ref yw, .ref yi, .int (zI ge), .ref yx, .ref yy, .int (zI ir)])), zci G ym 8 MN, zci G ya 80 MA, zci G yb 80 MB]) (n := 3) S hN hK hP hD hS hA hl (c_X5_in l G H.size ((MB (10 * v.toNat + i)) - (MA (10 * v.toNat + i))) (-60) 60 (by omega) (by omega) (by omega)) gX5_move_X5_in rfl ⟨rfl, rfl⟩ (by decide +kernel) rfl ⟨Nat.le_of_ble_eq_true rfl, Nat.le_of_ble_eq_true rfl, Nat.le_of_ble_eq_true rfl, Nat.le_of_ble_eq_true rfl⟩ [] [0, 1, 2, 3] rfl rfl (by decide) (by decide) (by decide) (Nat.le_of_ble_eq_true rfl) dX5_move_82 rfl (fun r_ u_10 H1 locs1 hp_11 hP1 hD1 hS1 hz1 => ?_)
              try dsimp only at hp_11 hP1 hD1
              subst hp_11
              generalize H1 = H at hP1 hD1 hS1 hz1 ⊢
              generalize locs1 = locs at hS1 ⊢
              have hS := hS1
              have hP : va_P G.1 vwCl [(h0, .inr (5, [.int (zI th1), .int (zI sh), .ref ym, .ref ya, .ref yb, .ref yc, .ref ye, .ref yp, .ref yq, .ref yo, .int (zI ro), .long (zL fi), .long (zL la), .long (zL lo), .long (zL hi), .int (zI co), .ref yk, .ref yw, .ref yi, .int (zI ge), .ref yx, .ref yy, .int (zI ir)])), zci G ym 8 MN, zci G ya 80 MA, zci G yb 80 MB] H := hP1
              have hD : va_D A [(h0, .inr (5, [.int (zI th1), .int (zI sh), .ref ym, .ref ya, .ref yb, .ref yc, .ref ye, .ref yp, .ref yq, .ref yo, .int (zI ro), .long (zL fi), .long (zL la), .long (zL lo), .long (zL hi), .int (zI co), .ref yk, .ref yw, .ref yi, .int (zI ge), .ref yx, .ref yy, .int (zI ir)])), zci G ym 8 MN, zci G ya 80 MA, zci G yb 80 MB] := hD1
              refine zv_ifb_eq (tgt := 92) S dX5_move_85 (by decide) (fun c_12 => ?_) (fun c_12 => ?_)
              · refine zv_iconst S dX5_move_92 ?_
                refine zv_put (C := RX5) (T := TX5) (N := 23) (ci := 5) (v := .int (zI 3)) S in_X5_move_X5 tyX5 tyX5_ok nmX5 hK hP hD hS 0 rfl rfl 0 (by decide) wd_X5_move_f51 rfl rfl rfl rfl (Nat.le_of_ble_eq_true rfl) dX5_move_93 (fun H locs hP hD hS => ?_)
                have hP : va_P G.1 vwCl [(h0, .inr (5, [.int (zI 3), .int (zI sh), .ref ym, .ref ya, .ref yb, .ref yc, .ref ye, .ref yp, .ref yq, .ref yo, .int (zI ro), .long (zL fi), .long (zL la), .long (zL lo), .long (zL hi), .int (zI co), .ref yk, .ref yw, .ref yi, .int (zI ge), .ref yx, .ref yy, .int (zI ir)])), zci G ym 8 MN, zci G ya 80 MA, zci G yb 80 MB] H := hP
                have hD : va_D A [(h0, .inr (5, [.int (zI 3), .int (zI sh), .ref ym, .ref ya, .ref yb, .ref yc, .ref ye, .ref yp, .ref yq, .ref yo, .int (zI ro), .long (zL fi), .long (zL la), .long (zL lo), .long (zL hi), .int (zI co), .ref yk, .ref yw, .ref yi, .int (zI ge), .ref yx, .ref yy, .int (zI ir)])), zci G ym 8 MN, zci G ya 80 MA, zci G yb 80 MB] := hD
                refine zv_iinc (k0 := 0) (lv' := [(3, .int (zI (v3 + 1))), (0, .ref h0), (1, .int (zI v)), (2, .int (zI its))]) S dX5_move_96 hl rfl (by decide) rfl (fun ls hl => ?_)
                refine zv_goto (tgt := 32) S dX5_move_99 (by decide) ?_
                exact ih32 (i + 1) (v3 + 1) 3 (by omega) (by omega) (by omega) (zmvq_no hm c_th c_it (by omega) c_12) (by omega) _ _ hP hD hS _ (lv_sub hl [0, 1, 2, 3] rfl)
              · refine zv_iconst S dX5_move_88 ?_
                refine zv_goto (tgt := 93) S dX5_move_89 (by decide) ?_
                refine zv_put (C := RX5) (T := TX5) (N := 23) (ci := 5) (v := .int (zI 0)) S in_X5_move_X5 tyX5 tyX5_ok nmX5 hK hP hD hS 0 rfl rfl 0 (by decide) wd_X5_move_f51 rfl rfl rfl rfl (Nat.le_of_ble_eq_true rfl) dX5_move_93 (fun H locs hP hD hS => ?_)
                have hP : va_P G.1 vwCl [(h0, .inr (5, [.int (zI 0), .int (zI sh), .ref ym, .ref ya, .ref yb, .ref yc, .ref ye, .ref yp, .ref yq, .ref yo, .int (zI ro), .long (zL fi), .long (zL la), .long (zL lo), .long (zL hi), .int (zI co), .ref yk, .ref yw, .ref yi, .int (zI ge), .ref yx, .ref yy, .int (zI ir)])), zci G ym 8 MN, zci G ya 80 MA, zci G yb 80 MB] H := hP
                have hD : va_D A [(h0, .inr (5, [.int (zI 0), .int (zI sh), .ref ym, .ref ya, .ref yb, .ref yc, .ref ye, .ref yp, .ref yq, .ref yo, .int (zI ro), .long (zL fi), .long (zL la), .long (zL lo), .long (zL hi), .int (zI co), .ref yk, .ref yw, .ref yi, .int (zI ge), .ref yx, .ref yy, .int (zI ir)])), zci G ym 8 MN, zci G ya 80 MA, zci G yb 80 MB] := hD
                refine zv_iinc (k0 := 0) (lv' := [(3, .int (zI (v3 + 1))), (0, .ref h0), (1, .int (zI v)), (2, .int (zI its))]) S dX5_move_96 hl rfl (by decide) rfl (fun ls hl => ?_)
                refine zv_goto (tgt := 32) S dX5_move_99 (by decide) ?_
                exact ih32 (i + 1) (v3 + 1) 0 (by omega) (by omega) (by omega) (zmvq_ok hm c_th c_12) (by omega) _ _ hP hD hS _ (lv_sub hl [0, 1, 2, 3] rfl)
    exact LP32 _ 0 0 tn rfl (by omega) (Or.inl rfl) (Or.inl ⟨rfl, zsl_0⟩) (Nat.lt_succ_self _) _ _ hP hD hS _ (lv_sub hl [0, 1, 2, 3] rfl)
  refine zv_aload_n S dX5_move_0 rfl (lv_at hl 0 rfl) ?_
  refine zv_aload_n S dX5_move_1 rfl (lv_at hl 0 rfl) ?_
  refine zv_iload_n S dX5_move_2 rfl (lv_at hl 1 rfl) ?_
  refine zc_Vi (As := [.int (zI v)]) (rest := [.ref h0]) (wr := [zci G ym 8 MN, zci G ya 80 MA, zci G yb 80 MB]) (n := 1) S hN hK hP hD hS hA hl (c_X5_isShape l G s.heap.size h0 th sh ym ya yb yc ye yp yq yo ro fi la lo hi co yk yw yi ge yx yy ir v (by omega) (by omega)) gX5_move_X5_isShape rfl ⟨rfl, rfl⟩ (by decide +kernel) rfl ⟨Nat.le_of_ble_eq_true rfl, Nat.le_of_ble_eq_true rfl, Nat.le_of_ble_eq_true rfl, Nat.le_of_ble_eq_true rfl⟩ [0] [1, 2, 3] rfl rfl (by decide) (by decide) (by decide) (ci := 5) rfl rfl rfl (Nat.le_of_ble_eq_true rfl) dX5_move_3 rfl (fun r_ u_13 H1 locs1 hp_14 hP1 hD1 hS1 hz1 => ?_)
  try dsimp only at hp_14 hP1 hD1
  subst hp_14
  generalize H1 = H at hP1 hD1 hS1 hz1 ⊢
  generalize locs1 = locs at hS1 ⊢
  have hS := hS1
  have hP : va_P G.1 vwCl [zci G ym 8 MN, zci G ya 80 MA, zci G yb 80 MB, (h0, .inr (5, [.int (zI th), .int (zI sh), .ref ym, .ref ya, .ref yb, .ref yc, .ref ye, .ref yp, .ref yq, .ref yo, .int (zI ro), .long (zL fi), .long (zL la), .long (zL lo), .long (zL hi), .int (zI co), .ref yk, .ref yw, .ref yi, .int (zI ge), .ref yx, .ref yy, .int (zI ir)]))] H := hP1
  have hD : va_D A [zci G ym 8 MN, zci G ya 80 MA, zci G yb 80 MB, (h0, .inr (5, [.int (zI th), .int (zI sh), .ref ym, .ref ya, .ref yb, .ref yc, .ref ye, .ref yp, .ref yq, .ref yo, .int (zI ro), .long (zL fi), .long (zL la), .long (zL lo), .long (zL hi), .int (zI co), .ref yk, .ref yw, .ref yi, .int (zI ge), .ref yx, .ref yy, .int (zI ir)]))] := hD1
  refine zv_ifb_ne (tgt := 13) S dX5_move_6 (by decide) (fun c_15 => ?_) (fun c_15 => ?_)
  · refine zv_iload_n S dX5_move_13 rfl (lv_at hl 2 rfl) ?_
    refine zv_iconst S dX5_move_14 ?_
    refine zv_iconst S dX5_move_15 ?_
    refine zc_Si (As := [.int (zI its), .int (zI 0), .int (zI 2)]) (rest := [.ref h0]) (wr := [zci G ym 8 MN, zci G ya 80 MA, zci G yb 80 MB, (h0, .inr (5, [.int (zI th), .int (zI sh), .ref ym, .ref ya, .ref yb, .ref yc, .ref ye, .ref yp, .ref yq, .ref yo, .int (zI ro), .long (zL fi), .long (zL la), .long (zL lo), .long (zL hi), .int (zI co), .ref yk, .ref yw, .ref yi, .int (zI ge), .ref yx, .ref yy, .int (zI ir)]))]) (n := 3) S hN hK hP hD hS hA hl (c_X5_in l G H.size its 0 2 (by omega) (by omega) (by omega)) gX5_move_X5_in rfl ⟨rfl, rfl⟩ (by decide +kernel) rfl ⟨Nat.le_of_ble_eq_true rfl, Nat.le_of_ble_eq_true rfl, Nat.le_of_ble_eq_true rfl, Nat.le_of_ble_eq_true rfl⟩ [] [0, 1, 2, 3] rfl rfl (by decide) (by decide) (by decide) (Nat.le_of_ble_eq_true rfl) dX5_move_16 rfl (fun r_ u_16 H1 locs1 hp_17 hP1 hD1 hS1 hz1 => ?_)
    try dsimp only at hp_17 hP1 hD1
    subst hp_17
    generalize H1 = H at hP1 hD1 hS1 hz1 ⊢
    generalize locs1 = locs at hS1 ⊢
    have hS := hS1
    have hP : va_P G.1 vwCl [zci G ym 8 MN, zci G ya 80 MA, zci G yb 80 MB, (h0, .inr (5, [.int (zI th), .int (zI sh), .ref ym, .ref ya, .ref yb, .ref yc, .ref ye, .ref yp, .ref yq, .ref yo, .int (zI ro), .long (zL fi), .long (zL la), .long (zL lo), .long (zL hi), .int (zI co), .ref yk, .ref yw, .ref yi, .int (zI ge), .ref yx, .ref yy, .int (zI ir)]))] H := hP1
    have hD : va_D A [zci G ym 8 MN, zci G ya 80 MA, zci G yb 80 MB, (h0, .inr (5, [.int (zI th), .int (zI sh), .ref ym, .ref ya, .ref yb, .ref yc, .ref ye, .ref yp, .ref yq, .ref yo, .int (zI ro), .long (zL fi), .long (zL la), .long (zL lo), .long (zL hi), .int (zI co), .ref yk, .ref yw, .ref yi, .int (zI ge), .ref yx, .ref yy, .int (zI ir)]))] := hD1
    refine zv_ifb_ne (tgt := 26) S dX5_move_19 (by decide) (fun c_18 => ?_) (fun c_18 => ?_)
    · refine zv_iconst S dX5_move_26 ?_
      exact JN27 0 (by omega) _ _ (hP.sub [3, 0, 1, 2] rfl) (hD.sub [3, 0, 1, 2] (by decide) rfl) hS _ (lv_sub hl [0, 1, 2] rfl)
    · refine zv_iconst S dX5_move_22 ?_
      refine zv_goto (tgt := 27) S dX5_move_23 (by decide) ?_
      exact JN27 2 (by omega) _ _ (hP.sub [3, 0, 1, 2] rfl) (hD.sub [3, 0, 1, 2] (by decide) rfl) hS _ (lv_sub hl [0, 1, 2] rfl)
  · refine zv_iconst S dX5_move_9 ?_
    refine zv_goto (tgt := 27) S dX5_move_10 (by decide) ?_
    exact JN27 1 (by omega) _ _ (hP.sub [3, 0, 1, 2] rfl) (hD.sub [3, 0, 1, 2] (by decide) rfl) hS _ (lv_sub hl [0, 1, 2] rfl)
