theorem in_X2_take_X3 : ∀ w ∈ wsX30, w ∈ wsX2_take := by decide +kernel
theorem wd_X2_take_f27 : Cond.fieldLink RX2 27 "PointMill$Region" "size" "I" ∈ wsX2_take := by decide +kernel
theorem in_X2_take_X2 : ∀ w ∈ wsX20, w ∈ wsX2_take := by decide +kernel
theorem wd_X2_take_f9 : Cond.fieldLink RX2 9 "PointMill$Region" "across" "[I" ∈ wsX2_take := by decide +kernel
theorem wd_X2_take_f15 : Cond.fieldLink RX2 15 "PointMill$Region" "upward" "[I" ∈ wsX2_take := by decide +kernel
theorem wd_X2_take_f18 : Cond.fieldLink RX2 18 "PointMill$Region" "limit" "[I" ∈ wsX2_take := by decide +kernel
set_option maxHeartbeats 4000000 in
set_option maxRecDepth 100000 in
/-- Region.take -/
theorem c_X2_take (l : Launch) (G : zG) (sz : Nat) (h0 : Nat) (ra : Nat) (rb : Nat) (rc : Nat) (P : Nat → Int) (Qu : Nat → Int) (M : Nat → Int) (kk : Int) (f0 : Int) (l0 : Int) (b0 : Int) (t0 : Int) (x0 : Int) (y0 : Int) (s0 : Nat) (qa : Nat) (qb : Nat) (qc : Nat) (qe : Nat) (fa : Nat → Int) (fb : Nat → Int) (fc : Nat → Int) (fe : Nat → Int) (k : Nat) (tm : Int) (lt : Int) (hk : k ≤ 10) : Met l yX2_take wsX2_take ({ frames := 0, cells := 0, slots := 0, locals := 0 }) (va_Pc [.ref h0, .ref s0, .int (zI tm), .int (zI lt)] (zPre G sz [(h0, .inr (2, [.ref ra, .ref rb, .ref rc, .int (zI kk), .int (zI f0), .int (zI l0), .int (zI b0), .int (zI t0), .int (zI x0), .int (zI y0)])), zci G ra 10 P, zci G rb 10 Qu, zci G rc 10 M, (s0, .inr (3, [.ref qa, .ref qb, .ref qc, .ref qe, .int (zI (k : Int))])), zci G qa 10 fa, zci G qb 10 fb, zci G qc 10 fc, zci G qe 10 fe])) (va_Qv (fun (u : Unit) => True) (fun u => zW G (va_A [(h0, .inr (2, [.ref ra, .ref rb, .ref rc, .int (zI kk), .int (zI f0), .int (zI l0), .int (zI b0), .int (zI t0), .int (zI x0), .int (zI y0)])), zci G ra 10 P, zci G rb 10 Qu, zci G rc 10 M, (s0, .inr (3, [.ref qa, .ref qb, .ref qc, .ref qe, .int (zI (k : Int))])), zci G qa 10 fa, zci G qb 10 fb, zci G qc 10 fc, zci G qe 10 fe] sz) ((fun (u : Unit) => [(h0, .inr (2, [.ref ra, .ref rb, .ref rc, .int (zI (k : Int)), .int (zI f0), .int (zI l0), .int (zI b0), .int (zI t0), .int (zI x0), .int (zI y0)])), zci G ra 10 (zfill fa P k), zci G rb 10 (zfill fb Qu k), zci G rc 10 (zfill (fun j => tm * fc j + lt * fe j) M k), (s0, .inr (3, [.ref qa, .ref qb, .ref qc, .ref qe, .int (zI (k : Int))])), zci G qa 10 fa, zci G qb 10 fb, zci G qc 10 fc, zci G qe 10 fe]) u)) (va_A [(h0, .inr (2, [.ref ra, .ref rb, .ref rc, .int (zI kk), .int (zI f0), .int (zI l0), .int (zI b0), .int (zI t0), .int (zI x0), .int (zI y0)])), zci G ra 10 P, zci G rb 10 Qu, zci G rc 10 M, (s0, .inr (3, [.ref qa, .ref qb, .ref qc, .ref qe, .int (zI (k : Int))])), zci G qa 10 fa, zci G qb 10 fb, zci G qc 10 fc, zci G qe 10 fe] sz)) 0 0 (va_A [(h0, .inr (2, [.ref ra, .ref rb, .ref rc, .int (zI kk), .int (zI f0), .int (zI l0), .int (zI b0), .int (zI t0), .int (zI x0), .int (zI y0)])), zci G ra 10 P, zci G rb 10 Qu, zci G rc 10 M, (s0, .inr (3, [.ref qa, .ref qb, .ref qc, .ref qe, .int (zI (k : Int))])), zci G qa 10 fa, zci G qb 10 fb, zci G qc 10 fc, zci G qe 10 fe] sz) := by
  refine zM_v (post := fun (u : Unit) => True) (w1 := fun (u : Unit) => [(h0, .inr (2, [.ref ra, .ref rb, .ref rc, .int (zI (k : Int)), .int (zI f0), .int (zI l0), .int (zI b0), .int (zI t0), .int (zI x0), .int (zI y0)])), zci G ra 10 (zfill fa P k), zci G rb 10 (zfill fb Qu k), zci G rc 10 (zfill (fun j => tm * fc j + lt * fe j) M k), (s0, .inr (3, [.ref qa, .ref qb, .ref qc, .ref qe, .int (zI (k : Int))])), zci G qa 10 fa, zci G qb 10 fb, zci G qc 10 fc, zci G qe 10 fe]) (plainFor_of_name (by decide)) rfl (Nat.le_of_ble_eq_true rfl) ?_
  intro p e s m below meth c A Q S hN hK hP hD hS hA hret ls hl
  have hl : lv_has ls 5 [(0, .ref h0), (1, .ref s0), (2, .int (zI tm)), (3, .int (zI lt))] := hl
  refine zv_aload_n S dX2_take_0 rfl (lv_at hl 0 rfl) ?_
  refine zv_aload_n S dX2_take_1 rfl (lv_at hl 1 rfl) ?_
  refine zv_getN (C := RX3) (T := TX3) (N := 5) (ci := 3) (v := .int (zI (k : Int))) S in_X2_take_X3 hK hP 4 rfl rfl 4 (by decide) (hN _ (List.mem_of_getElem? (i := 4) rfl)) rfl rfl dX2_take_2 ?_
  refine zv_put (C := RX2) (T := TX2) (N := 10) (ci := 2) (v := .int (zI (k : Int))) S in_X2_take_X2 tyX2 tyX2_ok nmX2 hK hP hD hS 0 rfl rfl 3 (by decide) wd_X2_take_f27 rfl rfl rfl rfl (Nat.le_of_ble_eq_true rfl) dX2_take_5 (fun H locs hP hD hS => ?_)
  have hP : va_P G.1 vwCl [(h0, .inr (2, [.ref ra, .ref rb, .ref rc, .int (zI (k : Int)), .int (zI f0), .int (zI l0), .int (zI b0), .int (zI t0), .int (zI x0), .int (zI y0)])), zci G ra 10 P, zci G rb 10 Qu, zci G rc 10 M, (s0, .inr (3, [.ref qa, .ref qb, .ref qc, .ref qe, .int (zI (k : Int))])), zci G qa 10 fa, zci G qb 10 fb, zci G qc 10 fc, zci G qe 10 fe] H := hP
  have hD : va_D A [(h0, .inr (2, [.ref ra, .ref rb, .ref rc, .int (zI (k : Int)), .int (zI f0), .int (zI l0), .int (zI b0), .int (zI t0), .int (zI x0), .int (zI y0)])), zci G ra 10 P, zci G rb 10 Qu, zci G rc 10 M, (s0, .inr (3, [.ref qa, .ref qb, .ref qc, .ref qe, .int (zI (k : Int))])), zci G qa 10 fa, zci G qb 10 fb, zci G qc 10 fc, zci G qe 10 fe] := hD
  refine zv_iconst S dX2_take_8 ?_
  refine zv_istore (lv' := [(4, .int (zI 0)), (0, .ref h0), (1, .ref s0), (2, .int (zI tm)), (3, .int (zI lt))]) S dX2_take_9 hl (by decide) rfl (fun ls hl => ?_)
  have LP11 : ∀ (nf : Nat) (i : Nat) (v4 : Int) (u1 : Nat → Int) (u2 : Nat → Int) (u3 : Nat → Int) (hv4 : v4 = (i : Int)) (hi : i ≤ k) (hu1 : u1 = zfill fa P i) (hu2 : u2 = zfill fb Qu i) (hu3 : u3 = zfill (fun j => tm * fc j + lt * fe j) M i), (k - i) < nf → ∀ (H : Heap) (locs : List Loc), va_P G.1 vwCl [(h0, .inr (2, [.ref ra, .ref rb, .ref rc, .int (zI (k : Int)), .int (zI f0), .int (zI l0), .int (zI b0), .int (zI t0), .int (zI x0), .int (zI y0)])), zci G ra 10 u1, zci G rb 10 u2, zci G rc 10 u3, (s0, .inr (3, [.ref qa, .ref qb, .ref qc, .ref qe, .int (zI (k : Int))])), zci G qa 10 fa, zci G qb 10 fb, zci G qc 10 fc, zci G qe 10 fe] H → va_D A [(h0, .inr (2, [.ref ra, .ref rb, .ref rc, .int (zI (k : Int)), .int (zI f0), .int (zI l0), .int (zI b0), .int (zI t0), .int (zI x0), .int (zI y0)])), zci G ra 10 u1, zci G rb 10 u2, zci G rc 10 u3, (s0, .inr (3, [.ref qa, .ref qb, .ref qc, .ref qe, .int (zI (k : Int))])), zci G qa 10 fa, zci G qb 10 fb, zci G qc 10 fc, zci G qe 10 fe] → va_S A s.heap H locs → ∀ ls : Array Slot, lv_has ls 5 [(4, .int (zI v4)), (0, .ref h0), (1, .ref s0), (2, .int (zI tm)), (3, .int (zI lt))] → W p l e ({ frames := 0, cells := 0, slots := 0, locals := 0 }) s m ([.ref h0, .ref s0, .int (zI tm), .int (zI lt)]).toArray below meth c H locs 0 0 Q (F0 m 11 ls []) := by
    intro nf
    induction nf with
    | zero =>
      intro i v4 u1 u2 u3 hv4 hi hu1 hu2 hu3 hf
      exact absurd hf (Nat.not_lt_zero _)
    | succ nf ih11 =>
      intro i v4 u1 u2 u3 hv4 hi hu1 hu2 hu3 hf H locs hP hD hS ls hl
      refine zv_iload S dX2_take_11 (lv_at hl 0 rfl) ?_
      refine zv_aload_n S dX2_take_13 rfl (lv_at hl 1 rfl) ?_
      refine zv_get (C := RX2) (T := TX2) (N := 10) (ci := 2) (v := .int (zI (k : Int))) S in_X2_take_X2 hK hP 0 rfl rfl 3 (by decide) wd_X2_take_f27 rfl rfl dX2_take_14 ?_
      refine zv_icmp_ge (tgt := 80) S (by unfold zR; omega) (by unfold zR; omega) dX2_take_17 (by decide) (fun c_1 => ?_) (fun c_1 => ?_)
      · have e : i = k := by omega
        rw [hu1, hu2, hu3, e] at hP hD
        exact hret _ _ _ _ () dX2_take_80 trivial (hP.sub [0, 1, 2, 3, 4, 5, 6, 7, 8] rfl) (hD.sub [0, 1, 2, 3, 4, 5, 6, 7, 8] (by decide) rfl) hS
      · refine zv_aload_n S dX2_take_20 rfl (lv_at hl 1 rfl) ?_
        refine zv_get (C := RX2) (T := TX2) (N := 10) (ci := 2) (v := .ref ra) S in_X2_take_X2 hK hP 0 rfl rfl 0 (by decide) wd_X2_take_f9 rfl rfl dX2_take_21 ?_
        refine zv_iload S dX2_take_24 (lv_at hl 0 rfl) ?_
        refine zv_aload_n S dX2_take_26 rfl (lv_at hl 2 rfl) ?_
        refine zv_getN (C := RX3) (T := TX3) (N := 5) (ci := 3) (v := .ref qa) S in_X2_take_X3 hK hP 4 rfl rfl 0 (by decide) (hN _ (List.mem_of_getElem? (i := 0) rfl)) rfl rfl dX2_take_27 ?_
        refine zv_iload S dX2_take_30 (lv_at hl 0 rfl) ?_
        refine zv_iald S hK hP 5 0 rfl rfl i (by omega) (by omega) (by decide) dX2_take_32 ?_
        refine zv_iast S hK hP hD hS 1 0 rfl rfl i (by omega) (by omega) (by decide) dX2_take_33 (fun H locs hP hD hS => ?_)
        have hP : va_P G.1 vwCl [(h0, .inr (2, [.ref ra, .ref rb, .ref rc, .int (zI (k : Int)), .int (zI f0), .int (zI l0), .int (zI b0), .int (zI t0), .int (zI x0), .int (zI y0)])), zci G ra 10 (zU u1 i (fa i)), zci G rb 10 u2, zci G rc 10 u3, (s0, .inr (3, [.ref qa, .ref qb, .ref qc, .ref qe, .int (zI (k : Int))])), zci G qa 10 fa, zci G qb 10 fb, zci G qc 10 fc, zci G qe 10 fe] H := hP
        have hD : va_D A [(h0, .inr (2, [.ref ra, .ref rb, .ref rc, .int (zI (k : Int)), .int (zI f0), .int (zI l0), .int (zI b0), .int (zI t0), .int (zI x0), .int (zI y0)])), zci G ra 10 (zU u1 i (fa i)), zci G rb 10 u2, zci G rc 10 u3, (s0, .inr (3, [.ref qa, .ref qb, .ref qc, .ref qe, .int (zI (k : Int))])), zci G qa 10 fa, zci G qb 10 fb, zci G qc 10 fc, zci G qe 10 fe] := hD
        refine zv_aload_n S dX2_take_34 rfl (lv_at hl 1 rfl) ?_
        refine zv_get (C := RX2) (T := TX2) (N := 10) (ci := 2) (v := .ref rb) S in_X2_take_X2 hK hP 0 rfl rfl 1 (by decide) wd_X2_take_f15 rfl rfl dX2_take_35 ?_
        refine zv_iload S dX2_take_38 (lv_at hl 0 rfl) ?_
        refine zv_aload_n S dX2_take_40 rfl (lv_at hl 2 rfl) ?_
        refine zv_getN (C := RX3) (T := TX3) (N := 5) (ci := 3) (v := .ref qb) S in_X2_take_X3 hK hP 4 rfl rfl 1 (by decide) (hN _ (List.mem_of_getElem? (i := 1) rfl)) rfl rfl dX2_take_41 ?_
        refine zv_iload S dX2_take_44 (lv_at hl 0 rfl) ?_
        refine zv_iald S hK hP 6 0 rfl rfl i (by omega) (by omega) (by decide) dX2_take_46 ?_
        refine zv_iast S hK hP hD hS 2 0 rfl rfl i (by omega) (by omega) (by decide) dX2_take_47 (fun H locs hP hD hS => ?_)
        have hP : va_P G.1 vwCl [(h0, .inr (2, [.ref ra, .ref rb, .ref rc, .int (zI (k : Int)), .int (zI f0), .int (zI l0), .int (zI b0), .int (zI t0), .int (zI x0), .int (zI y0)])), zci G ra 10 (zU u1 i (fa i)), zci G rb 10 (zU u2 i (fb i)), zci G rc 10 u3, (s0, .inr (3, [.ref qa, .ref qb, .ref qc, .ref qe, .int (zI (k : Int))])), zci G qa 10 fa, zci G qb 10 fb, zci G qc 10 fc, zci G qe 10 fe] H := hP
        have hD : va_D A [(h0, .inr (2, [.ref ra, .ref rb, .ref rc, .int (zI (k : Int)), .int (zI f0), .int (zI l0), .int (zI b0), .int (zI t0), .int (zI x0), .int (zI y0)])), zci G ra 10 (zU u1 i (fa i)), zci G rb 10 (zU u2 i (fb i)), zci G rc 10 u3, (s0, .inr (3, [.ref qa, .ref qb, .ref qc, .ref qe, .int (zI (k : Int))])), zci G qa 10 fa, zci G qb 10 fb, zci G qc 10 fc, zci G qe 10 fe] := hD
        refine zv_aload_n S dX2_take_48 rfl (lv_at hl 1 rfl) ?_
        refine zv_get (C := RX2) (T := TX2) (N := 10) (ci := 2) (v := .ref rc) S in_X2_take_X2 hK hP 0 rfl rfl 2 (by decide) wd_X2_take_f18 rfl rfl dX2_take_49 ?_
        refine zv_iload S dX2_take_52 (lv_at hl 0 rfl) ?_
        refine zv_iload_n S dX2_take_54 rfl (lv_at hl 3 rfl) ?_
        refine zv_aload_n S dX2_take_55 rfl (lv_at hl 2 rfl) ?_
        refine zv_getN (C := RX3) (T := TX3) (N := 5) (ci := 3) (v := .ref qc) S in_X2_take_X3 hK hP 4 rfl rfl 2 (by decide) (hN _ (List.mem_of_getElem? (i := 2) rfl)) rfl rfl dX2_take_56 ?_
        refine zv_iload S dX2_take_59 (lv_at hl 0 rfl) ?_
        refine zv_iald S hK hP 7 0 rfl rfl i (by omega) (by omega) (by decide) dX2_take_61 ?_
        refine zv_imul S dX2_take_62 ?_
        refine zv_iload_n S dX2_take_63 rfl (lv_at hl 4 rfl) ?_
        refine zv_aload_n S dX2_take_64 rfl (lv_at hl 2 rfl) ?_
        refine zv_getN (C := RX3) (T := TX3) (N := 5) (ci := 3) (v := .ref qe) S in_X2_take_X3 hK hP 4 rfl rfl 3 (by decide) (hN _ (List.mem_of_getElem? (i := 3) rfl)) rfl rfl dX2_take_65 ?_
        refine zv_iload S dX2_take_68 (lv_at hl 0 rfl) ?_
        refine zv_iald S hK hP 8 0 rfl rfl i (by omega) (by omega) (by decide) dX2_take_70 ?_
        refine zv_imul S dX2_take_71 ?_
        refine zv_iadd S dX2_take_72 ?_
        refine zv_iast S hK hP hD hS 3 0 rfl rfl i (by omega) (by omega) (by decide) dX2_take_73 (fun H locs hP hD hS => ?_)
        have hP : va_P G.1 vwCl [(h0, .inr (2, [.ref ra, .ref rb, .ref rc, .int (zI (k : Int)), .int (zI f0), .int (zI l0), .int (zI b0), .int (zI t0), .int (zI x0), .int (zI y0)])), zci G ra 10 (zU u1 i (fa i)), zci G rb 10 (zU u2 i (fb i)), zci G rc 10 (zU u3 i ((tm * (fc i)) + (lt * (fe i)))), (s0, .inr (3, [.ref qa, .ref qb, .ref qc, .ref qe, .int (zI (k : Int))])), zci G qa 10 fa, zci G qb 10 fb, zci G qc 10 fc, zci G qe 10 fe] H := hP
        have hD : va_D A [(h0, .inr (2, [.ref ra, .ref rb, .ref rc, .int (zI (k : Int)), .int (zI f0), .int (zI l0), .int (zI b0), .int (zI t0), .int (zI x0), .int (zI y0)])), zci G ra 10 (zU u1 i (fa i)), zci G rb 10 (zU u2 i (fb i)), zci G rc 10 (zU u3 i ((tm * (fc i)) + (lt * (fe i)))), (s0, .inr (3, [.ref qa, .ref qb, .ref qc, .ref qe, .int (zI (k : Int))])), zci G qa 10 fa, zci G qb 10 fb, zci G qc 10 fc, zci G qe 10 fe] := hD
        refine zv_iinc (k0 := 0) (lv' := [(4, .int (zI (v4 + 1))), (0, .ref h0), (1, .ref s0), (2, .int (zI tm)), (3, .int (zI lt))]) S dX2_take_74 hl rfl (by decide) rfl (fun ls hl => ?_)
        refine zv_goto (tgt := 11) S dX2_take_77 (by decide) ?_
        exact ih11 (i + 1) (v4 + 1) (zU u1 i (fa i)) (zU u2 i (fb i)) (zU u3 i ((tm * (fc i)) + (lt * (fe i)))) (by omega) (by omega) (by rw [hu1]; exact zfill_next rfl) (by rw [hu2]; exact zfill_next rfl) (by rw [hu3]; exact zfill_next rfl) (by omega) _ _ hP hD hS _ (lv_sub hl [0, 1, 2, 3, 4] rfl)
  exact LP11 _ 0 0 P Qu M rfl (Nat.zero_le _) zfill_0.symm zfill_0.symm zfill_0.symm (Nat.lt_succ_self _) _ _ hP hD hS _ (lv_sub hl [0, 1, 2, 3, 4] rfl)

theorem wd_X2_makeRowsColumns_f27 : Cond.fieldLink RX2 27 "PointMill$Region" "size" "I" ∈ wsX2_makeRowsColumns := by decide +kernel
theorem in_X2_makeRowsColumns_X2 : ∀ w ∈ wsX20, w ∈ wsX2_makeRowsColumns := by decide +kernel
theorem wd_X2_makeRowsColumns_f9 : Cond.fieldLink RX2 9 "PointMill$Region" "across" "[I" ∈ wsX2_makeRowsColumns := by decide +kernel
theorem wd_X2_makeRowsColumns_f15 : Cond.fieldLink RX2 15 "PointMill$Region" "upward" "[I" ∈ wsX2_makeRowsColumns := by decide +kernel
set_option maxHeartbeats 4000000 in
set_option maxRecDepth 100000 in
/-- Region.makeRowsColumns -/
theorem c_X2_makeRowsColumns (l : Launch) (G : zG) (sz : Nat) (h0 : Nat) (ra : Nat) (rb : Nat) (rc : Nat) (P : Nat → Int) (Qu : Nat → Int) (M : Nat → Int) (k : Nat) (f0 : Int) (l0 : Int) (b0 : Int) (t0 : Int) (x0 : Int) (y0 : Int) (hk : k ≤ 10) : Met l yX2_makeRowsColumns wsX2_makeRowsColumns ({ frames := 0, cells := 0, slots := 0, locals := 0 }) (va_Pc [.ref h0] (zPre G sz [(h0, .inr (2, [.ref ra, .ref rb, .ref rc, .int (zI (k : Int)), .int (zI f0), .int (zI l0), .int (zI b0), .int (zI t0), .int (zI x0), .int (zI y0)])), zci G ra 10 P, zci G rb 10 Qu])) (va_Qv (fun (u : Unit) => True) (fun u => zW G (va_A [(h0, .inr (2, [.ref ra, .ref rb, .ref rc, .int (zI (k : Int)), .int (zI f0), .int (zI l0), .int (zI b0), .int (zI t0), .int (zI x0), .int (zI y0)])), zci G ra 10 P, zci G rb 10 Qu] sz) ((fun (u : Unit) => [(h0, .inr (2, [.ref ra, .ref rb, .ref rc, .int (zI (k : Int)), .int (zI f0), .int (zI l0), .int (zI b0), .int (zI t0), .int (zI x0), .int (zI y0)])), zci G ra 10 (zfill Qu P k), zci G rb 10 (zfill P Qu k)]) u)) (va_A [(h0, .inr (2, [.ref ra, .ref rb, .ref rc, .int (zI (k : Int)), .int (zI f0), .int (zI l0), .int (zI b0), .int (zI t0), .int (zI x0), .int (zI y0)])), zci G ra 10 P, zci G rb 10 Qu] sz)) 0 0 (va_A [(h0, .inr (2, [.ref ra, .ref rb, .ref rc, .int (zI (k : Int)), .int (zI f0), .int (zI l0), .int (zI b0), .int (zI t0), .int (zI x0), .int (zI y0)])), zci G ra 10 P, zci G rb 10 Qu] sz) := by
  refine zM_v (post := fun (u : Unit) => True) (w1 := fun (u : Unit) => [(h0, .inr (2, [.ref ra, .ref rb, .ref rc, .int (zI (k : Int)), .int (zI f0), .int (zI l0), .int (zI b0), .int (zI t0), .int (zI x0), .int (zI y0)])), zci G ra 10 (zfill Qu P k), zci G rb 10 (zfill P Qu k)]) (plainFor_of_name (by decide)) rfl (Nat.le_of_ble_eq_true rfl) ?_
  intro p e s m below meth c A Q S hN hK hP hD hS hA hret ls hl
  have hl : lv_has ls 3 [(0, .ref h0)] := hl
  refine zv_iconst S dX2_makeRowsColumns_0 ?_
  refine zv_istore_n (lv' := [(1, .int (zI 0)), (0, .ref h0)]) S dX2_makeRowsColumns_1 rfl hl (by decide) rfl (fun ls hl => ?_)
  have LP2 : ∀ (nf : Nat) (i : Nat) (v1 : Int) (u1 : Nat → Int) (u2 : Nat → Int) (hv1 : v1 = (i : Int)) (hi : i ≤ k) (hu1 : u1 = zfill Qu P i) (hu2 : u2 = zfill P Qu i), (k - i) < nf → ∀ (H : Heap) (locs : List Loc), va_P G.1 vwCl [(h0, .inr (2, [.ref ra, .ref rb, .ref rc, .int (zI (k : Int)), .int (zI f0), .int (zI l0), .int (zI b0), .int (zI t0), .int (zI x0), .int (zI y0)])), zci G ra 10 u1, zci G rb 10 u2] H → va_D A [(h0, .inr (2, [.ref ra, .ref rb, .ref rc, .int (zI (k : Int)), .int (zI f0), .int (zI l0), .int (zI b0), .int (zI t0), .int (zI x0), .int (zI y0)])), zci G ra 10 u1, zci G rb 10 u2] → va_S A s.heap H locs → ∀ ls : Array Slot, lv_has ls 3 [(1, .int (zI v1)), (0, .ref h0)] → W p l e ({ frames := 0, cells := 0, slots := 0, locals := 0 }) s m ([.ref h0]).toArray below meth c H locs 0 0 Q (F0 m 2 ls []) := by
    intro nf
    induction nf with
    | zero =>
      intro i v1 u1 u2 hv1 hi hu1 hu2 hf
      exact absurd hf (Nat.not_lt_zero _)
    | succ nf ih2 =>
      intro i v1 u1 u2 hv1 hi hu1 hu2 hf H locs hP hD hS ls hl
      refine zv_iload_n S dX2_makeRowsColumns_2 rfl (lv_at hl 0 rfl) ?_
      refine zv_aload_n S dX2_makeRowsColumns_3 rfl (lv_at hl 1 rfl) ?_
      refine zv_get (C := RX2) (T := TX2) (N := 10) (ci := 2) (v := .int (zI (k : Int))) S in_X2_makeRowsColumns_X2 hK hP 0 rfl rfl 3 (by decide) wd_X2_makeRowsColumns_f27 rfl rfl dX2_makeRowsColumns_4 ?_
      refine zv_icmp_ge (tgt := 42) S (by unfold zR; omega) (by unfold zR; omega) dX2_makeRowsColumns_7 (by decide) (fun c_1 => ?_) (fun c_1 => ?_)
      · have e : i = k := by omega
        rw [hu1, hu2, e] at hP hD
        exact hret _ _ _ _ () dX2_makeRowsColumns_42 trivial (hP.sub [0, 1, 2] rfl) (hD.sub [0, 1, 2] (by decide) rfl) hS
      · refine zv_aload_n S dX2_makeRowsColumns_10 rfl (lv_at hl 1 rfl) ?_
        refine zv_get (C := RX2) (T := TX2) (N := 10) (ci := 2) (v := .ref ra) S in_X2_makeRowsColumns_X2 hK hP 0 rfl rfl 0 (by decide) wd_X2_makeRowsColumns_f9 rfl rfl dX2_makeRowsColumns_11 ?_
        refine zv_iload_n S dX2_makeRowsColumns_14 rfl (lv_at hl 0 rfl) ?_
        refine zv_iald S hK hP 1 0 rfl rfl i (by omega) (by omega) (by decide) dX2_makeRowsColumns_15 ?_
        refine zv_istore_n (lv' := [(2, .int (zI (u1 i))), (1, .int (zI v1)), (0, .ref h0)]) S dX2_makeRowsColumns_16 rfl hl (by decide) rfl (fun ls hl => ?_)
        refine zv_aload_n S dX2_makeRowsColumns_17 rfl (lv_at hl 2 rfl) ?_
        refine zv_get (C := RX2) (T := TX2) (N := 10) (ci := 2) (v := .ref ra) S in_X2_makeRowsColumns_X2 hK hP 0 rfl rfl 0 (by decide) wd_X2_makeRowsColumns_f9 rfl rfl dX2_makeRowsColumns_18 ?_
        refine zv_iload_n S dX2_makeRowsColumns_21 rfl (lv_at hl 1 rfl) ?_
        refine zv_aload_n S dX2_makeRowsColumns_22 rfl (lv_at hl 2 rfl) ?_
        refine zv_get (C := RX2) (T := TX2) (N := 10) (ci := 2) (v := .ref rb) S in_X2_makeRowsColumns_X2 hK hP 0 rfl rfl 1 (by decide) wd_X2_makeRowsColumns_f15 rfl rfl dX2_makeRowsColumns_23 ?_
        refine zv_iload_n S dX2_makeRowsColumns_26 rfl (lv_at hl 1 rfl) ?_
        refine zv_iald S hK hP 2 0 rfl rfl i (by omega) (by omega) (by decide) dX2_makeRowsColumns_27 ?_
        refine zv_iast S hK hP hD hS 1 0 rfl rfl i (by omega) (by omega) (by decide) dX2_makeRowsColumns_28 (fun H locs hP hD hS => ?_)
        have hP : va_P G.1 vwCl [(h0, .inr (2, [.ref ra, .ref rb, .ref rc, .int (zI (k : Int)), .int (zI f0), .int (zI l0), .int (zI b0), .int (zI t0), .int (zI x0), .int (zI y0)])), zci G ra 10 (zU u1 i (u2 i)), zci G rb 10 u2] H := hP
        have hD : va_D A [(h0, .inr (2, [.ref ra, .ref rb, .ref rc, .int (zI (k : Int)), .int (zI f0), .int (zI l0), .int (zI b0), .int (zI t0), .int (zI x0), .int (zI y0)])), zci G ra 10 (zU u1 i (u2 i)), zci G rb 10 u2] := hD
        refine zv_aload_n S dX2_makeRowsColumns_29 rfl (lv_at hl 2 rfl) ?_
        refine zv_get (C := RX2) (T := TX2) (N := 10) (ci := 2) (v := .ref rb) S in_X2_makeRowsColumns_X2 hK hP 0 rfl rfl 1 (by decide) wd_X2_makeRowsColumns_f15 rfl rfl dX2_makeRowsColumns_30 ?_
        refine zv_iload_n S dX2_makeRowsColumns_33 rfl (lv_at hl 1 rfl) ?_
        refine zv_iload_n S dX2_makeRowsColumns_34 rfl (lv_at hl 0 rfl) ?_
        refine zv_iast S hK hP hD hS 2 0 rfl rfl i (by omega) (by omega) (by decide) dX2_makeRowsColumns_35 (fun H locs hP hD hS => ?_)
        have hP : va_P G.1 vwCl [(h0, .inr (2, [.ref ra, .ref rb, .ref rc, .int (zI (k : Int)), .int (zI f0), .int (zI l0), .int (zI b0), .int (zI t0), .int (zI x0), .int (zI y0)])), zci G ra 10 (zU u1 i (u2 i)), zci G rb 10 (zU u2 i (u1 i))] H := hP
        have hD : va_D A [(h0, .inr (2, [.ref ra, .ref rb, .ref rc, .int (zI (k : Int)), .int (zI f0), .int (zI l0), .int (zI b0), .int (zI t0), .int (zI x0), .int (zI y0)])), zci G ra 10 (zU u1 i (u2 i)), zci G rb 10 (zU u2 i (u1 i))] := hD
        refine zv_iinc (k0 := 1) (lv' := [(1, .int (zI (v1 + 1))), (2, .int (zI (u1 i))), (0, .ref h0)]) S dX2_makeRowsColumns_36 hl rfl (by decide) rfl (fun ls hl => ?_)
        refine zv_goto (tgt := 2) S dX2_makeRowsColumns_39 (by decide) ?_
        exact ih2 (i + 1) (v1 + 1) (zU u1 i (u2 i)) (zU u2 i (u1 i)) (by omega) (by omega) (by rw [hu1]; exact zfill_next (by rw [hu2, zfill_out (Nat.le_refl i)])) (by rw [hu2]; exact zfill_next (by rw [hu1, zfill_out (Nat.le_refl i)])) (by omega) _ _ hP hD hS _ (lv_sub hl [0, 2] rfl)
  exact LP2 _ 0 0 P Qu rfl (Nat.zero_le _) zfill_0.symm zfill_0.symm (Nat.lt_succ_self _) _ _ hP hD hS _ (lv_sub hl [0, 1] rfl)

theorem wd_X2_leaveOutEdges_f27 : Cond.fieldLink RX2 27 "PointMill$Region" "size" "I" ∈ wsX2_leaveOutEdges := by decide +kernel
theorem in_X2_leaveOutEdges_X2 : ∀ w ∈ wsX20, w ∈ wsX2_leaveOutEdges := by decide +kernel
theorem wd_X2_leaveOutEdges_f18 : Cond.fieldLink RX2 18 "PointMill$Region" "limit" "[I" ∈ wsX2_leaveOutEdges := by decide +kernel
set_option maxHeartbeats 4000000 in
set_option maxRecDepth 100000 in
/-- Region.leaveOutEdges -/
theorem c_X2_leaveOutEdges (l : Launch) (G : zG) (sz : Nat) (h0 : Nat) (ra : Nat) (rb : Nat) (rc : Nat) (M : Nat → Int) (k : Nat) (f0 : Int) (l0 : Int) (b0 : Int) (t0 : Int) (x0 : Int) (y0 : Int) (hk : k ≤ 10) : Met l yX2_leaveOutEdges wsX2_leaveOutEdges ({ frames := 0, cells := 0, slots := 0, locals := 0 }) (va_Pc [.ref h0] (zPre G sz [(h0, .inr (2, [.ref ra, .ref rb, .ref rc, .int (zI (k : Int)), .int (zI f0), .int (zI l0), .int (zI b0), .int (zI t0), .int (zI x0), .int (zI y0)])), zci G rc 10 M])) (va_Qv (fun (u : Unit) => True) (fun u => zW G (va_A [(h0, .inr (2, [.ref ra, .ref rb, .ref rc, .int (zI (k : Int)), .int (zI f0), .int (zI l0), .int (zI b0), .int (zI t0), .int (zI x0), .int (zI y0)])), zci G rc 10 M] sz) ((fun (u : Unit) => [(h0, .inr (2, [.ref ra, .ref rb, .ref rc, .int (zI (k : Int)), .int (zI f0), .int (zI l0), .int (zI b0), .int (zI t0), .int (zI x0), .int (zI y0)])), zci G rc 10 (zfill (fun j => M j - 1) M k)]) u)) (va_A [(h0, .inr (2, [.ref ra, .ref rb, .ref rc, .int (zI (k : Int)), .int (zI f0), .int (zI l0), .int (zI b0), .int (zI t0), .int (zI x0), .int (zI y0)])), zci G rc 10 M] sz)) 0 0 (va_A [(h0, .inr (2, [.ref ra, .ref rb, .ref rc, .int (zI (k : Int)), .int (zI f0), .int (zI l0), .int (zI b0), .int (zI t0), .int (zI x0), .int (zI y0)])), zci G rc 10 M] sz) := by
  refine zM_v (post := fun (u : Unit) => True) (w1 := fun (u : Unit) => [(h0, .inr (2, [.ref ra, .ref rb, .ref rc, .int (zI (k : Int)), .int (zI f0), .int (zI l0), .int (zI b0), .int (zI t0), .int (zI x0), .int (zI y0)])), zci G rc 10 (zfill (fun j => M j - 1) M k)]) (plainFor_of_name (by decide)) rfl (Nat.le_of_ble_eq_true rfl) ?_
  intro p e s m below meth c A Q S hN hK hP hD hS hA hret ls hl
  have hl : lv_has ls 2 [(0, .ref h0)] := hl
  refine zv_iconst S dX2_leaveOutEdges_0 ?_
  refine zv_istore_n (lv' := [(1, .int (zI 0)), (0, .ref h0)]) S dX2_leaveOutEdges_1 rfl hl (by decide) rfl (fun ls hl => ?_)
  have LP2 : ∀ (nf : Nat) (i : Nat) (v1 : Int) (u3 : Nat → Int) (hv1 : v1 = (i : Int)) (hi : i ≤ k) (hu3 : u3 = zfill (fun j => M j - 1) M i), (k - i) < nf → ∀ (H : Heap) (locs : List Loc), va_P G.1 vwCl [(h0, .inr (2, [.ref ra, .ref rb, .ref rc, .int (zI (k : Int)), .int (zI f0), .int (zI l0), .int (zI b0), .int (zI t0), .int (zI x0), .int (zI y0)])), zci G rc 10 u3] H → va_D A [(h0, .inr (2, [.ref ra, .ref rb, .ref rc, .int (zI (k : Int)), .int (zI f0), .int (zI l0), .int (zI b0), .int (zI t0), .int (zI x0), .int (zI y0)])), zci G rc 10 u3] → va_S A s.heap H locs → ∀ ls : Array Slot, lv_has ls 2 [(1, .int (zI v1)), (0, .ref h0)] → W p l e ({ frames := 0, cells := 0, slots := 0, locals := 0 }) s m ([.ref h0]).toArray below meth c H locs 0 0 Q (F0 m 2 ls []) := by
    intro nf
    induction nf with
    | zero =>
      intro i v1 u3 hv1 hi hu3 hf
      exact absurd hf (Nat.not_lt_zero _)
    | succ nf ih2 =>
      intro i v1 u3 hv1 hi hu3 hf H locs hP hD hS ls hl
      refine zv_iload_n S dX2_leaveOutEdges_2 rfl (lv_at hl 0 rfl) ?_
      refine zv_aload_n S dX2_leaveOutEdges_3 rfl (lv_at hl 1 rfl) ?_
      refine zv_get (C := RX2) (T := TX2) (N := 10) (ci := 2) (v := .int (zI (k : Int))) S in_X2_leaveOutEdges_X2 hK hP 0 rfl rfl 3 (by decide) wd_X2_leaveOutEdges_f27 rfl rfl dX2_leaveOutEdges_4 ?_
      refine zv_icmp_ge (tgt := 26) S (by unfold zR; omega) (by unfold zR; omega) dX2_leaveOutEdges_7 (by decide) (fun c_1 => ?_) (fun c_1 => ?_)
      · have e : i = k := by omega
        rw [hu3, e] at hP hD
        exact hret _ _ _ _ () dX2_leaveOutEdges_26 trivial (hP.sub [0, 1] rfl) (hD.sub [0, 1] (by decide) rfl) hS
      · refine zv_aload_n S dX2_leaveOutEdges_10 rfl (lv_at hl 1 rfl) ?_
        refine zv_get (C := RX2) (T := TX2) (N := 10) (ci := 2) (v := .ref rc) S in_X2_leaveOutEdges_X2 hK hP 0 rfl rfl 2 (by decide) wd_X2_leaveOutEdges_f18 rfl rfl dX2_leaveOutEdges_11 ?_
        refine zv_iload_n S dX2_leaveOutEdges_14 rfl (lv_at hl 0 rfl) ?_
        refine zv_dup2_11 S dX2_leaveOutEdges_15 rfl rfl ?_
        refine zv_iald S hK hP 1 0 rfl rfl i (by omega) (by omega) (by decide) dX2_leaveOutEdges_16 ?_
        refine zv_iconst S dX2_leaveOutEdges_17 ?_
        refine zv_isub S dX2_leaveOutEdges_18 ?_
        refine zv_iast S hK hP hD hS 1 0 rfl rfl i (by omega) (by omega) (by decide) dX2_leaveOutEdges_19 (fun H locs hP hD hS => ?_)
        have hP : va_P G.1 vwCl [(h0, .inr (2, [.ref ra, .ref rb, .ref rc, .int (zI (k : Int)), .int (zI f0), .int (zI l0), .int (zI b0), .int (zI t0), .int (zI x0), .int (zI y0)])), zci G rc 10 (zU u3 i ((u3 i) - 1))] H := hP
        have hD : va_D A [(h0, .inr (2, [.ref ra, .ref rb, .ref rc, .int (zI (k : Int)), .int (zI f0), .int (zI l0), .int (zI b0), .int (zI t0), .int (zI x0), .int (zI y0)])), zci G rc 10 (zU u3 i ((u3 i) - 1))] := hD
        refine zv_iinc (k0 := 0) (lv' := [(1, .int (zI (v1 + 1))), (0, .ref h0)]) S dX2_leaveOutEdges_20 hl rfl (by decide) rfl (fun ls hl => ?_)
        refine zv_goto (tgt := 2) S dX2_leaveOutEdges_23 (by decide) ?_
        exact ih2 (i + 1) (v1 + 1) (zU u3 i ((u3 i) - 1)) (by omega) (by omega) (by rw [hu3]; exact zfill_next (by rw [zfill_out (Nat.le_refl i)])) (by omega) _ _ hP hD hS _ (lv_sub hl [0, 1] rfl)
  exact LP2 _ 0 0 M rfl (Nat.zero_le _) zfill_0.symm (Nat.lt_succ_self _) _ _ hP hD hS _ (lv_sub hl [0, 1] rfl)

theorem wd_X2_narrow_f43 : Cond.fieldLink RX2 43 "PointMill$Region" "firstColumn" "I" ∈ wsX2_narrow := by decide +kernel
theorem in_X2_narrow_X2 : ∀ w ∈ wsX20, w ∈ wsX2_narrow := by decide +kernel
theorem wd_X2_narrow_m59 : Cond.methodLink RX2 59 Lib.Math.max.name ∈ wsX2_narrow := by decide +kernel
theorem wd_X2_narrow_smax : Cond.static Lib.Math.max.name ∈ wsX2_narrow := by decide +kernel
theorem wd_X2_narrow_iM : Cond.initialized "java/lang/Math" ∈ wsX2_narrow := by decide +kernel
theorem wd_X2_narrow_cmax : Cond.code Lib.Math.max.name Lib.Math.max.code 2 (some .int) ∈ wsX2_narrow := by decide +kernel
theorem wd_X2_narrow_f46 : Cond.fieldLink RX2 46 "PointMill$Region" "lastColumn" "I" ∈ wsX2_narrow := by decide +kernel
theorem wd_X2_narrow_m80 : Cond.methodLink RX2 80 Lib.Math.min.name ∈ wsX2_narrow := by decide +kernel
theorem wd_X2_narrow_smin : Cond.static Lib.Math.min.name ∈ wsX2_narrow := by decide +kernel
theorem wd_X2_narrow_cmin : Cond.code Lib.Math.min.name Lib.Math.min.code 2 (some .int) ∈ wsX2_narrow := by decide +kernel
set_option maxHeartbeats 4000000 in
set_option maxRecDepth 100000 in
/-- Region.narrow -/
theorem c_X2_narrow (l : Launch) (G : zG) (sz : Nat) (h0 : Nat) (ra : Nat) (rb : Nat) (rc : Nat) (k : Nat) (f0 : Int) (l0 : Int) (b0 : Int) (t0 : Int) (x0 : Int) (y0 : Int) (fx : Int) (mx : Int) (hf : -2000000 ≤ fx ∧ fx ≤ 2000000) (hm : -2000000 ≤ mx ∧ mx ≤ 2000000) (hf0 : -2000000 ≤ f0 ∧ f0 ≤ 2000000) (hl0 : -2000000 ≤ l0 ∧ l0 ≤ 2000000) : Met l yX2_narrow wsX2_narrow ({ frames := 1, cells := 0, slots := 0, locals := 22 }) (va_Pc [.ref h0, .int (zI fx), .int (zI mx)] (zPre G sz [(h0, .inr (2, [.ref ra, .ref rb, .ref rc, .int (zI (k : Int)), .int (zI f0), .int (zI l0), .int (zI b0), .int (zI t0), .int (zI x0), .int (zI y0)]))])) (va_Qv (fun (u : Unit) => True) (fun u => zW G (va_A [(h0, .inr (2, [.ref ra, .ref rb, .ref rc, .int (zI (k : Int)), .int (zI f0), .int (zI l0), .int (zI b0), .int (zI t0), .int (zI x0), .int (zI y0)]))] sz) ((fun (u : Unit) => [(h0, .inr (2, [.ref ra, .ref rb, .ref rc, .int (zI (k : Int)), .int (zI (znf fx mx f0)), .int (zI (znl fx mx l0)), .int (zI b0), .int (zI t0), .int (zI x0), .int (zI y0)]))]) u)) (va_A [(h0, .inr (2, [.ref ra, .ref rb, .ref rc, .int (zI (k : Int)), .int (zI f0), .int (zI l0), .int (zI b0), .int (zI t0), .int (zI x0), .int (zI y0)]))] sz)) 0 0 (va_A [(h0, .inr (2, [.ref ra, .ref rb, .ref rc, .int (zI (k : Int)), .int (zI f0), .int (zI l0), .int (zI b0), .int (zI t0), .int (zI x0), .int (zI y0)]))] sz) := by
  refine zM_v (post := fun (u : Unit) => True) (w1 := fun (u : Unit) => [(h0, .inr (2, [.ref ra, .ref rb, .ref rc, .int (zI (k : Int)), .int (zI (znf fx mx f0)), .int (zI (znl fx mx l0)), .int (zI b0), .int (zI t0), .int (zI x0), .int (zI y0)]))]) (plainFor_of_name (by decide)) rfl (Nat.le_of_ble_eq_true rfl) ?_
  intro p e s m below meth c A Q S hN hK hP hD hS hA hret ls hl
  have hl : lv_has ls 3 [(0, .ref h0), (1, .int (zI fx)), (2, .int (zI mx))] := hl
  refine zv_iload_n S dX2_narrow_0 rfl (lv_at hl 1 rfl) ?_
  refine zv_if_le (tgt := 23) S (by unfold zR; omega) dX2_narrow_1 (by decide) (fun c_1 => ?_) (fun c_1 => ?_)
  · refine zv_iload_n S dX2_narrow_23 rfl (lv_at hl 1 rfl) ?_
    refine zv_if_ge (tgt := 45) S (by unfold zR; omega) dX2_narrow_24 (by decide) (fun c_2 => ?_) (fun c_2 => ?_)
    · have e1 : znf fx mx f0 = f0 := if_neg (by omega)
      have e2 : znl fx mx l0 = l0 := if_neg (by omega)
      rw [← e2] at hP hD
      rw [← e1] at hP hD
      exact hret _ _ _ _ () dX2_narrow_45 trivial (hP.sub [0] rfl) (hD.sub [0] (by decide) rfl) hS
    · refine zv_aload_n S dX2_narrow_27 rfl (lv_at hl 0 rfl) ?_
      refine zv_aload_n S dX2_narrow_28 rfl (lv_at hl 0 rfl) ?_
      refine zv_get (C := RX2) (T := TX2) (N := 10) (ci := 2) (v := .int (zI f0)) S in_X2_narrow_X2 hK hP 0 rfl rfl 4 (by decide) wd_X2_narrow_f43 rfl rfl dX2_narrow_29 ?_
      refine zv_iload_n S dX2_narrow_32 rfl (lv_at hl 2 rfl) ?_
      refine zv_iload_n S dX2_narrow_33 rfl (lv_at hl 1 rfl) ?_
      refine zv_ineg S dX2_narrow_34 ?_
      refine zc_Si (As := [.int (zI mx), .int (zI (-fx))]) (rest := [.int (zI f0), .ref h0]) (wr := [(h0, .inr (2, [.ref ra, .ref rb, .ref rc, .int (zI (k : Int)), .int (zI f0), .int (zI l0), .int (zI b0), .int (zI t0), .int (zI x0), .int (zI y0)]))]) (n := 2) S hN hK hP hD hS hA hl (c_J9_floorDiv_7cf53 l G s.heap.size mx (-fx) (by omega) (by omega)) gX2_narrow_J9_floorDiv_7cf53 rfl ⟨rfl, rfl⟩ (by decide +kernel) rfl ⟨Nat.le_of_ble_eq_true rfl, Nat.le_of_ble_eq_true rfl, Nat.le_of_ble_eq_true rfl, Nat.le_of_ble_eq_true rfl⟩ [] [0] rfl rfl (by decide) (by decide) (by decide) (Nat.le_of_ble_eq_true rfl) dX2_narrow_35 rfl (fun r_ u_3 H1 locs1 hp_4 hP1 hD1 hS1 hz1 => ?_)
      try dsimp only at hp_4 hP1 hD1
      subst hp_4
      generalize H1 = H at hP1 hD1 hS1 hz1 ⊢
      generalize locs1 = locs at hS1 ⊢
      have hS := hS1
      have hP : va_P G.1 vwCl [(h0, .inr (2, [.ref ra, .ref rb, .ref rc, .int (zI (k : Int)), .int (zI f0), .int (zI l0), .int (zI b0), .int (zI t0), .int (zI x0), .int (zI y0)]))] H := hP1
      have hD : va_D A [(h0, .inr (2, [.ref ra, .ref rb, .ref rc, .int (zI (k : Int)), .int (zI f0), .int (zI l0), .int (zI b0), .int (zI t0), .int (zI x0), .int (zI y0)]))] := hD1
      have k1 := zdivb (show 0 < -fx by omega) hm.1 hm.2
      refine zv_ineg S dX2_narrow_38 ?_
      refine zv_max S hl (by unfold zR; omega) (by unfold zR; omega) wd_X2_narrow_m59 wd_X2_narrow_smax wd_X2_narrow_iM wd_X2_narrow_cmax (by decide) (Nat.le_of_ble_eq_true rfl) (Nat.le_of_ble_eq_true rfl) (Nat.le_of_ble_eq_true rfl) dX2_narrow_39 ?_
      refine zv_put (C := RX2) (T := TX2) (N := 10) (ci := 2) (v := .int (zI (zmax f0 (-(mx / (-fx)))))) S in_X2_narrow_X2 tyX2 tyX2_ok nmX2 hK hP hD hS 0 rfl rfl 4 (by decide) wd_X2_narrow_f43 rfl rfl rfl rfl (Nat.le_of_ble_eq_true rfl) dX2_narrow_42 (fun H locs hP hD hS => ?_)
      have hP : va_P G.1 vwCl [(h0, .inr (2, [.ref ra, .ref rb, .ref rc, .int (zI (k : Int)), .int (zI (zmax f0 (-(mx / (-fx))))), .int (zI l0), .int (zI b0), .int (zI t0), .int (zI x0), .int (zI y0)]))] H := hP
      have hD : va_D A [(h0, .inr (2, [.ref ra, .ref rb, .ref rc, .int (zI (k : Int)), .int (zI (zmax f0 (-(mx / (-fx))))), .int (zI l0), .int (zI b0), .int (zI t0), .int (zI x0), .int (zI y0)]))] := hD
      have e1 : znf fx mx f0 = zmax f0 (-(mx / -fx)) := if_pos (by omega)
      have e2 : znl fx mx l0 = l0 := if_neg (by omega)
      rw [← e2] at hP hD
      rw [← e1] at hP hD
      exact hret _ _ _ _ () dX2_narrow_45 trivial (hP.sub [0] rfl) (hD.sub [0] (by decide) rfl) hS
  · refine zv_aload_n S dX2_narrow_4 rfl (lv_at hl 0 rfl) ?_
    refine zv_aload_n S dX2_narrow_5 rfl (lv_at hl 0 rfl) ?_
    refine zv_get (C := RX2) (T := TX2) (N := 10) (ci := 2) (v := .int (zI l0)) S in_X2_narrow_X2 hK hP 0 rfl rfl 5 (by decide) wd_X2_narrow_f46 rfl rfl dX2_narrow_6 ?_
    refine zv_iload_n S dX2_narrow_9 rfl (lv_at hl 2 rfl) ?_
    refine zv_iload_n S dX2_narrow_10 rfl (lv_at hl 1 rfl) ?_
    refine zc_Si (As := [.int (zI mx), .int (zI fx)]) (rest := [.int (zI l0), .ref h0]) (wr := [(h0, .inr (2, [.ref ra, .ref rb, .ref rc, .int (zI (k : Int)), .int (zI f0), .int (zI l0), .int (zI b0), .int (zI t0), .int (zI x0), .int (zI y0)]))]) (n := 2) S hN hK hP hD hS hA hl (c_J9_floorDiv_7cf53 l G s.heap.size mx fx (by omega) (by omega)) gX2_narrow_J9_floorDiv_7cf53 rfl ⟨rfl, rfl⟩ (by decide +kernel) rfl ⟨Nat.le_of_ble_eq_true rfl, Nat.le_of_ble_eq_true rfl, Nat.le_of_ble_eq_true rfl, Nat.le_of_ble_eq_true rfl⟩ [] [0] rfl rfl (by decide) (by decide) (by decide) (Nat.le_of_ble_eq_true rfl) dX2_narrow_11 rfl (fun r_ u_5 H1 locs1 hp_6 hP1 hD1 hS1 hz1 => ?_)
    try dsimp only at hp_6 hP1 hD1
    subst hp_6
    generalize H1 = H at hP1 hD1 hS1 hz1 ⊢
    generalize locs1 = locs at hS1 ⊢
    have hS := hS1
    have hP : va_P G.1 vwCl [(h0, .inr (2, [.ref ra, .ref rb, .ref rc, .int (zI (k : Int)), .int (zI f0), .int (zI l0), .int (zI b0), .int (zI t0), .int (zI x0), .int (zI y0)]))] H := hP1
    have hD : va_D A [(h0, .inr (2, [.ref ra, .ref rb, .ref rc, .int (zI (k : Int)), .int (zI f0), .int (zI l0), .int (zI b0), .int (zI t0), .int (zI x0), .int (zI y0)]))] := hD1
    have k1 := zdivb (show 0 < fx by omega) hm.1 hm.2
    refine zv_min S hl (by unfold zR; omega) (by unfold zR; omega) wd_X2_narrow_m80 wd_X2_narrow_smin wd_X2_narrow_iM wd_X2_narrow_cmin (by decide) (Nat.le_of_ble_eq_true rfl) (Nat.le_of_ble_eq_true rfl) (Nat.le_of_ble_eq_true rfl) dX2_narrow_14 ?_
    refine zv_put (C := RX2) (T := TX2) (N := 10) (ci := 2) (v := .int (zI (zmin l0 (mx / fx)))) S in_X2_narrow_X2 tyX2 tyX2_ok nmX2 hK hP hD hS 0 rfl rfl 5 (by decide) wd_X2_narrow_f46 rfl rfl rfl rfl (Nat.le_of_ble_eq_true rfl) dX2_narrow_17 (fun H locs hP hD hS => ?_)
    have hP : va_P G.1 vwCl [(h0, .inr (2, [.ref ra, .ref rb, .ref rc, .int (zI (k : Int)), .int (zI f0), .int (zI (zmin l0 (mx / fx))), .int (zI b0), .int (zI t0), .int (zI x0), .int (zI y0)]))] H := hP
    have hD : va_D A [(h0, .inr (2, [.ref ra, .ref rb, .ref rc, .int (zI (k : Int)), .int (zI f0), .int (zI (zmin l0 (mx / fx))), .int (zI b0), .int (zI t0), .int (zI x0), .int (zI y0)]))] := hD
    refine zv_goto (tgt := 45) S dX2_narrow_20 (by decide) ?_
    have e1 : znf fx mx f0 = f0 := if_neg (by omega)
    have e2 : znl fx mx l0 = zmin l0 (mx / fx) := if_pos (by omega)
    rw [← e2] at hP hD
    rw [← e1] at hP hD
    exact hret _ _ _ _ () dX2_narrow_45 trivial (hP.sub [0] rfl) (hD.sub [0] (by decide) rfl) hS
