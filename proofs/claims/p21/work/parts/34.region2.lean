theorem wd_X2_findColumns_k71 : Cond.constant RX2 71 (-2000000) ∈ wsX2_findColumns := by decide +kernel
theorem wd_X2_findColumns_f43 : Cond.fieldLink RX2 43 "PointMill$Region" "firstColumn" "I" ∈ wsX2_findColumns := by decide +kernel
theorem in_X2_findColumns_X2 : ∀ w ∈ wsX20, w ∈ wsX2_findColumns := by decide +kernel
theorem wd_X2_findColumns_k72 : Cond.constant RX2 72 (2000000) ∈ wsX2_findColumns := by decide +kernel
theorem wd_X2_findColumns_f46 : Cond.fieldLink RX2 46 "PointMill$Region" "lastColumn" "I" ∈ wsX2_findColumns := by decide +kernel
theorem wd_X2_findColumns_f27 : Cond.fieldLink RX2 27 "PointMill$Region" "size" "I" ∈ wsX2_findColumns := by decide +kernel
theorem wd_X2_findColumns_f15 : Cond.fieldLink RX2 15 "PointMill$Region" "upward" "[I" ∈ wsX2_findColumns := by decide +kernel
theorem wd_X2_findColumns_f9 : Cond.fieldLink RX2 9 "PointMill$Region" "across" "[I" ∈ wsX2_findColumns := by decide +kernel
theorem wd_X2_findColumns_f18 : Cond.fieldLink RX2 18 "PointMill$Region" "limit" "[I" ∈ wsX2_findColumns := by decide +kernel
set_option maxHeartbeats 4000000 in
set_option maxRecDepth 100000 in
/-- Region.findColumns -/
theorem c_X2_findColumns (l : Launch) (G : zG) (sz : Nat) (h0 : Nat) (ra : Nat) (rb : Nat) (rc : Nat) (P : Nat → Int) (Qu : Nat → Int) (M : Nat → Int) (k : Nat) (f0 : Int) (l0 : Int) (b0 : Int) (t0 : Int) (x0 : Int) (y0 : Int) (hk : k ≤ 10) (hP0 : ∀ j, j < k → -60 ≤ P j ∧ P j ≤ 60) (hQ0 : ∀ j, j < k → -60 ≤ Qu j ∧ Qu j ≤ 60) (hM0 : ∀ j, j < k → -9999 ≤ M j ∧ M j ≤ 9999) : Met l yX2_findColumns wsX2_findColumns ({ frames := 2, cells := 0, slots := 0, locals := 44 }) (va_Pc [.ref h0] (zPre G sz [(h0, .inr (2, [.ref ra, .ref rb, .ref rc, .int (zI (k : Int)), .int (zI f0), .int (zI l0), .int (zI b0), .int (zI t0), .int (zI x0), .int (zI y0)])), zci G ra 10 P, zci G rb 10 Qu, zci G rc 10 M])) (va_Qv (fun (u : (Int) × (Int)) => (-2000000 ≤ u.1 ∧ u.1 ≤ 2000000) ∧ (-2000000 ≤ u.2 ∧ u.2 ≤ 2000000) ∧ (∀ x, (u.1 ≤ x ∧ x ≤ u.2) ↔ (-2000000 ≤ x ∧ x ≤ 2000000 ∧ zcc P Qu M k k x))) (fun u => zW G (va_A [(h0, .inr (2, [.ref ra, .ref rb, .ref rc, .int (zI (k : Int)), .int (zI f0), .int (zI l0), .int (zI b0), .int (zI t0), .int (zI x0), .int (zI y0)])), zci G ra 10 P, zci G rb 10 Qu, zci G rc 10 M] sz) ((fun (u : (Int) × (Int)) => [(h0, .inr (2, [.ref ra, .ref rb, .ref rc, .int (zI (k : Int)), .int (zI u.1), .int (zI u.2), .int (zI b0), .int (zI t0), .int (zI x0), .int (zI y0)])), zci G ra 10 P, zci G rb 10 Qu, zci G rc 10 M]) u)) (va_A [(h0, .inr (2, [.ref ra, .ref rb, .ref rc, .int (zI (k : Int)), .int (zI f0), .int (zI l0), .int (zI b0), .int (zI t0), .int (zI x0), .int (zI y0)])), zci G ra 10 P, zci G rb 10 Qu, zci G rc 10 M] sz)) 0 0 (va_A [(h0, .inr (2, [.ref ra, .ref rb, .ref rc, .int (zI (k : Int)), .int (zI f0), .int (zI l0), .int (zI b0), .int (zI t0), .int (zI x0), .int (zI y0)])), zci G ra 10 P, zci G rb 10 Qu, zci G rc 10 M] sz) := by
  refine zM_v (post := fun (u : (Int) × (Int)) => (-2000000 ≤ u.1 ∧ u.1 ≤ 2000000) ∧ (-2000000 ≤ u.2 ∧ u.2 ≤ 2000000) ∧ (∀ x, (u.1 ≤ x ∧ x ≤ u.2) ↔ (-2000000 ≤ x ∧ x ≤ 2000000 ∧ zcc P Qu M k k x))) (w1 := fun (u : (Int) × (Int)) => [(h0, .inr (2, [.ref ra, .ref rb, .ref rc, .int (zI (k : Int)), .int (zI u.1), .int (zI u.2), .int (zI b0), .int (zI t0), .int (zI x0), .int (zI y0)])), zci G ra 10 P, zci G rb 10 Qu, zci G rc 10 M]) (plainFor_of_name (by decide)) rfl (Nat.le_of_ble_eq_true rfl) ?_
  intro p e s m below meth c A Q S hN hK hP hD hS hA hret ls hl
  have hl : lv_has ls 3 [(0, .ref h0)] := hl
  refine zv_aload_n S dX2_findColumns_0 rfl (lv_at hl 0 rfl) ?_
  refine zv_ldc (v := (-2000000)) S wd_X2_findColumns_k71 (by decide) dX2_findColumns_1 ?_
  refine zv_put (C := RX2) (T := TX2) (N := 10) (ci := 2) (v := .int (zI (-2000000))) S in_X2_findColumns_X2 tyX2 tyX2_ok nmX2 hK hP hD hS 0 rfl rfl 4 (by decide) wd_X2_findColumns_f43 rfl rfl rfl rfl (Nat.le_of_ble_eq_true rfl) dX2_findColumns_3 (fun H locs hP hD hS => ?_)
  have hP : va_P G.1 vwCl [(h0, .inr (2, [.ref ra, .ref rb, .ref rc, .int (zI (k : Int)), .int (zI (-2000000)), .int (zI l0), .int (zI b0), .int (zI t0), .int (zI x0), .int (zI y0)])), zci G ra 10 P, zci G rb 10 Qu, zci G rc 10 M] H := hP
  have hD : va_D A [(h0, .inr (2, [.ref ra, .ref rb, .ref rc, .int (zI (k : Int)), .int (zI (-2000000)), .int (zI l0), .int (zI b0), .int (zI t0), .int (zI x0), .int (zI y0)])), zci G ra 10 P, zci G rb 10 Qu, zci G rc 10 M] := hD
  refine zv_aload_n S dX2_findColumns_6 rfl (lv_at hl 0 rfl) ?_
  refine zv_ldc (v := 2000000) S wd_X2_findColumns_k72 (by decide) dX2_findColumns_7 ?_
  refine zv_put (C := RX2) (T := TX2) (N := 10) (ci := 2) (v := .int (zI 2000000)) S in_X2_findColumns_X2 tyX2 tyX2_ok nmX2 hK hP hD hS 0 rfl rfl 5 (by decide) wd_X2_findColumns_f46 rfl rfl rfl rfl (Nat.le_of_ble_eq_true rfl) dX2_findColumns_9 (fun H locs hP hD hS => ?_)
  have hP : va_P G.1 vwCl [(h0, .inr (2, [.ref ra, .ref rb, .ref rc, .int (zI (k : Int)), .int (zI (-2000000)), .int (zI 2000000), .int (zI b0), .int (zI t0), .int (zI x0), .int (zI y0)])), zci G ra 10 P, zci G rb 10 Qu, zci G rc 10 M] H := hP
  have hD : va_D A [(h0, .inr (2, [.ref ra, .ref rb, .ref rc, .int (zI (k : Int)), .int (zI (-2000000)), .int (zI 2000000), .int (zI b0), .int (zI t0), .int (zI x0), .int (zI y0)])), zci G ra 10 P, zci G rb 10 Qu, zci G rc 10 M] := hD
  refine zv_iconst S dX2_findColumns_12 ?_
  refine zv_istore_n (lv' := [(1, .int (zI 0)), (0, .ref h0)]) S dX2_findColumns_13 rfl hl (by decide) rfl (fun ls hl => ?_)
  have LP14 : ∀ (nf : Nat) (i : Nat) (v1 : Int) (f1 : Int) (l1 : Int) (hv1 : v1 = (i : Int)) (hi : i ≤ k) (hf1 : -2000000 ≤ f1 ∧ f1 ≤ 2000000) (hl1 : -2000000 ≤ l1 ∧ l1 ≤ 2000000) (hv : ∀ x, (f1 ≤ x ∧ x ≤ l1) ↔ (-2000000 ≤ x ∧ x ≤ 2000000 ∧ zcc P Qu M k i x)), (k - i) < nf → ∀ (H : Heap) (locs : List Loc), va_P G.1 vwCl [(h0, .inr (2, [.ref ra, .ref rb, .ref rc, .int (zI (k : Int)), .int (zI f1), .int (zI l1), .int (zI b0), .int (zI t0), .int (zI x0), .int (zI y0)])), zci G ra 10 P, zci G rb 10 Qu, zci G rc 10 M] H → va_D A [(h0, .inr (2, [.ref ra, .ref rb, .ref rc, .int (zI (k : Int)), .int (zI f1), .int (zI l1), .int (zI b0), .int (zI t0), .int (zI x0), .int (zI y0)])), zci G ra 10 P, zci G rb 10 Qu, zci G rc 10 M] → va_S A s.heap H locs → ∀ ls : Array Slot, lv_has ls 3 [(1, .int (zI v1)), (0, .ref h0)] → W p l e ({ frames := 2, cells := 0, slots := 0, locals := 44 }) s m ([.ref h0]).toArray below meth c H locs 0 0 Q (F0 m 14 ls []) := by
    intro nf
    induction nf with
    | zero =>
      intro i v1 f1 l1 hv1 hi hf1 hl1 hv hf
      exact absurd hf (Nat.not_lt_zero _)
    | succ nf ih14 =>
      intro i v1 f1 l1 hv1 hi hf1 hl1 hv hf H locs hP hD hS ls hl
      refine zv_iload_n S dX2_findColumns_14 rfl (lv_at hl 0 rfl) ?_
      refine zv_aload_n S dX2_findColumns_15 rfl (lv_at hl 1 rfl) ?_
      refine zv_get (C := RX2) (T := TX2) (N := 10) (ci := 2) (v := .int (zI (k : Int))) S in_X2_findColumns_X2 hK hP 0 rfl rfl 3 (by decide) wd_X2_findColumns_f27 rfl rfl dX2_findColumns_16 ?_
      refine zv_icmp_ge (tgt := 145) S (by unfold zR; omega) (by unfold zR; omega) dX2_findColumns_19 (by decide) (fun c_1 => ?_) (fun c_1 => ?_)
      · exact hret _ _ _ _ ⟨f1, l1⟩ dX2_findColumns_145 ⟨(show -2000000 ≤ f1 ∧ f1 ≤ 2000000 from hf1), (show -2000000 ≤ l1 ∧ l1 ≤ 2000000 from hl1), (show ∀ x, (f1 ≤ x ∧ x ≤ l1) ↔ (-2000000 ≤ x ∧ x ≤ 2000000 ∧ zcc P Qu M k k x) from (by have e : i = k := (by omega); rw [e] at hv; exact hv))⟩ (hP.sub [0, 1, 2, 3] rfl) (hD.sub [0, 1, 2, 3] (by decide) rfl) hS
      · refine zv_aload_n S dX2_findColumns_22 rfl (lv_at hl 1 rfl) ?_
        refine zv_get (C := RX2) (T := TX2) (N := 10) (ci := 2) (v := .ref rb) S in_X2_findColumns_X2 hK hP 0 rfl rfl 1 (by decide) wd_X2_findColumns_f15 rfl rfl dX2_findColumns_23 ?_
        refine zv_iload_n S dX2_findColumns_26 rfl (lv_at hl 0 rfl) ?_
        refine zv_iald S hK hP 2 0 rfl rfl i (by omega) (by omega) (by decide) dX2_findColumns_27 ?_
        have q1 := hQ0 i (by omega)
        have p1 := hP0 i (by omega)
        have m1 := hM0 i (by omega)
        refine zv_if_ne (tgt := 47) S (by unfold zR; omega) dX2_findColumns_28 (by decide) (fun c_2 => ?_) (fun c_2 => ?_)
        · refine zv_iconst S dX2_findColumns_47 ?_
          refine zv_istore_n (lv' := [(2, .int (zI 0)), (1, .int (zI v1)), (0, .ref h0)]) S dX2_findColumns_48 rfl hl (by decide) rfl (fun ls hl => ?_)
          have LP49 : ∀ (nf : Nat) (j : Nat) (v2 : Int) (f2 : Int) (l2 : Int) (hv2 : v2 = (j : Int)) (hj : j ≤ k) (hf2 : -2000000 ≤ f2 ∧ f2 ≤ 2000000) (hl2 : -2000000 ≤ l2 ∧ l2 ≤ 2000000) (hw : ∀ x, (f2 ≤ x ∧ x ≤ l2) ↔ (-2000000 ≤ x ∧ x ≤ 2000000 ∧ zcc P Qu M k i x ∧ zc1 P Qu M i x ∧ ∀ b, b < j → zc2 P Qu M i b x)), (k - j) < nf → ∀ (H : Heap) (locs : List Loc), va_P G.1 vwCl [(h0, .inr (2, [.ref ra, .ref rb, .ref rc, .int (zI (k : Int)), .int (zI f2), .int (zI l2), .int (zI b0), .int (zI t0), .int (zI x0), .int (zI y0)])), zci G ra 10 P, zci G rb 10 Qu, zci G rc 10 M] H → va_D A [(h0, .inr (2, [.ref ra, .ref rb, .ref rc, .int (zI (k : Int)), .int (zI f2), .int (zI l2), .int (zI b0), .int (zI t0), .int (zI x0), .int (zI y0)])), zci G ra 10 P, zci G rb 10 Qu, zci G rc 10 M] → va_S A s.heap H locs → ∀ ls : Array Slot, lv_has ls 3 [(2, .int (zI v2)), (1, .int (zI v1)), (0, .ref h0)] → W p l e ({ frames := 2, cells := 0, slots := 0, locals := 44 }) s m ([.ref h0]).toArray below meth c H locs 0 0 Q (F0 m 49 ls []) := by
            intro nf
            induction nf with
            | zero =>
              intro j v2 f2 l2 hv2 hj hf2 hl2 hw hf
              exact absurd hf (Nat.not_lt_zero _)
            | succ nf ih49 =>
              intro j v2 f2 l2 hv2 hj hf2 hl2 hw hf H locs hP hD hS ls hl
              refine zv_iload_n S dX2_findColumns_49 rfl (lv_at hl 0 rfl) ?_
              refine zv_aload_n S dX2_findColumns_50 rfl (lv_at hl 2 rfl) ?_
              refine zv_get (C := RX2) (T := TX2) (N := 10) (ci := 2) (v := .int (zI (k : Int))) S in_X2_findColumns_X2 hK hP 0 rfl rfl 3 (by decide) wd_X2_findColumns_f27 rfl rfl dX2_findColumns_51 ?_
              refine zv_icmp_ge (tgt := 139) S (by unfold zR; omega) (by unfold zR; omega) dX2_findColumns_54 (by decide) (fun c_3 => ?_) (fun c_3 => ?_)
              · refine zv_iinc (k0 := 1) (lv' := [(1, .int (zI (v1 + 1))), (2, .int (zI v2)), (0, .ref h0)]) S dX2_findColumns_139 hl rfl (by decide) rfl (fun ls hl => ?_)
                refine zv_goto (tgt := 14) S dX2_findColumns_142 (by decide) ?_
                exact ih14 (i + 1) (v1 + 1) f2 l2 (by omega) (by omega) (by omega) (by omega) (zin5 hw (show j = k by omega)) (by omega) _ _ hP hD hS _ (lv_sub hl [0, 2] rfl)
              · refine zv_aload_n S dX2_findColumns_57 rfl (lv_at hl 2 rfl) ?_
                refine zv_get (C := RX2) (T := TX2) (N := 10) (ci := 2) (v := .ref rb) S in_X2_findColumns_X2 hK hP 0 rfl rfl 1 (by decide) wd_X2_findColumns_f15 rfl rfl dX2_findColumns_58 ?_
                refine zv_iload_n S dX2_findColumns_61 rfl (lv_at hl 1 rfl) ?_
                refine zv_iald S hK hP 2 0 rfl rfl i (by omega) (by omega) (by decide) dX2_findColumns_62 ?_
                have q1 := hQ0 i (by omega)
                refine zv_if_le (tgt := 133) S (by unfold zR; omega) dX2_findColumns_63 (by decide) (fun c_4 => ?_) (fun c_4 => ?_)
                · refine zv_iinc (k0 := 0) (lv' := [(2, .int (zI (v2 + 1))), (1, .int (zI v1)), (0, .ref h0)]) S dX2_findColumns_133 hl rfl (by decide) rfl (fun ls hl => ?_)
                  refine zv_goto (tgt := 49) S dX2_findColumns_136 (by decide) ?_
                  exact ih49 (j + 1) (v2 + 1) f2 l2 (by omega) (by omega) hf2 hl2 (zin3 hw (by omega)) (by omega) _ _ hP hD hS _ (lv_sub hl [0, 1, 2] rfl)
                · refine zv_aload_n S dX2_findColumns_66 rfl (lv_at hl 2 rfl) ?_
                  refine zv_get (C := RX2) (T := TX2) (N := 10) (ci := 2) (v := .ref rb) S in_X2_findColumns_X2 hK hP 0 rfl rfl 1 (by decide) wd_X2_findColumns_f15 rfl rfl dX2_findColumns_67 ?_
                  refine zv_iload_n S dX2_findColumns_70 rfl (lv_at hl 0 rfl) ?_
                  refine zv_iald S hK hP 2 0 rfl rfl j (by omega) (by omega) (by decide) dX2_findColumns_71 ?_
                  have q2 := hQ0 j (by omega)
                  refine zv_if_ge (tgt := 133) S (by unfold zR; omega) dX2_findColumns_72 (by decide) (fun c_5 => ?_) (fun c_5 => ?_)
                  · refine zv_iinc (k0 := 0) (lv' := [(2, .int (zI (v2 + 1))), (1, .int (zI v1)), (0, .ref h0)]) S dX2_findColumns_133 hl rfl (by decide) rfl (fun ls hl => ?_)
                    refine zv_goto (tgt := 49) S dX2_findColumns_136 (by decide) ?_
                    exact ih49 (j + 1) (v2 + 1) f2 l2 (by omega) (by omega) hf2 hl2 (zin3 hw (by omega)) (by omega) _ _ hP hD hS _ (lv_sub hl [0, 1, 2] rfl)
                  · refine zv_aload_n S dX2_findColumns_75 rfl (lv_at hl 2 rfl) ?_
                    refine zv_aload_n S dX2_findColumns_76 rfl (lv_at hl 2 rfl) ?_
                    refine zv_get (C := RX2) (T := TX2) (N := 10) (ci := 2) (v := .ref ra) S in_X2_findColumns_X2 hK hP 0 rfl rfl 0 (by decide) wd_X2_findColumns_f9 rfl rfl dX2_findColumns_77 ?_
                    refine zv_iload_n S dX2_findColumns_80 rfl (lv_at hl 0 rfl) ?_
                    refine zv_iald S hK hP 1 0 rfl rfl j (by omega) (by omega) (by decide) dX2_findColumns_81 ?_
                    refine zv_aload_n S dX2_findColumns_82 rfl (lv_at hl 2 rfl) ?_
                    refine zv_get (C := RX2) (T := TX2) (N := 10) (ci := 2) (v := .ref rb) S in_X2_findColumns_X2 hK hP 0 rfl rfl 1 (by decide) wd_X2_findColumns_f15 rfl rfl dX2_findColumns_83 ?_
                    refine zv_iload_n S dX2_findColumns_86 rfl (lv_at hl 1 rfl) ?_
                    refine zv_iald S hK hP 2 0 rfl rfl i (by omega) (by omega) (by decide) dX2_findColumns_87 ?_
                    refine zv_imul S dX2_findColumns_88 ?_
                    refine zv_aload_n S dX2_findColumns_89 rfl (lv_at hl 2 rfl) ?_
                    refine zv_get (C := RX2) (T := TX2) (N := 10) (ci := 2) (v := .ref ra) S in_X2_findColumns_X2 hK hP 0 rfl rfl 0 (by decide) wd_X2_findColumns_f9 rfl rfl dX2_findColumns_90 ?_
                    refine zv_iload_n S dX2_findColumns_93 rfl (lv_at hl 1 rfl) ?_
                    refine zv_iald S hK hP 1 0 rfl rfl i (by omega) (by omega) (by decide) dX2_findColumns_94 ?_
                    refine zv_aload_n S dX2_findColumns_95 rfl (lv_at hl 2 rfl) ?_
                    refine zv_get (C := RX2) (T := TX2) (N := 10) (ci := 2) (v := .ref rb) S in_X2_findColumns_X2 hK hP 0 rfl rfl 1 (by decide) wd_X2_findColumns_f15 rfl rfl dX2_findColumns_96 ?_
                    refine zv_iload_n S dX2_findColumns_99 rfl (lv_at hl 0 rfl) ?_
                    refine zv_iald S hK hP 2 0 rfl rfl j (by omega) (by omega) (by decide) dX2_findColumns_100 ?_
                    refine zv_imul S dX2_findColumns_101 ?_
                    refine zv_isub S dX2_findColumns_102 ?_
                    refine zv_aload_n S dX2_findColumns_103 rfl (lv_at hl 2 rfl) ?_
                    refine zv_get (C := RX2) (T := TX2) (N := 10) (ci := 2) (v := .ref rc) S in_X2_findColumns_X2 hK hP 0 rfl rfl 2 (by decide) wd_X2_findColumns_f18 rfl rfl dX2_findColumns_104 ?_
                    refine zv_iload_n S dX2_findColumns_107 rfl (lv_at hl 0 rfl) ?_
                    refine zv_iald S hK hP 3 0 rfl rfl j (by omega) (by omega) (by decide) dX2_findColumns_108 ?_
                    refine zv_aload_n S dX2_findColumns_109 rfl (lv_at hl 2 rfl) ?_
                    refine zv_get (C := RX2) (T := TX2) (N := 10) (ci := 2) (v := .ref rb) S in_X2_findColumns_X2 hK hP 0 rfl rfl 1 (by decide) wd_X2_findColumns_f15 rfl rfl dX2_findColumns_110 ?_
                    refine zv_iload_n S dX2_findColumns_113 rfl (lv_at hl 1 rfl) ?_
                    refine zv_iald S hK hP 2 0 rfl rfl i (by omega) (by omega) (by decide) dX2_findColumns_114 ?_
                    refine zv_imul S dX2_findColumns_115 ?_
                    refine zv_aload_n S dX2_findColumns_116 rfl (lv_at hl 2 rfl) ?_
                    refine zv_get (C := RX2) (T := TX2) (N := 10) (ci := 2) (v := .ref rc) S in_X2_findColumns_X2 hK hP 0 rfl rfl 2 (by decide) wd_X2_findColumns_f18 rfl rfl dX2_findColumns_117 ?_
                    refine zv_iload_n S dX2_findColumns_120 rfl (lv_at hl 1 rfl) ?_
                    refine zv_iald S hK hP 3 0 rfl rfl i (by omega) (by omega) (by decide) dX2_findColumns_121 ?_
                    refine zv_aload_n S dX2_findColumns_122 rfl (lv_at hl 2 rfl) ?_
                    refine zv_get (C := RX2) (T := TX2) (N := 10) (ci := 2) (v := .ref rb) S in_X2_findColumns_X2 hK hP 0 rfl rfl 1 (by decide) wd_X2_findColumns_f15 rfl rfl dX2_findColumns_123 ?_
                    refine zv_iload_n S dX2_findColumns_126 rfl (lv_at hl 0 rfl) ?_
                    refine zv_iald S hK hP 2 0 rfl rfl j (by omega) (by omega) (by decide) dX2_findColumns_127 ?_
                    refine zv_imul S dX2_findColumns_128 ?_
                    refine zv_isub S dX2_findColumns_129 ?_
                    have q1 := hQ0 i (by omega)
                    have p1 := hP0 i (by omega)
                    have m1 := hM0 i (by omega)
                    have q2 := hQ0 j (by omega)
                    have p2 := hP0 j (by omega)
                    have m2 := hM0 j (by omega)
                    have e1 := zmulb p2.1 p2.2 q1.1 q1.2
                    have e2 := zmulb p1.1 p1.2 q2.1 q2.2
                    have e3 := zmulb m2.1 m2.2 q1.1 q1.2
                    have e4 := zmulb m1.1 m1.2 q2.1 q2.2
                    refine zc_Vv (As := [.int (zI (((P j) * (Qu i)) - ((P i) * (Qu j)))), .int (zI (((M j) * (Qu i)) - ((M i) * (Qu j))))]) (rest := []) (wr := [zci G ra 10 P, zci G rb 10 Qu, zci G rc 10 M]) (n := 2) S hN hK hP hD hS hA hl (c_X2_narrow l G H.size h0 ra rb rc k f2 l2 b0 t0 x0 y0 (((P j) * (Qu i)) - ((P i) * (Qu j))) (((M j) * (Qu i)) - ((M i) * (Qu j))) (by omega) (by omega) (by omega) (by omega)) gX2_findColumns_X2_narrow rfl ⟨rfl, rfl⟩ (by decide +kernel) rfl ⟨Nat.le_of_ble_eq_true rfl, Nat.le_of_ble_eq_true rfl, Nat.le_of_ble_eq_true rfl, Nat.le_of_ble_eq_true rfl⟩ [0] [1, 2, 3] rfl rfl (by decide) (by decide) (by decide) (ci := 2) rfl rfl rfl (Nat.le_of_ble_eq_true rfl) dX2_findColumns_130 rfl (fun u_6 H1 locs1 hp_7 hP1 hD1 hS1 hz1 => ?_)
                    try dsimp only at hp_7 hP1 hD1
                    generalize H1 = H at hP1 hD1 hS1 hz1 ⊢
                    generalize locs1 = locs at hS1 ⊢
                    have hS := hS1
                    have hP : va_P G.1 vwCl [zci G ra 10 P, zci G rb 10 Qu, zci G rc 10 M, (h0, .inr (2, [.ref ra, .ref rb, .ref rc, .int (zI (k : Int)), .int (zI (znf (((P j) * (Qu i)) - ((P i) * (Qu j))) (((M j) * (Qu i)) - ((M i) * (Qu j))) f2)), .int (zI (znl (((P j) * (Qu i)) - ((P i) * (Qu j))) (((M j) * (Qu i)) - ((M i) * (Qu j))) l2)), .int (zI b0), .int (zI t0), .int (zI x0), .int (zI y0)]))] H := hP1
                    have hD : va_D A [zci G ra 10 P, zci G rb 10 Qu, zci G rc 10 M, (h0, .inr (2, [.ref ra, .ref rb, .ref rc, .int (zI (k : Int)), .int (zI (znf (((P j) * (Qu i)) - ((P i) * (Qu j))) (((M j) * (Qu i)) - ((M i) * (Qu j))) f2)), .int (zI (znl (((P j) * (Qu i)) - ((P i) * (Qu j))) (((M j) * (Qu i)) - ((M i) * (Qu j))) l2)), .int (zI b0), .int (zI t0), .int (zI x0), .int (zI y0)]))] := hD1
                    refine zv_iinc (k0 := 0) (lv' := [(2, .int (zI (v2 + 1))), (1, .int (zI v1)), (0, .ref h0)]) S dX2_findColumns_133 hl rfl (by decide) rfl (fun ls hl => ?_)
                    refine zv_goto (tgt := 49) S dX2_findColumns_136 (by decide) ?_
                    exact ih49 (j + 1) (v2 + 1) (znf (((P j) * (Qu i)) - ((P i) * (Qu j))) (((M j) * (Qu i)) - ((M i) * (Qu j))) f2) (znl (((P j) * (Qu i)) - ((P i) * (Qu j))) (((M j) * (Qu i)) - ((M i) * (Qu j))) l2) (by omega) (by omega) (znb (by omega) hf2 hl2).1 (znb (by omega) hf2 hl2).2 (zin4 hw (by omega) (by omega)) (by omega) _ _ (hP.sub [3, 0, 1, 2] rfl) (hD.sub [3, 0, 1, 2] (by decide) rfl) hS _ (lv_sub hl [0, 1, 2] rfl)
          exact LP49 _ 0 0 f1 l1 rfl (Nat.zero_le _) hf1 hl1 (zin1 hv c_2) (Nat.lt_succ_self _) _ _ hP hD hS _ (lv_sub hl [0, 1, 2] rfl)
        · refine zv_aload_n S dX2_findColumns_31 rfl (lv_at hl 1 rfl) ?_
          refine zv_aload_n S dX2_findColumns_32 rfl (lv_at hl 1 rfl) ?_
          refine zv_get (C := RX2) (T := TX2) (N := 10) (ci := 2) (v := .ref ra) S in_X2_findColumns_X2 hK hP 0 rfl rfl 0 (by decide) wd_X2_findColumns_f9 rfl rfl dX2_findColumns_33 ?_
          refine zv_iload_n S dX2_findColumns_36 rfl (lv_at hl 0 rfl) ?_
          refine zv_iald S hK hP 1 0 rfl rfl i (by omega) (by omega) (by decide) dX2_findColumns_37 ?_
          refine zv_aload_n S dX2_findColumns_38 rfl (lv_at hl 1 rfl) ?_
          refine zv_get (C := RX2) (T := TX2) (N := 10) (ci := 2) (v := .ref rc) S in_X2_findColumns_X2 hK hP 0 rfl rfl 2 (by decide) wd_X2_findColumns_f18 rfl rfl dX2_findColumns_39 ?_
          refine zv_iload_n S dX2_findColumns_42 rfl (lv_at hl 0 rfl) ?_
          refine zv_iald S hK hP 3 0 rfl rfl i (by omega) (by omega) (by decide) dX2_findColumns_43 ?_
          refine zc_Vv (As := [.int (zI (P i)), .int (zI (M i))]) (rest := []) (wr := [zci G ra 10 P, zci G rb 10 Qu, zci G rc 10 M]) (n := 2) S hN hK hP hD hS hA hl (c_X2_narrow l G H.size h0 ra rb rc k f1 l1 b0 t0 x0 y0 (P i) (M i) (by omega) (by omega) (by omega) (by omega)) gX2_findColumns_X2_narrow rfl ⟨rfl, rfl⟩ (by decide +kernel) rfl ⟨Nat.le_of_ble_eq_true rfl, Nat.le_of_ble_eq_true rfl, Nat.le_of_ble_eq_true rfl, Nat.le_of_ble_eq_true rfl⟩ [0] [1, 2, 3] rfl rfl (by decide) (by decide) (by decide) (ci := 2) rfl rfl rfl (Nat.le_of_ble_eq_true rfl) dX2_findColumns_44 rfl (fun u_8 H1 locs1 hp_9 hP1 hD1 hS1 hz1 => ?_)
          try dsimp only at hp_9 hP1 hD1
          generalize H1 = H at hP1 hD1 hS1 hz1 ⊢
          generalize locs1 = locs at hS1 ⊢
          have hS := hS1
          have hP : va_P G.1 vwCl [zci G ra 10 P, zci G rb 10 Qu, zci G rc 10 M, (h0, .inr (2, [.ref ra, .ref rb, .ref rc, .int (zI (k : Int)), .int (zI (znf (P i) (M i) f1)), .int (zI (znl (P i) (M i) l1)), .int (zI b0), .int (zI t0), .int (zI x0), .int (zI y0)]))] H := hP1
          have hD : va_D A [zci G ra 10 P, zci G rb 10 Qu, zci G rc 10 M, (h0, .inr (2, [.ref ra, .ref rb, .ref rc, .int (zI (k : Int)), .int (zI (znf (P i) (M i) f1)), .int (zI (znl (P i) (M i) l1)), .int (zI b0), .int (zI t0), .int (zI x0), .int (zI y0)]))] := hD1
          refine zv_iconst S dX2_findColumns_47 ?_
          refine zv_istore_n (lv' := [(2, .int (zI 0)), (1, .int (zI v1)), (0, .ref h0)]) S dX2_findColumns_48 rfl hl (by decide) rfl (fun ls hl => ?_)
          have LP49 : ∀ (nf : Nat) (j : Nat) (v2 : Int) (f2 : Int) (l2 : Int) (hv2 : v2 = (j : Int)) (hj : j ≤ k) (hf2 : -2000000 ≤ f2 ∧ f2 ≤ 2000000) (hl2 : -2000000 ≤ l2 ∧ l2 ≤ 2000000) (hw : ∀ x, (f2 ≤ x ∧ x ≤ l2) ↔ (-2000000 ≤ x ∧ x ≤ 2000000 ∧ zcc P Qu M k i x ∧ zc1 P Qu M i x ∧ ∀ b, b < j → zc2 P Qu M i b x)), (k - j) < nf → ∀ (H : Heap) (locs : List Loc), va_P G.1 vwCl [zci G ra 10 P, zci G rb 10 Qu, zci G rc 10 M, (h0, .inr (2, [.ref ra, .ref rb, .ref rc, .int (zI (k : Int)), .int (zI f2), .int (zI l2), .int (zI b0), .int (zI t0), .int (zI x0), .int (zI y0)]))] H → va_D A [zci G ra 10 P, zci G rb 10 Qu, zci G rc 10 M, (h0, .inr (2, [.ref ra, .ref rb, .ref rc, .int (zI (k : Int)), .int (zI f2), .int (zI l2), .int (zI b0), .int (zI t0), .int (zI x0), .int (zI y0)]))] → va_S A s.heap H locs → ∀ ls : Array Slot, lv_has ls 3 [(2, .int (zI v2)), (1, .int (zI v1)), (0, .ref h0)] → W p l e ({ frames := 2, cells := 0, slots := 0, locals := 44 }) s m ([.ref h0]).toArray below meth c H locs 0 0 Q (F0 m 49 ls []) := by
            intro nf
            induction nf with
            | zero =>
              intro j v2 f2 l2 hv2 hj hf2 hl2 hw hf
              exact absurd hf (Nat.not_lt_zero _)
            | succ nf ih49 =>
              intro j v2 f2 l2 hv2 hj hf2 hl2 hw hf H locs hP hD hS ls hl
              refine zv_iload_n S dX2_findColumns_49 rfl (lv_at hl 0 rfl) ?_
              refine zv_aload_n S dX2_findColumns_50 rfl (lv_at hl 2 rfl) ?_
              refine zv_get (C := RX2) (T := TX2) (N := 10) (ci := 2) (v := .int (zI (k : Int))) S in_X2_findColumns_X2 hK hP 3 rfl rfl 3 (by decide) wd_X2_findColumns_f27 rfl rfl dX2_findColumns_51 ?_
              refine zv_icmp_ge (tgt := 139) S (by unfold zR; omega) (by unfold zR; omega) dX2_findColumns_54 (by decide) (fun c_10 => ?_) (fun c_10 => ?_)
              · refine zv_iinc (k0 := 1) (lv' := [(1, .int (zI (v1 + 1))), (2, .int (zI v2)), (0, .ref h0)]) S dX2_findColumns_139 hl rfl (by decide) rfl (fun ls hl => ?_)
                refine zv_goto (tgt := 14) S dX2_findColumns_142 (by decide) ?_
                exact ih14 (i + 1) (v1 + 1) f2 l2 (by omega) (by omega) (by omega) (by omega) (zin5 hw (show j = k by omega)) (by omega) _ _ (hP.sub [3, 0, 1, 2] rfl) (hD.sub [3, 0, 1, 2] (by decide) rfl) hS _ (lv_sub hl [0, 2] rfl)
              · refine zv_aload_n S dX2_findColumns_57 rfl (lv_at hl 2 rfl) ?_
                refine zv_get (C := RX2) (T := TX2) (N := 10) (ci := 2) (v := .ref rb) S in_X2_findColumns_X2 hK hP 3 rfl rfl 1 (by decide) wd_X2_findColumns_f15 rfl rfl dX2_findColumns_58 ?_
                refine zv_iload_n S dX2_findColumns_61 rfl (lv_at hl 1 rfl) ?_
                refine zv_iald S hK hP 1 0 rfl rfl i (by omega) (by omega) (by decide) dX2_findColumns_62 ?_
                have q1 := hQ0 i (by omega)
                refine zv_if_le (tgt := 133) S (by unfold zR; omega) dX2_findColumns_63 (by decide) (fun c_11 => ?_) (fun c_11 => ?_)
                · refine zv_iinc (k0 := 0) (lv' := [(2, .int (zI (v2 + 1))), (1, .int (zI v1)), (0, .ref h0)]) S dX2_findColumns_133 hl rfl (by decide) rfl (fun ls hl => ?_)
                  refine zv_goto (tgt := 49) S dX2_findColumns_136 (by decide) ?_
                  exact ih49 (j + 1) (v2 + 1) f2 l2 (by omega) (by omega) hf2 hl2 (zin3 hw (by omega)) (by omega) _ _ hP hD hS _ (lv_sub hl [0, 1, 2] rfl)
                · refine zv_aload_n S dX2_findColumns_66 rfl (lv_at hl 2 rfl) ?_
                  refine zv_get (C := RX2) (T := TX2) (N := 10) (ci := 2) (v := .ref rb) S in_X2_findColumns_X2 hK hP 3 rfl rfl 1 (by decide) wd_X2_findColumns_f15 rfl rfl dX2_findColumns_67 ?_
                  refine zv_iload_n S dX2_findColumns_70 rfl (lv_at hl 0 rfl) ?_
                  refine zv_iald S hK hP 1 0 rfl rfl j (by omega) (by omega) (by decide) dX2_findColumns_71 ?_
                  have q2 := hQ0 j (by omega)
                  refine zv_if_ge (tgt := 133) S (by unfold zR; omega) dX2_findColumns_72 (by decide) (fun c_12 => ?_) (fun c_12 => ?_)
                  · refine zv_iinc (k0 := 0) (lv' := [(2, .int (zI (v2 + 1))), (1, .int (zI v1)), (0, .ref h0)]) S dX2_findColumns_133 hl rfl (by decide) rfl (fun ls hl => ?_)
                    refine zv_goto (tgt := 49) S dX2_findColumns_136 (by decide) ?_
                    exact ih49 (j + 1) (v2 + 1) f2 l2 (by omega) (by omega) hf2 hl2 (zin3 hw (by omega)) (by omega) _ _ hP hD hS _ (lv_sub hl [0, 1, 2] rfl)
                  · refine zv_aload_n S dX2_findColumns_75 rfl (lv_at hl 2 rfl) ?_
                    refine zv_aload_n S dX2_findColumns_76 rfl (lv_at hl 2 rfl) ?_
                    refine zv_get (C := RX2) (T := TX2) (N := 10) (ci := 2) (v := .ref ra) S in_X2_findColumns_X2 hK hP 3 rfl rfl 0 (by decide) wd_X2_findColumns_f9 rfl rfl dX2_findColumns_77 ?_
                    refine zv_iload_n S dX2_findColumns_80 rfl (lv_at hl 0 rfl) ?_
                    refine zv_iald S hK hP 0 0 rfl rfl j (by omega) (by omega) (by decide) dX2_findColumns_81 ?_
                    refine zv_aload_n S dX2_findColumns_82 rfl (lv_at hl 2 rfl) ?_
                    refine zv_get (C := RX2) (T := TX2) (N := 10) (ci := 2) (v := .ref rb) S in_X2_findColumns_X2 hK hP 3 rfl rfl 1 (by decide) wd_X2_findColumns_f15 rfl rfl dX2_findColumns_83 ?_
                    refine zv_iload_n S dX2_findColumns_86 rfl (lv_at hl 1 rfl) ?_
                    refine zv_iald S hK hP 1 0 rfl rfl i (by omega) (by omega) (by decide) dX2_findColumns_87 ?_
                    refine zv_imul S dX2_findColumns_88 ?_
                    refine zv_aload_n S dX2_findColumns_89 rfl (lv_at hl 2 rfl) ?_
                    refine zv_get (C := RX2) (T := TX2) (N := 10) (ci := 2) (v := .ref ra) S in_X2_findColumns_X2 hK hP 3 rfl rfl 0 (by decide) wd_X2_findColumns_f9 rfl rfl dX2_findColumns_90 ?_
                    refine zv_iload_n S dX2_findColumns_93 rfl (lv_at hl 1 rfl) ?_
                    refine zv_iald S hK hP 0 0 rfl rfl i (by omega) (by omega) (by decide) dX2_findColumns_94 ?_
                    refine zv_aload_n S dX2_findColumns_95 rfl (lv_at hl 2 rfl) ?_
                    refine zv_get (C := RX2) (T := TX2) (N := 10) (ci := 2) (v := .ref rb) S in_X2_findColumns_X2 hK hP 3 rfl rfl 1 (by decide) wd_X2_findColumns_f15 rfl rfl dX2_findColumns_96 ?_
                    refine zv_iload_n S dX2_findColumns_99 rfl (lv_at hl 0 rfl) ?_
                    refine zv_iald S hK hP 1 0 rfl rfl j (by omega) (by omega) (by decide) dX2_findColumns_100 ?_
                    refine zv_imul S dX2_findColumns_101 ?_
                    refine zv_isub S dX2_findColumns_102 ?_
                    refine zv_aload_n S dX2_findColumns_103 rfl (lv_at hl 2 rfl) ?_
                    refine zv_get (C := RX2) (T := TX2) (N := 10) (ci := 2) (v := .ref rc) S in_X2_findColumns_X2 hK hP 3 rfl rfl 2 (by decide) wd_X2_findColumns_f18 rfl rfl dX2_findColumns_104 ?_
                    refine zv_iload_n S dX2_findColumns_107 rfl (lv_at hl 0 rfl) ?_
                    refine zv_iald S hK hP 2 0 rfl rfl j (by omega) (by omega) (by decide) dX2_findColumns_108 ?_
                    refine zv_aload_n S dX2_findColumns_109 rfl (lv_at hl 2 rfl) ?_
                    refine zv_get (C := RX2) (T := TX2) (N := 10) (ci := 2) (v := .ref rb) S in_X2_findColumns_X2 hK hP 3 rfl rfl 1 (by decide) wd_X2_findColumns_f15 rfl rfl dX2_findColumns_110 ?_
                    refine zv_iload_n S dX2_findColumns_113 rfl (lv_at hl 1 rfl) ?_
                    refine zv_iald S hK hP 1 0 rfl rfl i (by omega) (by omega) (by decide) dX2_findColumns_114 ?_
                    refine zv_imul S dX2_findColumns_115 ?_
                    refine zv_aload_n S dX2_findColumns_116 rfl (lv_at hl 2 rfl) ?_
                    refine zv_get (C := RX2) (T := TX2) (N := 10) (ci := 2) (v := .ref rc) S in_X2_findColumns_X2 hK hP 3 rfl rfl 2 (by decide) wd_X2_findColumns_f18 rfl rfl dX2_findColumns_117 ?_
                    refine zv_iload_n S dX2_findColumns_120 rfl (lv_at hl 1 rfl) ?_
                    refine zv_iald S hK hP 2 0 rfl rfl i (by omega) (by omega) (by decide) dX2_findColumns_121 ?_
                    refine zv_aload_n S dX2_findColumns_122 rfl (lv_at hl 2 rfl) ?_
                    refine zv_get (C := RX2) (T := TX2) (N := 10) (ci := 2) (v := .ref rb) S in_X2_findColumns_X2 hK hP 3 rfl rfl 1 (by decide) wd_X2_findColumns_f15 rfl rfl dX2_findColumns_123 ?_
                    refine zv_iload_n S dX2_findColumns_126 rfl (lv_at hl 0 rfl) ?_
                    refine zv_iald S hK hP 1 0 rfl rfl j (by omega) (by omega) (by decide) dX2_findColumns_127 ?_
                    refine zv_imul S dX2_findColumns_128 ?_
                    refine zv_isub S dX2_findColumns_129 ?_
                    have q1 := hQ0 i (by omega)
                    have p1 := hP0 i (by omega)
                    have m1 := hM0 i (by omega)
                    have q2 := hQ0 j (by omega)
                    have p2 := hP0 j (by omega)
                    have m2 := hM0 j (by omega)
                    have e1 := zmulb p2.1 p2.2 q1.1 q1.2
                    have e2 := zmulb p1.1 p1.2 q2.1 q2.2
                    have e3 := zmulb m2.1 m2.2 q1.1 q1.2
                    have e4 := zmulb m1.1 m1.2 q2.1 q2.2
                    refine zc_Vv (As := [.int (zI (((P j) * (Qu i)) - ((P i) * (Qu j)))), .int (zI (((M j) * (Qu i)) - ((M i) * (Qu j))))]) (rest := []) (wr := [zci G ra 10 P, zci G rb 10 Qu, zci G rc 10 M]) (n := 2) S hN hK hP hD hS hA hl (c_X2_narrow l G H.size h0 ra rb rc k f2 l2 b0 t0 x0 y0 (((P j) * (Qu i)) - ((P i) * (Qu j))) (((M j) * (Qu i)) - ((M i) * (Qu j))) (by omega) (by omega) (by omega) (by omega)) gX2_findColumns_X2_narrow rfl ⟨rfl, rfl⟩ (by decide +kernel) rfl ⟨Nat.le_of_ble_eq_true rfl, Nat.le_of_ble_eq_true rfl, Nat.le_of_ble_eq_true rfl, Nat.le_of_ble_eq_true rfl⟩ [3] [0, 1, 2] rfl rfl (by decide) (by decide) (by decide) (ci := 2) rfl rfl rfl (Nat.le_of_ble_eq_true rfl) dX2_findColumns_130 rfl (fun u_13 H1 locs1 hp_14 hP1 hD1 hS1 hz1 => ?_)
                    try dsimp only at hp_14 hP1 hD1
                    generalize H1 = H at hP1 hD1 hS1 hz1 ⊢
                    generalize locs1 = locs at hS1 ⊢
                    have hS := hS1
                    have hP : va_P G.1 vwCl [zci G ra 10 P, zci G rb 10 Qu, zci G rc 10 M, (h0, .inr (2, [.ref ra, .ref rb, .ref rc, .int (zI (k : Int)), .int (zI (znf (((P j) * (Qu i)) - ((P i) * (Qu j))) (((M j) * (Qu i)) - ((M i) * (Qu j))) f2)), .int (zI (znl (((P j) * (Qu i)) - ((P i) * (Qu j))) (((M j) * (Qu i)) - ((M i) * (Qu j))) l2)), .int (zI b0), .int (zI t0), .int (zI x0), .int (zI y0)]))] H := hP1
                    have hD : va_D A [zci G ra 10 P, zci G rb 10 Qu, zci G rc 10 M, (h0, .inr (2, [.ref ra, .ref rb, .ref rc, .int (zI (k : Int)), .int (zI (znf (((P j) * (Qu i)) - ((P i) * (Qu j))) (((M j) * (Qu i)) - ((M i) * (Qu j))) f2)), .int (zI (znl (((P j) * (Qu i)) - ((P i) * (Qu j))) (((M j) * (Qu i)) - ((M i) * (Qu j))) l2)), .int (zI b0), .int (zI t0), .int (zI x0), .int (zI y0)]))] := hD1
                    refine zv_iinc (k0 := 0) (lv' := [(2, .int (zI (v2 + 1))), (1, .int (zI v1)), (0, .ref h0)]) S dX2_findColumns_133 hl rfl (by decide) rfl (fun ls hl => ?_)
                    refine zv_goto (tgt := 49) S dX2_findColumns_136 (by decide) ?_
                    exact ih49 (j + 1) (v2 + 1) (znf (((P j) * (Qu i)) - ((P i) * (Qu j))) (((M j) * (Qu i)) - ((M i) * (Qu j))) f2) (znl (((P j) * (Qu i)) - ((P i) * (Qu j))) (((M j) * (Qu i)) - ((M i) * (Qu j))) l2) (by omega) (by omega) (znb (by omega) hf2 hl2).1 (znb (by omega) hf2 hl2).2 (zin4 hw (by omega) (by omega)) (by omega) _ _ hP hD hS _ (lv_sub hl [0, 1, 2] rfl)
          exact LP49 _ 0 0 (znf (P i) (M i) f1) (znl (P i) (M i) l1) rfl (Nat.zero_le _) (znb (by omega) hf1 hl1).1 (znb (by omega) hf1 hl1).2 (zin2 hv c_2) (Nat.lt_succ_self _) _ _ hP hD hS _ (lv_sub hl [0, 1, 2] rfl)
  exact LP14 _ 0 0 (-2000000) 2000000 rfl (Nat.zero_le _) (by omega) (by omega) zin0 (Nat.lt_succ_self _) _ _ hP hD hS _ (lv_sub hl [0, 1] rfl)

theorem wd_X2_findEnds_k71 : Cond.constant RX2 71 (-2000000) ∈ wsX2_findEnds := by decide +kernel
theorem wd_X2_findEnds_f56 : Cond.fieldLink RX2 56 "PointMill$Region" "bottom" "I" ∈ wsX2_findEnds := by decide +kernel
theorem in_X2_findEnds_X2 : ∀ w ∈ wsX20, w ∈ wsX2_findEnds := by decide +kernel
theorem wd_X2_findEnds_k72 : Cond.constant RX2 72 (2000000) ∈ wsX2_findEnds := by decide +kernel
theorem wd_X2_findEnds_f53 : Cond.fieldLink RX2 53 "PointMill$Region" "top" "I" ∈ wsX2_findEnds := by decide +kernel
theorem wd_X2_findEnds_f27 : Cond.fieldLink RX2 27 "PointMill$Region" "size" "I" ∈ wsX2_findEnds := by decide +kernel
theorem wd_X2_findEnds_f18 : Cond.fieldLink RX2 18 "PointMill$Region" "limit" "[I" ∈ wsX2_findEnds := by decide +kernel
theorem wd_X2_findEnds_f9 : Cond.fieldLink RX2 9 "PointMill$Region" "across" "[I" ∈ wsX2_findEnds := by decide +kernel
theorem wd_X2_findEnds_f15 : Cond.fieldLink RX2 15 "PointMill$Region" "upward" "[I" ∈ wsX2_findEnds := by decide +kernel
theorem wd_X2_findEnds_m59 : Cond.methodLink RX2 59 Lib.Math.max.name ∈ wsX2_findEnds := by decide +kernel
theorem wd_X2_findEnds_smax : Cond.static Lib.Math.max.name ∈ wsX2_findEnds := by decide +kernel
theorem wd_X2_findEnds_iM : Cond.initialized "java/lang/Math" ∈ wsX2_findEnds := by decide +kernel
theorem wd_X2_findEnds_cmax : Cond.code Lib.Math.max.name Lib.Math.max.code 2 (some .int) ∈ wsX2_findEnds := by decide +kernel
theorem wd_X2_findEnds_m80 : Cond.methodLink RX2 80 Lib.Math.min.name ∈ wsX2_findEnds := by decide +kernel
theorem wd_X2_findEnds_smin : Cond.static Lib.Math.min.name ∈ wsX2_findEnds := by decide +kernel
theorem wd_X2_findEnds_cmin : Cond.code Lib.Math.min.name Lib.Math.min.code 2 (some .int) ∈ wsX2_findEnds := by decide +kernel
set_option maxHeartbeats 4000000 in
set_option maxRecDepth 100000 in
/-- Region.findEnds -/
theorem c_X2_findEnds (l : Launch) (G : zG) (sz : Nat) (h0 : Nat) (ra : Nat) (rb : Nat) (rc : Nat) (P : Nat → Int) (Qu : Nat → Int) (M : Nat → Int) (k : Nat) (f0 : Int) (l0 : Int) (b0 : Int) (t0 : Int) (x0 : Int) (y0 : Int) (cl : Int) (hk : k ≤ 10) (hP0 : ∀ j, j < k → -60 ≤ P j ∧ P j ≤ 60) (hQ0 : ∀ j, j < k → -60 ≤ Qu j ∧ Qu j ≤ 60) (hM0 : ∀ j, j < k → -9999 ≤ M j ∧ M j ≤ 9999) (hcl : -2000000 ≤ cl ∧ cl ≤ 2000000) : Met l yX2_findEnds wsX2_findEnds ({ frames := 1, cells := 0, slots := 0, locals := 22 }) (va_Pc [.ref h0, .int (zI cl)] (zPre G sz [(h0, .inr (2, [.ref ra, .ref rb, .ref rc, .int (zI (k : Int)), .int (zI f0), .int (zI l0), .int (zI b0), .int (zI t0), .int (zI x0), .int (zI y0)])), zci G ra 10 P, zci G rb 10 Qu, zci G rc 10 M])) (va_Qv (fun (u : (Int) × (Int)) => (-2000000 ≤ u.1 ∧ u.1 ≤ 200000000) ∧ (-200000000 ≤ u.2 ∧ u.2 ≤ 2000000) ∧ (∀ y, (u.1 ≤ y ∧ y ≤ u.2) ↔ (-2000000 ≤ y ∧ y ≤ 2000000 ∧ zce P Qu M k cl y))) (fun u => zW G (va_A [(h0, .inr (2, [.ref ra, .ref rb, .ref rc, .int (zI (k : Int)), .int (zI f0), .int (zI l0), .int (zI b0), .int (zI t0), .int (zI x0), .int (zI y0)])), zci G ra 10 P, zci G rb 10 Qu, zci G rc 10 M] sz) ((fun (u : (Int) × (Int)) => [(h0, .inr (2, [.ref ra, .ref rb, .ref rc, .int (zI (k : Int)), .int (zI f0), .int (zI l0), .int (zI u.1), .int (zI u.2), .int (zI x0), .int (zI y0)])), zci G ra 10 P, zci G rb 10 Qu, zci G rc 10 M]) u)) (va_A [(h0, .inr (2, [.ref ra, .ref rb, .ref rc, .int (zI (k : Int)), .int (zI f0), .int (zI l0), .int (zI b0), .int (zI t0), .int (zI x0), .int (zI y0)])), zci G ra 10 P, zci G rb 10 Qu, zci G rc 10 M] sz)) 0 0 (va_A [(h0, .inr (2, [.ref ra, .ref rb, .ref rc, .int (zI (k : Int)), .int (zI f0), .int (zI l0), .int (zI b0), .int (zI t0), .int (zI x0), .int (zI y0)])), zci G ra 10 P, zci G rb 10 Qu, zci G rc 10 M] sz) := by
  refine zM_v (post := fun (u : (Int) × (Int)) => (-2000000 ≤ u.1 ∧ u.1 ≤ 200000000) ∧ (-200000000 ≤ u.2 ∧ u.2 ≤ 2000000) ∧ (∀ y, (u.1 ≤ y ∧ y ≤ u.2) ↔ (-2000000 ≤ y ∧ y ≤ 2000000 ∧ zce P Qu M k cl y))) (w1 := fun (u : (Int) × (Int)) => [(h0, .inr (2, [.ref ra, .ref rb, .ref rc, .int (zI (k : Int)), .int (zI f0), .int (zI l0), .int (zI u.1), .int (zI u.2), .int (zI x0), .int (zI y0)])), zci G ra 10 P, zci G rb 10 Qu, zci G rc 10 M]) (plainFor_of_name (by decide)) rfl (Nat.le_of_ble_eq_true rfl) ?_
  intro p e s m below meth c A Q S hN hK hP hD hS hA hret ls hl
  have hl : lv_has ls 5 [(0, .ref h0), (1, .int (zI cl))] := hl
  refine zv_aload_n S dX2_findEnds_0 rfl (lv_at hl 0 rfl) ?_
  refine zv_ldc (v := (-2000000)) S wd_X2_findEnds_k71 (by decide) dX2_findEnds_1 ?_
  refine zv_put (C := RX2) (T := TX2) (N := 10) (ci := 2) (v := .int (zI (-2000000))) S in_X2_findEnds_X2 tyX2 tyX2_ok nmX2 hK hP hD hS 0 rfl rfl 6 (by decide) wd_X2_findEnds_f56 rfl rfl rfl rfl (Nat.le_of_ble_eq_true rfl) dX2_findEnds_3 (fun H locs hP hD hS => ?_)
  have hP : va_P G.1 vwCl [(h0, .inr (2, [.ref ra, .ref rb, .ref rc, .int (zI (k : Int)), .int (zI f0), .int (zI l0), .int (zI (-2000000)), .int (zI t0), .int (zI x0), .int (zI y0)])), zci G ra 10 P, zci G rb 10 Qu, zci G rc 10 M] H := hP
  have hD : va_D A [(h0, .inr (2, [.ref ra, .ref rb, .ref rc, .int (zI (k : Int)), .int (zI f0), .int (zI l0), .int (zI (-2000000)), .int (zI t0), .int (zI x0), .int (zI y0)])), zci G ra 10 P, zci G rb 10 Qu, zci G rc 10 M] := hD
  refine zv_aload_n S dX2_findEnds_6 rfl (lv_at hl 0 rfl) ?_
  refine zv_ldc (v := 2000000) S wd_X2_findEnds_k72 (by decide) dX2_findEnds_7 ?_
  refine zv_put (C := RX2) (T := TX2) (N := 10) (ci := 2) (v := .int (zI 2000000)) S in_X2_findEnds_X2 tyX2 tyX2_ok nmX2 hK hP hD hS 0 rfl rfl 7 (by decide) wd_X2_findEnds_f53 rfl rfl rfl rfl (Nat.le_of_ble_eq_true rfl) dX2_findEnds_9 (fun H locs hP hD hS => ?_)
  have hP : va_P G.1 vwCl [(h0, .inr (2, [.ref ra, .ref rb, .ref rc, .int (zI (k : Int)), .int (zI f0), .int (zI l0), .int (zI (-2000000)), .int (zI 2000000), .int (zI x0), .int (zI y0)])), zci G ra 10 P, zci G rb 10 Qu, zci G rc 10 M] H := hP
  have hD : va_D A [(h0, .inr (2, [.ref ra, .ref rb, .ref rc, .int (zI (k : Int)), .int (zI f0), .int (zI l0), .int (zI (-2000000)), .int (zI 2000000), .int (zI x0), .int (zI y0)])), zci G ra 10 P, zci G rb 10 Qu, zci G rc 10 M] := hD
  refine zv_iconst S dX2_findEnds_12 ?_
  refine zv_istore_n (lv' := [(2, .int (zI 0)), (0, .ref h0), (1, .int (zI cl))]) S dX2_findEnds_13 rfl hl (by decide) rfl (fun ls hl => ?_)
  have LP14 : ∀ (nf : Nat) (i : Nat) (v2 : Int) (b1 : Int) (t1 : Int) (hv2 : v2 = (i : Int)) (hi : i ≤ k) (hb1 : -2000000 ≤ b1 ∧ b1 ≤ 200000000) (ht1 : -200000000 ≤ t1 ∧ t1 ≤ 2000000) (hv : ∀ y, (b1 ≤ y ∧ y ≤ t1) ↔ (-2000000 ≤ y ∧ y ≤ 2000000 ∧ zce P Qu M i cl y)), (k - i) < nf → ∀ (H : Heap) (locs : List Loc), va_P G.1 vwCl [(h0, .inr (2, [.ref ra, .ref rb, .ref rc, .int (zI (k : Int)), .int (zI f0), .int (zI l0), .int (zI b1), .int (zI t1), .int (zI x0), .int (zI y0)])), zci G ra 10 P, zci G rb 10 Qu, zci G rc 10 M] H → va_D A [(h0, .inr (2, [.ref ra, .ref rb, .ref rc, .int (zI (k : Int)), .int (zI f0), .int (zI l0), .int (zI b1), .int (zI t1), .int (zI x0), .int (zI y0)])), zci G ra 10 P, zci G rb 10 Qu, zci G rc 10 M] → va_S A s.heap H locs → ∀ ls : Array Slot, lv_has ls 5 [(2, .int (zI v2)), (0, .ref h0), (1, .int (zI cl))] → W p l e ({ frames := 1, cells := 0, slots := 0, locals := 22 }) s m ([.ref h0, .int (zI cl)]).toArray below meth c H locs 0 0 Q (F0 m 14 ls []) := by
    intro nf
    induction nf with
    | zero =>
      intro i v2 b1 t1 hv2 hi hb1 ht1 hv hf
      exact absurd hf (Nat.not_lt_zero _)
    | succ nf ih14 =>
      intro i v2 b1 t1 hv2 hi hb1 ht1 hv hf H locs hP hD hS ls hl
      refine zv_iload_n S dX2_findEnds_14 rfl (lv_at hl 0 rfl) ?_
      refine zv_aload_n S dX2_findEnds_15 rfl (lv_at hl 1 rfl) ?_
      refine zv_get (C := RX2) (T := TX2) (N := 10) (ci := 2) (v := .int (zI (k : Int))) S in_X2_findEnds_X2 hK hP 0 rfl rfl 3 (by decide) wd_X2_findEnds_f27 rfl rfl dX2_findEnds_16 ?_
      refine zv_icmp_ge (tgt := 101) S (by unfold zR; omega) (by unfold zR; omega) dX2_findEnds_19 (by decide) (fun c_1 => ?_) (fun c_1 => ?_)
      · exact hret _ _ _ _ ⟨b1, t1⟩ dX2_findEnds_101 ⟨(show -2000000 ≤ b1 ∧ b1 ≤ 200000000 from hb1), (show -200000000 ≤ t1 ∧ t1 ≤ 2000000 from ht1), (show ∀ y, (b1 ≤ y ∧ y ≤ t1) ↔ (-2000000 ≤ y ∧ y ≤ 2000000 ∧ zce P Qu M k cl y) from (by have e : i = k := (by omega); rw [e] at hv; exact hv))⟩ (hP.sub [0, 1, 2, 3] rfl) (hD.sub [0, 1, 2, 3] (by decide) rfl) hS
      · refine zv_aload_n S dX2_findEnds_22 rfl (lv_at hl 1 rfl) ?_
        refine zv_get (C := RX2) (T := TX2) (N := 10) (ci := 2) (v := .ref rc) S in_X2_findEnds_X2 hK hP 0 rfl rfl 2 (by decide) wd_X2_findEnds_f18 rfl rfl dX2_findEnds_23 ?_
        refine zv_iload_n S dX2_findEnds_26 rfl (lv_at hl 0 rfl) ?_
        refine zv_iald S hK hP 3 0 rfl rfl i (by omega) (by omega) (by decide) dX2_findEnds_27 ?_
        refine zv_aload_n S dX2_findEnds_28 rfl (lv_at hl 1 rfl) ?_
        refine zv_get (C := RX2) (T := TX2) (N := 10) (ci := 2) (v := .ref ra) S in_X2_findEnds_X2 hK hP 0 rfl rfl 0 (by decide) wd_X2_findEnds_f9 rfl rfl dX2_findEnds_29 ?_
        refine zv_iload_n S dX2_findEnds_32 rfl (lv_at hl 0 rfl) ?_
        refine zv_iald S hK hP 1 0 rfl rfl i (by omega) (by omega) (by decide) dX2_findEnds_33 ?_
        refine zv_iload_n S dX2_findEnds_34 rfl (lv_at hl 2 rfl) ?_
        refine zv_imul S dX2_findEnds_35 ?_
        have p1 := hP0 i (by omega)
        have m1 := hM0 i (by omega)
        have e1 := zmulb p1.1 p1.2 hcl.1 hcl.2
        refine zv_isub S dX2_findEnds_36 ?_
        refine zv_istore_n (lv' := [(3, .int (zI ((M i) - ((P i) * cl)))), (2, .int (zI v2)), (0, .ref h0), (1, .int (zI cl))]) S dX2_findEnds_37 rfl hl (by decide) rfl (fun ls hl => ?_)
        refine zv_aload_n S dX2_findEnds_38 rfl (lv_at hl 2 rfl) ?_
        refine zv_get (C := RX2) (T := TX2) (N := 10) (ci := 2) (v := .ref rb) S in_X2_findEnds_X2 hK hP 0 rfl rfl 1 (by decide) wd_X2_findEnds_f15 rfl rfl dX2_findEnds_39 ?_
        refine zv_iload_n S dX2_findEnds_42 rfl (lv_at hl 1 rfl) ?_
        refine zv_iald S hK hP 2 0 rfl rfl i (by omega) (by omega) (by decide) dX2_findEnds_43 ?_
        refine zv_istore (lv' := [(4, .int (zI (Qu i))), (3, .int (zI ((M i) - ((P i) * cl)))), (2, .int (zI v2)), (0, .ref h0), (1, .int (zI cl))]) S dX2_findEnds_44 hl (by decide) rfl (fun ls hl => ?_)
        have q1 := hQ0 i (by omega)
        refine zv_iload S dX2_findEnds_46 (lv_at hl 0 rfl) ?_
        refine zv_if_le (tgt := 71) S (by unfold zR; omega) dX2_findEnds_48 (by decide) (fun c_2 => ?_) (fun c_2 => ?_)
        · refine zv_iload S dX2_findEnds_71 (lv_at hl 0 rfl) ?_
          refine zv_if_ge (tgt := 95) S (by unfold zR; omega) dX2_findEnds_73 (by decide) (fun c_3 => ?_) (fun c_3 => ?_)
          · refine zv_iinc (k0 := 2) (lv' := [(2, .int (zI (v2 + 1))), (4, .int (zI (Qu i))), (3, .int (zI ((M i) - ((P i) * cl)))), (0, .ref h0), (1, .int (zI cl))]) S dX2_findEnds_95 hl rfl (by decide) rfl (fun ls hl => ?_)
            refine zv_goto (tgt := 14) S dX2_findEnds_98 (by decide) ?_
            exact ih14 (i + 1) (v2 + 1) b1 t1 (by omega) (by omega) hb1 ht1 (zen3 hv (by omega)) (by omega) _ _ hP hD hS _ (lv_sub hl [0, 3, 4] rfl)
          · refine zv_aload_n S dX2_findEnds_76 rfl (lv_at hl 3 rfl) ?_
            refine zv_aload_n S dX2_findEnds_77 rfl (lv_at hl 3 rfl) ?_
            refine zv_get (C := RX2) (T := TX2) (N := 10) (ci := 2) (v := .int (zI b1)) S in_X2_findEnds_X2 hK hP 0 rfl rfl 6 (by decide) wd_X2_findEnds_f56 rfl rfl dX2_findEnds_78 ?_
            refine zv_iload_n S dX2_findEnds_81 rfl (lv_at hl 1 rfl) ?_
            refine zv_iload S dX2_findEnds_82 (lv_at hl 0 rfl) ?_
            refine zv_ineg S dX2_findEnds_84 ?_
            refine zc_Si (As := [.int (zI ((M i) - ((P i) * cl))), .int (zI (-(Qu i)))]) (rest := [.int (zI b1), .ref h0]) (wr := [(h0, .inr (2, [.ref ra, .ref rb, .ref rc, .int (zI (k : Int)), .int (zI f0), .int (zI l0), .int (zI b1), .int (zI t1), .int (zI x0), .int (zI y0)])), zci G ra 10 P, zci G rb 10 Qu, zci G rc 10 M]) (n := 2) S hN hK hP hD hS hA hl (c_J9_floorDiv_7cf53 l G H.size ((M i) - ((P i) * cl)) (-(Qu i)) (by omega) (by omega)) gX2_findEnds_J9_floorDiv_7cf53 rfl ⟨rfl, rfl⟩ (by decide +kernel) rfl ⟨Nat.le_of_ble_eq_true rfl, Nat.le_of_ble_eq_true rfl, Nat.le_of_ble_eq_true rfl, Nat.le_of_ble_eq_true rfl⟩ [] [0, 1, 2, 3] rfl rfl (by decide) (by decide) (by decide) (Nat.le_of_ble_eq_true rfl) dX2_findEnds_85 rfl (fun r_ u_4 H1 locs1 hp_5 hP1 hD1 hS1 hz1 => ?_)
            try dsimp only at hp_5 hP1 hD1
            subst hp_5
            generalize H1 = H at hP1 hD1 hS1 hz1 ⊢
            generalize locs1 = locs at hS1 ⊢
            have hS := hS1
            have hP : va_P G.1 vwCl [(h0, .inr (2, [.ref ra, .ref rb, .ref rc, .int (zI (k : Int)), .int (zI f0), .int (zI l0), .int (zI b1), .int (zI t1), .int (zI x0), .int (zI y0)])), zci G ra 10 P, zci G rb 10 Qu, zci G rc 10 M] H := hP1
            have hD : va_D A [(h0, .inr (2, [.ref ra, .ref rb, .ref rc, .int (zI (k : Int)), .int (zI f0), .int (zI l0), .int (zI b1), .int (zI t1), .int (zI x0), .int (zI y0)])), zci G ra 10 P, zci G rb 10 Qu, zci G rc 10 M] := hD1
            have d1 := zdivb (A := 130000000) (x := M i - P i * cl) (show 0 < -Qu i by omega) (by omega) (by omega)
            refine zv_ineg S dX2_findEnds_88 ?_
            refine zv_max S hl (by unfold zR; omega) (by unfold zR; omega) wd_X2_findEnds_m59 wd_X2_findEnds_smax wd_X2_findEnds_iM wd_X2_findEnds_cmax (by decide) (Nat.le_of_ble_eq_true rfl) (Nat.le_of_ble_eq_true rfl) (Nat.le_of_ble_eq_true rfl) dX2_findEnds_89 ?_
            refine zv_put (C := RX2) (T := TX2) (N := 10) (ci := 2) (v := .int (zI (zmax b1 (-(((M i) - ((P i) * cl)) / (-(Qu i))))))) S in_X2_findEnds_X2 tyX2 tyX2_ok nmX2 hK hP hD hS 0 rfl rfl 6 (by decide) wd_X2_findEnds_f56 rfl rfl rfl rfl (Nat.le_of_ble_eq_true rfl) dX2_findEnds_92 (fun H locs hP hD hS => ?_)
            have hP : va_P G.1 vwCl [(h0, .inr (2, [.ref ra, .ref rb, .ref rc, .int (zI (k : Int)), .int (zI f0), .int (zI l0), .int (zI (zmax b1 (-(((M i) - ((P i) * cl)) / (-(Qu i)))))), .int (zI t1), .int (zI x0), .int (zI y0)])), zci G ra 10 P, zci G rb 10 Qu, zci G rc 10 M] H := hP
            have hD : va_D A [(h0, .inr (2, [.ref ra, .ref rb, .ref rc, .int (zI (k : Int)), .int (zI f0), .int (zI l0), .int (zI (zmax b1 (-(((M i) - ((P i) * cl)) / (-(Qu i)))))), .int (zI t1), .int (zI x0), .int (zI y0)])), zci G ra 10 P, zci G rb 10 Qu, zci G rc 10 M] := hD
            refine zv_iinc (k0 := 2) (lv' := [(2, .int (zI (v2 + 1))), (4, .int (zI (Qu i))), (3, .int (zI ((M i) - ((P i) * cl)))), (0, .ref h0), (1, .int (zI cl))]) S dX2_findEnds_95 hl rfl (by decide) rfl (fun ls hl => ?_)
            refine zv_goto (tgt := 14) S dX2_findEnds_98 (by decide) ?_
            exact ih14 (i + 1) (v2 + 1) (zmax b1 (-(((M i) - ((P i) * cl)) / (-(Qu i))))) t1 (by omega) (by omega) (by unfold zmax; split <;> omega) ht1 (zen2 hv (by omega)) (by omega) _ _ hP hD hS _ (lv_sub hl [0, 3, 4] rfl)
        · refine zv_aload_n S dX2_findEnds_51 rfl (lv_at hl 3 rfl) ?_
          refine zv_aload_n S dX2_findEnds_52 rfl (lv_at hl 3 rfl) ?_
          refine zv_get (C := RX2) (T := TX2) (N := 10) (ci := 2) (v := .int (zI t1)) S in_X2_findEnds_X2 hK hP 0 rfl rfl 7 (by decide) wd_X2_findEnds_f53 rfl rfl dX2_findEnds_53 ?_
          refine zv_iload_n S dX2_findEnds_56 rfl (lv_at hl 1 rfl) ?_
          refine zv_iload S dX2_findEnds_57 (lv_at hl 0 rfl) ?_
          refine zc_Si (As := [.int (zI ((M i) - ((P i) * cl))), .int (zI (Qu i))]) (rest := [.int (zI t1), .ref h0]) (wr := [(h0, .inr (2, [.ref ra, .ref rb, .ref rc, .int (zI (k : Int)), .int (zI f0), .int (zI l0), .int (zI b1), .int (zI t1), .int (zI x0), .int (zI y0)])), zci G ra 10 P, zci G rb 10 Qu, zci G rc 10 M]) (n := 2) S hN hK hP hD hS hA hl (c_J9_floorDiv_7cf53 l G H.size ((M i) - ((P i) * cl)) (Qu i) (by omega) (by omega)) gX2_findEnds_J9_floorDiv_7cf53 rfl ⟨rfl, rfl⟩ (by decide +kernel) rfl ⟨Nat.le_of_ble_eq_true rfl, Nat.le_of_ble_eq_true rfl, Nat.le_of_ble_eq_true rfl, Nat.le_of_ble_eq_true rfl⟩ [] [0, 1, 2, 3] rfl rfl (by decide) (by decide) (by decide) (Nat.le_of_ble_eq_true rfl) dX2_findEnds_59 rfl (fun r_ u_6 H1 locs1 hp_7 hP1 hD1 hS1 hz1 => ?_)
          try dsimp only at hp_7 hP1 hD1
          subst hp_7
          generalize H1 = H at hP1 hD1 hS1 hz1 ⊢
          generalize locs1 = locs at hS1 ⊢
          have hS := hS1
          have hP : va_P G.1 vwCl [(h0, .inr (2, [.ref ra, .ref rb, .ref rc, .int (zI (k : Int)), .int (zI f0), .int (zI l0), .int (zI b1), .int (zI t1), .int (zI x0), .int (zI y0)])), zci G ra 10 P, zci G rb 10 Qu, zci G rc 10 M] H := hP1
          have hD : va_D A [(h0, .inr (2, [.ref ra, .ref rb, .ref rc, .int (zI (k : Int)), .int (zI f0), .int (zI l0), .int (zI b1), .int (zI t1), .int (zI x0), .int (zI y0)])), zci G ra 10 P, zci G rb 10 Qu, zci G rc 10 M] := hD1
          have d1 := zdivb (A := 130000000) (x := M i - P i * cl) (show 0 < Qu i by omega) (by omega) (by omega)
          refine zv_min S hl (by unfold zR; omega) (by unfold zR; omega) wd_X2_findEnds_m80 wd_X2_findEnds_smin wd_X2_findEnds_iM wd_X2_findEnds_cmin (by decide) (Nat.le_of_ble_eq_true rfl) (Nat.le_of_ble_eq_true rfl) (Nat.le_of_ble_eq_true rfl) dX2_findEnds_62 ?_
          refine zv_put (C := RX2) (T := TX2) (N := 10) (ci := 2) (v := .int (zI (zmin t1 (((M i) - ((P i) * cl)) / (Qu i))))) S in_X2_findEnds_X2 tyX2 tyX2_ok nmX2 hK hP hD hS 0 rfl rfl 7 (by decide) wd_X2_findEnds_f53 rfl rfl rfl rfl (Nat.le_of_ble_eq_true rfl) dX2_findEnds_65 (fun H locs hP hD hS => ?_)
          have hP : va_P G.1 vwCl [(h0, .inr (2, [.ref ra, .ref rb, .ref rc, .int (zI (k : Int)), .int (zI f0), .int (zI l0), .int (zI b1), .int (zI (zmin t1 (((M i) - ((P i) * cl)) / (Qu i)))), .int (zI x0), .int (zI y0)])), zci G ra 10 P, zci G rb 10 Qu, zci G rc 10 M] H := hP
          have hD : va_D A [(h0, .inr (2, [.ref ra, .ref rb, .ref rc, .int (zI (k : Int)), .int (zI f0), .int (zI l0), .int (zI b1), .int (zI (zmin t1 (((M i) - ((P i) * cl)) / (Qu i)))), .int (zI x0), .int (zI y0)])), zci G ra 10 P, zci G rb 10 Qu, zci G rc 10 M] := hD
          refine zv_goto (tgt := 95) S dX2_findEnds_68 (by decide) ?_
          refine zv_iinc (k0 := 2) (lv' := [(2, .int (zI (v2 + 1))), (4, .int (zI (Qu i))), (3, .int (zI ((M i) - ((P i) * cl)))), (0, .ref h0), (1, .int (zI cl))]) S dX2_findEnds_95 hl rfl (by decide) rfl (fun ls hl => ?_)
          refine zv_goto (tgt := 14) S dX2_findEnds_98 (by decide) ?_
          exact ih14 (i + 1) (v2 + 1) b1 (zmin t1 (((M i) - ((P i) * cl)) / (Qu i))) (by omega) (by omega) hb1 (by unfold zmin; split <;> omega) (zen1 hv (by omega)) (by omega) _ _ hP hD hS _ (lv_sub hl [0, 3, 4] rfl)
  exact LP14 _ 0 0 (-2000000) 2000000 rfl (Nat.zero_le _) (by omega) (by omega) zen0 (Nat.lt_succ_self _) _ _ hP hD hS _ (lv_sub hl [0, 1, 2] rfl)
