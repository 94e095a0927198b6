theorem wd_X0_payOneMore_f15 : Cond.fieldLink RX0 15 "PointMill$Coins" "leastSum" "[I" ∈ wsX0_payOneMore := by decide +kernel
theorem in_X0_payOneMore_X0 : ∀ w ∈ wsX00, w ∈ wsX0_payOneMore := by decide +kernel
set_option maxHeartbeats 4000000 in
set_option maxRecDepth 100000 in
/-- Coins.payOneMore -/
theorem c_X0_payOneMore (l : Launch) (G : zG) (sz : Nat) (h0 : Nat) (qw : Nat) (ql : Nat) (n : Nat) (wg : Int) (L0 : Nat → Int) (vi : Int) (vv : Nat) (mm : Nat) (hvi : vi = (vv : Int)) (hn : n < 2 ^ 60) (hmm : 1 ≤ mm ∧ mm ≤ 60) (hvv : mm < vv ∧ vv ≤ 60) (hcv : zkc n vv) (hL0 : zso (zkc n) mm L0) : Met l yX0_payOneMore wsX0_payOneMore ({ frames := 1, cells := 0, slots := 0, locals := 22 }) (va_Pc [.ref h0, .int (zI vi), .int (zI (mm : Int))] (zPre G sz [(h0, .inr (0, [.ref qw, .ref ql, .long (zL (n : Int)), .int (zI wg)])), zci G ql 60 L0])) (va_Qi (fun (r : Int32) (u : (Int) × (Nat → Int)) => r = zI u.1 ∧ (zso (zkc n) mm u.2) ∧ (∀ r, r < mm → u.2 r ≤ L0 r) ∧ (∀ r, r < mm → u.2 ((r + vv) % mm) ≤ L0 r + (vv : Int)) ∧ ((u.1 = 0 ∧ ∀ r, r < mm → u.2 r = L0 r) ∨ u.1 = 1)) (fun u => zW G (va_A [(h0, .inr (0, [.ref qw, .ref ql, .long (zL (n : Int)), .int (zI wg)])), zci G ql 60 L0] sz) ((fun (u : (Int) × (Nat → Int)) => [(h0, .inr (0, [.ref qw, .ref ql, .long (zL (n : Int)), .int (zI wg)])), zci G ql 60 u.2]) u)) (va_A [(h0, .inr (0, [.ref qw, .ref ql, .long (zL (n : Int)), .int (zI wg)])), zci G ql 60 L0] sz)) 0 0 (va_A [(h0, .inr (0, [.ref qw, .ref ql, .long (zL (n : Int)), .int (zI wg)])), zci G ql 60 L0] sz) := by
  subst hvi
  refine zM_z (post := fun (r : Int32) (u : (Int) × (Nat → Int)) => r = zI u.1 ∧ (zso (zkc n) mm u.2) ∧ (∀ r, r < mm → u.2 r ≤ L0 r) ∧ (∀ r, r < mm → u.2 ((r + vv) % mm) ≤ L0 r + (vv : Int)) ∧ ((u.1 = 0 ∧ ∀ r, r < mm → u.2 r = L0 r) ∨ u.1 = 1)) (w1 := fun (u : (Int) × (Nat → Int)) => [(h0, .inr (0, [.ref qw, .ref ql, .long (zL (n : Int)), .int (zI wg)])), zci G ql 60 u.2]) (plainFor_of_name (by decide)) rfl (Nat.le_of_ble_eq_true rfl) ?_
  intro p e s m below meth c A Q S hN hK hP hD hS hA hret ls hl
  have hl : lv_has ls 7 [(0, .ref h0), (1, .int (zI (vv : Int))), (2, .int (zI (mm : Int)))] := hl
  refine zv_iconst S dX0_payOneMore_0 ?_
  refine zv_istore_n (lv' := [(3, .int (zI 0)), (0, .ref h0), (1, .int (zI (vv : Int))), (2, .int (zI (mm : Int)))]) S dX0_payOneMore_1 rfl hl (by decide) rfl (fun ls hl => ?_)
  refine zv_iconst S dX0_payOneMore_2 ?_
  refine zv_istore (lv' := [(4, .int (zI 0)), (3, .int (zI 0)), (0, .ref h0), (1, .int (zI (vv : Int))), (2, .int (zI (mm : Int)))]) S dX0_payOneMore_3 hl (by decide) rfl (fun ls hl => ?_)
  have LP5 : ∀ (nf : Nat) (t : Nat) (v4 : Int) (ch : Int) (L1 : Nat → Int) (hv4 : v4 = (t : Int)) (ht : t ≤ mm) (h1 : zso (zkc n) mm L1) (h2 : ∀ r, r < mm → L1 r ≤ L0 r) (h3 : ∀ r, r < t → L1 ((r + vv) % mm) ≤ L0 r + (vv : Int)) (h4 : (ch = 0 ∧ ∀ r, r < mm → L1 r = L0 r) ∨ ch = 1), (mm - t) < nf → ∀ (H : Heap) (locs : List Loc), va_P G.1 vwCl [(h0, .inr (0, [.ref qw, .ref ql, .long (zL (n : Int)), .int (zI wg)])), zci G ql 60 L1] H → va_D A [(h0, .inr (0, [.ref qw, .ref ql, .long (zL (n : Int)), .int (zI wg)])), zci G ql 60 L1] → va_S A s.heap H locs → ∀ ls : Array Slot, lv_has ls 7 [(4, .int (zI v4)), (3, .int (zI ch)), (0, .ref h0), (1, .int (zI (vv : Int))), (2, .int (zI (mm : Int)))] → W p l e ({ frames := 1, cells := 0, slots := 0, locals := 22 }) s m ([.ref h0, .int (zI (vv : Int)), .int (zI (mm : Int))]).toArray below meth c H locs 0 0 Q (F0 m 5 ls []) := by
    intro nf
    induction nf with
    | zero =>
      intro t v4 ch L1 hv4 ht h1 h2 h3 h4 hf
      exact absurd hf (Nat.not_lt_zero _)
    | succ nf ih5 =>
      intro t v4 ch L1 hv4 ht h1 h2 h3 h4 hf H locs hP hD hS ls hl
      refine zv_iload S dX0_payOneMore_5 (lv_at hl 0 rfl) ?_
      refine zv_iload_n S dX0_payOneMore_7 rfl (lv_at hl 4 rfl) ?_
      refine zv_icmp_ge (tgt := 61) S (by unfold zR; omega) (by unfold zR; omega) dX0_payOneMore_8 (by decide) (fun c_1 => ?_) (fun c_1 => ?_)
      · refine zv_iload_n S dX0_payOneMore_61 rfl (lv_at hl 1 rfl) ?_
        exact hret _ _ _ _ _ ⟨ch, L1⟩ dX0_payOneMore_62 (by rcases h4 with h | h; exact Or.inl (congrArg zI h.1); exact Or.inr (congrArg zI h)) ⟨rfl, (show zso (zkc n) mm L1 from h1), (show ∀ r, r < mm → L1 r ≤ L0 r from h2), (show ∀ r, r < mm → L1 ((r + vv) % mm) ≤ L0 r + (vv : Int) from (fun r hr => h3 r (by omega))), (show (ch = 0 ∧ ∀ r, r < mm → L1 r = L0 r) ∨ ch = 1 from h4)⟩ (hP.sub [0, 1] rfl) (hD.sub [0, 1] (by decide) rfl) hS
      · refine zv_aload_n S dX0_payOneMore_11 rfl (lv_at hl 2 rfl) ?_
        refine zv_get (C := RX0) (T := TX0) (N := 4) (ci := 0) (v := .ref ql) S in_X0_payOneMore_X0 hK hP 0 rfl rfl 1 (by decide) wd_X0_payOneMore_f15 rfl rfl dX0_payOneMore_12 ?_
        refine zv_iload S dX0_payOneMore_15 (lv_at hl 0 rfl) ?_
        refine zv_iald S hK hP 1 0 rfl rfl t hv4 (by omega) (by decide) dX0_payOneMore_17 ?_
        refine zv_iload_n S dX0_payOneMore_18 rfl (lv_at hl 3 rfl) ?_
        have k1 := h1 t (by omega)
        refine zv_iadd S dX0_payOneMore_19 ?_
        refine zv_istore (lv' := [(5, .int (zI ((L1 t) + (vv : Int)))), (4, .int (zI v4)), (3, .int (zI ch)), (0, .ref h0), (1, .int (zI (vv : Int))), (2, .int (zI (mm : Int)))]) S dX0_payOneMore_20 hl (by decide) rfl (fun ls hl => ?_)
        refine zv_iload S dX0_payOneMore_22 (lv_at hl 1 rfl) ?_
        refine zv_iload_n S dX0_payOneMore_24 rfl (lv_at hl 4 rfl) ?_
        refine zv_iadd S dX0_payOneMore_25 ?_
        refine zv_iload_n S dX0_payOneMore_26 rfl (lv_at hl 5 rfl) ?_
        refine zc_Si (As := [.int (zI (v4 + (vv : Int))), .int (zI (mm : Int))]) (rest := []) (wr := [(h0, .inr (0, [.ref qw, .ref ql, .long (zL (n : Int)), .int (zI wg)])), zci G ql 60 L1]) (n := 2) S hN hK hP hD hS hA hl (c_J9_floorMod_7cf53 l G H.size (v4 + (vv : Int)) (mm : Int) (by omega) (by omega)) gX0_payOneMore_J9_floorMod_7cf53 rfl ⟨rfl, rfl⟩ (by decide +kernel) rfl ⟨Nat.le_of_ble_eq_true rfl, Nat.le_of_ble_eq_true rfl, Nat.le_of_ble_eq_true rfl, Nat.le_of_ble_eq_true rfl⟩ [] [0, 1] rfl rfl (by decide) (by decide) (by decide) (Nat.le_of_ble_eq_true rfl) dX0_payOneMore_27 rfl (fun r_ u_2 H1 locs1 hp_3 hP1 hD1 hS1 hz1 => ?_)
        try dsimp only at hp_3 hP1 hD1
        subst hp_3
        generalize H1 = H at hP1 hD1 hS1 hz1 ⊢
        generalize locs1 = locs at hS1 ⊢
        have hS := hS1
        have hP : va_P G.1 vwCl [(h0, .inr (0, [.ref qw, .ref ql, .long (zL (n : Int)), .int (zI wg)])), zci G ql 60 L1] H := hP1
        have hD : va_D A [(h0, .inr (0, [.ref qw, .ref ql, .long (zL (n : Int)), .int (zI wg)])), zci G ql 60 L1] := hD1
        refine zv_istore (lv' := [(6, .int (zI ((v4 + (vv : Int)) % (mm : Int)))), (5, .int (zI ((L1 t) + (vv : Int)))), (4, .int (zI v4)), (3, .int (zI ch)), (0, .ref h0), (1, .int (zI (vv : Int))), (2, .int (zI (mm : Int)))]) S dX0_payOneMore_30 hl (by decide) rfl (fun ls hl => ?_)
        refine zv_iload S dX0_payOneMore_32 (lv_at hl 1 rfl) ?_
        refine zv_aload_n S dX0_payOneMore_34 rfl (lv_at hl 4 rfl) ?_
        refine zv_get (C := RX0) (T := TX0) (N := 4) (ci := 0) (v := .ref ql) S in_X0_payOneMore_X0 hK hP 0 rfl rfl 1 (by decide) wd_X0_payOneMore_f15 rfl rfl dX0_payOneMore_35 ?_
        refine zv_iload S dX0_payOneMore_38 (lv_at hl 0 rfl) ?_
        refine zv_iald S hK hP 1 0 rfl rfl ((t + vv) % mm) (by rw [hv4]; exact zmod_nat t vv mm) (by have := Nat.mod_lt (t + vv) (show 0 < mm by omega); omega) (by decide) dX0_payOneMore_40 ?_
        have k2 := h1 ((t + vv) % mm) (Nat.mod_lt _ (by omega))
        refine zv_icmp_ge (tgt := 55) S (by unfold zR; omega) (by unfold zR; omega) dX0_payOneMore_41 (by decide) (fun c_4 => ?_) (fun c_4 => ?_)
        · refine zv_iinc (k0 := 2) (lv' := [(4, .int (zI (v4 + 1))), (6, .int (zI ((v4 + (vv : Int)) % (mm : Int)))), (5, .int (zI ((L1 t) + (vv : Int)))), (3, .int (zI ch)), (0, .ref h0), (1, .int (zI (vv : Int))), (2, .int (zI (mm : Int)))]) S dX0_payOneMore_55 hl rfl (by decide) rfl (fun ls hl => ?_)
          refine zv_goto (tgt := 5) S dX0_payOneMore_58 (by decide) ?_
          exact ih5 (t + 1) (v4 + 1) ch L1 (by omega) (by omega) h1 h2 (zst_not h2 h3 (by omega) c_4) h4 (by omega) _ _ hP hD hS _ (lv_sub hl [0, 3, 4, 5, 6] rfl)
        · refine zv_aload_n S dX0_payOneMore_44 rfl (lv_at hl 4 rfl) ?_
          refine zv_get (C := RX0) (T := TX0) (N := 4) (ci := 0) (v := .ref ql) S in_X0_payOneMore_X0 hK hP 0 rfl rfl 1 (by decide) wd_X0_payOneMore_f15 rfl rfl dX0_payOneMore_45 ?_
          refine zv_iload S dX0_payOneMore_48 (lv_at hl 0 rfl) ?_
          refine zv_iload S dX0_payOneMore_50 (lv_at hl 1 rfl) ?_
          refine zv_iast S hK hP hD hS 1 0 rfl rfl ((t + vv) % mm) (by rw [hv4]; exact zmod_nat t vv mm) (by have := Nat.mod_lt (t + vv) (show 0 < mm by omega); omega) (by decide) dX0_payOneMore_52 (fun H locs hP hD hS => ?_)
          have hP : va_P G.1 vwCl [(h0, .inr (0, [.ref qw, .ref ql, .long (zL (n : Int)), .int (zI wg)])), zci G ql 60 (zU L1 ((t + vv) % mm) ((L1 t) + (vv : Int)))] H := hP
          have hD : va_D A [(h0, .inr (0, [.ref qw, .ref ql, .long (zL (n : Int)), .int (zI wg)])), zci G ql 60 (zU L1 ((t + vv) % mm) ((L1 t) + (vv : Int)))] := hD
          refine zv_iconst S dX0_payOneMore_53 ?_
          refine zv_istore_n (lv' := [(3, .int (zI 1)), (6, .int (zI ((v4 + (vv : Int)) % (mm : Int)))), (5, .int (zI ((L1 t) + (vv : Int)))), (4, .int (zI v4)), (0, .ref h0), (1, .int (zI (vv : Int))), (2, .int (zI (mm : Int)))]) S dX0_payOneMore_54 rfl hl (by decide) rfl (fun ls hl => ?_)
          refine zv_iinc (k0 := 3) (lv' := [(4, .int (zI (v4 + 1))), (3, .int (zI 1)), (6, .int (zI ((v4 + (vv : Int)) % (mm : Int)))), (5, .int (zI ((L1 t) + (vv : Int)))), (0, .ref h0), (1, .int (zI (vv : Int))), (2, .int (zI (mm : Int)))]) S dX0_payOneMore_55 hl rfl (by decide) rfl (fun ls hl => ?_)
          refine zv_goto (tgt := 5) S dX0_payOneMore_58 (by decide) ?_
          exact ih5 (t + 1) (v4 + 1) 1 (zU L1 ((t + vv) % mm) ((L1 t) + (vv : Int))) (by omega) (by omega) (zso_put h1 (by omega) (by omega) hvv.2 hcv (by omega)) (zle_put h2 (by omega) (by omega)) (zst_put h2 h3 (by omega) (by omega)) (Or.inr rfl) (by omega) _ _ hP hD hS _ (lv_sub hl [0, 1, 4, 5, 6] rfl)
  exact LP5 _ 0 0 0 L0 rfl (Nat.zero_le _) hL0 (fun r _ => Int.le_refl _) (fun r h => absurd h (Nat.not_lt_zero r)) (Or.inl ⟨rfl, fun r _ => rfl⟩) (Nat.lt_succ_self _) _ _ hP hD hS _ (lv_sub hl [0, 1, 2, 3, 4] rfl)

theorem wd_X0_findLeastSums_f15 : Cond.fieldLink RX0 15 "PointMill$Coins" "leastSum" "[I" ∈ wsX0_findLeastSums := by decide +kernel
theorem in_X0_findLeastSums_X0 : ∀ w ∈ wsX00, w ∈ wsX0_findLeastSums := by decide +kernel
theorem wd_X0_findLeastSums_k54 : Cond.constant RX0 54 (1000000) ∈ wsX0_findLeastSums := by decide +kernel
set_option maxHeartbeats 4000000 in
set_option maxRecDepth 100000 in
/-- Coins.findLeastSums -/
theorem c_X0_findLeastSums (l : Launch) (G : zG) (sz : Nat) (h0 : Nat) (qw : Nat) (ql : Nat) (n : Nat) (wg : Int) (L0 : Nat → Int) (mm : Nat) (hn : n < 2 ^ 60) (hmm : 1 ≤ mm ∧ mm ≤ 60) : Met l yX0_findLeastSums wsX0_findLeastSums ({ frames := 2, cells := 0, slots := 0, locals := 48 }) (va_Pc [.ref h0, .int (zI (mm : Int))] (zPre G sz [(h0, .inr (0, [.ref qw, .ref ql, .long (zL (n : Int)), .int (zI wg)])), zci G ql 60 L0])) (va_Qv (fun (u : (Nat → Int)) => (zso (zkc n) mm u) ∧ ((zfix (zkc n) mm u ∨ zcp (zkc n) mm mm u) ∧ u 0 ≤ 0)) (fun u => zW G (va_A [(h0, .inr (0, [.ref qw, .ref ql, .long (zL (n : Int)), .int (zI wg)])), zci G ql 60 L0] sz) ((fun (u : (Nat → Int)) => [(h0, .inr (0, [.ref qw, .ref ql, .long (zL (n : Int)), .int (zI wg)])), zci G ql 60 u]) u)) (va_A [(h0, .inr (0, [.ref qw, .ref ql, .long (zL (n : Int)), .int (zI wg)])), zci G ql 60 L0] sz)) 0 0 (va_A [(h0, .inr (0, [.ref qw, .ref ql, .long (zL (n : Int)), .int (zI wg)])), zci G ql 60 L0] sz) := by
  refine zM_v (post := fun (u : (Nat → Int)) => (zso (zkc n) mm u) ∧ ((zfix (zkc n) mm u ∨ zcp (zkc n) mm mm u) ∧ u 0 ≤ 0)) (w1 := fun (u : (Nat → Int)) => [(h0, .inr (0, [.ref qw, .ref ql, .long (zL (n : Int)), .int (zI wg)])), zci G ql 60 u]) (plainFor_of_name (by decide)) rfl (Nat.le_of_ble_eq_true rfl) ?_
  intro p e s m below meth c A Q S hN hK hP hD hS hA hret ls hl
  have hl : lv_has ls 5 [(0, .ref h0), (1, .int (zI (mm : Int)))] := hl
  refine zv_aload_n S dX0_findLeastSums_0 rfl (lv_at hl 0 rfl) ?_
  refine zv_get (C := RX0) (T := TX0) (N := 4) (ci := 0) (v := .ref ql) S in_X0_findLeastSums_X0 hK hP 0 rfl rfl 1 (by decide) wd_X0_findLeastSums_f15 rfl rfl dX0_findLeastSums_1 ?_
  refine zv_iconst S dX0_findLeastSums_4 ?_
  refine zv_iconst S dX0_findLeastSums_5 ?_
  refine zv_iast S hK hP hD hS 1 0 rfl rfl 0 rfl (by decide) (by decide) dX0_findLeastSums_6 (fun H locs hP hD hS => ?_)
  have hP : va_P G.1 vwCl [(h0, .inr (0, [.ref qw, .ref ql, .long (zL (n : Int)), .int (zI wg)])), zci G ql 60 (zU L0 0 0)] H := hP
  have hD : va_D A [(h0, .inr (0, [.ref qw, .ref ql, .long (zL (n : Int)), .int (zI wg)])), zci G ql 60 (zU L0 0 0)] := hD
  refine zv_iconst S dX0_findLeastSums_7 ?_
  refine zv_istore_n (lv' := [(2, .int (zI 1)), (0, .ref h0), (1, .int (zI (mm : Int)))]) S dX0_findLeastSums_8 rfl hl (by decide) rfl (fun ls hl => ?_)
  have LP9 : ∀ (nf : Nat) (t : Nat) (v2 : Int) (L1 : Nat → Int) (hv2 : v2 = (t : Int) + 1) (ht : t + 1 ≤ mm) (hz0 : L1 0 = 0) (hz1 : ∀ r, 1 ≤ r → r < t + 1 → L1 r = 1000000), (mm - t) < nf → ∀ (H : Heap) (locs : List Loc), va_P G.1 vwCl [(h0, .inr (0, [.ref qw, .ref ql, .long (zL (n : Int)), .int (zI wg)])), zci G ql 60 L1] H → va_D A [(h0, .inr (0, [.ref qw, .ref ql, .long (zL (n : Int)), .int (zI wg)])), zci G ql 60 L1] → va_S A s.heap H locs → ∀ ls : Array Slot, lv_has ls 5 [(2, .int (zI v2)), (0, .ref h0), (1, .int (zI (mm : Int)))] → W p l e ({ frames := 2, cells := 0, slots := 0, locals := 48 }) s m ([.ref h0, .int (zI (mm : Int))]).toArray below meth c H locs 0 0 Q (F0 m 9 ls []) := by
    intro nf
    induction nf with
    | zero =>
      intro t v2 L1 hv2 ht hz0 hz1 hf
      exact absurd hf (Nat.not_lt_zero _)
    | succ nf ih9 =>
      intro t v2 L1 hv2 ht hz0 hz1 hf H locs hP hD hS ls hl
      refine zv_iload_n S dX0_findLeastSums_9 rfl (lv_at hl 0 rfl) ?_
      refine zv_iload_n S dX0_findLeastSums_10 rfl (lv_at hl 2 rfl) ?_
      refine zv_icmp_ge (tgt := 28) S (by unfold zR; omega) (by unfold zR; omega) dX0_findLeastSums_11 (by decide) (fun c_1 => ?_) (fun c_1 => ?_)
      · refine zv_iconst S dX0_findLeastSums_28 ?_
        refine zv_istore_n (lv' := [(2, .int (zI 1)), (0, .ref h0), (1, .int (zI (mm : Int)))]) S dX0_findLeastSums_29 rfl hl (by decide) rfl (fun ls hl => ?_)
        refine zv_iconst S dX0_findLeastSums_30 ?_
        refine zv_istore_n (lv' := [(3, .int (zI 0)), (2, .int (zI 1)), (0, .ref h0), (1, .int (zI (mm : Int)))]) S dX0_findLeastSums_31 rfl hl (by decide) rfl (fun ls hl => ?_)
        have LP32 : ∀ (nf : Nat) (rd : Nat) (v3 : Int) (ch : Int) (L2 : Nat → Int) (hv3 : v3 = (rd : Int)) (hrd : rd ≤ mm) (g1 : zso (zkc n) mm L2) (g2 : zcp (zkc n) mm rd L2) (g3 : (ch = 0 ∧ zfix (zkc n) mm L2) ∨ ch = 1), (mm - rd) < nf → ∀ (H : Heap) (locs : List Loc), va_P G.1 vwCl [(h0, .inr (0, [.ref qw, .ref ql, .long (zL (n : Int)), .int (zI wg)])), zci G ql 60 L2] H → va_D A [(h0, .inr (0, [.ref qw, .ref ql, .long (zL (n : Int)), .int (zI wg)])), zci G ql 60 L2] → va_S A s.heap H locs → ∀ ls : Array Slot, lv_has ls 5 [(3, .int (zI v3)), (2, .int (zI ch)), (0, .ref h0), (1, .int (zI (mm : Int)))] → W p l e ({ frames := 2, cells := 0, slots := 0, locals := 48 }) s m ([.ref h0, .int (zI (mm : Int))]).toArray below meth c H locs 0 0 Q (F0 m 32 ls []) := by
          intro nf
          induction nf with
          | zero =>
            intro rd v3 ch L2 hv3 hrd g1 g2 g3 hf
            exact absurd hf (Nat.not_lt_zero _)
          | succ nf ih32 =>
            intro rd v3 ch L2 hv3 hrd g1 g2 g3 hf H locs hP hD hS ls hl
            refine zv_iload_n S dX0_findLeastSums_32 rfl (lv_at hl 0 rfl) ?_
            refine zv_iload_n S dX0_findLeastSums_33 rfl (lv_at hl 3 rfl) ?_
            refine zv_icmp_ge (tgt := 88) S (by unfold zR; omega) (by unfold zR; omega) dX0_findLeastSums_34 (by decide) (fun c_2 => ?_) (fun c_2 => ?_)
            · exact hret _ _ _ _ L2 dX0_findLeastSums_88 ⟨(show zso (zkc n) mm L2 from g1), (show (zfix (zkc n) mm L2 ∨ zcp (zkc n) mm mm L2) ∧ L2 0 ≤ 0 from ⟨Or.inr (by have e : rd = mm := (by omega); rw [e] at g2; exact g2), zcp_00 g2⟩)⟩ (hP.sub [0, 1] rfl) (hD.sub [0, 1] (by decide) rfl) hS
            · refine zv_iload_n S dX0_findLeastSums_37 rfl (lv_at hl 1 rfl) ?_
              refine zv_if_eq (tgt := 88) S (by unfold zR; rcases g3 with h | h <;> omega) dX0_findLeastSums_38 (by decide) (fun c_3 => ?_) (fun c_3 => ?_)
              · exact hret _ _ _ _ L2 dX0_findLeastSums_88 ⟨(show zso (zkc n) mm L2 from g1), (show (zfix (zkc n) mm L2 ∨ zcp (zkc n) mm mm L2) ∧ L2 0 ≤ 0 from ⟨Or.inl (zch_fix g3 c_3), zcp_00 g2⟩)⟩ (hP.sub [0, 1] rfl) (hD.sub [0, 1] (by decide) rfl) hS
              · refine zv_iconst S dX0_findLeastSums_41 ?_
                refine zv_istore_n (lv' := [(2, .int (zI 0)), (3, .int (zI v3)), (0, .ref h0), (1, .int (zI (mm : Int)))]) S dX0_findLeastSums_42 rfl hl (by decide) rfl (fun ls hl => ?_)
                refine zv_iload_n S dX0_findLeastSums_43 rfl (lv_at hl 3 rfl) ?_
                refine zv_iconst S dX0_findLeastSums_44 ?_
                refine zv_iadd S dX0_findLeastSums_45 ?_
                refine zv_istore (lv' := [(4, .int (zI ((mm : Int) + 1))), (2, .int (zI 0)), (3, .int (zI v3)), (0, .ref h0), (1, .int (zI (mm : Int)))]) S dX0_findLeastSums_46 hl (by decide) rfl (fun ls hl => ?_)
                have LP48 : ∀ (nf : Nat) (u : Nat) (v4 : Int) (ch2 : Int) (L3 : Nat → Int) (hv4 : v4 = ((u + 1 : Nat) : Int)) (hu : mm ≤ u ∧ u ≤ 60) (k1 : zso (zkc n) mm L3) (k2 : ∀ r, r < mm → L3 r ≤ L2 r) (k3 : ∀ v, mm < v → v < u + 1 → zkc n v → ∀ r, r < mm → L3 ((r + v) % mm) ≤ L2 r + (v : Int)) (k4 : (ch2 = 0 ∧ ∀ r, r < mm → L3 r = L2 r) ∨ ch2 = 1), (60 - u) < nf → ∀ (H : Heap) (locs : List Loc), va_P G.1 vwCl [(h0, .inr (0, [.ref qw, .ref ql, .long (zL (n : Int)), .int (zI wg)])), zci G ql 60 L3] H → va_D A [(h0, .inr (0, [.ref qw, .ref ql, .long (zL (n : Int)), .int (zI wg)])), zci G ql 60 L3] → va_S A s.heap H locs → ∀ ls : Array Slot, lv_has ls 5 [(4, .int (zI v4)), (2, .int (zI ch2)), (3, .int (zI v3)), (0, .ref h0), (1, .int (zI (mm : Int)))] → W p l e ({ frames := 2, cells := 0, slots := 0, locals := 48 }) s m ([.ref h0, .int (zI (mm : Int))]).toArray below meth c H locs 0 0 Q (F0 m 48 ls []) := by
                  intro nf
                  induction nf with
                  | zero =>
                    intro u v4 ch2 L3 hv4 hu k1 k2 k3 k4 hf
                    exact absurd hf (Nat.not_lt_zero _)
                  | succ nf ih48 =>
                    intro u v4 ch2 L3 hv4 hu k1 k2 k3 k4 hf H locs hP hD hS ls hl
                    refine zv_iload S dX0_findLeastSums_48 (lv_at hl 0 rfl) ?_
                    refine zv_bipush (v := 60) S dX0_findLeastSums_50 (by decide) ?_
                    refine zv_icmp_gt (tgt := 82) S (by unfold zR; omega) (by unfold zR; omega) dX0_findLeastSums_52 (by decide) (fun c_4 => ?_) (fun c_4 => ?_)
                    · refine zv_iinc (k0 := 2) (lv' := [(3, .int (zI (v3 + 1))), (4, .int (zI v4)), (2, .int (zI ch2)), (0, .ref h0), (1, .int (zI (mm : Int)))]) S dX0_findLeastSums_82 hl rfl (by decide) rfl (fun ls hl => ?_)
                      refine zv_goto (tgt := 32) S dX0_findLeastSums_85 (by decide) ?_
                      exact ih32 (rd + 1) (v3 + 1) ch2 L3 (by omega) (by omega) k1 (zcp_s (by omega) g2 k2 (fun v a b d => k3 v a (by omega) d)) (by rcases k4 with h | h; exact Or.inl ⟨h.1, zfix_of (by omega) h.2 (fun v a b d => k3 v a (by omega) d)⟩; exact Or.inr h) (by omega) _ _ hP hD hS _ (lv_sub hl [0, 2, 3, 4] rfl)
                    · refine zv_aload_n S dX0_findLeastSums_55 rfl (lv_at hl 3 rfl) ?_
                      refine zv_iload S dX0_findLeastSums_56 (lv_at hl 0 rfl) ?_
                      refine zc_Vi (As := [.int (zI v4)]) (rest := []) (wr := [zci G ql 60 L3]) (n := 1) S hN hK hP hD hS hA hl (c_X0_has l G H.size h0 qw ql n wg v4 hn (by omega)) gX0_findLeastSums_X0_has rfl ⟨rfl, rfl⟩ (by decide +kernel) rfl ⟨Nat.le_of_ble_eq_true rfl, Nat.le_of_ble_eq_true rfl, Nat.le_of_ble_eq_true rfl, Nat.le_of_ble_eq_true rfl⟩ [0] [1] rfl rfl (by decide) (by decide) (by decide) (ci := 0) rfl rfl rfl (Nat.le_of_ble_eq_true rfl) dX0_findLeastSums_58 rfl (fun r_ u_5 H1 locs1 hp_6 hP1 hD1 hS1 hz1 => ?_)
                      try dsimp only at hp_6 hP1 hD1
                      subst hp_6
                      generalize H1 = H at hP1 hD1 hS1 hz1 ⊢
                      generalize locs1 = locs at hS1 ⊢
                      have hS := hS1
                      have hP : va_P G.1 vwCl [zci G ql 60 L3, (h0, .inr (0, [.ref qw, .ref ql, .long (zL (n : Int)), .int (zI wg)]))] H := hP1
                      have hD : va_D A [zci G ql 60 L3, (h0, .inr (0, [.ref qw, .ref ql, .long (zL (n : Int)), .int (zI wg)]))] := hD1
                      refine zv_ifb_eq (tgt := 76) S dX0_findLeastSums_61 (by decide) (fun c_7 => ?_) (fun c_7 => ?_)
                      · refine zv_iinc (k0 := 0) (lv' := [(4, .int (zI (v4 + 1))), (2, .int (zI ch2)), (3, .int (zI v3)), (0, .ref h0), (1, .int (zI (mm : Int)))]) S dX0_findLeastSums_76 hl rfl (by decide) rfl (fun ls hl => ?_)
                        refine zv_goto (tgt := 48) S dX0_findLeastSums_79 (by decide) ?_
                        exact ih48 (u + 1) (v4 + 1) ch2 L3 (by omega) (by omega) k1 k2 (zstep_no (n := n) hv4 k3 c_7) k4 (by omega) _ _ (hP.sub [1, 0] rfl) (hD.sub [1, 0] (by decide) rfl) hS _ (lv_sub hl [0, 1, 2, 3, 4] rfl)
                      · refine zv_aload_n S dX0_findLeastSums_64 rfl (lv_at hl 3 rfl) ?_
                        refine zv_iload S dX0_findLeastSums_65 (lv_at hl 0 rfl) ?_
                        refine zv_iload_n S dX0_findLeastSums_67 rfl (lv_at hl 4 rfl) ?_
                        refine zc_Vi (As := [.int (zI v4), .int (zI (mm : Int))]) (rest := []) (wr := []) (n := 2) S hN hK hP hD hS hA hl (c_X0_payOneMore l G H.size h0 qw ql n wg L3 v4 (u + 1) mm hv4 hn hmm (by omega) (zkc_u hv4 c_7) k1) gX0_findLeastSums_X0_payOneMore rfl ⟨rfl, rfl⟩ (by decide +kernel) rfl ⟨Nat.le_of_ble_eq_true rfl, Nat.le_of_ble_eq_true rfl, Nat.le_of_ble_eq_true rfl, Nat.le_of_ble_eq_true rfl⟩ [1, 0] [] rfl rfl (by decide) (by decide) (by decide) (ci := 0) rfl rfl rfl (Nat.le_of_ble_eq_true rfl) dX0_findLeastSums_68 rfl (fun r_ u_8 H1 locs1 hp_9 hP1 hD1 hS1 hz1 => ?_)
                        obtain ⟨ch_10, L1_11⟩ := u_8
                        try dsimp only at hp_9 hP1 hD1
                        obtain ⟨rfl, hp1_12, hp2_13, hp3_14, hp4_15⟩ := hp_9
                        generalize H1 = H at hP1 hD1 hS1 hz1 ⊢
                        generalize locs1 = locs at hS1 ⊢
                        have hS := hS1
                        have hP : va_P G.1 vwCl [(h0, .inr (0, [.ref qw, .ref ql, .long (zL (n : Int)), .int (zI wg)])), zci G ql 60 L1_11] H := hP1
                        have hD : va_D A [(h0, .inr (0, [.ref qw, .ref ql, .long (zL (n : Int)), .int (zI wg)])), zci G ql 60 L1_11] := hD1
                        have hchR : zR ch_10 := zch_R hp4_15
                        refine zv_if_eq (tgt := 76) S hchR dX0_findLeastSums_71 (by decide) (fun c_16 => ?_) (fun c_16 => ?_)
                        · refine zv_iinc (k0 := 0) (lv' := [(4, .int (zI (v4 + 1))), (2, .int (zI ch2)), (3, .int (zI v3)), (0, .ref h0), (1, .int (zI (mm : Int)))]) S dX0_findLeastSums_76 hl rfl (by decide) rfl (fun ls hl => ?_)
                          refine zv_goto (tgt := 48) S dX0_findLeastSums_79 (by decide) ?_
                          exact ih48 (u + 1) (v4 + 1) ch2 L1_11 (by omega) (by omega) hp1_12 (fun r hr => Int.le_trans (hp2_13 r hr) (k2 r hr)) (zstep_yes (n := n) (by omega) k2 k3 hp2_13 hp3_14) (zch_same k4 hp4_15 c_16) (by omega) _ _ hP hD hS _ (lv_sub hl [0, 1, 2, 3, 4] rfl)
                        · refine zv_iconst S dX0_findLeastSums_74 ?_
                          refine zv_istore_n (lv' := [(2, .int (zI 1)), (4, .int (zI v4)), (3, .int (zI v3)), (0, .ref h0), (1, .int (zI (mm : Int)))]) S dX0_findLeastSums_75 rfl hl (by decide) rfl (fun ls hl => ?_)
                          refine zv_iinc (k0 := 1) (lv' := [(4, .int (zI (v4 + 1))), (2, .int (zI 1)), (3, .int (zI v3)), (0, .ref h0), (1, .int (zI (mm : Int)))]) S dX0_findLeastSums_76 hl rfl (by decide) rfl (fun ls hl => ?_)
                          refine zv_goto (tgt := 48) S dX0_findLeastSums_79 (by decide) ?_
                          exact ih48 (u + 1) (v4 + 1) 1 L1_11 (by omega) (by omega) hp1_12 (fun r hr => Int.le_trans (hp2_13 r hr) (k2 r hr)) (zstep_yes (n := n) (by omega) k2 k3 hp2_13 hp3_14) (Or.inr rfl) (by omega) _ _ hP hD hS _ (lv_sub hl [0, 1, 2, 3, 4] rfl)
                exact LP48 _ mm ((mm : Int) + 1) 0 L2 (by omega) (by omega) g1 (fun r _ => Int.le_refl _) (fun v a b => absurd a (by omega)) (Or.inl ⟨rfl, fun r _ => rfl⟩) (Nat.lt_succ_self _) _ _ hP hD hS _ (lv_sub hl [0, 1, 2, 3, 4] rfl)
        exact LP32 _ 0 0 1 L1 rfl (Nat.zero_le _) (zinit (by omega) hz0 (fun r a b => hz1 r a (by omega))) (zcp_0 (by omega) hz0) (Or.inr rfl) (Nat.lt_succ_self _) _ _ hP hD hS _ (lv_sub hl [0, 1, 2, 3] rfl)
      · refine zv_aload_n S dX0_findLeastSums_14 rfl (lv_at hl 1 rfl) ?_
        refine zv_get (C := RX0) (T := TX0) (N := 4) (ci := 0) (v := .ref ql) S in_X0_findLeastSums_X0 hK hP 0 rfl rfl 1 (by decide) wd_X0_findLeastSums_f15 rfl rfl dX0_findLeastSums_15 ?_
        refine zv_iload_n S dX0_findLeastSums_18 rfl (lv_at hl 0 rfl) ?_
        refine zv_ldc (v := 1000000) S wd_X0_findLeastSums_k54 (by decide) dX0_findLeastSums_19 ?_
        refine zv_iast S hK hP hD hS 1 0 rfl rfl (t + 1) hv2 (by omega) (by decide) dX0_findLeastSums_21 (fun H locs hP hD hS => ?_)
        have hP : va_P G.1 vwCl [(h0, .inr (0, [.ref qw, .ref ql, .long (zL (n : Int)), .int (zI wg)])), zci G ql 60 (zU L1 (t + 1) 1000000)] H := hP
        have hD : va_D A [(h0, .inr (0, [.ref qw, .ref ql, .long (zL (n : Int)), .int (zI wg)])), zci G ql 60 (zU L1 (t + 1) 1000000)] := hD
        refine zv_iinc (k0 := 0) (lv' := [(2, .int (zI (v2 + 1))), (0, .ref h0), (1, .int (zI (mm : Int)))]) S dX0_findLeastSums_22 hl rfl (by decide) rfl (fun ls hl => ?_)
        refine zv_goto (tgt := 9) S dX0_findLeastSums_25 (by decide) ?_
        exact ih9 (t + 1) (v2 + 1) (zU L1 (t + 1) 1000000) (by omega) (by omega) (by rw [zU_ne (by omega)]; exact hz0) (zfar_s hz1) (by omega) _ _ hP hD hS _ (lv_sub hl [0, 1, 2] rfl)
  exact LP9 _ 0 1 (zU L0 0 0) rfl (by omega) zU_same (fun r a b => absurd a (by omega)) (Nat.lt_succ_self _) _ _ hP hD hS _ (lv_sub hl [0, 1, 2] rfl)

theorem wd_X0_lastGap_f15 : Cond.fieldLink RX0 15 "PointMill$Coins" "leastSum" "[I" ∈ wsX0_lastGap := by decide +kernel
theorem in_X0_lastGap_X0 : ∀ w ∈ wsX00, w ∈ wsX0_lastGap := by decide +kernel
theorem wd_X0_lastGap_m49 : Cond.methodLink RX0 49 Lib.Math.max.name ∈ wsX0_lastGap := by decide +kernel
theorem wd_X0_lastGap_smax : Cond.static Lib.Math.max.name ∈ wsX0_lastGap := by decide +kernel
theorem wd_X0_lastGap_iM : Cond.initialized "java/lang/Math" ∈ wsX0_lastGap := by decide +kernel
theorem wd_X0_lastGap_cmax : Cond.code Lib.Math.max.name Lib.Math.max.code 2 (some .int) ∈ wsX0_lastGap := by decide +kernel
set_option maxHeartbeats 4000000 in
set_option maxRecDepth 100000 in
/-- Coins.lastGap -/
theorem c_X0_lastGap (l : Launch) (G : zG) (sz : Nat) (h0 : Nat) (qw : Nat) (ql : Nat) (n : Nat) (wg : Int) (L0 : Nat → Int) (hn : n < 2 ^ 60) : Met l yX0_lastGap wsX0_lastGap ({ frames := 3, cells := 0, slots := 0, locals := 72 }) (va_Pc [.ref h0] (zPre G sz [(h0, .inr (0, [.ref qw, .ref ql, .long (zL (n : Int)), .int (zI wg)])), zci G ql 60 L0])) (va_Qi (fun (r : Int32) (u : (Nat) × (Nat → Int) × (Int)) => r = zI (u.2.2 - (u.1 : Int)) ∧ (zlc n u.1) ∧ (zso (zkc n) u.1 u.2.1) ∧ ((zfix (zkc n) u.1 u.2.1 ∨ zcp (zkc n) u.1 u.1 u.2.1) ∧ u.2.1 0 ≤ 0) ∧ (zmx u.2.1 u.1 u.2.2)) (fun u => zW G (va_A [(h0, .inr (0, [.ref qw, .ref ql, .long (zL (n : Int)), .int (zI wg)])), zci G ql 60 L0] sz) ((fun (u : (Nat) × (Nat → Int) × (Int)) => [(h0, .inr (0, [.ref qw, .ref ql, .long (zL (n : Int)), .int (zI wg)])), zci G ql 60 u.2.1]) u)) (va_A [(h0, .inr (0, [.ref qw, .ref ql, .long (zL (n : Int)), .int (zI wg)])), zci G ql 60 L0] sz)) 0 0 (va_A [(h0, .inr (0, [.ref qw, .ref ql, .long (zL (n : Int)), .int (zI wg)])), zci G ql 60 L0] sz) := by
  refine zM_i (post := fun (r : Int32) (u : (Nat) × (Nat → Int) × (Int)) => r = zI (u.2.2 - (u.1 : Int)) ∧ (zlc n u.1) ∧ (zso (zkc n) u.1 u.2.1) ∧ ((zfix (zkc n) u.1 u.2.1 ∨ zcp (zkc n) u.1 u.1 u.2.1) ∧ u.2.1 0 ≤ 0) ∧ (zmx u.2.1 u.1 u.2.2)) (w1 := fun (u : (Nat) × (Nat → Int) × (Int)) => [(h0, .inr (0, [.ref qw, .ref ql, .long (zL (n : Int)), .int (zI wg)])), zci G ql 60 u.2.1]) (plainFor_of_name (by decide)) rfl (Nat.le_of_ble_eq_true rfl) ?_
  intro p e s m below meth c A Q S hN hK hP hD hS hA hret ls hl
  have hl : lv_has ls 4 [(0, .ref h0)] := hl
  refine zv_aload_n S dX0_lastGap_0 rfl (lv_at hl 0 rfl) ?_
  refine zc_Vi (As := []) (rest := []) (wr := [zci G ql 60 L0]) (n := 0) S hN hK hP hD hS hA hl (c_X0_leastCoin l G s.heap.size h0 qw ql n wg (by omega)) gX0_lastGap_X0_leastCoin rfl ⟨rfl, rfl⟩ (by decide +kernel) rfl ⟨Nat.le_of_ble_eq_true rfl, Nat.le_of_ble_eq_true rfl, Nat.le_of_ble_eq_true rfl, Nat.le_of_ble_eq_true rfl⟩ [0] [1] rfl rfl (by decide) (by decide) (by decide) (ci := 0) rfl rfl rfl (Nat.le_of_ble_eq_true rfl) dX0_lastGap_1 rfl (fun r_ u_1 H1 locs1 hp_2 hP1 hD1 hS1 hz1 => ?_)
  obtain ⟨mm_3, rfl⟩ : ∃ z, z = u_1 := ⟨_, rfl⟩
  try dsimp only at hp_2 hP1 hD1
  obtain ⟨rfl, hlc_4⟩ := hp_2
  generalize H1 = H at hP1 hD1 hS1 hz1 ⊢
  generalize locs1 = locs at hS1 ⊢
  have hS := hS1
  have hP : va_P G.1 vwCl [zci G ql 60 L0, (h0, .inr (0, [.ref qw, .ref ql, .long (zL (n : Int)), .int (zI wg)]))] H := hP1
  have hD : va_D A [zci G ql 60 L0, (h0, .inr (0, [.ref qw, .ref ql, .long (zL (n : Int)), .int (zI wg)]))] := hD1
  have hmm := hlc_4.1
  refine zv_istore_n (lv' := [(1, .int (zI (mm_3 : Int))), (0, .ref h0)]) S dX0_lastGap_4 rfl hl (by decide) rfl (fun ls hl => ?_)
  refine zv_aload_n S dX0_lastGap_5 rfl (lv_at hl 1 rfl) ?_
  refine zv_iload_n S dX0_lastGap_6 rfl (lv_at hl 0 rfl) ?_
  refine zc_Vv (As := [.int (zI (mm_3 : Int))]) (rest := []) (wr := []) (n := 1) S hN hK hP hD hS hA hl (c_X0_findLeastSums l G H.size h0 qw ql n wg L0 mm_3 hn hmm) gX0_lastGap_X0_findLeastSums rfl ⟨rfl, rfl⟩ (by decide +kernel) rfl ⟨Nat.le_of_ble_eq_true rfl, Nat.le_of_ble_eq_true rfl, Nat.le_of_ble_eq_true rfl, Nat.le_of_ble_eq_true rfl⟩ [1, 0] [] rfl rfl (by decide) (by decide) (by decide) (ci := 0) rfl rfl rfl (Nat.le_of_ble_eq_true rfl) dX0_lastGap_7 rfl (fun u_5 H1 locs1 hp_6 hP1 hD1 hS1 hz1 => ?_)
  obtain ⟨L2_7, rfl⟩ : ∃ z, z = u_5 := ⟨_, rfl⟩
  try dsimp only at hp_6 hP1 hD1
  obtain ⟨hf1_8, hf2_9⟩ := hp_6
  generalize H1 = H at hP1 hD1 hS1 hz1 ⊢
  generalize locs1 = locs at hS1 ⊢
  have hS := hS1
  have hP : va_P G.1 vwCl [(h0, .inr (0, [.ref qw, .ref ql, .long (zL (n : Int)), .int (zI wg)])), zci G ql 60 L2_7] H := hP1
  have hD : va_D A [(h0, .inr (0, [.ref qw, .ref ql, .long (zL (n : Int)), .int (zI wg)])), zci G ql 60 L2_7] := hD1
  refine zv_iconst S dX0_lastGap_10 ?_
  refine zv_istore_n (lv' := [(2, .int (zI 0)), (1, .int (zI (mm_3 : Int))), (0, .ref h0)]) S dX0_lastGap_11 rfl hl (by decide) rfl (fun ls hl => ?_)
  refine zv_iconst S dX0_lastGap_12 ?_
  refine zv_istore_n (lv' := [(3, .int (zI 0)), (2, .int (zI 0)), (1, .int (zI (mm_3 : Int))), (0, .ref h0)]) S dX0_lastGap_13 rfl hl (by decide) rfl (fun ls hl => ?_)
  have LP14 : ∀ (nf : Nat) (t : Nat) (v3 : Int) (mx : Int) (hv3 : v3 = (t : Int)) (ht : t ≤ mm_3) (hmx : zmx L2_7 t mx) (hmb : 0 ≤ mx ∧ mx ≤ 1000000), (mm_3 - t) < nf → ∀ (H : Heap) (locs : List Loc), va_P G.1 vwCl [(h0, .inr (0, [.ref qw, .ref ql, .long (zL (n : Int)), .int (zI wg)])), zci G ql 60 L2_7] H → va_D A [(h0, .inr (0, [.ref qw, .ref ql, .long (zL (n : Int)), .int (zI wg)])), zci G ql 60 L2_7] → va_S A s.heap H locs → ∀ ls : Array Slot, lv_has ls 4 [(3, .int (zI v3)), (2, .int (zI mx)), (1, .int (zI (mm_3 : Int))), (0, .ref h0)] → W p l e ({ frames := 3, cells := 0, slots := 0, locals := 72 }) s m ([.ref h0]).toArray below meth c H locs 0 0 Q (F0 m 14 ls []) := by
    intro nf
    induction nf with
    | zero =>
      intro t v3 mx hv3 ht hmx hmb hf
      exact absurd hf (Nat.not_lt_zero _)
    | succ nf ih14 =>
      intro t v3 mx hv3 ht hmx hmb hf H locs hP hD hS ls hl
      refine zv_iload_n S dX0_lastGap_14 rfl (lv_at hl 0 rfl) ?_
      refine zv_iload_n S dX0_lastGap_15 rfl (lv_at hl 2 rfl) ?_
      refine zv_icmp_ge (tgt := 36) S (by unfold zR; omega) (by unfold zR; omega) dX0_lastGap_16 (by decide) (fun c_10 => ?_) (fun c_10 => ?_)
      · refine zv_iload_n S dX0_lastGap_36 rfl (lv_at hl 1 rfl) ?_
        refine zv_iload_n S dX0_lastGap_37 rfl (lv_at hl 2 rfl) ?_
        refine zv_isub S dX0_lastGap_38 ?_
        exact hret _ _ _ _ _ ⟨mm_3, L2_7, mx⟩ dX0_lastGap_39 ⟨rfl, (show zlc n mm_3 from hlc_4), (show zso (zkc n) mm_3 L2_7 from hf1_8), (show (zfix (zkc n) mm_3 L2_7 ∨ zcp (zkc n) mm_3 mm_3 L2_7) ∧ L2_7 0 ≤ 0 from hf2_9), (show zmx L2_7 mm_3 mx from (by have e : t = mm_3 := (by omega); rw [e] at hmx; exact hmx))⟩ (hP.sub [0, 1] rfl) (hD.sub [0, 1] (by decide) rfl) hS
      · refine zv_iload_n S dX0_lastGap_19 rfl (lv_at hl 1 rfl) ?_
        refine zv_aload_n S dX0_lastGap_20 rfl (lv_at hl 3 rfl) ?_
        refine zv_get (C := RX0) (T := TX0) (N := 4) (ci := 0) (v := .ref ql) S in_X0_lastGap_X0 hK hP 0 rfl rfl 1 (by decide) wd_X0_lastGap_f15 rfl rfl dX0_lastGap_21 ?_
        refine zv_iload_n S dX0_lastGap_24 rfl (lv_at hl 0 rfl) ?_
        refine zv_iald S hK hP 1 0 rfl rfl t hv3 (by omega) (by decide) dX0_lastGap_25 ?_
        have q1 := hf1_8 t (by omega)
        refine zv_max S hl (by unfold zR; omega) (by unfold zR; omega) wd_X0_lastGap_m49 wd_X0_lastGap_smax wd_X0_lastGap_iM wd_X0_lastGap_cmax (by decide) (Nat.le_of_ble_eq_true rfl) (Nat.le_of_ble_eq_true rfl) (Nat.le_of_ble_eq_true rfl) dX0_lastGap_26 ?_
        refine zv_istore_n (lv' := [(2, .int (zI (zmax mx (L2_7 t)))), (3, .int (zI v3)), (1, .int (zI (mm_3 : Int))), (0, .ref h0)]) S dX0_lastGap_29 rfl hl (by decide) rfl (fun ls hl => ?_)
        refine zv_iinc (k0 := 1) (lv' := [(3, .int (zI (v3 + 1))), (2, .int (zI (zmax mx (L2_7 t)))), (1, .int (zI (mm_3 : Int))), (0, .ref h0)]) S dX0_lastGap_30 hl rfl (by decide) rfl (fun ls hl => ?_)
        refine zv_goto (tgt := 14) S dX0_lastGap_33 (by decide) ?_
        exact ih14 (t + 1) (v3 + 1) (zmax mx (L2_7 t)) (by omega) (by omega) (zmx_s hmx) (by unfold zmax; split <;> omega) (by omega) _ _ hP hD hS _ (lv_sub hl [0, 1, 2, 3] rfl)
  exact LP14 _ 0 0 0 rfl (Nat.zero_le _) zmx_0 (by decide) (Nat.lt_succ_self _) _ _ hP hD hS _ (lv_sub hl [0, 1, 2, 3] rfl)
