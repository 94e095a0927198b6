/-! PointMill: coins and tables -/
theorem zxor60 {n : Nat} {v : Int} (hn : n < 2 ^ 60) (hv : 1 ≤ v ∧ v ≤ 60) : n ^^^ 2 ^ (v - 1).toNat < 2 ^ 60 := Nat.xor_lt_two_pow hn (Nat.pow_lt_pow_right (by decide) (by omega))
theorem ztb_b {nx u v : Int} (h : nx ≤ 60) : 0 ≤ zmax 0 (zmin nx u - zmax 0 v + 1) ∧ zmax 0 (zmin nx u - zmax 0 v + 1) ≤ 61 := by
  unfold zmax zmin
  split <;> split <;> split <;> omega
theorem zmin_b2 {x y B : Int} (hx : 0 ≤ x ∧ x ≤ B) (hy : 0 ≤ y ∧ y ≤ B) : 0 ≤ zmin x y ∧ zmin x y ≤ B ∧ zmin x y ≤ x ∧ zmin x y ≤ y := by unfold zmin; split <;> omega
theorem zmin_b3 {x y A B : Int} (hx : A ≤ x ∧ x ≤ B) (hy : A ≤ y ∧ y ≤ B) : A ≤ zmin x y ∧ zmin x y ≤ B := by unfold zmin; split <;> omega
theorem zmax_b3 {x y A B : Int} (hx : A ≤ x ∧ x ≤ B) (hy : A ≤ y ∧ y ≤ B) : A ≤ zmax x y ∧ zmax x y ≤ B := by unfold zmax; split <;> omega

theorem wd_X4_coin_f33 : Cond.fieldLink RX4 33 "PointMill" "coins" "LPointMill$Coins;" ∈ wsX4_coin := by decide +kernel
theorem in_X4_coin_X4 : ∀ w ∈ wsX40, w ∈ wsX4_coin := by decide +kernel
theorem hm_X4_coin_zIS : ∀ w ∈ Cond.classLink RX4 41 zIS :: Cond.initialized zIS :: (vx_atS RX4 45 zIS zNN).filter goodWord, w ∈ wsX4_coin := List.forall_mem_cons.mpr ⟨by decide +kernel, List.forall_mem_cons.mpr ⟨by decide +kernel, fun w h => List.mem_cons_of_mem _ (List.mem_append_left _ (List.mem_append_right _ h))⟩⟩
set_option maxHeartbeats 4000000 in
set_option maxRecDepth 100000 in
/-- PointMill.coin -/
theorem c_X4_coin (l : Launch) (hl0 : l.stackTraces = false) (G : zG) (sz : Nat) (h0 : Nat) (qs : Nat) (sc : Int) (hr : Nat) (hc : Nat) (hk : Nat) (qw : Nat) (ql : Nat) (n : Nat) (wg : Int) (v : Int) (hn : n < 2 ^ 60) (hv : -2147483648 ≤ v ∧ v < 2147483648) : vx_Met l yX4_coin wsX4_coin ({ frames := 7, cells := 2, slots := 12, locals := 112 }) (va_Pc [.ref h0, .int (zI v)] (zPx G sz [(h0, .inr (4, [.ref qs, .int (zI sc), .ref hr, .ref hc, .ref hk])), (hk, .inr (0, [.ref qw, .ref ql, .long (zL (n : Int)), .int (zI wg)]))])) (va_Qi (fun (r : Int32) (u : Unit) => r = zI ((zpop 64 (n ^^^ 2 ^ (v - 1).toNat : Nat) : Nat) : Int) ∧ ((1 ≤ v ∧ v ≤ 60) ∧ (zk n v ∨ zpop 64 n < 6))) (fun u => zW G (va_A [(h0, .inr (4, [.ref qs, .int (zI sc), .ref hr, .ref hc, .ref hk])), (hk, .inr (0, [.ref qw, .ref ql, .long (zL (n : Int)), .int (zI wg)]))] sz) ((fun (u : Unit) => [(h0, .inr (4, [.ref qs, .int (zI sc), .ref hr, .ref hc, .ref hk])), (hk, .inr (0, [.ref qw, .ref ql, .long (zL ((n ^^^ 2 ^ (v - 1).toNat : Nat) : Int)), .int (zI wg)]))]) u)) (va_A [(h0, .inr (4, [.ref qs, .int (zI sc), .ref hr, .ref hc, .ref hk])), (hk, .inr (0, [.ref qw, .ref ql, .long (zL (n : Int)), .int (zI wg)]))] sz)) (vx_X (fun _ => True) (fun (E : String) (u : Unit) (t : State) => (fun (E : String) (u : Unit) => E = zIA ∧ (¬ (1 ≤ v ∧ v ≤ 60)) ∨ E = zIS ∧ ((1 ≤ v ∧ v ≤ 60) ∧ ¬ zk n v ∧ 6 ≤ zpop 64 n)) E u ∧ zW G (va_A [(h0, .inr (4, [.ref qs, .int (zI sc), .ref hr, .ref hc, .ref hk])), (hk, .inr (0, [.ref qw, .ref ql, .long (zL (n : Int)), .int (zI wg)]))] sz) ((fun (u : Unit) => [(h0, .inr (4, [.ref qs, .int (zI sc), .ref hr, .ref hc, .ref hk])), (hk, .inr (0, [.ref qw, .ref ql, .long (zL (n : Int)), .int (zI wg)]))]) u) t) (va_A [(h0, .inr (4, [.ref qs, .int (zI sc), .ref hr, .ref hc, .ref hk])), (hk, .inr (0, [.ref qw, .ref ql, .long (zL (n : Int)), .int (zI wg)]))] sz)) 2 12 (va_A [(h0, .inr (4, [.ref qs, .int (zI sc), .ref hr, .ref hc, .ref hk])), (hk, .inr (0, [.ref qw, .ref ql, .long (zL (n : Int)), .int (zI wg)]))] sz) := by
  refine zMx_i hl0 (post := fun (r : Int32) (u : Unit) => r = zI ((zpop 64 (n ^^^ 2 ^ (v - 1).toNat : Nat) : Nat) : Int) ∧ ((1 ≤ v ∧ v ≤ 60) ∧ (zk n v ∨ zpop 64 n < 6))) (w1 := fun (u : Unit) => [(h0, .inr (4, [.ref qs, .int (zI sc), .ref hr, .ref hc, .ref hk])), (hk, .inr (0, [.ref qw, .ref ql, .long (zL ((n ^^^ 2 ^ (v - 1).toNat : Nat) : Int)), .int (zI wg)]))]) (cx := fun (E : String) (u : Unit) => E = zIA ∧ (¬ (1 ≤ v ∧ v ≤ 60)) ∨ E = zIS ∧ ((1 ≤ v ∧ v ≤ 60) ∧ ¬ zk n v ∧ 6 ≤ zpop 64 n)) (w1x := fun (u : Unit) => [(h0, .inr (4, [.ref qs, .int (zI sc), .ref hr, .ref hc, .ref hk])), (hk, .inr (0, [.ref qw, .ref ql, .long (zL (n : Int)), .int (zI wg)]))]) (by decide) rfl rfl (Nat.le_of_ble_eq_true rfl) ⟨Nat.le_of_ble_eq_true rfl, Nat.le_of_ble_eq_true rfl, rfl, rfl⟩ ?_
  intro p e s m below meth c A Q S hN hK hP hD hS hA hE0 hret hpass hthr ls hl
  have hl : lv_has ls 2 [(0, .ref h0), (1, .int (zI v))] := hl
  refine zv_iload_n S dX4_coin_0 rfl (lv_at hl 1 rfl) ?_
  refine zv_iconst S dX4_coin_1 ?_
  refine zv_bipush (v := 60) S dX4_coin_2 (by decide) ?_
  refine zcx_Sv (As := [.int (zI v), .int (zI 1), .int (zI 60)]) (rest := []) (wr := [(h0, .inr (4, [.ref qs, .int (zI sc), .ref hr, .ref hc, .ref hk])), (hk, .inr (0, [.ref qw, .ref ql, .long (zL (n : Int)), .int (zI wg)]))]) (n := 3) S hN hK (hE0.kept hS.2.1) hP hD hS hA hl (c_X4_requireRange l hl0 G s.heap.size v 1 60 (by omega) (by omega) (by omega)) gX4_coin_X4_requireRange rfl ⟨rfl, rfl⟩ (by decide +kernel) rfl ⟨Nat.le_of_ble_eq_true rfl, Nat.le_of_ble_eq_true rfl, Nat.le_of_ble_eq_true rfl, Nat.le_of_ble_eq_true rfl⟩ [] [0, 1] rfl rfl (by decide) (by decide) (by decide) (Nat.le_of_ble_eq_true rfl) dX4_coin_4 rfl (fun E_ ce_ q_ ux_ H1 locs1 hc1 hP1 hD1 hS1 hz1 hce1 hcv1 hcl1 => ?_) (fun u_1 H1 locs1 hp_2 hP1 hD1 hS1 hz1 => ?_)
  · try dsimp only at hc1 hP1 hD1
    have hP1 : va_P G.1 vwCl [(h0, .inr (4, [.ref qs, .int (zI sc), .ref hr, .ref hc, .ref hk])), (hk, .inr (0, [.ref qw, .ref ql, .long (zL (n : Int)), .int (zI wg)]))] H1 := hP1
    have hD1 : va_D A [(h0, .inr (4, [.ref qs, .int (zI sc), .ref hr, .ref hc, .ref hk])), (hk, .inr (0, [.ref qw, .ref ql, .long (zL (n : Int)), .int (zI wg)]))] := hD1
    obtain ⟨rfl, hx_0⟩ := hc1
    exact hpass _ _ _ _ _ _ _ _ ce_ q_ () (Or.inl ⟨rfl, hx_0⟩) (hP1.sub [0, 1] rfl) (hD1.sub [0, 1] (by decide) rfl) hS1 hce1 hcv1 hcl1 (Nat.le_of_ble_eq_true rfl) (Nat.le_of_ble_eq_true rfl)
  try dsimp only at hp_2 hP1 hD1
  have hrr_3 := hp_2
  generalize H1 = H at hP1 hD1 hS1 hz1 ⊢
  generalize locs1 = locs at hS1 ⊢
  have hS := hS1
  have hP : va_P G.1 vwCl [(h0, .inr (4, [.ref qs, .int (zI sc), .ref hr, .ref hc, .ref hk])), (hk, .inr (0, [.ref qw, .ref ql, .long (zL (n : Int)), .int (zI wg)]))] H := hP1
  have hD : va_D A [(h0, .inr (4, [.ref qs, .int (zI sc), .ref hr, .ref hc, .ref hk])), (hk, .inr (0, [.ref qw, .ref ql, .long (zL (n : Int)), .int (zI wg)]))] := hD1
  have JN40 : ∀ (hcc : zk n v ∨ zpop 64 n < 6) (H : Heap) (locs : List Loc), va_P G.1 vwCl [(h0, .inr (4, [.ref qs, .int (zI sc), .ref hr, .ref hc, .ref hk])), (hk, .inr (0, [.ref qw, .ref ql, .long (zL (n : Int)), .int (zI wg)]))] H → va_D A [(h0, .inr (4, [.ref qs, .int (zI sc), .ref hr, .ref hc, .ref hk])), (hk, .inr (0, [.ref qw, .ref ql, .long (zL (n : Int)), .int (zI wg)]))] → va_S A s.heap H locs → ∀ ls : Array Slot, lv_has ls 2 [(0, .ref h0), (1, .int (zI v))] → W p l e ({ frames := 7, cells := 2, slots := 12, locals := 112 }) s m ([.ref h0, .int (zI v)]).toArray below meth c H locs 1 6 Q (F0 m 40 ls []) := by
    intro hcc H locs hP hD hS ls hl
    refine zv_aload_n S dX4_coin_40 rfl (lv_at hl 0 rfl) ?_
    refine zv_get (C := RX4) (T := TX4) (N := 5) (ci := 4) (v := .ref hk) S in_X4_coin_X4 hK hP 0 rfl rfl 4 (by decide) wd_X4_coin_f33 rfl rfl dX4_coin_41 ?_
    refine zv_iload_n S dX4_coin_44 rfl (lv_at hl 1 rfl) ?_
    refine zc_Vv (As := [.int (zI v)]) (rest := []) (wr := [(h0, .inr (4, [.ref qs, .int (zI sc), .ref hr, .ref hc, .ref hk]))]) (n := 1) S hN hK hP hD hS hA hl (c_X0_change l G H.size hk qw ql n wg v hn (by omega)) gX4_coin_X0_change rfl ⟨rfl, rfl⟩ (by decide +kernel) rfl ⟨Nat.le_of_ble_eq_true rfl, Nat.le_of_ble_eq_true rfl, Nat.le_of_ble_eq_true rfl, Nat.le_of_ble_eq_true rfl⟩ [1] [0] rfl rfl (by decide) (by decide) (by decide) (ci := 0) rfl rfl rfl (Nat.le_of_ble_eq_true rfl) dX4_coin_45 rfl (fun u_4 H1 locs1 hp_5 hP1 hD1 hS1 hz1 => ?_)
    try dsimp only at hp_5 hP1 hD1
    generalize H1 = H at hP1 hD1 hS1 hz1 ⊢
    generalize locs1 = locs at hS1 ⊢
    have hS := hS1
    have hP : va_P G.1 vwCl [(h0, .inr (4, [.ref qs, .int (zI sc), .ref hr, .ref hc, .ref hk])), (hk, .inr (0, [.ref qw, .ref ql, .long (zL ((n ^^^ 2 ^ (v - 1).toNat : Nat) : Int)), .int (zI wg)]))] H := hP1
    have hD : va_D A [(h0, .inr (4, [.ref qs, .int (zI sc), .ref hr, .ref hc, .ref hk])), (hk, .inr (0, [.ref qw, .ref ql, .long (zL ((n ^^^ 2 ^ (v - 1).toNat : Nat) : Int)), .int (zI wg)]))] := hD1
    refine zv_aload_n S dX4_coin_48 rfl (lv_at hl 0 rfl) ?_
    refine zv_get (C := RX4) (T := TX4) (N := 5) (ci := 4) (v := .ref hk) S in_X4_coin_X4 hK hP 0 rfl rfl 4 (by decide) wd_X4_coin_f33 rfl rfl dX4_coin_49 ?_
    refine zc_Vi (As := []) (rest := []) (wr := [(h0, .inr (4, [.ref qs, .int (zI sc), .ref hr, .ref hc, .ref hk]))]) (n := 0) S hN hK hP hD hS hA hl (c_X0_size l G H.size hk qw ql (n ^^^ 2 ^ (v - 1).toNat : Nat) wg (zxor60 hn (by omega))) gX4_coin_X0_size rfl ⟨rfl, rfl⟩ (by decide +kernel) rfl ⟨Nat.le_of_ble_eq_true rfl, Nat.le_of_ble_eq_true rfl, Nat.le_of_ble_eq_true rfl, Nat.le_of_ble_eq_true rfl⟩ [1] [0] rfl rfl (by decide) (by decide) (by decide) (ci := 0) rfl rfl rfl (Nat.le_of_ble_eq_true rfl) dX4_coin_52 rfl (fun r_ u_6 H1 locs1 hp_7 hP1 hD1 hS1 hz1 => ?_)
    try dsimp only at hp_7 hP1 hD1
    subst hp_7
    generalize H1 = H at hP1 hD1 hS1 hz1 ⊢
    generalize locs1 = locs at hS1 ⊢
    have hS := hS1
    have hP : va_P G.1 vwCl [(h0, .inr (4, [.ref qs, .int (zI sc), .ref hr, .ref hc, .ref hk])), (hk, .inr (0, [.ref qw, .ref ql, .long (zL ((n ^^^ 2 ^ (v - 1).toNat : Nat) : Int)), .int (zI wg)]))] H := hP1
    have hD : va_D A [(h0, .inr (4, [.ref qs, .int (zI sc), .ref hr, .ref hc, .ref hk])), (hk, .inr (0, [.ref qw, .ref ql, .long (zL ((n ^^^ 2 ^ (v - 1).toNat : Nat) : Int)), .int (zI wg)]))] := hD1
    refine W.widen (k := 2) (n := 12) (by decide) (by decide) ?_
    exact hret _ _ _ _ _ () dX4_coin_55 ⟨rfl, ⟨by omega, hcc⟩⟩ (hP.sub [0, 1] rfl) (hD.sub [0, 1] (by decide) rfl) hS
  have hz64 := zpop_le 64 n
  refine zv_aload_n S dX4_coin_7 rfl (lv_at hl 0 rfl) ?_
  refine zv_get (C := RX4) (T := TX4) (N := 5) (ci := 4) (v := .ref hk) S in_X4_coin_X4 hK hP 0 rfl rfl 4 (by decide) wd_X4_coin_f33 rfl rfl dX4_coin_8 ?_
  refine zv_iload_n S dX4_coin_11 rfl (lv_at hl 1 rfl) ?_
  refine zc_Vi (As := [.int (zI v)]) (rest := []) (wr := [(h0, .inr (4, [.ref qs, .int (zI sc), .ref hr, .ref hc, .ref hk]))]) (n := 1) S hN hK hP hD hS hA hl (c_X0_has l G H.size hk qw ql n wg v hn hv) gX4_coin_X0_has rfl ⟨rfl, rfl⟩ (by decide +kernel) rfl ⟨Nat.le_of_ble_eq_true rfl, Nat.le_of_ble_eq_true rfl, Nat.le_of_ble_eq_true rfl, Nat.le_of_ble_eq_true rfl⟩ [1] [0] rfl rfl (by decide) (by decide) (by decide) (ci := 0) rfl rfl rfl (Nat.le_of_ble_eq_true rfl) dX4_coin_12 rfl (fun r_ u_8 H1 locs1 hp_9 hP1 hD1 hS1 hz1 => ?_)
  try dsimp only at hp_9 hP1 hD1
  subst hp_9
  generalize H1 = H at hP1 hD1 hS1 hz1 ⊢
  generalize locs1 = locs at hS1 ⊢
  have hS := hS1
  have hP : va_P G.1 vwCl [(h0, .inr (4, [.ref qs, .int (zI sc), .ref hr, .ref hc, .ref hk])), (hk, .inr (0, [.ref qw, .ref ql, .long (zL (n : Int)), .int (zI wg)]))] H := hP1
  have hD : va_D A [(h0, .inr (4, [.ref qs, .int (zI sc), .ref hr, .ref hc, .ref hk])), (hk, .inr (0, [.ref qw, .ref ql, .long (zL (n : Int)), .int (zI wg)]))] := hD1
  refine zv_ifb_ne (tgt := 40) S dX4_coin_15 (by decide) (fun c_10 => ?_) (fun c_10 => ?_)
  · exact JN40  (Or.inl c_10) _ _ hP hD hS _ (lv_sub hl [0, 1] rfl)
  · refine zv_aload_n S dX4_coin_18 rfl (lv_at hl 0 rfl) ?_
    refine zv_get (C := RX4) (T := TX4) (N := 5) (ci := 4) (v := .ref hk) S in_X4_coin_X4 hK hP 0 rfl rfl 4 (by decide) wd_X4_coin_f33 rfl rfl dX4_coin_19 ?_
    refine zc_Vi (As := []) (rest := []) (wr := [(h0, .inr (4, [.ref qs, .int (zI sc), .ref hr, .ref hc, .ref hk]))]) (n := 0) S hN hK hP hD hS hA hl (c_X0_size l G H.size hk qw ql n wg hn) gX4_coin_X0_size rfl ⟨rfl, rfl⟩ (by decide +kernel) rfl ⟨Nat.le_of_ble_eq_true rfl, Nat.le_of_ble_eq_true rfl, Nat.le_of_ble_eq_true rfl, Nat.le_of_ble_eq_true rfl⟩ [1] [0] rfl rfl (by decide) (by decide) (by decide) (ci := 0) rfl rfl rfl (Nat.le_of_ble_eq_true rfl) dX4_coin_22 rfl (fun r_ u_11 H1 locs1 hp_12 hP1 hD1 hS1 hz1 => ?_)
    try dsimp only at hp_12 hP1 hD1
    subst hp_12
    generalize H1 = H at hP1 hD1 hS1 hz1 ⊢
    generalize locs1 = locs at hS1 ⊢
    have hS := hS1
    have hP : va_P G.1 vwCl [(h0, .inr (4, [.ref qs, .int (zI sc), .ref hr, .ref hc, .ref hk])), (hk, .inr (0, [.ref qw, .ref ql, .long (zL (n : Int)), .int (zI wg)]))] H := hP1
    have hD : va_D A [(h0, .inr (4, [.ref qs, .int (zI sc), .ref hr, .ref hc, .ref hk])), (hk, .inr (0, [.ref qw, .ref ql, .long (zL (n : Int)), .int (zI wg)]))] := hD1
    refine zv_bipush (v := 6) S dX4_coin_25 (by decide) ?_
    refine zv_icmp_lt (tgt := 40) S (by unfold zR; omega) (by unfold zR; omega) dX4_coin_27 (by decide) (fun c_13 => ?_) (fun c_13 => ?_)
    · exact JN40  (Or.inr (by omega)) _ _ hP hD hS _ (lv_sub hl [0, 1] rfl)
    · exact hthr _ _ _ _ _ _ _ zIS "there are 6 coins" 41 162 45 () (Or.inl ⟨rfl, rfl, rfl⟩) (List.mem_of_getElem? (i := 6) rfl) hm_X4_coin_zIS dX4_coin_30 dX4_coin_33 dX4_coin_34 dX4_coin_36 dX4_coin_39 (by decide) (Or.inr ⟨rfl, ⟨by omega, c_10, by omega⟩⟩) (hP.sub [0, 1] rfl) (hD.sub [0, 1] (by decide) rfl) hS hl.1 (Nat.le_of_ble_eq_true rfl) (Nat.le_of_ble_eq_true rfl)

set_option maxHeartbeats 4000000 in
set_option maxRecDepth 100000 in
theorem c_X0_waysToPayI (l : Launch) (G : zG) (sz : Nat) (ti : Int) (h0 : Nat) (qw : Nat) (ql : Nat) (n : Nat) (wg : Int) (W0 : Nat → Int) (tt : Nat) (hti : ti = (tt : Int)) (hn : n < 2 ^ 60) (htt : tt ≤ 1000) : Met l yX0_waysToPay wsX0_waysToPay ({ frames := 1, cells := 0, slots := 0, locals := 21 }) (va_Pc [.ref h0, .int (zI ti)] (zPre G sz [(h0, .inr (0, [.ref qw, .ref ql, .long (zL (n : Int)), .int (zI wg)])), zcl G qw 1001 W0])) (va_Ql (fun (r : Int64) (u : (Nat → Int)) => r = zL (zws (zkc n) tt 60 tt)) (fun u => zW G (va_A [(h0, .inr (0, [.ref qw, .ref ql, .long (zL (n : Int)), .int (zI wg)])), zcl G qw 1001 W0] sz) ((fun (u : (Nat → Int)) => [(h0, .inr (0, [.ref qw, .ref ql, .long (zL (n : Int)), .int (zI wg)])), zcl G qw 1001 u]) u)) (va_A [(h0, .inr (0, [.ref qw, .ref ql, .long (zL (n : Int)), .int (zI wg)])), zcl G qw 1001 W0] sz)) 0 0 (va_A [(h0, .inr (0, [.ref qw, .ref ql, .long (zL (n : Int)), .int (zI wg)])), zcl G qw 1001 W0] sz) := by
  subst hti
  exact c_X0_waysToPay l G sz h0 qw ql n wg W0 tt hn htt

theorem wd_X4_ways_f33 : Cond.fieldLink RX4 33 "PointMill" "coins" "LPointMill$Coins;" ∈ wsX4_ways := by decide +kernel
theorem in_X4_ways_X4 : ∀ w ∈ wsX40, w ∈ wsX4_ways := by decide +kernel
set_option maxHeartbeats 4000000 in
set_option maxRecDepth 100000 in
/-- PointMill.ways -/
theorem c_X4_ways (l : Launch) (hl0 : l.stackTraces = false) (G : zG) (sz : Nat) (h0 : Nat) (qs : Nat) (sc : Int) (hr : Nat) (hc : Nat) (hk : Nat) (qw : Nat) (ql : Nat) (n : Nat) (wg : Int) (W0 : Nat → Int) (v : Int) (hn : n < 2 ^ 60) (hv : -2147483648 ≤ v ∧ v < 2147483648) : vx_Met l yX4_ways wsX4_ways ({ frames := 7, cells := 1, slots := 6, locals := 112 }) (va_Pc [.ref h0, .int (zI v)] (zPx G sz [(h0, .inr (4, [.ref qs, .int (zI sc), .ref hr, .ref hc, .ref hk])), (hk, .inr (0, [.ref qw, .ref ql, .long (zL (n : Int)), .int (zI wg)])), zcl G qw 1001 W0])) (va_Ql (fun (r : Int64) (u : (Nat → Int)) => r = zL (zws (zkc n) v.toNat 60 v.toNat) ∧ (0 ≤ v ∧ v ≤ 1000)) (fun u => zW G (va_A [(h0, .inr (4, [.ref qs, .int (zI sc), .ref hr, .ref hc, .ref hk])), (hk, .inr (0, [.ref qw, .ref ql, .long (zL (n : Int)), .int (zI wg)])), zcl G qw 1001 W0] sz) ((fun (u : (Nat → Int)) => [(h0, .inr (4, [.ref qs, .int (zI sc), .ref hr, .ref hc, .ref hk])), (hk, .inr (0, [.ref qw, .ref ql, .long (zL (n : Int)), .int (zI wg)])), zcl G qw 1001 u]) u)) (va_A [(h0, .inr (4, [.ref qs, .int (zI sc), .ref hr, .ref hc, .ref hk])), (hk, .inr (0, [.ref qw, .ref ql, .long (zL (n : Int)), .int (zI wg)])), zcl G qw 1001 W0] sz)) (vx_X (fun _ => True) (fun (E : String) (u : (Nat → Int)) (t : State) => (fun (E : String) (u : (Nat → Int)) => E = zIA ∧ (¬ (0 ≤ v ∧ v ≤ 1000))) E u ∧ zW G (va_A [(h0, .inr (4, [.ref qs, .int (zI sc), .ref hr, .ref hc, .ref hk])), (hk, .inr (0, [.ref qw, .ref ql, .long (zL (n : Int)), .int (zI wg)])), zcl G qw 1001 W0] sz) ((fun (u : (Nat → Int)) => [(h0, .inr (4, [.ref qs, .int (zI sc), .ref hr, .ref hc, .ref hk])), (hk, .inr (0, [.ref qw, .ref ql, .long (zL (n : Int)), .int (zI wg)])), zcl G qw 1001 u]) u) t) (va_A [(h0, .inr (4, [.ref qs, .int (zI sc), .ref hr, .ref hc, .ref hk])), (hk, .inr (0, [.ref qw, .ref ql, .long (zL (n : Int)), .int (zI wg)])), zcl G qw 1001 W0] sz)) 1 6 (va_A [(h0, .inr (4, [.ref qs, .int (zI sc), .ref hr, .ref hc, .ref hk])), (hk, .inr (0, [.ref qw, .ref ql, .long (zL (n : Int)), .int (zI wg)])), zcl G qw 1001 W0] sz) := by
  refine zMx_l hl0 (post := fun (r : Int64) (u : (Nat → Int)) => r = zL (zws (zkc n) v.toNat 60 v.toNat) ∧ (0 ≤ v ∧ v ≤ 1000)) (w1 := fun (u : (Nat → Int)) => [(h0, .inr (4, [.ref qs, .int (zI sc), .ref hr, .ref hc, .ref hk])), (hk, .inr (0, [.ref qw, .ref ql, .long (zL (n : Int)), .int (zI wg)])), zcl G qw 1001 u]) (cx := fun (E : String) (u : (Nat → Int)) => E = zIA ∧ (¬ (0 ≤ v ∧ v ≤ 1000))) (w1x := fun (u : (Nat → Int)) => [(h0, .inr (4, [.ref qs, .int (zI sc), .ref hr, .ref hc, .ref hk])), (hk, .inr (0, [.ref qw, .ref ql, .long (zL (n : Int)), .int (zI wg)])), zcl G qw 1001 u]) (by decide) rfl rfl (Nat.le_of_ble_eq_true rfl) ⟨Nat.le_of_ble_eq_true rfl, Nat.le_of_ble_eq_true rfl, rfl, rfl⟩ ?_
  intro p e s m below meth c A Q S hN hK hP hD hS hA hE0 hret hpass hthr ls hl
  have hl : lv_has ls 2 [(0, .ref h0), (1, .int (zI v))] := hl
  refine zv_iload_n S dX4_ways_0 rfl (lv_at hl 1 rfl) ?_
  refine zv_iconst S dX4_ways_1 ?_
  refine zv_sipush (v := 1000) S dX4_ways_2 (by decide) ?_
  refine zcx_Sv (As := [.int (zI v), .int (zI 0), .int (zI 1000)]) (rest := []) (wr := [(h0, .inr (4, [.ref qs, .int (zI sc), .ref hr, .ref hc, .ref hk])), (hk, .inr (0, [.ref qw, .ref ql, .long (zL (n : Int)), .int (zI wg)])), zcl G qw 1001 W0]) (n := 3) S hN hK (hE0.kept hS.2.1) hP hD hS hA hl (c_X4_requireRange l hl0 G s.heap.size v 0 1000 (by omega) (by omega) (by omega)) gX4_ways_X4_requireRange rfl ⟨rfl, rfl⟩ (by decide +kernel) rfl ⟨Nat.le_of_ble_eq_true rfl, Nat.le_of_ble_eq_true rfl, Nat.le_of_ble_eq_true rfl, Nat.le_of_ble_eq_true rfl⟩ [] [0, 1, 2] rfl rfl (by decide) (by decide) (by decide) (Nat.le_of_ble_eq_true rfl) dX4_ways_5 rfl (fun E_ ce_ q_ ux_ H1 locs1 hc1 hP1 hD1 hS1 hz1 hce1 hcv1 hcl1 => ?_) (fun u_1 H1 locs1 hp_2 hP1 hD1 hS1 hz1 => ?_)
  · try dsimp only at hc1 hP1 hD1
    have hP1 : va_P G.1 vwCl [(h0, .inr (4, [.ref qs, .int (zI sc), .ref hr, .ref hc, .ref hk])), (hk, .inr (0, [.ref qw, .ref ql, .long (zL (n : Int)), .int (zI wg)])), zcl G qw 1001 W0] H1 := hP1
    have hD1 : va_D A [(h0, .inr (4, [.ref qs, .int (zI sc), .ref hr, .ref hc, .ref hk])), (hk, .inr (0, [.ref qw, .ref ql, .long (zL (n : Int)), .int (zI wg)])), zcl G qw 1001 W0] := hD1
    obtain ⟨rfl, hx_0⟩ := hc1
    exact hpass _ _ _ _ _ _ _ _ ce_ q_ W0 ⟨rfl, hx_0⟩ (hP1.sub [0, 1, 2] rfl) (hD1.sub [0, 1, 2] (by decide) rfl) hS1 hce1 hcv1 hcl1 (Nat.le_of_ble_eq_true rfl) (Nat.le_of_ble_eq_true rfl)
  try dsimp only at hp_2 hP1 hD1
  have hrr_3 := hp_2
  generalize H1 = H at hP1 hD1 hS1 hz1 ⊢
  generalize locs1 = locs at hS1 ⊢
  have hS := hS1
  have hP : va_P G.1 vwCl [(h0, .inr (4, [.ref qs, .int (zI sc), .ref hr, .ref hc, .ref hk])), (hk, .inr (0, [.ref qw, .ref ql, .long (zL (n : Int)), .int (zI wg)])), zcl G qw 1001 W0] H := hP1
  have hD : va_D A [(h0, .inr (4, [.ref qs, .int (zI sc), .ref hr, .ref hc, .ref hk])), (hk, .inr (0, [.ref qw, .ref ql, .long (zL (n : Int)), .int (zI wg)])), zcl G qw 1001 W0] := hD1
  refine zv_aload_n S dX4_ways_8 rfl (lv_at hl 0 rfl) ?_
  refine zv_get (C := RX4) (T := TX4) (N := 5) (ci := 4) (v := .ref hk) S in_X4_ways_X4 hK hP 0 rfl rfl 4 (by decide) wd_X4_ways_f33 rfl rfl dX4_ways_9 ?_
  refine zv_iload_n S dX4_ways_12 rfl (lv_at hl 1 rfl) ?_
  refine zc_Vl (As := [.int (zI v)]) (rest := []) (wr := [(h0, .inr (4, [.ref qs, .int (zI sc), .ref hr, .ref hc, .ref hk]))]) (n := 1) S hN hK hP hD hS hA hl (c_X0_waysToPayI l G H.size v hk qw ql n wg W0 v.toNat (by omega) hn (by omega)) gX4_ways_X0_waysToPay rfl ⟨rfl, rfl⟩ (by decide +kernel) rfl ⟨Nat.le_of_ble_eq_true rfl, Nat.le_of_ble_eq_true rfl, Nat.le_of_ble_eq_true rfl, Nat.le_of_ble_eq_true rfl⟩ [1, 2] [0] rfl rfl (by decide) (by decide) (by decide) (ci := 0) rfl rfl rfl (Nat.le_of_ble_eq_true rfl) dX4_ways_13 rfl (fun r_ u_4 H1 locs1 hp_5 hP1 hD1 hS1 hz1 => ?_)
  obtain ⟨nw_6, rfl⟩ : ∃ z, z = u_4 := ⟨_, rfl⟩
  try dsimp only at hp_5 hP1 hD1
  subst hp_5
  generalize H1 = H at hP1 hD1 hS1 hz1 ⊢
  generalize locs1 = locs at hS1 ⊢
  have hS := hS1
  have hP : va_P G.1 vwCl [(h0, .inr (4, [.ref qs, .int (zI sc), .ref hr, .ref hc, .ref hk])), (hk, .inr (0, [.ref qw, .ref ql, .long (zL (n : Int)), .int (zI wg)])), zcl G qw 1001 nw_6] H := hP1
  have hD : va_D A [(h0, .inr (4, [.ref qs, .int (zI sc), .ref hr, .ref hc, .ref hk])), (hk, .inr (0, [.ref qw, .ref ql, .long (zL (n : Int)), .int (zI wg)])), zcl G qw 1001 nw_6] := hD1
  exact hret _ _ _ _ _ nw_6 dX4_ways_16 ⟨rfl, (show 0 ≤ v ∧ v ≤ 1000 from (by omega))⟩ (hP.sub [0, 1, 2] rfl) (hD.sub [0, 1, 2] (by decide) rfl) hS

theorem wd_X4_requireLastGap_f33 : Cond.fieldLink RX4 33 "PointMill" "coins" "LPointMill$Coins;" ∈ wsX4_requireLastGap := by decide +kernel
theorem in_X4_requireLastGap_X4 : ∀ w ∈ wsX40, w ∈ wsX4_requireLastGap := by decide +kernel
theorem hm_X4_requireLastGap_zIS : ∀ w ∈ Cond.classLink RX4 41 zIS :: Cond.initialized zIS :: (vx_atS RX4 45 zIS zNN).filter goodWord, w ∈ wsX4_requireLastGap := List.forall_mem_cons.mpr ⟨by decide +kernel, List.forall_mem_cons.mpr ⟨by decide +kernel, fun w h => List.mem_cons_of_mem _ (List.mem_append_right _ h)⟩⟩
set_option maxHeartbeats 4000000 in
set_option maxRecDepth 100000 in
/-- requireLastGap -/
theorem c_X4_requireLastGap (l : Launch) (hl0 : l.stackTraces = false) (G : zG) (sz : Nat) (h0 : Nat) (qs : Nat) (sc : Int) (hr : Nat) (hc : Nat) (hk : Nat) (qw : Nat) (ql : Nat) (n : Nat) (wg : Int) (hn : n < 2 ^ 60) : vx_Met l yX4_requireLastGap wsX4_requireLastGap ({ frames := 6, cells := 1, slots := 6, locals := 90 }) (va_Pc [.ref h0] (zPx G sz [(h0, .inr (4, [.ref qs, .int (zI sc), .ref hr, .ref hc, .ref hk])), (hk, .inr (0, [.ref qw, .ref ql, .long (zL (n : Int)), .int (zI wg)]))])) (va_Qv (fun (u : Unit) => (zgd (zkc n) 60 = 1)) (fun u => zW G (va_A [(h0, .inr (4, [.ref qs, .int (zI sc), .ref hr, .ref hc, .ref hk])), (hk, .inr (0, [.ref qw, .ref ql, .long (zL (n : Int)), .int (zI wg)]))] sz) ((fun (u : Unit) => [(h0, .inr (4, [.ref qs, .int (zI sc), .ref hr, .ref hc, .ref hk])), (hk, .inr (0, [.ref qw, .ref ql, .long (zL (n : Int)), .int (zI wg)]))]) u)) (va_A [(h0, .inr (4, [.ref qs, .int (zI sc), .ref hr, .ref hc, .ref hk])), (hk, .inr (0, [.ref qw, .ref ql, .long (zL (n : Int)), .int (zI wg)]))] sz)) (vx_X (fun _ => True) (fun (E : String) (u : Unit) (t : State) => (fun (E : String) (u : Unit) => E = zIS ∧ (¬ zgd (zkc n) 60 = 1)) E u ∧ zW G (va_A [(h0, .inr (4, [.ref qs, .int (zI sc), .ref hr, .ref hc, .ref hk])), (hk, .inr (0, [.ref qw, .ref ql, .long (zL (n : Int)), .int (zI wg)]))] sz) ((fun (u : Unit) => [(h0, .inr (4, [.ref qs, .int (zI sc), .ref hr, .ref hc, .ref hk])), (hk, .inr (0, [.ref qw, .ref ql, .long (zL (n : Int)), .int (zI wg)]))]) u) t) (va_A [(h0, .inr (4, [.ref qs, .int (zI sc), .ref hr, .ref hc, .ref hk])), (hk, .inr (0, [.ref qw, .ref ql, .long (zL (n : Int)), .int (zI wg)]))] sz)) 1 6 (va_A [(h0, .inr (4, [.ref qs, .int (zI sc), .ref hr, .ref hc, .ref hk])), (hk, .inr (0, [.ref qw, .ref ql, .long (zL (n : Int)), .int (zI wg)]))] sz) := by
  refine zMx_v hl0 (post := fun (u : Unit) => (zgd (zkc n) 60 = 1)) (w1 := fun (u : Unit) => [(h0, .inr (4, [.ref qs, .int (zI sc), .ref hr, .ref hc, .ref hk])), (hk, .inr (0, [.ref qw, .ref ql, .long (zL (n : Int)), .int (zI wg)]))]) (cx := fun (E : String) (u : Unit) => E = zIS ∧ (¬ zgd (zkc n) 60 = 1)) (w1x := fun (u : Unit) => [(h0, .inr (4, [.ref qs, .int (zI sc), .ref hr, .ref hc, .ref hk])), (hk, .inr (0, [.ref qw, .ref ql, .long (zL (n : Int)), .int (zI wg)]))]) (by decide) rfl rfl (Nat.le_of_ble_eq_true rfl) ⟨Nat.le_of_ble_eq_true rfl, Nat.le_of_ble_eq_true rfl, rfl, rfl⟩ ?_
  intro p e s m below meth c A Q S hN hK hP hD hS hA hE0 hret hpass hthr ls hl
  have hl : lv_has ls 1 [(0, .ref h0)] := hl
  refine zv_aload_n S dX4_requireLastGap_0 rfl (lv_at hl 0 rfl) ?_
  refine zv_get (C := RX4) (T := TX4) (N := 5) (ci := 4) (v := .ref hk) S in_X4_requireLastGap_X4 hK hP 0 rfl rfl 4 (by decide) wd_X4_requireLastGap_f33 rfl rfl dX4_requireLastGap_1 ?_
  refine zc_Vi (As := []) (rest := []) (wr := [(h0, .inr (4, [.ref qs, .int (zI sc), .ref hr, .ref hc, .ref hk]))]) (n := 0) S hN hK hP hD hS hA hl (c_X0_commonDivisor l G s.heap.size hk qw ql n wg hn) gX4_requireLastGap_X0_commonDivisor rfl ⟨rfl, rfl⟩ (by decide +kernel) rfl ⟨Nat.le_of_ble_eq_true rfl, Nat.le_of_ble_eq_true rfl, Nat.le_of_ble_eq_true rfl, Nat.le_of_ble_eq_true rfl⟩ [1] [0] rfl rfl (by decide) (by decide) (by decide) (ci := 0) rfl rfl rfl (Nat.le_of_ble_eq_true rfl) dX4_requireLastGap_4 rfl (fun r_ u_1 H1 locs1 hp_2 hP1 hD1 hS1 hz1 => ?_)
  try dsimp only at hp_2 hP1 hD1
  subst hp_2
  generalize H1 = H at hP1 hD1 hS1 hz1 ⊢
  generalize locs1 = locs at hS1 ⊢
  have hS := hS1
  have hP : va_P G.1 vwCl [(h0, .inr (4, [.ref qs, .int (zI sc), .ref hr, .ref hc, .ref hk])), (hk, .inr (0, [.ref qw, .ref ql, .long (zL (n : Int)), .int (zI wg)]))] H := hP1
  have hD : va_D A [(h0, .inr (4, [.ref qs, .int (zI sc), .ref hr, .ref hc, .ref hk])), (hk, .inr (0, [.ref qw, .ref ql, .long (zL (n : Int)), .int (zI wg)]))] := hD1
  have hg60 := zgd_le (zkc n) 60
  refine zv_iconst S dX4_requireLastGap_7 ?_
  refine zv_icmp_eq (tgt := 21) S (by unfold zR; omega) (by unfold zR; omega) dX4_requireLastGap_8 (by decide) (fun c_3 => ?_) (fun c_3 => ?_)
  · refine W.widen (k := 1) (n := 6) (by decide) (by decide) ?_
    exact hret _ _ _ _ () dX4_requireLastGap_21 (by omega) (hP.sub [0, 1] rfl) (hD.sub [0, 1] (by decide) rfl) hS
  · exact hthr _ _ _ _ _ _ _ zIS "there are gaps without an end" 41 210 45 () (Or.inl ⟨rfl, rfl, rfl⟩) (List.mem_of_getElem? (i := 13) rfl) hm_X4_requireLastGap_zIS dX4_requireLastGap_11 dX4_requireLastGap_14 dX4_requireLastGap_15 dX4_requireLastGap_17 dX4_requireLastGap_20 (by decide) ⟨rfl, (fun z => c_3 (by omega))⟩ (hP.sub [0, 1] rfl) (hD.sub [0, 1] (by decide) rfl) hS hl.1 (Nat.le_of_ble_eq_true rfl) (Nat.le_of_ble_eq_true rfl)

theorem wd_X4_gap_f33 : Cond.fieldLink RX4 33 "PointMill" "coins" "LPointMill$Coins;" ∈ wsX4_gap := by decide +kernel
theorem in_X4_gap_X4 : ∀ w ∈ wsX40, w ∈ wsX4_gap := by decide +kernel
theorem in_X4_gap_X0 : ∀ w ∈ wsX00, w ∈ wsX4_gap := by decide +kernel
theorem hm_X4_gap_zIO : ∀ w ∈ Cond.classLink RX4 177 zIO :: Cond.initialized zIO :: (vx_atS RX4 181 zIO zNN).filter goodWord, w ∈ wsX4_gap := List.forall_mem_cons.mpr ⟨by decide +kernel, List.forall_mem_cons.mpr ⟨by decide +kernel, fun w h => List.mem_cons_of_mem _ (List.mem_append_left _ (List.mem_append_right _ h))⟩⟩
set_option maxHeartbeats 4000000 in
set_option maxRecDepth 100000 in
/-- PointMill.gap -/
theorem c_X4_gap (l : Launch) (hl0 : l.stackTraces = false) (G : zG) (sz : Nat) (h0 : Nat) (qs : Nat) (sc : Int) (hr : Nat) (hc : Nat) (hk : Nat) (qw : Nat) (ql : Nat) (n : Nat) (wg : Int) (pl : Int) (hn : n < 2 ^ 60) (hpl : -2147483648 ≤ pl ∧ pl < 2147483648) : vx_Met l yX4_gap wsX4_gap ({ frames := 7, cells := 3, slots := 18, locals := 110 }) (va_Pc [.ref h0, .int (zI pl)] (zPx G sz [(h0, .inr (4, [.ref qs, .int (zI sc), .ref hr, .ref hc, .ref hk])), (hk, .inr (0, [.ref qw, .ref ql, .long (zL (n : Int)), .int (zI wg)]))])) (va_Qi (fun (r : Int32) (u : (Int) × (Int)) => r = zI u.1 ∧ (-1 ≤ pl ∧ zgd (zkc n) 60 = 1 ∧ zgap (zkc n) 3601 pl u.2 ∧ ((pl = -1 ∧ u.1 = ((zcn (fun t => ¬ zpay (zkc n) t) 3601 : Nat) : Int)) ∨ (¬ pl = -1 ∧ pl < ((zcn (fun t => ¬ zpay (zkc n) t) 3601 : Nat) : Int) ∧ u.1 = u.2)))) (fun u => zW G (va_A [(h0, .inr (4, [.ref qs, .int (zI sc), .ref hr, .ref hc, .ref hk])), (hk, .inr (0, [.ref qw, .ref ql, .long (zL (n : Int)), .int (zI wg)]))] sz) ((fun (u : (Int) × (Int)) => [(h0, .inr (4, [.ref qs, .int (zI sc), .ref hr, .ref hc, .ref hk])), (hk, .inr (0, [.ref qw, .ref ql, .long (zL (n : Int)), .int (zI u.2)]))]) u)) (va_A [(h0, .inr (4, [.ref qs, .int (zI sc), .ref hr, .ref hc, .ref hk])), (hk, .inr (0, [.ref qw, .ref ql, .long (zL (n : Int)), .int (zI wg)]))] sz)) (vx_X (fun _ => True) (fun (E : String) (u : (Int)) (t : State) => (fun (E : String) (u : (Int)) => E = zIO ∧ (pl < -1) ∨ E = zIS ∧ (-1 ≤ pl ∧ ¬ zgd (zkc n) 60 = 1) ∨ E = zIO ∧ (-1 ≤ pl ∧ zgd (zkc n) 60 = 1 ∧ ¬ pl = -1 ∧ ((zcn (fun t => ¬ zpay (zkc n) t) 3601 : Nat) : Int) ≤ pl)) E u ∧ zW G (va_A [(h0, .inr (4, [.ref qs, .int (zI sc), .ref hr, .ref hc, .ref hk])), (hk, .inr (0, [.ref qw, .ref ql, .long (zL (n : Int)), .int (zI wg)]))] sz) ((fun (u : (Int)) => [(h0, .inr (4, [.ref qs, .int (zI sc), .ref hr, .ref hc, .ref hk])), (hk, .inr (0, [.ref qw, .ref ql, .long (zL (n : Int)), .int (zI u)]))]) u) t) (va_A [(h0, .inr (4, [.ref qs, .int (zI sc), .ref hr, .ref hc, .ref hk])), (hk, .inr (0, [.ref qw, .ref ql, .long (zL (n : Int)), .int (zI wg)]))] sz)) 3 18 (va_A [(h0, .inr (4, [.ref qs, .int (zI sc), .ref hr, .ref hc, .ref hk])), (hk, .inr (0, [.ref qw, .ref ql, .long (zL (n : Int)), .int (zI wg)]))] sz) := by
  refine zMx_i hl0 (post := fun (r : Int32) (u : (Int) × (Int)) => r = zI u.1 ∧ (-1 ≤ pl ∧ zgd (zkc n) 60 = 1 ∧ zgap (zkc n) 3601 pl u.2 ∧ ((pl = -1 ∧ u.1 = ((zcn (fun t => ¬ zpay (zkc n) t) 3601 : Nat) : Int)) ∨ (¬ pl = -1 ∧ pl < ((zcn (fun t => ¬ zpay (zkc n) t) 3601 : Nat) : Int) ∧ u.1 = u.2)))) (w1 := fun (u : (Int) × (Int)) => [(h0, .inr (4, [.ref qs, .int (zI sc), .ref hr, .ref hc, .ref hk])), (hk, .inr (0, [.ref qw, .ref ql, .long (zL (n : Int)), .int (zI u.2)]))]) (cx := fun (E : String) (u : (Int)) => E = zIO ∧ (pl < -1) ∨ E = zIS ∧ (-1 ≤ pl ∧ ¬ zgd (zkc n) 60 = 1) ∨ E = zIO ∧ (-1 ≤ pl ∧ zgd (zkc n) 60 = 1 ∧ ¬ pl = -1 ∧ ((zcn (fun t => ¬ zpay (zkc n) t) 3601 : Nat) : Int) ≤ pl)) (w1x := fun (u : (Int)) => [(h0, .inr (4, [.ref qs, .int (zI sc), .ref hr, .ref hc, .ref hk])), (hk, .inr (0, [.ref qw, .ref ql, .long (zL (n : Int)), .int (zI u)]))]) (by decide) rfl rfl (Nat.le_of_ble_eq_true rfl) ⟨Nat.le_of_ble_eq_true rfl, Nat.le_of_ble_eq_true rfl, rfl, rfl⟩ ?_
  intro p e s m below meth c A Q S hN hK hP hD hS hA hE0 hret hpass hthr ls hl
  have hl : lv_has ls 3 [(0, .ref h0), (1, .int (zI pl))] := hl
  refine zv_iload_n S dX4_gap_0 rfl (lv_at hl 1 rfl) ?_
  refine zcx_Sv (As := [.int (zI pl)]) (rest := []) (wr := [(h0, .inr (4, [.ref qs, .int (zI sc), .ref hr, .ref hc, .ref hk])), (hk, .inr (0, [.ref qw, .ref ql, .long (zL (n : Int)), .int (zI wg)]))]) (n := 1) S hN hK (hE0.kept hS.2.1) hP hD hS hA hl (c_X4_requireNoneOrMore l hl0 G s.heap.size pl hpl) gX4_gap_X4_requireNoneOrMore rfl ⟨rfl, rfl⟩ (by decide +kernel) rfl ⟨Nat.le_of_ble_eq_true rfl, Nat.le_of_ble_eq_true rfl, Nat.le_of_ble_eq_true rfl, Nat.le_of_ble_eq_true rfl⟩ [] [0, 1] rfl rfl (by decide) (by decide) (by decide) (Nat.le_of_ble_eq_true rfl) dX4_gap_1 rfl (fun E_ ce_ q_ ux_ H1 locs1 hc1 hP1 hD1 hS1 hz1 hce1 hcv1 hcl1 => ?_) (fun u_1 H1 locs1 hp_2 hP1 hD1 hS1 hz1 => ?_)
  · try dsimp only at hc1 hP1 hD1
    have hP1 : va_P G.1 vwCl [(h0, .inr (4, [.ref qs, .int (zI sc), .ref hr, .ref hc, .ref hk])), (hk, .inr (0, [.ref qw, .ref ql, .long (zL (n : Int)), .int (zI wg)]))] H1 := hP1
    have hD1 : va_D A [(h0, .inr (4, [.ref qs, .int (zI sc), .ref hr, .ref hc, .ref hk])), (hk, .inr (0, [.ref qw, .ref ql, .long (zL (n : Int)), .int (zI wg)]))] := hD1
    obtain ⟨rfl, hx_0⟩ := hc1
    exact hpass _ _ _ _ _ _ _ _ ce_ q_ wg (Or.inl ⟨rfl, hx_0⟩) (hP1.sub [0, 1] rfl) (hD1.sub [0, 1] (by decide) rfl) hS1 hce1 hcv1 hcl1 (Nat.le_of_ble_eq_true rfl) (Nat.le_of_ble_eq_true rfl)
  try dsimp only at hp_2 hP1 hD1
  have hnm_3 := hp_2
  generalize H1 = H at hP1 hD1 hS1 hz1 ⊢
  generalize locs1 = locs at hS1 ⊢
  have hS := hS1
  have hP : va_P G.1 vwCl [(h0, .inr (4, [.ref qs, .int (zI sc), .ref hr, .ref hc, .ref hk])), (hk, .inr (0, [.ref qw, .ref ql, .long (zL (n : Int)), .int (zI wg)]))] H := hP1
  have hD : va_D A [(h0, .inr (4, [.ref qs, .int (zI sc), .ref hr, .ref hc, .ref hk])), (hk, .inr (0, [.ref qw, .ref ql, .long (zL (n : Int)), .int (zI wg)]))] := hD1
  refine zv_aload_n S dX4_gap_4 rfl (lv_at hl 0 rfl) ?_
  refine zcx_Vv (As := []) (rest := []) (wr := []) (n := 0) S hN hK (hE0.kept hS.2.1) hP hD hS hA hl (c_X4_requireLastGap l hl0 G H.size h0 qs sc hr hc hk qw ql n wg hn) gX4_gap_X4_requireLastGap rfl ⟨rfl, rfl⟩ (by decide +kernel) rfl ⟨Nat.le_of_ble_eq_true rfl, Nat.le_of_ble_eq_true rfl, Nat.le_of_ble_eq_true rfl, Nat.le_of_ble_eq_true rfl⟩ [0, 1] [] rfl rfl (by decide) (by decide) (by decide) (ci := 4) rfl rfl rfl (Nat.le_of_ble_eq_true rfl) dX4_gap_5 rfl (fun E_ ce_ q_ ux_ H1 locs1 hc1 hP1 hD1 hS1 hz1 hce1 hcv1 hcl1 => ?_) (fun u_4 H1 locs1 hp_5 hP1 hD1 hS1 hz1 => ?_)
  · try dsimp only at hc1 hP1 hD1
    have hP1 : va_P G.1 vwCl [(h0, .inr (4, [.ref qs, .int (zI sc), .ref hr, .ref hc, .ref hk])), (hk, .inr (0, [.ref qw, .ref ql, .long (zL (n : Int)), .int (zI wg)]))] H1 := hP1
    have hD1 : va_D A [(h0, .inr (4, [.ref qs, .int (zI sc), .ref hr, .ref hc, .ref hk])), (hk, .inr (0, [.ref qw, .ref ql, .long (zL (n : Int)), .int (zI wg)]))] := hD1
    obtain ⟨rfl, hx_0⟩ := hc1
    exact hpass _ _ _ _ _ _ _ _ ce_ q_ wg (Or.inr (Or.inl ⟨rfl, ⟨hnm_3, hx_0⟩⟩)) (hP1.sub [0, 1] rfl) (hD1.sub [0, 1] (by decide) rfl) hS1 hce1 hcv1 hcl1 (Nat.le_of_ble_eq_true rfl) (Nat.le_of_ble_eq_true rfl)
  try dsimp only at hp_5 hP1 hD1
  have hgd_6 := hp_5
  generalize H1 = H at hP1 hD1 hS1 hz1 ⊢
  generalize locs1 = locs at hS1 ⊢
  have hS := hS1
  have hP : va_P G.1 vwCl [(h0, .inr (4, [.ref qs, .int (zI sc), .ref hr, .ref hc, .ref hk])), (hk, .inr (0, [.ref qw, .ref ql, .long (zL (n : Int)), .int (zI wg)]))] H := hP1
  have hD : va_D A [(h0, .inr (4, [.ref qs, .int (zI sc), .ref hr, .ref hc, .ref hk])), (hk, .inr (0, [.ref qw, .ref ql, .long (zL (n : Int)), .int (zI wg)]))] := hD1
  refine zv_aload_n S dX4_gap_8 rfl (lv_at hl 0 rfl) ?_
  refine zv_get (C := RX4) (T := TX4) (N := 5) (ci := 4) (v := .ref hk) S in_X4_gap_X4 hK hP 0 rfl rfl 4 (by decide) wd_X4_gap_f33 rfl rfl dX4_gap_9 ?_
  refine zv_iload_n S dX4_gap_12 rfl (lv_at hl 1 rfl) ?_
  refine zc_Vi (As := [.int (zI pl)]) (rest := []) (wr := [(h0, .inr (4, [.ref qs, .int (zI sc), .ref hr, .ref hc, .ref hk]))]) (n := 1) S hN hK hP hD hS hA hl (c_X0_lookForGaps l G H.size hk qw ql n wg pl hn hpl) gX4_gap_X0_lookForGaps rfl ⟨rfl, rfl⟩ (by decide +kernel) rfl ⟨Nat.le_of_ble_eq_true rfl, Nat.le_of_ble_eq_true rfl, Nat.le_of_ble_eq_true rfl, Nat.le_of_ble_eq_true rfl⟩ [1] [0] rfl rfl (by decide) (by decide) (by decide) (ci := 0) rfl rfl rfl (Nat.le_of_ble_eq_true rfl) dX4_gap_13 rfl (fun r_ u_7 H1 locs1 hp_8 hP1 hD1 hS1 hz1 => ?_)
  obtain ⟨g2_9, rfl⟩ : ∃ z, z = u_7 := ⟨_, rfl⟩
  try dsimp only at hp_8 hP1 hD1
  obtain ⟨rfl, hg2_10⟩ := hp_8
  generalize H1 = H at hP1 hD1 hS1 hz1 ⊢
  generalize locs1 = locs at hS1 ⊢
  have hS := hS1
  have hP : va_P G.1 vwCl [(h0, .inr (4, [.ref qs, .int (zI sc), .ref hr, .ref hc, .ref hk])), (hk, .inr (0, [.ref qw, .ref ql, .long (zL (n : Int)), .int (zI g2_9)]))] H := hP1
  have hD : va_D A [(h0, .inr (4, [.ref qs, .int (zI sc), .ref hr, .ref hc, .ref hk])), (hk, .inr (0, [.ref qw, .ref ql, .long (zL (n : Int)), .int (zI g2_9)]))] := hD1
  have hfb := zcn_le (fun t => ¬ zpay (zkc n) t) 3601
  refine zv_istore_n (lv' := [(2, .int (zI ((zcn (fun t => ¬ zpay (zkc n) t) 3601 : Nat) : Int))), (0, .ref h0), (1, .int (zI pl))]) S dX4_gap_16 rfl hl (by decide) rfl (fun ls hl => ?_)
  refine zv_iload_n S dX4_gap_17 rfl (lv_at hl 2 rfl) ?_
  refine zv_iconst S dX4_gap_18 ?_
  refine zv_icmp_ne (tgt := 24) S (by unfold zR; omega) (by unfold zR; omega) dX4_gap_19 (by decide) (fun c_11 => ?_) (fun c_11 => ?_)
  · refine zv_iload_n S dX4_gap_24 rfl (lv_at hl 2 rfl) ?_
    refine zv_iload_n S dX4_gap_25 rfl (lv_at hl 0 rfl) ?_
    refine zv_icmp_lt (tgt := 39) S (by unfold zR; omega) (by unfold zR; omega) dX4_gap_26 (by decide) (fun c_12 => ?_) (fun c_12 => ?_)
    · refine zv_aload_n S dX4_gap_39 rfl (lv_at hl 1 rfl) ?_
      refine zv_get (C := RX4) (T := TX4) (N := 5) (ci := 4) (v := .ref hk) S in_X4_gap_X4 hK hP 0 rfl rfl 4 (by decide) wd_X4_gap_f33 rfl rfl dX4_gap_40 ?_
      refine zv_getN (C := RX0) (T := TX0) (N := 4) (ci := 0) (v := .int (zI g2_9)) S in_X4_gap_X0 hK hP 1 rfl rfl 3 (by decide) (hN _ (List.mem_of_getElem? (i := 11) rfl)) rfl rfl dX4_gap_43 ?_
      refine W.widen (k := 3) (n := 18) (by decide) (by decide) ?_
      exact hret _ _ _ _ _ ⟨g2_9, g2_9⟩ dX4_gap_46 ⟨rfl, (show -1 ≤ pl ∧ zgd (zkc n) 60 = 1 ∧ zgap (zkc n) 3601 pl g2_9 ∧ ((pl = -1 ∧ g2_9 = ((zcn (fun t => ¬ zpay (zkc n) t) 3601 : Nat) : Int)) ∨ (¬ pl = -1 ∧ pl < ((zcn (fun t => ¬ zpay (zkc n) t) 3601 : Nat) : Int) ∧ g2_9 = g2_9)) from ⟨hnm_3, hgd_6, hg2_10, Or.inr ⟨by omega, by omega, rfl⟩⟩)⟩ (hP.sub [0, 1] rfl) (hD.sub [0, 1] (by decide) rfl) hS
    · exact hthr _ _ _ _ _ _ _ zIO "there is no such gap" 177 179 181 g2_9 (Or.inr (Or.inr ⟨rfl, rfl, rfl⟩)) (List.mem_of_getElem? (i := 7) rfl) hm_X4_gap_zIO dX4_gap_29 dX4_gap_32 dX4_gap_33 dX4_gap_35 dX4_gap_38 (by decide) (Or.inr (Or.inr ⟨rfl, ⟨hnm_3, hgd_6, by omega, by omega⟩⟩)) (hP.sub [0, 1] rfl) (hD.sub [0, 1] (by decide) rfl) hS hl.1 (Nat.le_of_ble_eq_true rfl) (Nat.le_of_ble_eq_true rfl)
  · refine zv_iload_n S dX4_gap_22 rfl (lv_at hl 0 rfl) ?_
    refine W.widen (k := 3) (n := 18) (by decide) (by decide) ?_
    exact hret _ _ _ _ _ ⟨((zcn (fun t => ¬ zpay (zkc n) t) 3601 : Nat) : Int), g2_9⟩ dX4_gap_23 ⟨rfl, (show -1 ≤ pl ∧ zgd (zkc n) 60 = 1 ∧ zgap (zkc n) 3601 pl g2_9 ∧ ((pl = -1 ∧ ((zcn (fun t => ¬ zpay (zkc n) t) 3601 : Nat) : Int) = ((zcn (fun t => ¬ zpay (zkc n) t) 3601 : Nat) : Int)) ∨ (¬ pl = -1 ∧ pl < ((zcn (fun t => ¬ zpay (zkc n) t) 3601 : Nat) : Int) ∧ ((zcn (fun t => ¬ zpay (zkc n) t) 3601 : Nat) : Int) = g2_9)) from ⟨hnm_3, hgd_6, hg2_10, Or.inl ⟨by omega, rfl⟩⟩)⟩ (hP.sub [0, 1] rfl) (hD.sub [0, 1] (by decide) rfl) hS

theorem wd_X4_greatestGap_f33 : Cond.fieldLink RX4 33 "PointMill" "coins" "LPointMill$Coins;" ∈ wsX4_greatestGap := by decide +kernel
theorem in_X4_greatestGap_X4 : ∀ w ∈ wsX40, w ∈ wsX4_greatestGap := by decide +kernel
set_option maxHeartbeats 4000000 in
set_option maxRecDepth 100000 in
/-- PointMill.greatestGap -/
theorem c_X4_greatestGap (l : Launch) (hl0 : l.stackTraces = false) (G : zG) (sz : Nat) (h0 : Nat) (qs : Nat) (sc : Int) (hr : Nat) (hc : Nat) (hk : Nat) (qw : Nat) (ql : Nat) (n : Nat) (wg : Int) (L0 : Nat → Int) (hn : n < 2 ^ 60) : vx_Met l yX4_greatestGap wsX4_greatestGap ({ frames := 7, cells := 1, slots := 6, locals := 110 }) (va_Pc [.ref h0] (zPx G sz [(h0, .inr (4, [.ref qs, .int (zI sc), .ref hr, .ref hc, .ref hk])), (hk, .inr (0, [.ref qw, .ref ql, .long (zL (n : Int)), .int (zI wg)])), zci G ql 60 L0])) (va_Qi (fun (r : Int32) (u : (Nat) × (Nat → Int) × (Int)) => r = zI (u.2.2 - (u.1 : Int)) ∧ (zgd (zkc n) 60 = 1) ∧ (zlc n u.1) ∧ (zso (zkc n) u.1 u.2.1) ∧ ((zfix (zkc n) u.1 u.2.1 ∨ zcp (zkc n) u.1 u.1 u.2.1) ∧ u.2.1 0 ≤ 0) ∧ (zmx u.2.1 u.1 u.2.2)) (fun u => zW G (va_A [(h0, .inr (4, [.ref qs, .int (zI sc), .ref hr, .ref hc, .ref hk])), (hk, .inr (0, [.ref qw, .ref ql, .long (zL (n : Int)), .int (zI wg)])), zci G ql 60 L0] sz) ((fun (u : (Nat) × (Nat → Int) × (Int)) => [(h0, .inr (4, [.ref qs, .int (zI sc), .ref hr, .ref hc, .ref hk])), (hk, .inr (0, [.ref qw, .ref ql, .long (zL (n : Int)), .int (zI wg)])), zci G ql 60 u.2.1]) u)) (va_A [(h0, .inr (4, [.ref qs, .int (zI sc), .ref hr, .ref hc, .ref hk])), (hk, .inr (0, [.ref qw, .ref ql, .long (zL (n : Int)), .int (zI wg)])), zci G ql 60 L0] sz)) (vx_X (fun _ => True) (fun (E : String) (u : (Nat → Int)) (t : State) => (fun (E : String) (u : (Nat → Int)) => E = zIS ∧ (¬ zgd (zkc n) 60 = 1)) E u ∧ zW G (va_A [(h0, .inr (4, [.ref qs, .int (zI sc), .ref hr, .ref hc, .ref hk])), (hk, .inr (0, [.ref qw, .ref ql, .long (zL (n : Int)), .int (zI wg)])), zci G ql 60 L0] sz) ((fun (u : (Nat → Int)) => [(h0, .inr (4, [.ref qs, .int (zI sc), .ref hr, .ref hc, .ref hk])), (hk, .inr (0, [.ref qw, .ref ql, .long (zL (n : Int)), .int (zI wg)])), zci G ql 60 u]) u) t) (va_A [(h0, .inr (4, [.ref qs, .int (zI sc), .ref hr, .ref hc, .ref hk])), (hk, .inr (0, [.ref qw, .ref ql, .long (zL (n : Int)), .int (zI wg)])), zci G ql 60 L0] sz)) 1 6 (va_A [(h0, .inr (4, [.ref qs, .int (zI sc), .ref hr, .ref hc, .ref hk])), (hk, .inr (0, [.ref qw, .ref ql, .long (zL (n : Int)), .int (zI wg)])), zci G ql 60 L0] sz) := by
  refine zMx_i hl0 (post := fun (r : Int32) (u : (Nat) × (Nat → Int) × (Int)) => r = zI (u.2.2 - (u.1 : Int)) ∧ (zgd (zkc n) 60 = 1) ∧ (zlc n u.1) ∧ (zso (zkc n) u.1 u.2.1) ∧ ((zfix (zkc n) u.1 u.2.1 ∨ zcp (zkc n) u.1 u.1 u.2.1) ∧ u.2.1 0 ≤ 0) ∧ (zmx u.2.1 u.1 u.2.2)) (w1 := fun (u : (Nat) × (Nat → Int) × (Int)) => [(h0, .inr (4, [.ref qs, .int (zI sc), .ref hr, .ref hc, .ref hk])), (hk, .inr (0, [.ref qw, .ref ql, .long (zL (n : Int)), .int (zI wg)])), zci G ql 60 u.2.1]) (cx := fun (E : String) (u : (Nat → Int)) => E = zIS ∧ (¬ zgd (zkc n) 60 = 1)) (w1x := fun (u : (Nat → Int)) => [(h0, .inr (4, [.ref qs, .int (zI sc), .ref hr, .ref hc, .ref hk])), (hk, .inr (0, [.ref qw, .ref ql, .long (zL (n : Int)), .int (zI wg)])), zci G ql 60 u]) (by decide) rfl rfl (Nat.le_of_ble_eq_true rfl) ⟨Nat.le_of_ble_eq_true rfl, Nat.le_of_ble_eq_true rfl, rfl, rfl⟩ ?_
  intro p e s m below meth c A Q S hN hK hP hD hS hA hE0 hret hpass hthr ls hl
  have hl : lv_has ls 1 [(0, .ref h0)] := hl
  refine zv_aload_n S dX4_greatestGap_0 rfl (lv_at hl 0 rfl) ?_
  refine zcx_Vv (As := []) (rest := []) (wr := [zci G ql 60 L0]) (n := 0) S hN hK (hE0.kept hS.2.1) hP hD hS hA hl (c_X4_requireLastGap l hl0 G s.heap.size h0 qs sc hr hc hk qw ql n wg hn) gX4_greatestGap_X4_requireLastGap rfl ⟨rfl, rfl⟩ (by decide +kernel) rfl ⟨Nat.le_of_ble_eq_true rfl, Nat.le_of_ble_eq_true rfl, Nat.le_of_ble_eq_true rfl, Nat.le_of_ble_eq_true rfl⟩ [0, 1] [2] rfl rfl (by decide) (by decide) (by decide) (ci := 4) rfl rfl rfl (Nat.le_of_ble_eq_true rfl) dX4_greatestGap_1 rfl (fun E_ ce_ q_ ux_ H1 locs1 hc1 hP1 hD1 hS1 hz1 hce1 hcv1 hcl1 => ?_) (fun u_1 H1 locs1 hp_2 hP1 hD1 hS1 hz1 => ?_)
  · try dsimp only at hc1 hP1 hD1
    have hP1 : va_P G.1 vwCl [zci G ql 60 L0, (h0, .inr (4, [.ref qs, .int (zI sc), .ref hr, .ref hc, .ref hk])), (hk, .inr (0, [.ref qw, .ref ql, .long (zL (n : Int)), .int (zI wg)]))] H1 := hP1
    have hD1 : va_D A [zci G ql 60 L0, (h0, .inr (4, [.ref qs, .int (zI sc), .ref hr, .ref hc, .ref hk])), (hk, .inr (0, [.ref qw, .ref ql, .long (zL (n : Int)), .int (zI wg)]))] := hD1
    obtain ⟨rfl, hx_0⟩ := hc1
    exact hpass _ _ _ _ _ _ _ _ ce_ q_ L0 ⟨rfl, hx_0⟩ (hP1.sub [1, 2, 0] rfl) (hD1.sub [1, 2, 0] (by decide) rfl) hS1 hce1 hcv1 hcl1 (Nat.le_of_ble_eq_true rfl) (Nat.le_of_ble_eq_true rfl)
  try dsimp only at hp_2 hP1 hD1
  have hgd_3 := hp_2
  generalize H1 = H at hP1 hD1 hS1 hz1 ⊢
  generalize locs1 = locs at hS1 ⊢
  have hS := hS1
  have hP : va_P G.1 vwCl [zci G ql 60 L0, (h0, .inr (4, [.ref qs, .int (zI sc), .ref hr, .ref hc, .ref hk])), (hk, .inr (0, [.ref qw, .ref ql, .long (zL (n : Int)), .int (zI wg)]))] H := hP1
  have hD : va_D A [zci G ql 60 L0, (h0, .inr (4, [.ref qs, .int (zI sc), .ref hr, .ref hc, .ref hk])), (hk, .inr (0, [.ref qw, .ref ql, .long (zL (n : Int)), .int (zI wg)]))] := hD1
  refine zv_aload_n S dX4_greatestGap_4 rfl (lv_at hl 0 rfl) ?_
  refine zv_get (C := RX4) (T := TX4) (N := 5) (ci := 4) (v := .ref hk) S in_X4_greatestGap_X4 hK hP 1 rfl rfl 4 (by decide) wd_X4_greatestGap_f33 rfl rfl dX4_greatestGap_5 ?_
  refine zc_Vi (As := []) (rest := []) (wr := [(h0, .inr (4, [.ref qs, .int (zI sc), .ref hr, .ref hc, .ref hk]))]) (n := 0) S hN hK hP hD hS hA hl (c_X0_lastGap l G H.size hk qw ql n wg L0 hn) gX4_greatestGap_X0_lastGap rfl ⟨rfl, rfl⟩ (by decide +kernel) rfl ⟨Nat.le_of_ble_eq_true rfl, Nat.le_of_ble_eq_true rfl, Nat.le_of_ble_eq_true rfl, Nat.le_of_ble_eq_true rfl⟩ [2, 0] [1] rfl rfl (by decide) (by decide) (by decide) (ci := 0) rfl rfl rfl (Nat.le_of_ble_eq_true rfl) dX4_greatestGap_8 rfl (fun r_ u_4 H1 locs1 hp_5 hP1 hD1 hS1 hz1 => ?_)
  obtain ⟨mm_6, L2_7, mx_8⟩ := u_4
  try dsimp only at hp_5 hP1 hD1
  obtain ⟨rfl, ha1_9, ha2_10, ha3_11, ha4_12⟩ := hp_5
  generalize H1 = H at hP1 hD1 hS1 hz1 ⊢
  generalize locs1 = locs at hS1 ⊢
  have hS := hS1
  have hP : va_P G.1 vwCl [(h0, .inr (4, [.ref qs, .int (zI sc), .ref hr, .ref hc, .ref hk])), (hk, .inr (0, [.ref qw, .ref ql, .long (zL (n : Int)), .int (zI wg)])), zci G ql 60 L2_7] H := hP1
  have hD : va_D A [(h0, .inr (4, [.ref qs, .int (zI sc), .ref hr, .ref hc, .ref hk])), (hk, .inr (0, [.ref qw, .ref ql, .long (zL (n : Int)), .int (zI wg)])), zci G ql 60 L2_7] := hD1
  exact hret _ _ _ _ _ ⟨mm_6, L2_7, mx_8⟩ dX4_greatestGap_11 ⟨rfl, (show zgd (zkc n) 60 = 1 from hgd_3), (show zlc n mm_6 from ha1_9), (show zso (zkc n) mm_6 L2_7 from ha2_10), (show (zfix (zkc n) mm_6 L2_7 ∨ zcp (zkc n) mm_6 mm_6 L2_7) ∧ L2_7 0 ≤ 0 from ha3_11), (show zmx L2_7 mm_6 mx_8 from ha4_12)⟩ (hP.sub [0, 1, 2] rfl) (hD.sub [0, 1, 2] (by decide) rfl) hS

theorem wd_X4_tables_m188 : Cond.methodLink RX4 188 Lib.Math.min.name ∈ wsX4_tables := by decide +kernel
theorem wd_X4_tables_smin : Cond.static Lib.Math.min.name ∈ wsX4_tables := by decide +kernel
theorem wd_X4_tables_iM : Cond.initialized "java/lang/Math" ∈ wsX4_tables := by decide +kernel
theorem wd_X4_tables_cmin : Cond.code Lib.Math.min.name Lib.Math.min.code 2 (some .int) ∈ wsX4_tables := by decide +kernel
theorem wd_X4_tables_m193 : Cond.methodLink RX4 193 Lib.Math.max.name ∈ wsX4_tables := by decide +kernel
theorem wd_X4_tables_smax : Cond.static Lib.Math.max.name ∈ wsX4_tables := by decide +kernel
theorem wd_X4_tables_cmax : Cond.code Lib.Math.max.name Lib.Math.max.code 2 (some .int) ∈ wsX4_tables := by decide +kernel
set_option maxHeartbeats 4000000 in
set_option maxRecDepth 100000 in
/-- PointMill.tables -/
theorem c_X4_tables (l : Launch) (hl0 : l.stackTraces = false) (G : zG) (sz : Nat) (h0 : Nat) (qs : Nat) (sc : Int) (hr : Nat) (hc : Nat) (hk : Nat) (oa : Int) (ob : Int) (ol : Int) (nx : Int) (g1 : -2147483648 ≤ oa ∧ oa < 2147483648) (g2 : -2147483648 ≤ ob ∧ ob < 2147483648) (g3 : -2147483648 ≤ ol ∧ ol < 2147483648) (g4 : -2147483648 ≤ nx ∧ nx < 2147483648) : vx_Met l yX4_tables wsX4_tables ({ frames := 7, cells := 4, slots := 24, locals := 112 }) (va_Pc [.ref h0, .int (zI oa), .int (zI ob), .int (zI ol), .int (zI nx)] (zPx G sz [(h0, .inr (4, [.ref qs, .int (zI sc), .ref hr, .ref hc, .ref hk]))])) (va_Qi (fun (r : Int32) (u : (Int)) => r = zI u ∧ (((0 ≤ oa ∧ oa ≤ 60) ∧ (0 ≤ ob ∧ ob ≤ 60) ∧ (0 ≤ ol ∧ ol ≤ 60) ∧ (0 ≤ nx ∧ nx ≤ 60)) ∧ (oa + ob - ol - nx < 0 ∧ u = 0 ∨ 0 ≤ oa + ob - ol - nx ∧ u = zts oa nx (oa + ob - ol - nx) ((zmin oa ol).toNat + 1)))) (fun u => zW G (va_A [(h0, .inr (4, [.ref qs, .int (zI sc), .ref hr, .ref hc, .ref hk]))] sz) ((fun (u : (Int)) => [(h0, .inr (4, [.ref qs, .int (zI sc), .ref hr, .ref hc, .ref hk]))]) u)) (va_A [(h0, .inr (4, [.ref qs, .int (zI sc), .ref hr, .ref hc, .ref hk]))] sz)) (vx_X (fun _ => True) (fun (E : String) (u : Unit) (t : State) => (fun (E : String) (u : Unit) => E = zIA ∧ (¬ ((0 ≤ oa ∧ oa ≤ 60) ∧ (0 ≤ ob ∧ ob ≤ 60) ∧ (0 ≤ ol ∧ ol ≤ 60) ∧ (0 ≤ nx ∧ nx ≤ 60)))) E u ∧ zW G (va_A [(h0, .inr (4, [.ref qs, .int (zI sc), .ref hr, .ref hc, .ref hk]))] sz) ((fun (u : Unit) => [(h0, .inr (4, [.ref qs, .int (zI sc), .ref hr, .ref hc, .ref hk]))]) u) t) (va_A [(h0, .inr (4, [.ref qs, .int (zI sc), .ref hr, .ref hc, .ref hk]))] sz)) 4 24 (va_A [(h0, .inr (4, [.ref qs, .int (zI sc), .ref hr, .ref hc, .ref hk]))] sz) := by
  refine zMx_i hl0 (post := fun (r : Int32) (u : (Int)) => r = zI u ∧ (((0 ≤ oa ∧ oa ≤ 60) ∧ (0 ≤ ob ∧ ob ≤ 60) ∧ (0 ≤ ol ∧ ol ≤ 60) ∧ (0 ≤ nx ∧ nx ≤ 60)) ∧ (oa + ob - ol - nx < 0 ∧ u = 0 ∨ 0 ≤ oa + ob - ol - nx ∧ u = zts oa nx (oa + ob - ol - nx) ((zmin oa ol).toNat + 1)))) (w1 := fun (u : (Int)) => [(h0, .inr (4, [.ref qs, .int (zI sc), .ref hr, .ref hc, .ref hk]))]) (cx := fun (E : String) (u : Unit) => E = zIA ∧ (¬ ((0 ≤ oa ∧ oa ≤ 60) ∧ (0 ≤ ob ∧ ob ≤ 60) ∧ (0 ≤ ol ∧ ol ≤ 60) ∧ (0 ≤ nx ∧ nx ≤ 60)))) (w1x := fun (u : Unit) => [(h0, .inr (4, [.ref qs, .int (zI sc), .ref hr, .ref hc, .ref hk]))]) (by decide) rfl rfl (Nat.le_of_ble_eq_true rfl) ⟨Nat.le_of_ble_eq_true rfl, Nat.le_of_ble_eq_true rfl, rfl, rfl⟩ ?_
  intro p e s m below meth c A Q S hN hK hP hD hS hA hE0 hret hpass hthr ls hl
  have hl : lv_has ls 10 [(0, .ref h0), (1, .int (zI oa)), (2, .int (zI ob)), (3, .int (zI ol)), (4, .int (zI nx))] := hl
  refine zv_iload_n S dX4_tables_0 rfl (lv_at hl 1 rfl) ?_
  refine zv_iconst S dX4_tables_1 ?_
  refine zv_bipush (v := 60) S dX4_tables_2 (by decide) ?_
  refine zcx_Sv (As := [.int (zI oa), .int (zI 0), .int (zI 60)]) (rest := []) (wr := [(h0, .inr (4, [.ref qs, .int (zI sc), .ref hr, .ref hc, .ref hk]))]) (n := 3) S hN hK (hE0.kept hS.2.1) hP hD hS hA hl (c_X4_requireRange l hl0 G s.heap.size oa 0 60 (by omega) (by omega) (by omega)) gX4_tables_X4_requireRange rfl ⟨rfl, rfl⟩ (by decide +kernel) rfl ⟨Nat.le_of_ble_eq_true rfl, Nat.le_of_ble_eq_true rfl, Nat.le_of_ble_eq_true rfl, Nat.le_of_ble_eq_true rfl⟩ [] [0] rfl rfl (by decide) (by decide) (by decide) (Nat.le_of_ble_eq_true rfl) dX4_tables_4 rfl (fun E_ ce_ q_ ux_ H1 locs1 hc1 hP1 hD1 hS1 hz1 hce1 hcv1 hcl1 => ?_) (fun u_1 H1 locs1 hp_2 hP1 hD1 hS1 hz1 => ?_)
  · try dsimp only at hc1 hP1 hD1
    have hP1 : va_P G.1 vwCl [(h0, .inr (4, [.ref qs, .int (zI sc), .ref hr, .ref hc, .ref hk]))] H1 := hP1
    have hD1 : va_D A [(h0, .inr (4, [.ref qs, .int (zI sc), .ref hr, .ref hc, .ref hk]))] := hD1
    obtain ⟨rfl, hx_0⟩ := hc1
    exact hpass _ _ _ _ _ _ _ _ ce_ q_ () ⟨rfl, (fun z => hx_0 (by have := z.1; have := z.2.1; have := z.2.2.1; have := z.2.2.2; omega))⟩ (hP1.sub [0] rfl) (hD1.sub [0] (by decide) rfl) hS1 hce1 hcv1 hcl1 (Nat.le_of_ble_eq_true rfl) (Nat.le_of_ble_eq_true rfl)
  try dsimp only at hp_2 hP1 hD1
  have hrr_3 := hp_2
  generalize H1 = H at hP1 hD1 hS1 hz1 ⊢
  generalize locs1 = locs at hS1 ⊢
  have hS := hS1
  have hP : va_P G.1 vwCl [(h0, .inr (4, [.ref qs, .int (zI sc), .ref hr, .ref hc, .ref hk]))] H := hP1
  have hD : va_D A [(h0, .inr (4, [.ref qs, .int (zI sc), .ref hr, .ref hc, .ref hk]))] := hD1
  refine zv_iload_n S dX4_tables_7 rfl (lv_at hl 2 rfl) ?_
  refine zv_iconst S dX4_tables_8 ?_
  refine zv_bipush (v := 60) S dX4_tables_9 (by decide) ?_
  refine zcx_Sv (As := [.int (zI ob), .int (zI 0), .int (zI 60)]) (rest := []) (wr := [(h0, .inr (4, [.ref qs, .int (zI sc), .ref hr, .ref hc, .ref hk]))]) (n := 3) S hN hK (hE0.kept hS.2.1) hP hD hS hA hl (c_X4_requireRange l hl0 G H.size ob 0 60 (by omega) (by omega) (by omega)) gX4_tables_X4_requireRange rfl ⟨rfl, rfl⟩ (by decide +kernel) rfl ⟨Nat.le_of_ble_eq_true rfl, Nat.le_of_ble_eq_true rfl, Nat.le_of_ble_eq_true rfl, Nat.le_of_ble_eq_true rfl⟩ [] [0] rfl rfl (by decide) (by decide) (by decide) (Nat.le_of_ble_eq_true rfl) dX4_tables_11 rfl (fun E_ ce_ q_ ux_ H1 locs1 hc1 hP1 hD1 hS1 hz1 hce1 hcv1 hcl1 => ?_) (fun u_4 H1 locs1 hp_5 hP1 hD1 hS1 hz1 => ?_)
  · try dsimp only at hc1 hP1 hD1
    have hP1 : va_P G.1 vwCl [(h0, .inr (4, [.ref qs, .int (zI sc), .ref hr, .ref hc, .ref hk]))] H1 := hP1
    have hD1 : va_D A [(h0, .inr (4, [.ref qs, .int (zI sc), .ref hr, .ref hc, .ref hk]))] := hD1
    obtain ⟨rfl, hx_0⟩ := hc1
    exact hpass _ _ _ _ _ _ _ _ ce_ q_ () ⟨rfl, (fun z => hx_0 (by have := z.1; have := z.2.1; have := z.2.2.1; have := z.2.2.2; omega))⟩ (hP1.sub [0] rfl) (hD1.sub [0] (by decide) rfl) hS1 hce1 hcv1 hcl1 (Nat.le_of_ble_eq_true rfl) (Nat.le_of_ble_eq_true rfl)
  try dsimp only at hp_5 hP1 hD1
  have hrr_6 := hp_5
  generalize H1 = H at hP1 hD1 hS1 hz1 ⊢
  generalize locs1 = locs at hS1 ⊢
  have hS := hS1
  have hP : va_P G.1 vwCl [(h0, .inr (4, [.ref qs, .int (zI sc), .ref hr, .ref hc, .ref hk]))] H := hP1
  have hD : va_D A [(h0, .inr (4, [.ref qs, .int (zI sc), .ref hr, .ref hc, .ref hk]))] := hD1
  refine zv_iload_n S dX4_tables_14 rfl (lv_at hl 3 rfl) ?_
  refine zv_iconst S dX4_tables_15 ?_
  refine zv_bipush (v := 60) S dX4_tables_16 (by decide) ?_
  refine zcx_Sv (As := [.int (zI ol), .int (zI 0), .int (zI 60)]) (rest := []) (wr := [(h0, .inr (4, [.ref qs, .int (zI sc), .ref hr, .ref hc, .ref hk]))]) (n := 3) S hN hK (hE0.kept hS.2.1) hP hD hS hA hl (c_X4_requireRange l hl0 G H.size ol 0 60 (by omega) (by omega) (by omega)) gX4_tables_X4_requireRange rfl ⟨rfl, rfl⟩ (by decide +kernel) rfl ⟨Nat.le_of_ble_eq_true rfl, Nat.le_of_ble_eq_true rfl, Nat.le_of_ble_eq_true rfl, Nat.le_of_ble_eq_true rfl⟩ [] [0] rfl rfl (by decide) (by decide) (by decide) (Nat.le_of_ble_eq_true rfl) dX4_tables_18 rfl (fun E_ ce_ q_ ux_ H1 locs1 hc1 hP1 hD1 hS1 hz1 hce1 hcv1 hcl1 => ?_) (fun u_7 H1 locs1 hp_8 hP1 hD1 hS1 hz1 => ?_)
  · try dsimp only at hc1 hP1 hD1
    have hP1 : va_P G.1 vwCl [(h0, .inr (4, [.ref qs, .int (zI sc), .ref hr, .ref hc, .ref hk]))] H1 := hP1
    have hD1 : va_D A [(h0, .inr (4, [.ref qs, .int (zI sc), .ref hr, .ref hc, .ref hk]))] := hD1
    obtain ⟨rfl, hx_0⟩ := hc1
    exact hpass _ _ _ _ _ _ _ _ ce_ q_ () ⟨rfl, (fun z => hx_0 (by have := z.1; have := z.2.1; have := z.2.2.1; have := z.2.2.2; omega))⟩ (hP1.sub [0] rfl) (hD1.sub [0] (by decide) rfl) hS1 hce1 hcv1 hcl1 (Nat.le_of_ble_eq_true rfl) (Nat.le_of_ble_eq_true rfl)
  try dsimp only at hp_8 hP1 hD1
  have hrr_9 := hp_8
  generalize H1 = H at hP1 hD1 hS1 hz1 ⊢
  generalize locs1 = locs at hS1 ⊢
  have hS := hS1
  have hP : va_P G.1 vwCl [(h0, .inr (4, [.ref qs, .int (zI sc), .ref hr, .ref hc, .ref hk]))] H := hP1
  have hD : va_D A [(h0, .inr (4, [.ref qs, .int (zI sc), .ref hr, .ref hc, .ref hk]))] := hD1
  refine zv_iload S dX4_tables_21 (lv_at hl 4 rfl) ?_
  refine zv_iconst S dX4_tables_23 ?_
  refine zv_bipush (v := 60) S dX4_tables_24 (by decide) ?_
  refine zcx_Sv (As := [.int (zI nx), .int (zI 0), .int (zI 60)]) (rest := []) (wr := [(h0, .inr (4, [.ref qs, .int (zI sc), .ref hr, .ref hc, .ref hk]))]) (n := 3) S hN hK (hE0.kept hS.2.1) hP hD hS hA hl (c_X4_requireRange l hl0 G H.size nx 0 60 (by omega) (by omega) (by omega)) gX4_tables_X4_requireRange rfl ⟨rfl, rfl⟩ (by decide +kernel) rfl ⟨Nat.le_of_ble_eq_true rfl, Nat.le_of_ble_eq_true rfl, Nat.le_of_ble_eq_true rfl, Nat.le_of_ble_eq_true rfl⟩ [] [0] rfl rfl (by decide) (by decide) (by decide) (Nat.le_of_ble_eq_true rfl) dX4_tables_26 rfl (fun E_ ce_ q_ ux_ H1 locs1 hc1 hP1 hD1 hS1 hz1 hce1 hcv1 hcl1 => ?_) (fun u_10 H1 locs1 hp_11 hP1 hD1 hS1 hz1 => ?_)
  · try dsimp only at hc1 hP1 hD1
    have hP1 : va_P G.1 vwCl [(h0, .inr (4, [.ref qs, .int (zI sc), .ref hr, .ref hc, .ref hk]))] H1 := hP1
    have hD1 : va_D A [(h0, .inr (4, [.ref qs, .int (zI sc), .ref hr, .ref hc, .ref hk]))] := hD1
    obtain ⟨rfl, hx_0⟩ := hc1
    exact hpass _ _ _ _ _ _ _ _ ce_ q_ () ⟨rfl, (fun z => hx_0 (by have := z.1; have := z.2.1; have := z.2.2.1; have := z.2.2.2; omega))⟩ (hP1.sub [0] rfl) (hD1.sub [0] (by decide) rfl) hS1 hce1 hcv1 hcl1 (Nat.le_of_ble_eq_true rfl) (Nat.le_of_ble_eq_true rfl)
  try dsimp only at hp_11 hP1 hD1
  have hrr_12 := hp_11
  generalize H1 = H at hP1 hD1 hS1 hz1 ⊢
  generalize locs1 = locs at hS1 ⊢
  have hS := hS1
  have hP : va_P G.1 vwCl [(h0, .inr (4, [.ref qs, .int (zI sc), .ref hr, .ref hc, .ref hk]))] H := hP1
  have hD : va_D A [(h0, .inr (4, [.ref qs, .int (zI sc), .ref hr, .ref hc, .ref hk]))] := hD1
  have hn4 : ((0 ≤ oa ∧ oa ≤ 60) ∧ (0 ≤ ob ∧ ob ≤ 60) ∧ (0 ≤ ol ∧ ol ≤ 60) ∧ (0 ≤ nx ∧ nx ≤ 60)) := (by omega)
  have hz0 := zmin_b2 hn4.1 hn4.2.2.1
  refine zv_iload_n S dX4_tables_29 rfl (lv_at hl 1 rfl) ?_
  refine zv_iload_n S dX4_tables_30 rfl (lv_at hl 2 rfl) ?_
  refine zv_iadd S dX4_tables_31 ?_
  refine zv_iload_n S dX4_tables_32 rfl (lv_at hl 3 rfl) ?_
  refine zv_isub S dX4_tables_33 ?_
  refine zv_iload S dX4_tables_34 (lv_at hl 4 rfl) ?_
  refine zv_isub S dX4_tables_36 ?_
  refine zv_istore (lv' := [(5, .int (zI (((oa + ob) - ol) - nx))), (0, .ref h0), (1, .int (zI oa)), (2, .int (zI ob)), (3, .int (zI ol)), (4, .int (zI nx))]) S dX4_tables_37 hl (by decide) rfl (fun ls hl => ?_)
  refine zv_iload S dX4_tables_39 (lv_at hl 0 rfl) ?_
  refine zv_if_ge (tgt := 46) S (by unfold zR; omega) dX4_tables_41 (by decide) (fun c_13 => ?_) (fun c_13 => ?_)
  · refine zv_iconst S dX4_tables_46 ?_
    refine zv_istore (lv' := [(6, .int (zI 0)), (5, .int (zI (((oa + ob) - ol) - nx))), (0, .ref h0), (1, .int (zI oa)), (2, .int (zI ob)), (3, .int (zI ol)), (4, .int (zI nx))]) S dX4_tables_47 hl (by decide) rfl (fun ls hl => ?_)
    refine zv_iconst S dX4_tables_49 ?_
    refine zv_istore (lv' := [(7, .int (zI 0)), (6, .int (zI 0)), (5, .int (zI (((oa + ob) - ol) - nx))), (0, .ref h0), (1, .int (zI oa)), (2, .int (zI ob)), (3, .int (zI ol)), (4, .int (zI nx))]) S dX4_tables_50 hl (by decide) rfl (fun ls hl => ?_)
    have LP52 : ∀ (nf : Nat) (m2 : Nat) (v7 : Int) (fd : Int) (hv7 : v7 = (m2 : Int)) (hm2 : (m2 : Int) ≤ zmin oa ol + 1) (hfd : fd = zts oa nx (oa + ob - ol - nx) m2) (hfb : 0 ≤ fd ∧ fd ≤ 61 * (m2 : Int)), ((61 - (m2 : Int)).toNat) < nf → ∀ (H : Heap) (locs : List Loc), va_P G.1 vwCl [(h0, .inr (4, [.ref qs, .int (zI sc), .ref hr, .ref hc, .ref hk]))] H → va_D A [(h0, .inr (4, [.ref qs, .int (zI sc), .ref hr, .ref hc, .ref hk]))] → va_S A s.heap H locs → ∀ ls : Array Slot, lv_has ls 10 [(7, .int (zI v7)), (6, .int (zI fd)), (5, .int (zI (((oa + ob) - ol) - nx))), (0, .ref h0), (1, .int (zI oa)), (2, .int (zI ob)), (3, .int (zI ol)), (4, .int (zI nx))] → W p l e ({ frames := 7, cells := 4, slots := 24, locals := 112 }) s m ([.ref h0, .int (zI oa), .int (zI ob), .int (zI ol), .int (zI nx)]).toArray below meth c H locs 4 24 Q (F0 m 52 ls []) := by
      intro nf
      induction nf with
      | zero =>
        intro m2 v7 fd hv7 hm2 hfd hfb hf
        exact absurd hf (Nat.not_lt_zero _)
      | succ nf ih52 =>
        intro m2 v7 fd hv7 hm2 hfd hfb hf H locs hP hD hS ls hl
        refine zv_iload S dX4_tables_52 (lv_at hl 0 rfl) ?_
        refine zv_iload_n S dX4_tables_54 rfl (lv_at hl 4 rfl) ?_
        refine zv_iload_n S dX4_tables_55 rfl (lv_at hl 6 rfl) ?_
        refine zv_min S hl (by unfold zR; omega) (by unfold zR; omega) wd_X4_tables_m188 wd_X4_tables_smin wd_X4_tables_iM wd_X4_tables_cmin (by decide) (Nat.le_of_ble_eq_true rfl) (Nat.le_of_ble_eq_true rfl) (Nat.le_of_ble_eq_true rfl) dX4_tables_56 ?_
        refine zv_icmp_gt (tgt := 108) S (by unfold zR; omega) (by unfold zR; omega) dX4_tables_59 (by decide) (fun c_14 => ?_) (fun c_14 => ?_)
        · refine zv_iload S dX4_tables_108 (lv_at hl 1 rfl) ?_
          exact hret _ _ _ _ _ fd dX4_tables_110 ⟨rfl, (show ((0 ≤ oa ∧ oa ≤ 60) ∧ (0 ≤ ob ∧ ob ≤ 60) ∧ (0 ≤ ol ∧ ol ≤ 60) ∧ (0 ≤ nx ∧ nx ≤ 60)) ∧ (oa + ob - ol - nx < 0 ∧ fd = 0 ∨ 0 ≤ oa + ob - ol - nx ∧ fd = zts oa nx (oa + ob - ol - nx) ((zmin oa ol).toNat + 1)) from ⟨hn4, Or.inr ⟨by omega, by rw [hfd, show m2 = (zmin oa ol).toNat + 1 by omega]⟩⟩)⟩ (hP.sub [0] rfl) (hD.sub [0] (by decide) rfl) hS
        · refine zv_iconst S dX4_tables_62 ?_
          refine zv_iload_n S dX4_tables_63 rfl (lv_at hl 4 rfl) ?_
          refine zv_iload S dX4_tables_64 (lv_at hl 0 rfl) ?_
          refine zv_isub S dX4_tables_66 ?_
          refine zv_iload S dX4_tables_67 (lv_at hl 2 rfl) ?_
          refine zv_isub S dX4_tables_69 ?_
          refine zv_max S hl (by unfold zR; omega) (by unfold zR; omega) wd_X4_tables_m193 wd_X4_tables_smax wd_X4_tables_iM wd_X4_tables_cmax (by decide) (Nat.le_of_ble_eq_true rfl) (Nat.le_of_ble_eq_true rfl) (Nat.le_of_ble_eq_true rfl) dX4_tables_70 ?_
          refine zv_istore (lv' := [(8, .int (zI (zmax 0 ((oa - v7) - (((oa + ob) - ol) - nx))))), (7, .int (zI v7)), (6, .int (zI fd)), (5, .int (zI (((oa + ob) - ol) - nx))), (0, .ref h0), (1, .int (zI oa)), (2, .int (zI ob)), (3, .int (zI ol)), (4, .int (zI nx))]) S dX4_tables_73 hl (by decide) rfl (fun ls hl => ?_)
          refine zv_iload S dX4_tables_75 (lv_at hl 8 rfl) ?_
          refine zv_iload_n S dX4_tables_77 rfl (lv_at hl 5 rfl) ?_
          refine zv_iload S dX4_tables_78 (lv_at hl 1 rfl) ?_
          refine zv_isub S dX4_tables_80 ?_
          refine zv_min S hl (by unfold zR; omega) (by unfold zR; omega) wd_X4_tables_m188 wd_X4_tables_smin wd_X4_tables_iM wd_X4_tables_cmin (by decide) (Nat.le_of_ble_eq_true rfl) (Nat.le_of_ble_eq_true rfl) (Nat.le_of_ble_eq_true rfl) dX4_tables_81 ?_
          refine zv_istore (lv' := [(9, .int (zI (zmin nx (oa - v7)))), (8, .int (zI (zmax 0 ((oa - v7) - (((oa + ob) - ol) - nx))))), (7, .int (zI v7)), (6, .int (zI fd)), (5, .int (zI (((oa + ob) - ol) - nx))), (0, .ref h0), (1, .int (zI oa)), (2, .int (zI ob)), (3, .int (zI ol)), (4, .int (zI nx))]) S dX4_tables_84 hl (by decide) rfl (fun ls hl => ?_)
          have hz1 : -60 ≤ (zmin nx (oa - v7)) ∧ (zmin nx (oa - v7)) ≤ 60 := zmin_b3 (by omega) (by omega)
          have hz2 : 0 ≤ (zmax 0 ((oa - v7) - (((oa + ob) - ol) - nx))) ∧ (zmax 0 ((oa - v7) - (((oa + ob) - ol) - nx))) ≤ 1000 := (by unfold zmax; split <;> omega)
          have hz3 := @ztb_b nx (oa - v7) (oa - v7 - (oa + ob - ol - nx)) hn4.2.2.2.2
          refine zv_iload S dX4_tables_86 (lv_at hl 3 rfl) ?_
          refine zv_iconst S dX4_tables_88 ?_
          refine zv_iload S dX4_tables_89 (lv_at hl 0 rfl) ?_
          refine zv_iload S dX4_tables_91 (lv_at hl 1 rfl) ?_
          refine zv_isub S dX4_tables_93 ?_
          refine zv_iconst S dX4_tables_94 ?_
          refine zv_iadd S dX4_tables_95 ?_
          refine zv_max S hl (by unfold zR; omega) (by unfold zR; omega) wd_X4_tables_m193 wd_X4_tables_smax wd_X4_tables_iM wd_X4_tables_cmax (by decide) (Nat.le_of_ble_eq_true rfl) (Nat.le_of_ble_eq_true rfl) (Nat.le_of_ble_eq_true rfl) dX4_tables_96 ?_
          refine zv_iadd S dX4_tables_99 ?_
          refine zv_istore (lv' := [(6, .int (zI (fd + (zmax 0 (((zmin nx (oa - v7)) - (zmax 0 ((oa - v7) - (((oa + ob) - ol) - nx)))) + 1))))), (9, .int (zI (zmin nx (oa - v7)))), (8, .int (zI (zmax 0 ((oa - v7) - (((oa + ob) - ol) - nx))))), (7, .int (zI v7)), (5, .int (zI (((oa + ob) - ol) - nx))), (0, .ref h0), (1, .int (zI oa)), (2, .int (zI ob)), (3, .int (zI ol)), (4, .int (zI nx))]) S dX4_tables_100 hl (by decide) rfl (fun ls hl => ?_)
          refine zv_iinc (k0 := 3) (lv' := [(7, .int (zI (v7 + 1))), (6, .int (zI (fd + (zmax 0 (((zmin nx (oa - v7)) - (zmax 0 ((oa - v7) - (((oa + ob) - ol) - nx)))) + 1))))), (9, .int (zI (zmin nx (oa - v7)))), (8, .int (zI (zmax 0 ((oa - v7) - (((oa + ob) - ol) - nx))))), (5, .int (zI (((oa + ob) - ol) - nx))), (0, .ref h0), (1, .int (zI oa)), (2, .int (zI ob)), (3, .int (zI ol)), (4, .int (zI nx))]) S dX4_tables_102 hl rfl (by decide) rfl (fun ls hl => ?_)
          refine zv_goto (tgt := 52) S dX4_tables_105 (by decide) ?_
          exact ih52 (m2 + 1) (v7 + 1) (fd + (zmax 0 (((zmin nx (oa - v7)) - (zmax 0 ((oa - v7) - (((oa + ob) - ol) - nx)))) + 1))) (by omega) (by omega) (by rw [hfd, hv7]; rfl) (by omega) (by omega) _ _ hP hD hS _ (lv_sub hl [0, 1, 4, 5, 6, 7, 8, 9] rfl)
    exact LP52 _ 0 0 0 rfl (by omega) rfl (by omega) (Nat.lt_succ_self _) _ _ hP hD hS _ (lv_sub hl [0, 1, 2, 3, 4, 5, 6, 7] rfl)
  · refine zv_iconst S dX4_tables_44 ?_
    exact hret _ _ _ _ _ 0 dX4_tables_45 ⟨rfl, (show ((0 ≤ oa ∧ oa ≤ 60) ∧ (0 ≤ ob ∧ ob ≤ 60) ∧ (0 ≤ ol ∧ ol ≤ 60) ∧ (0 ≤ nx ∧ nx ≤ 60)) ∧ (oa + ob - ol - nx < 0 ∧ 0 = 0 ∨ 0 ≤ oa + ob - ol - nx ∧ 0 = zts oa nx (oa + ob - ol - nx) ((zmin oa ol).toNat + 1)) from ⟨hn4, Or.inl ⟨by omega, rfl⟩⟩)⟩ (hP.sub [0] rfl) (hD.sub [0] (by decide) rfl) hS
