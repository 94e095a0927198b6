theorem hm_X4_requireInequality_zIO : ∀ w ∈ Cond.classLink RX4 177 zIO :: Cond.initialized zIO :: (vx_atS RX4 181 zIO zNN).filter goodWord, w ∈ wsX4_requireInequality := List.forall_mem_cons.mpr ⟨by decide +kernel, List.forall_mem_cons.mpr ⟨by decide +kernel, fun w h => List.mem_cons_of_mem _ (List.mem_append_right _ h)⟩⟩
set_option maxHeartbeats 4000000 in
set_option maxRecDepth 100000 in
/-- requireInequality -/
theorem c_X4_requireInequality (l : Launch) (hl0 : l.stackTraces = false) (G : zG) (sz : Nat) (h1 : Nat) (qa : Nat) (qb : Nat) (qc : Nat) (qe : Nat) (k : Nat) (v : Int) (hk4 : k ≤ 10) (hv : -2147483648 ≤ v ∧ v < 2147483648) : vx_Met l yX4_requireInequality wsX4_requireInequality ({ frames := 6, cells := 1, slots := 6, locals := 90 }) (va_Pc [.ref h1, .int (zI v)] (zPx G sz [(h1, .inr (3, [.ref qa, .ref qb, .ref qc, .ref qe, .int (zI (k : Int))]))])) (va_Qv (fun (u : Unit) => (0 ≤ v ∧ v < (k : Int))) (fun u => zW G (va_A [(h1, .inr (3, [.ref qa, .ref qb, .ref qc, .ref qe, .int (zI (k : Int))]))] sz) ((fun (u : Unit) => [(h1, .inr (3, [.ref qa, .ref qb, .ref qc, .ref qe, .int (zI (k : Int))]))]) u)) (va_A [(h1, .inr (3, [.ref qa, .ref qb, .ref qc, .ref qe, .int (zI (k : Int))]))] sz)) (vx_X (fun _ => True) (fun (E : String) (u : Unit) (t : State) => (fun (E : String) (u : Unit) => E = zIO ∧ (¬ (0 ≤ v ∧ v < (k : Int)))) E u ∧ zW G (va_A [(h1, .inr (3, [.ref qa, .ref qb, .ref qc, .ref qe, .int (zI (k : Int))]))] sz) ((fun (u : Unit) => [(h1, .inr (3, [.ref qa, .ref qb, .ref qc, .ref qe, .int (zI (k : Int))]))]) u) t) (va_A [(h1, .inr (3, [.ref qa, .ref qb, .ref qc, .ref qe, .int (zI (k : Int))]))] sz)) 1 6 (va_A [(h1, .inr (3, [.ref qa, .ref qb, .ref qc, .ref qe, .int (zI (k : Int))]))] sz) := by
  refine zMx_v hl0 (post := fun (u : Unit) => (0 ≤ v ∧ v < (k : Int))) (w1 := fun (u : Unit) => [(h1, .inr (3, [.ref qa, .ref qb, .ref qc, .ref qe, .int (zI (k : Int))]))]) (cx := fun (E : String) (u : Unit) => E = zIO ∧ (¬ (0 ≤ v ∧ v < (k : Int)))) (w1x := fun (u : Unit) => [(h1, .inr (3, [.ref qa, .ref qb, .ref qc, .ref qe, .int (zI (k : Int))]))]) (by decide) rfl rfl (Nat.le_of_ble_eq_true rfl) ⟨Nat.le_of_ble_eq_true rfl, Nat.le_of_ble_eq_true rfl, rfl, rfl⟩ ?_
  intro p e s m below meth c A Q S hN hK hP hD hS hA hE0 hret hpass hthr ls hl
  have hl : lv_has ls 2 [(0, .ref h1), (1, .int (zI v))] := hl
  refine zv_aload_n S dX4_requireInequality_0 rfl (lv_at hl 0 rfl) ?_
  refine zv_iload_n S dX4_requireInequality_1 rfl (lv_at hl 1 rfl) ?_
  refine zc_Vi (As := [.int (zI v)]) (rest := []) (wr := []) (n := 1) S hN hK hP hD hS hA hl (c_X3_has l G s.heap.size h1 qa qb qc qe k v (by omega) (by omega)) gX4_requireInequality_X3_has rfl ⟨rfl, rfl⟩ (by decide +kernel) rfl ⟨Nat.le_of_ble_eq_true rfl, Nat.le_of_ble_eq_true rfl, Nat.le_of_ble_eq_true rfl, Nat.le_of_ble_eq_true rfl⟩ [0] [] rfl rfl (by decide) (by decide) (by decide) (ci := 3) rfl rfl rfl (Nat.le_of_ble_eq_true rfl) dX4_requireInequality_2 rfl (fun r_ u_1 H1 locs1 hp_2 hP1 hD1 hS1 hz1 => ?_)
  try dsimp only at hp_2 hP1 hD1
  subst hp_2
  generalize H1 = H at hP1 hD1 hS1 hz1 ⊢
  generalize locs1 = locs at hS1 ⊢
  have hS := hS1
  have hP : va_P G.1 vwCl [(h1, .inr (3, [.ref qa, .ref qb, .ref qc, .ref qe, .int (zI (k : Int))]))] H := hP1
  have hD : va_D A [(h1, .inr (3, [.ref qa, .ref qb, .ref qc, .ref qe, .int (zI (k : Int))]))] := hD1
  refine zv_ifb_ne (tgt := 18) S dX4_requireInequality_5 (by decide) (fun c_3 => ?_) (fun c_3 => ?_)
  · refine W.widen (k := 1) (n := 6) (by decide) (by decide) ?_
    exact hret _ _ _ _ () dX4_requireInequality_18 c_3 (hP.sub [0] rfl) (hD.sub [0] (by decide) rfl) hS
  · exact hthr _ _ _ _ _ _ _ zIO "there is no such inequality" 177 199 181 () (Or.inr (Or.inr ⟨rfl, rfl, rfl⟩)) (List.mem_of_getElem? (i := 9) rfl) hm_X4_requireInequality_zIO dX4_requireInequality_8 dX4_requireInequality_11 dX4_requireInequality_12 dX4_requireInequality_14 dX4_requireInequality_17 (by decide) ⟨rfl, c_3⟩ (hP.sub [0] rfl) (hD.sub [0] (by decide) rfl) hS hl.1 (Nat.le_of_ble_eq_true rfl) (Nat.le_of_ble_eq_true rfl)

theorem hm_X4_requirePlace_zIS : ∀ w ∈ Cond.classLink RX4 41 zIS :: Cond.initialized zIS :: (vx_atS RX4 45 zIS zNN).filter goodWord, w ∈ wsX4_requirePlace := List.forall_mem_cons.mpr ⟨by decide +kernel, List.forall_mem_cons.mpr ⟨by decide +kernel, fun w h => List.mem_cons_of_mem _ (List.mem_append_right _ h)⟩⟩
set_option maxHeartbeats 4000000 in
set_option maxRecDepth 100000 in
/-- requirePlace -/
theorem c_X4_requirePlace (l : Launch) (hl0 : l.stackTraces = false) (G : zG) (sz : Nat) (h1 : Nat) (qa : Nat) (qb : Nat) (qc : Nat) (qe : Nat) (fa : Nat → Int) (fb : Nat → Int) (k : Nat) (hk4 : k ≤ 10) (ha : ∀ j, j < k → -60 ≤ fa j ∧ fa j ≤ 60) (hb : ∀ j, j < k → -60 ≤ fb j ∧ fb j ≤ 60) : vx_Met l yX4_requirePlace wsX4_requirePlace ({ frames := 6, cells := 1, slots := 6, locals := 90 }) (va_Pc [.ref h1] (zPx G sz [(h1, .inr (3, [.ref qa, .ref qb, .ref qc, .ref qe, .int (zI (k : Int))])), zci G qa 10 fa, zci G qb 10 fb])) (va_Qv (fun (u : Unit) => (zpl fa fb k)) (fun u => zW G (va_A [(h1, .inr (3, [.ref qa, .ref qb, .ref qc, .ref qe, .int (zI (k : Int))])), zci G qa 10 fa, zci G qb 10 fb] sz) ((fun (u : Unit) => [(h1, .inr (3, [.ref qa, .ref qb, .ref qc, .ref qe, .int (zI (k : Int))])), zci G qa 10 fa, zci G qb 10 fb]) u)) (va_A [(h1, .inr (3, [.ref qa, .ref qb, .ref qc, .ref qe, .int (zI (k : Int))])), zci G qa 10 fa, zci G qb 10 fb] sz)) (vx_X (fun _ => True) (fun (E : String) (u : Unit) (t : State) => (fun (E : String) (u : Unit) => E = zIS ∧ (¬ zpl fa fb k)) E u ∧ zW G (va_A [(h1, .inr (3, [.ref qa, .ref qb, .ref qc, .ref qe, .int (zI (k : Int))])), zci G qa 10 fa, zci G qb 10 fb] sz) ((fun (u : Unit) => [(h1, .inr (3, [.ref qa, .ref qb, .ref qc, .ref qe, .int (zI (k : Int))])), zci G qa 10 fa, zci G qb 10 fb]) u) t) (va_A [(h1, .inr (3, [.ref qa, .ref qb, .ref qc, .ref qe, .int (zI (k : Int))])), zci G qa 10 fa, zci G qb 10 fb] sz)) 1 6 (va_A [(h1, .inr (3, [.ref qa, .ref qb, .ref qc, .ref qe, .int (zI (k : Int))])), zci G qa 10 fa, zci G qb 10 fb] sz) := by
  refine zMx_v hl0 (post := fun (u : Unit) => (zpl fa fb k)) (w1 := fun (u : Unit) => [(h1, .inr (3, [.ref qa, .ref qb, .ref qc, .ref qe, .int (zI (k : Int))])), zci G qa 10 fa, zci G qb 10 fb]) (cx := fun (E : String) (u : Unit) => E = zIS ∧ (¬ zpl fa fb k)) (w1x := fun (u : Unit) => [(h1, .inr (3, [.ref qa, .ref qb, .ref qc, .ref qe, .int (zI (k : Int))])), zci G qa 10 fa, zci G qb 10 fb]) (by decide) rfl rfl (Nat.le_of_ble_eq_true rfl) ⟨Nat.le_of_ble_eq_true rfl, Nat.le_of_ble_eq_true rfl, rfl, rfl⟩ ?_
  intro p e s m below meth c A Q S hN hK hP hD hS hA hE0 hret hpass hthr ls hl
  have hl : lv_has ls 1 [(0, .ref h1)] := hl
  refine zv_aload_n S dX4_requirePlace_0 rfl (lv_at hl 0 rfl) ?_
  refine zc_Vi (As := []) (rest := []) (wr := []) (n := 0) S hN hK hP hD hS hA hl (c_X3_isClosed l G s.heap.size h1 qa qb qc qe fa fb k hk4 ha hb) gX4_requirePlace_X3_isClosed rfl ⟨rfl, rfl⟩ (by decide +kernel) rfl ⟨Nat.le_of_ble_eq_true rfl, Nat.le_of_ble_eq_true rfl, Nat.le_of_ble_eq_true rfl, Nat.le_of_ble_eq_true rfl⟩ [0, 1, 2] [] rfl rfl (by decide) (by decide) (by decide) (ci := 3) rfl rfl rfl (Nat.le_of_ble_eq_true rfl) dX4_requirePlace_1 rfl (fun r_ u_1 H1 locs1 hp_2 hP1 hD1 hS1 hz1 => ?_)
  try dsimp only at hp_2 hP1 hD1
  subst hp_2
  generalize H1 = H at hP1 hD1 hS1 hz1 ⊢
  generalize locs1 = locs at hS1 ⊢
  have hS := hS1
  have hP : va_P G.1 vwCl [(h1, .inr (3, [.ref qa, .ref qb, .ref qc, .ref qe, .int (zI (k : Int))])), zci G qa 10 fa, zci G qb 10 fb] H := hP1
  have hD : va_D A [(h1, .inr (3, [.ref qa, .ref qb, .ref qc, .ref qe, .int (zI (k : Int))])), zci G qa 10 fa, zci G qb 10 fb] := hD1
  refine zv_ifb_ne (tgt := 17) S dX4_requirePlace_4 (by decide) (fun c_3 => ?_) (fun c_3 => ?_)
  · refine W.widen (k := 1) (n := 6) (by decide) (by decide) ?_
    exact hret _ _ _ _ () dX4_requirePlace_17 c_3 (hP.sub [0, 1, 2] rfl) (hD.sub [0, 1, 2] (by decide) rfl) hS
  · exact hthr _ _ _ _ _ _ _ zIS "the shape is no place" 41 203 45 () (Or.inl ⟨rfl, rfl, rfl⟩) (List.mem_of_getElem? (i := 11) rfl) hm_X4_requirePlace_zIS dX4_requirePlace_7 dX4_requirePlace_10 dX4_requirePlace_11 dX4_requirePlace_13 dX4_requirePlace_16 (by decide) ⟨rfl, c_3⟩ (hP.sub [0, 1, 2] rfl) (hD.sub [0, 1, 2] (by decide) rfl) hS hl.1 (Nat.le_of_ble_eq_true rfl) (Nat.le_of_ble_eq_true rfl)

theorem hm_X4_add_zIS : ∀ w ∈ Cond.classLink RX4 41 zIS :: Cond.initialized zIS :: (vx_atS RX4 45 zIS zNN).filter goodWord, w ∈ wsX4_add := List.forall_mem_cons.mpr ⟨by decide +kernel, List.forall_mem_cons.mpr ⟨by decide +kernel, fun w h => List.mem_cons_of_mem _ (List.mem_append_left _ (List.mem_append_right _ h))⟩⟩
theorem hm_X4_add_zIA : ∀ w ∈ Cond.classLink RX4 56 zIA :: Cond.initialized zIA :: (vx_atS RX4 60 zIA zNN).filter goodWord, w ∈ wsX4_add := List.forall_mem_cons.mpr ⟨by decide +kernel, List.forall_mem_cons.mpr ⟨by decide +kernel, fun w h => List.mem_cons_of_mem _ (List.mem_append_left _ (List.mem_append_left _ (List.mem_append_right _ h)))⟩⟩
set_option maxHeartbeats 4000000 in
set_option maxRecDepth 100000 in
/-- PointMill.add -/
theorem c_X4_add (l : Launch) (hl0 : l.stackTraces = false) (G : zG) (sz : Nat) (h0 : Nat) (qs : Nat) (sc : Int) (hr : Nat) (hc : Nat) (hk : Nat) (SF : Nat → Option Nat) (h1 : Nat) (qa : Nat) (qb : Nat) (qc : Nat) (qe : Nat) (fa : Nat → Int) (fb : Nat → Int) (fc : Nat → Int) (fe : Nat → Int) (k : Nat) (v : Int) (na : Int) (nb : Int) (nc : Int) (ne : Int) (hsc : 0 ≤ sc ∧ sc ≤ 8) (hsf : 0 ≤ v → v < sc → SF v.toNat = some h1) (hk4 : k ≤ 10) (hv : -2147483648 ≤ v ∧ v < 2147483648) (g1 : -2147483648 ≤ na ∧ na < 2147483648) (g2 : -2147483648 ≤ nb ∧ nb < 2147483648) (g3 : -2147483648 ≤ nc ∧ nc < 2147483648) (g4 : -2147483648 ≤ ne ∧ ne < 2147483648) : vx_Met l yX4_add wsX4_add ({ frames := 7, cells := 6, slots := 36, locals := 112 }) (va_Pc [.ref h0, .int (zI v), .int (zI na), .int (zI nb), .int (zI nc), .int (zI ne)] (zPx G sz [(h0, .inr (4, [.ref qs, .int (zI sc), .ref hr, .ref hc, .ref hk])), zcq G qs 8 SF, (h1, .inr (3, [.ref qa, .ref qb, .ref qc, .ref qe, .int (zI (k : Int))])), zci G qa 10 fa, zci G qb 10 fb, zci G qc 10 fc, zci G qe 10 fe])) (va_Qi (fun (r : Int32) (u : Unit) => r = zI (k : Int) ∧ ((0 ≤ v ∧ v < sc) ∧ zadok na nb nc ne ∧ k < 10)) (fun u => zW G (va_A [(h0, .inr (4, [.ref qs, .int (zI sc), .ref hr, .ref hc, .ref hk])), zcq G qs 8 SF, (h1, .inr (3, [.ref qa, .ref qb, .ref qc, .ref qe, .int (zI (k : Int))])), zci G qa 10 fa, zci G qb 10 fb, zci G qc 10 fc, zci G qe 10 fe] sz) ((fun (u : Unit) => [(h0, .inr (4, [.ref qs, .int (zI sc), .ref hr, .ref hc, .ref hk])), zcq G qs 8 SF, (h1, .inr (3, [.ref qa, .ref qb, .ref qc, .ref qe, .int (zI ((k : Int) + 1))])), zci G qa 10 (zU fa k na), zci G qb 10 (zU fb k nb), zci G qc 10 (zU fc k nc), zci G qe 10 (zU fe k ne)]) u)) (va_A [(h0, .inr (4, [.ref qs, .int (zI sc), .ref hr, .ref hc, .ref hk])), zcq G qs 8 SF, (h1, .inr (3, [.ref qa, .ref qb, .ref qc, .ref qe, .int (zI (k : Int))])), zci G qa 10 fa, zci G qb 10 fb, zci G qc 10 fc, zci G qe 10 fe] sz)) (vx_X (fun _ => True) (fun (E : String) (u : Unit) (t : State) => (fun (E : String) (u : Unit) => E = zIO ∧ (¬ (0 ≤ v ∧ v < sc)) ∨ E = zIA ∧ ((0 ≤ v ∧ v < sc) ∧ ¬ zadok na nb nc ne) ∨ E = zIS ∧ ((0 ≤ v ∧ v < sc) ∧ zadok na nb nc ne ∧ k = 10)) E u ∧ zW G (va_A [(h0, .inr (4, [.ref qs, .int (zI sc), .ref hr, .ref hc, .ref hk])), zcq G qs 8 SF, (h1, .inr (3, [.ref qa, .ref qb, .ref qc, .ref qe, .int (zI (k : Int))])), zci G qa 10 fa, zci G qb 10 fb, zci G qc 10 fc, zci G qe 10 fe] sz) ((fun (u : Unit) => [(h0, .inr (4, [.ref qs, .int (zI sc), .ref hr, .ref hc, .ref hk])), zcq G qs 8 SF, (h1, .inr (3, [.ref qa, .ref qb, .ref qc, .ref qe, .int (zI (k : Int))])), zci G qa 10 fa, zci G qb 10 fb, zci G qc 10 fc, zci G qe 10 fe]) u) t) (va_A [(h0, .inr (4, [.ref qs, .int (zI sc), .ref hr, .ref hc, .ref hk])), zcq G qs 8 SF, (h1, .inr (3, [.ref qa, .ref qb, .ref qc, .ref qe, .int (zI (k : Int))])), zci G qa 10 fa, zci G qb 10 fb, zci G qc 10 fc, zci G qe 10 fe] sz)) 6 36 (va_A [(h0, .inr (4, [.ref qs, .int (zI sc), .ref hr, .ref hc, .ref hk])), zcq G qs 8 SF, (h1, .inr (3, [.ref qa, .ref qb, .ref qc, .ref qe, .int (zI (k : Int))])), zci G qa 10 fa, zci G qb 10 fb, zci G qc 10 fc, zci G qe 10 fe] sz) := by
  refine zMx_i hl0 (post := fun (r : Int32) (u : Unit) => r = zI (k : Int) ∧ ((0 ≤ v ∧ v < sc) ∧ zadok na nb nc ne ∧ k < 10)) (w1 := fun (u : Unit) => [(h0, .inr (4, [.ref qs, .int (zI sc), .ref hr, .ref hc, .ref hk])), zcq G qs 8 SF, (h1, .inr (3, [.ref qa, .ref qb, .ref qc, .ref qe, .int (zI ((k : Int) + 1))])), zci G qa 10 (zU fa k na), zci G qb 10 (zU fb k nb), zci G qc 10 (zU fc k nc), zci G qe 10 (zU fe k ne)]) (cx := fun (E : String) (u : Unit) => E = zIO ∧ (¬ (0 ≤ v ∧ v < sc)) ∨ E = zIA ∧ ((0 ≤ v ∧ v < sc) ∧ ¬ zadok na nb nc ne) ∨ E = zIS ∧ ((0 ≤ v ∧ v < sc) ∧ zadok na nb nc ne ∧ k = 10)) (w1x := fun (u : Unit) => [(h0, .inr (4, [.ref qs, .int (zI sc), .ref hr, .ref hc, .ref hk])), zcq G qs 8 SF, (h1, .inr (3, [.ref qa, .ref qb, .ref qc, .ref qe, .int (zI (k : Int))])), zci G qa 10 fa, zci G qb 10 fb, zci G qc 10 fc, zci G qe 10 fe]) (by decide) rfl rfl (Nat.le_of_ble_eq_true rfl) ⟨Nat.le_of_ble_eq_true rfl, Nat.le_of_ble_eq_true rfl, rfl, rfl⟩ ?_
  intro p e s m below meth c A Q S hN hK hP hD hS hA hE0 hret hpass hthr ls hl
  have hl : lv_has ls 8 [(0, .ref h0), (1, .int (zI v)), (2, .int (zI na)), (3, .int (zI nb)), (4, .int (zI nc)), (5, .int (zI ne))] := hl
  refine zv_aload_n S dX4_add_0 rfl (lv_at hl 0 rfl) ?_
  refine zv_iload_n S dX4_add_1 rfl (lv_at hl 1 rfl) ?_
  refine zcx_Vr (As := [.int (zI v)]) (rest := []) (wr := [(h1, .inr (3, [.ref qa, .ref qb, .ref qc, .ref qe, .int (zI (k : Int))])), zci G qa 10 fa, zci G qb 10 fb, zci G qc 10 fc, zci G qe 10 fe]) (n := 1) S hN hK (hE0.kept hS.2.1) hP hD hS hA hl (c_X4_shapeOf l hl0 G s.heap.size h0 qs sc hr hc hk SF v h1 hsc hsf (by omega)) gX4_add_X4_shapeOf rfl ⟨rfl, rfl⟩ (by decide +kernel) rfl ⟨Nat.le_of_ble_eq_true rfl, Nat.le_of_ble_eq_true rfl, Nat.le_of_ble_eq_true rfl, Nat.le_of_ble_eq_true rfl⟩ [0, 1] [2, 3, 4, 5, 6] rfl rfl (by decide) (by decide) (by decide) (ci := 4) rfl rfl rfl (Nat.le_of_ble_eq_true rfl) dX4_add_2 rfl (fun E_ ce_ q_ ux_ H1 locs1 hc1 hP1 hD1 hS1 hz1 hce1 hcv1 hcl1 => ?_) (fun u_1 H1 locs1 hp_2 hP1 hD1 hS1 hz1 => ?_)
  · try dsimp only at hc1 hP1 hD1
    have hP1 : va_P G.1 vwCl [(h1, .inr (3, [.ref qa, .ref qb, .ref qc, .ref qe, .int (zI (k : Int))])), zci G qa 10 fa, zci G qb 10 fb, zci G qc 10 fc, zci G qe 10 fe, (h0, .inr (4, [.ref qs, .int (zI sc), .ref hr, .ref hc, .ref hk])), zcq G qs 8 SF] H1 := hP1
    have hD1 : va_D A [(h1, .inr (3, [.ref qa, .ref qb, .ref qc, .ref qe, .int (zI (k : Int))])), zci G qa 10 fa, zci G qb 10 fb, zci G qc 10 fc, zci G qe 10 fe, (h0, .inr (4, [.ref qs, .int (zI sc), .ref hr, .ref hc, .ref hk])), zcq G qs 8 SF] := hD1
    obtain ⟨rfl, hx_0⟩ := hc1
    exact hpass _ _ _ _ _ _ _ _ ce_ q_ () (Or.inl ⟨rfl, hx_0⟩) (hP1.sub [5, 6, 0, 1, 2, 3, 4] rfl) (hD1.sub [5, 6, 0, 1, 2, 3, 4] (by decide) rfl) hS1 hce1 hcv1 hcl1 (Nat.le_of_ble_eq_true rfl) (Nat.le_of_ble_eq_true rfl)
  try dsimp only at hp_2 hP1 hD1
  have hok_3 := hp_2
  generalize H1 = H at hP1 hD1 hS1 hz1 ⊢
  generalize locs1 = locs at hS1 ⊢
  have hS := hS1
  have hP : va_P G.1 vwCl [(h1, .inr (3, [.ref qa, .ref qb, .ref qc, .ref qe, .int (zI (k : Int))])), zci G qa 10 fa, zci G qb 10 fb, zci G qc 10 fc, zci G qe 10 fe, (h0, .inr (4, [.ref qs, .int (zI sc), .ref hr, .ref hc, .ref hk])), zcq G qs 8 SF] H := hP1
  have hD : va_D A [(h1, .inr (3, [.ref qa, .ref qb, .ref qc, .ref qe, .int (zI (k : Int))])), zci G qa 10 fa, zci G qb 10 fb, zci G qc 10 fc, zci G qe 10 fe, (h0, .inr (4, [.ref qs, .int (zI sc), .ref hr, .ref hc, .ref hk])), zcq G qs 8 SF] := hD1
  refine zv_astore (lv' := [(6, .ref h1), (0, .ref h0), (1, .int (zI v)), (2, .int (zI na)), (3, .int (zI nb)), (4, .int (zI nc)), (5, .int (zI ne))]) S dX4_add_5 hl (by decide) rfl (fun ls hl => ?_)
  refine zv_iload_n S dX4_add_7 rfl (lv_at hl 3 rfl) ?_
  refine zv_bipush (v := (-9)) S dX4_add_8 (by decide) ?_
  refine zv_bipush (v := 9) S dX4_add_10 (by decide) ?_
  refine zcx_Sv (As := [.int (zI na), .int (zI (-9)), .int (zI 9)]) (rest := []) (wr := [(h1, .inr (3, [.ref qa, .ref qb, .ref qc, .ref qe, .int (zI (k : Int))])), zci G qa 10 fa, zci G qb 10 fb, zci G qc 10 fc, zci G qe 10 fe, (h0, .inr (4, [.ref qs, .int (zI sc), .ref hr, .ref hc, .ref hk])), zcq G qs 8 SF]) (n := 3) S hN hK (hE0.kept hS.2.1) hP hD hS hA hl (c_X4_requireRange l hl0 G H.size na (-9) 9 (by omega) (by omega) (by omega)) gX4_add_X4_requireRange rfl ⟨rfl, rfl⟩ (by decide +kernel) rfl ⟨Nat.le_of_ble_eq_true rfl, Nat.le_of_ble_eq_true rfl, Nat.le_of_ble_eq_true rfl, Nat.le_of_ble_eq_true rfl⟩ [] [0, 1, 2, 3, 4, 5, 6] rfl rfl (by decide) (by decide) (by decide) (Nat.le_of_ble_eq_true rfl) dX4_add_12 rfl (fun E_ ce_ q_ ux_ H1 locs1 hc1 hP1 hD1 hS1 hz1 hce1 hcv1 hcl1 => ?_) (fun u_4 H1 locs1 hp_5 hP1 hD1 hS1 hz1 => ?_)
  · try dsimp only at hc1 hP1 hD1
    have hP1 : va_P G.1 vwCl [(h1, .inr (3, [.ref qa, .ref qb, .ref qc, .ref qe, .int (zI (k : Int))])), zci G qa 10 fa, zci G qb 10 fb, zci G qc 10 fc, zci G qe 10 fe, (h0, .inr (4, [.ref qs, .int (zI sc), .ref hr, .ref hc, .ref hk])), zcq G qs 8 SF] H1 := hP1
    have hD1 : va_D A [(h1, .inr (3, [.ref qa, .ref qb, .ref qc, .ref qe, .int (zI (k : Int))])), zci G qa 10 fa, zci G qb 10 fb, zci G qc 10 fc, zci G qe 10 fe, (h0, .inr (4, [.ref qs, .int (zI sc), .ref hr, .ref hc, .ref hk])), zcq G qs 8 SF] := hD1
    obtain ⟨rfl, hx_0⟩ := hc1
    exact hpass _ _ _ _ _ _ _ _ ce_ q_ () (Or.inr (Or.inl ⟨rfl, ⟨hok_3, by unfold zadok; omega⟩⟩)) (hP1.sub [5, 6, 0, 1, 2, 3, 4] rfl) (hD1.sub [5, 6, 0, 1, 2, 3, 4] (by decide) rfl) hS1 hce1 hcv1 hcl1 (Nat.le_of_ble_eq_true rfl) (Nat.le_of_ble_eq_true rfl)
  try dsimp only at hp_5 hP1 hD1
  have hrr_6 := hp_5
  generalize H1 = H at hP1 hD1 hS1 hz1 ⊢
  generalize locs1 = locs at hS1 ⊢
  have hS := hS1
  have hP : va_P G.1 vwCl [(h1, .inr (3, [.ref qa, .ref qb, .ref qc, .ref qe, .int (zI (k : Int))])), zci G qa 10 fa, zci G qb 10 fb, zci G qc 10 fc, zci G qe 10 fe, (h0, .inr (4, [.ref qs, .int (zI sc), .ref hr, .ref hc, .ref hk])), zcq G qs 8 SF] H := hP1
  have hD : va_D A [(h1, .inr (3, [.ref qa, .ref qb, .ref qc, .ref qe, .int (zI (k : Int))])), zci G qa 10 fa, zci G qb 10 fb, zci G qc 10 fc, zci G qe 10 fe, (h0, .inr (4, [.ref qs, .int (zI sc), .ref hr, .ref hc, .ref hk])), zcq G qs 8 SF] := hD1
  refine zv_iload_n S dX4_add_15 rfl (lv_at hl 4 rfl) ?_
  refine zv_bipush (v := (-9)) S dX4_add_16 (by decide) ?_
  refine zv_bipush (v := 9) S dX4_add_18 (by decide) ?_
  refine zcx_Sv (As := [.int (zI nb), .int (zI (-9)), .int (zI 9)]) (rest := []) (wr := [(h1, .inr (3, [.ref qa, .ref qb, .ref qc, .ref qe, .int (zI (k : Int))])), zci G qa 10 fa, zci G qb 10 fb, zci G qc 10 fc, zci G qe 10 fe, (h0, .inr (4, [.ref qs, .int (zI sc), .ref hr, .ref hc, .ref hk])), zcq G qs 8 SF]) (n := 3) S hN hK (hE0.kept hS.2.1) hP hD hS hA hl (c_X4_requireRange l hl0 G H.size nb (-9) 9 (by omega) (by omega) (by omega)) gX4_add_X4_requireRange rfl ⟨rfl, rfl⟩ (by decide +kernel) rfl ⟨Nat.le_of_ble_eq_true rfl, Nat.le_of_ble_eq_true rfl, Nat.le_of_ble_eq_true rfl, Nat.le_of_ble_eq_true rfl⟩ [] [0, 1, 2, 3, 4, 5, 6] rfl rfl (by decide) (by decide) (by decide) (Nat.le_of_ble_eq_true rfl) dX4_add_20 rfl (fun E_ ce_ q_ ux_ H1 locs1 hc1 hP1 hD1 hS1 hz1 hce1 hcv1 hcl1 => ?_) (fun u_7 H1 locs1 hp_8 hP1 hD1 hS1 hz1 => ?_)
  · try dsimp only at hc1 hP1 hD1
    have hP1 : va_P G.1 vwCl [(h1, .inr (3, [.ref qa, .ref qb, .ref qc, .ref qe, .int (zI (k : Int))])), zci G qa 10 fa, zci G qb 10 fb, zci G qc 10 fc, zci G qe 10 fe, (h0, .inr (4, [.ref qs, .int (zI sc), .ref hr, .ref hc, .ref hk])), zcq G qs 8 SF] H1 := hP1
    have hD1 : va_D A [(h1, .inr (3, [.ref qa, .ref qb, .ref qc, .ref qe, .int (zI (k : Int))])), zci G qa 10 fa, zci G qb 10 fb, zci G qc 10 fc, zci G qe 10 fe, (h0, .inr (4, [.ref qs, .int (zI sc), .ref hr, .ref hc, .ref hk])), zcq G qs 8 SF] := hD1
    obtain ⟨rfl, hx_0⟩ := hc1
    exact hpass _ _ _ _ _ _ _ _ ce_ q_ () (Or.inr (Or.inl ⟨rfl, ⟨hok_3, by unfold zadok; omega⟩⟩)) (hP1.sub [5, 6, 0, 1, 2, 3, 4] rfl) (hD1.sub [5, 6, 0, 1, 2, 3, 4] (by decide) rfl) hS1 hce1 hcv1 hcl1 (Nat.le_of_ble_eq_true rfl) (Nat.le_of_ble_eq_true rfl)
  try dsimp only at hp_8 hP1 hD1
  have hrr_9 := hp_8
  generalize H1 = H at hP1 hD1 hS1 hz1 ⊢
  generalize locs1 = locs at hS1 ⊢
  have hS := hS1
  have hP : va_P G.1 vwCl [(h1, .inr (3, [.ref qa, .ref qb, .ref qc, .ref qe, .int (zI (k : Int))])), zci G qa 10 fa, zci G qb 10 fb, zci G qc 10 fc, zci G qe 10 fe, (h0, .inr (4, [.ref qs, .int (zI sc), .ref hr, .ref hc, .ref hk])), zcq G qs 8 SF] H := hP1
  have hD : va_D A [(h1, .inr (3, [.ref qa, .ref qb, .ref qc, .ref qe, .int (zI (k : Int))])), zci G qa 10 fa, zci G qb 10 fb, zci G qc 10 fc, zci G qe 10 fe, (h0, .inr (4, [.ref qs, .int (zI sc), .ref hr, .ref hc, .ref hk])), zcq G qs 8 SF] := hD1
  refine zv_iload S dX4_add_23 (lv_at hl 5 rfl) ?_
  refine zv_bipush (v := (-99)) S dX4_add_25 (by decide) ?_
  refine zv_bipush (v := 99) S dX4_add_27 (by decide) ?_
  refine zcx_Sv (As := [.int (zI nc), .int (zI (-99)), .int (zI 99)]) (rest := []) (wr := [(h1, .inr (3, [.ref qa, .ref qb, .ref qc, .ref qe, .int (zI (k : Int))])), zci G qa 10 fa, zci G qb 10 fb, zci G qc 10 fc, zci G qe 10 fe, (h0, .inr (4, [.ref qs, .int (zI sc), .ref hr, .ref hc, .ref hk])), zcq G qs 8 SF]) (n := 3) S hN hK (hE0.kept hS.2.1) hP hD hS hA hl (c_X4_requireRange l hl0 G H.size nc (-99) 99 (by omega) (by omega) (by omega)) gX4_add_X4_requireRange rfl ⟨rfl, rfl⟩ (by decide +kernel) rfl ⟨Nat.le_of_ble_eq_true rfl, Nat.le_of_ble_eq_true rfl, Nat.le_of_ble_eq_true rfl, Nat.le_of_ble_eq_true rfl⟩ [] [0, 1, 2, 3, 4, 5, 6] rfl rfl (by decide) (by decide) (by decide) (Nat.le_of_ble_eq_true rfl) dX4_add_29 rfl (fun E_ ce_ q_ ux_ H1 locs1 hc1 hP1 hD1 hS1 hz1 hce1 hcv1 hcl1 => ?_) (fun u_10 H1 locs1 hp_11 hP1 hD1 hS1 hz1 => ?_)
  · try dsimp only at hc1 hP1 hD1
    have hP1 : va_P G.1 vwCl [(h1, .inr (3, [.ref qa, .ref qb, .ref qc, .ref qe, .int (zI (k : Int))])), zci G qa 10 fa, zci G qb 10 fb, zci G qc 10 fc, zci G qe 10 fe, (h0, .inr (4, [.ref qs, .int (zI sc), .ref hr, .ref hc, .ref hk])), zcq G qs 8 SF] H1 := hP1
    have hD1 : va_D A [(h1, .inr (3, [.ref qa, .ref qb, .ref qc, .ref qe, .int (zI (k : Int))])), zci G qa 10 fa, zci G qb 10 fb, zci G qc 10 fc, zci G qe 10 fe, (h0, .inr (4, [.ref qs, .int (zI sc), .ref hr, .ref hc, .ref hk])), zcq G qs 8 SF] := hD1
    obtain ⟨rfl, hx_0⟩ := hc1
    exact hpass _ _ _ _ _ _ _ _ ce_ q_ () (Or.inr (Or.inl ⟨rfl, ⟨hok_3, by unfold zadok; omega⟩⟩)) (hP1.sub [5, 6, 0, 1, 2, 3, 4] rfl) (hD1.sub [5, 6, 0, 1, 2, 3, 4] (by decide) rfl) hS1 hce1 hcv1 hcl1 (Nat.le_of_ble_eq_true rfl) (Nat.le_of_ble_eq_true rfl)
  try dsimp only at hp_11 hP1 hD1
  have hrr_12 := hp_11
  generalize H1 = H at hP1 hD1 hS1 hz1 ⊢
  generalize locs1 = locs at hS1 ⊢
  have hS := hS1
  have hP : va_P G.1 vwCl [(h1, .inr (3, [.ref qa, .ref qb, .ref qc, .ref qe, .int (zI (k : Int))])), zci G qa 10 fa, zci G qb 10 fb, zci G qc 10 fc, zci G qe 10 fe, (h0, .inr (4, [.ref qs, .int (zI sc), .ref hr, .ref hc, .ref hk])), zcq G qs 8 SF] H := hP1
  have hD : va_D A [(h1, .inr (3, [.ref qa, .ref qb, .ref qc, .ref qe, .int (zI (k : Int))])), zci G qa 10 fa, zci G qb 10 fb, zci G qc 10 fc, zci G qe 10 fe, (h0, .inr (4, [.ref qs, .int (zI sc), .ref hr, .ref hc, .ref hk])), zcq G qs 8 SF] := hD1
  refine zv_iload S dX4_add_32 (lv_at hl 6 rfl) ?_
  refine zv_bipush (v := (-9)) S dX4_add_34 (by decide) ?_
  refine zv_bipush (v := 9) S dX4_add_36 (by decide) ?_
  refine zcx_Sv (As := [.int (zI ne), .int (zI (-9)), .int (zI 9)]) (rest := []) (wr := [(h1, .inr (3, [.ref qa, .ref qb, .ref qc, .ref qe, .int (zI (k : Int))])), zci G qa 10 fa, zci G qb 10 fb, zci G qc 10 fc, zci G qe 10 fe, (h0, .inr (4, [.ref qs, .int (zI sc), .ref hr, .ref hc, .ref hk])), zcq G qs 8 SF]) (n := 3) S hN hK (hE0.kept hS.2.1) hP hD hS hA hl (c_X4_requireRange l hl0 G H.size ne (-9) 9 (by omega) (by omega) (by omega)) gX4_add_X4_requireRange rfl ⟨rfl, rfl⟩ (by decide +kernel) rfl ⟨Nat.le_of_ble_eq_true rfl, Nat.le_of_ble_eq_true rfl, Nat.le_of_ble_eq_true rfl, Nat.le_of_ble_eq_true rfl⟩ [] [0, 1, 2, 3, 4, 5, 6] rfl rfl (by decide) (by decide) (by decide) (Nat.le_of_ble_eq_true rfl) dX4_add_38 rfl (fun E_ ce_ q_ ux_ H1 locs1 hc1 hP1 hD1 hS1 hz1 hce1 hcv1 hcl1 => ?_) (fun u_13 H1 locs1 hp_14 hP1 hD1 hS1 hz1 => ?_)
  · try dsimp only at hc1 hP1 hD1
    have hP1 : va_P G.1 vwCl [(h1, .inr (3, [.ref qa, .ref qb, .ref qc, .ref qe, .int (zI (k : Int))])), zci G qa 10 fa, zci G qb 10 fb, zci G qc 10 fc, zci G qe 10 fe, (h0, .inr (4, [.ref qs, .int (zI sc), .ref hr, .ref hc, .ref hk])), zcq G qs 8 SF] H1 := hP1
    have hD1 : va_D A [(h1, .inr (3, [.ref qa, .ref qb, .ref qc, .ref qe, .int (zI (k : Int))])), zci G qa 10 fa, zci G qb 10 fb, zci G qc 10 fc, zci G qe 10 fe, (h0, .inr (4, [.ref qs, .int (zI sc), .ref hr, .ref hc, .ref hk])), zcq G qs 8 SF] := hD1
    obtain ⟨rfl, hx_0⟩ := hc1
    exact hpass _ _ _ _ _ _ _ _ ce_ q_ () (Or.inr (Or.inl ⟨rfl, ⟨hok_3, by unfold zadok; omega⟩⟩)) (hP1.sub [5, 6, 0, 1, 2, 3, 4] rfl) (hD1.sub [5, 6, 0, 1, 2, 3, 4] (by decide) rfl) hS1 hce1 hcv1 hcl1 (Nat.le_of_ble_eq_true rfl) (Nat.le_of_ble_eq_true rfl)
  try dsimp only at hp_14 hP1 hD1
  have hrr_15 := hp_14
  generalize H1 = H at hP1 hD1 hS1 hz1 ⊢
  generalize locs1 = locs at hS1 ⊢
  have hS := hS1
  have hP : va_P G.1 vwCl [(h1, .inr (3, [.ref qa, .ref qb, .ref qc, .ref qe, .int (zI (k : Int))])), zci G qa 10 fa, zci G qb 10 fb, zci G qc 10 fc, zci G qe 10 fe, (h0, .inr (4, [.ref qs, .int (zI sc), .ref hr, .ref hc, .ref hk])), zcq G qs 8 SF] H := hP1
  have hD : va_D A [(h1, .inr (3, [.ref qa, .ref qb, .ref qc, .ref qe, .int (zI (k : Int))])), zci G qa 10 fa, zci G qb 10 fb, zci G qc 10 fc, zci G qe 10 fe, (h0, .inr (4, [.ref qs, .int (zI sc), .ref hr, .ref hc, .ref hk])), zcq G qs 8 SF] := hD1
  refine zv_iload_n S dX4_add_41 rfl (lv_at hl 3 rfl) ?_
  refine zv_if_ne (tgt := 59) S (by unfold zR; omega) dX4_add_42 (by decide) (fun c_16 => ?_) (fun c_16 => ?_)
  · rcases (show k < 10 ∨ k = 10 by omega) with hk9 | hk9
    · refine zv_aload S dX4_add_59 (lv_at hl 0 rfl) ?_
      refine zv_iload_n S dX4_add_61 rfl (lv_at hl 3 rfl) ?_
      refine zv_iload_n S dX4_add_62 rfl (lv_at hl 4 rfl) ?_
      refine zv_iload S dX4_add_63 (lv_at hl 5 rfl) ?_
      refine zv_iload S dX4_add_65 (lv_at hl 6 rfl) ?_
      refine zc_Vi (As := [.int (zI na), .int (zI nb), .int (zI nc), .int (zI ne)]) (rest := []) (wr := [(h0, .inr (4, [.ref qs, .int (zI sc), .ref hr, .ref hc, .ref hk])), zcq G qs 8 SF]) (n := 4) S hN hK hP hD hS hA hl (c_X3_append l G H.size h1 qa qb qc qe fa fb fc fe k na nb nc ne hk9) gX4_add_X3_append rfl ⟨rfl, rfl⟩ (by decide +kernel) rfl ⟨Nat.le_of_ble_eq_true rfl, Nat.le_of_ble_eq_true rfl, Nat.le_of_ble_eq_true rfl, Nat.le_of_ble_eq_true rfl⟩ [0, 1, 2, 3, 4] [5, 6] rfl rfl (by decide) (by decide) (by decide) (ci := 3) rfl rfl rfl (Nat.le_of_ble_eq_true rfl) dX4_add_67 rfl (fun r_ u_17 H1 locs1 hp_18 hP1 hD1 hS1 hz1 => ?_)
      try dsimp only at hp_18 hP1 hD1
      subst hp_18
      generalize H1 = H at hP1 hD1 hS1 hz1 ⊢
      generalize locs1 = locs at hS1 ⊢
      have hS := hS1
      have hP : va_P G.1 vwCl [(h0, .inr (4, [.ref qs, .int (zI sc), .ref hr, .ref hc, .ref hk])), zcq G qs 8 SF, (h1, .inr (3, [.ref qa, .ref qb, .ref qc, .ref qe, .int (zI ((k : Int) + 1))])), zci G qa 10 (zU fa k na), zci G qb 10 (zU fb k nb), zci G qc 10 (zU fc k nc), zci G qe 10 (zU fe k ne)] H := hP1
      have hD : va_D A [(h0, .inr (4, [.ref qs, .int (zI sc), .ref hr, .ref hc, .ref hk])), zcq G qs 8 SF, (h1, .inr (3, [.ref qa, .ref qb, .ref qc, .ref qe, .int (zI ((k : Int) + 1))])), zci G qa 10 (zU fa k na), zci G qb 10 (zU fb k nb), zci G qc 10 (zU fc k nc), zci G qe 10 (zU fe k ne)] := hD1
      refine zv_istore (lv' := [(7, .int (zI (k : Int))), (6, .ref h1), (0, .ref h0), (1, .int (zI v)), (2, .int (zI na)), (3, .int (zI nb)), (4, .int (zI nc)), (5, .int (zI ne))]) S dX4_add_70 hl (by decide) rfl (fun ls hl => ?_)
      refine zv_iload S dX4_add_72 (lv_at hl 0 rfl) ?_
      refine zv_iconst S dX4_add_74 ?_
      refine zv_icmp_ne (tgt := 88) S (by unfold zR; omega) (by unfold zR; omega) dX4_add_75 (by decide) (fun c_19 => ?_) (fun c_19 => ?_)
      · refine zv_iload S dX4_add_88 (lv_at hl 0 rfl) ?_
        refine W.widen (k := 6) (n := 36) (by decide) (by decide) ?_
        exact hret _ _ _ _ _ () dX4_add_90 ⟨rfl, ⟨hok_3, by unfold zadok; omega, hk9⟩⟩ (hP.sub [0, 1, 2, 3, 4, 5, 6] rfl) (hD.sub [0, 1, 2, 3, 4, 5, 6] (by decide) rfl) hS
      · exact absurd c_19 (by omega)
    · refine zv_aload S dX4_add_59 (lv_at hl 0 rfl) ?_
      refine zv_iload_n S dX4_add_61 rfl (lv_at hl 3 rfl) ?_
      refine zv_iload_n S dX4_add_62 rfl (lv_at hl 4 rfl) ?_
      refine zv_iload S dX4_add_63 (lv_at hl 5 rfl) ?_
      refine zv_iload S dX4_add_65 (lv_at hl 6 rfl) ?_
      refine zc_Vi (As := [.int (zI na), .int (zI nb), .int (zI nc), .int (zI ne)]) (rest := []) (wr := [zci G qa 10 fa, zci G qb 10 fb, zci G qc 10 fc, zci G qe 10 fe, (h0, .inr (4, [.ref qs, .int (zI sc), .ref hr, .ref hc, .ref hk])), zcq G qs 8 SF]) (n := 4) S hN hK hP hD hS hA hl (c_X3_append_full l G H.size h1 qa qb qc qe k na nb nc ne hk9) gX4_add_X3_append rfl ⟨rfl, rfl⟩ (by decide +kernel) rfl ⟨Nat.le_of_ble_eq_true rfl, Nat.le_of_ble_eq_true rfl, Nat.le_of_ble_eq_true rfl, Nat.le_of_ble_eq_true rfl⟩ [0] [1, 2, 3, 4, 5, 6] rfl rfl (by decide) (by decide) (by decide) (ci := 3) rfl rfl rfl (Nat.le_of_ble_eq_true rfl) dX4_add_67 rfl (fun r_ u_20 H1 locs1 hp_21 hP1 hD1 hS1 hz1 => ?_)
      try dsimp only at hp_21 hP1 hD1
      subst hp_21
      generalize H1 = H at hP1 hD1 hS1 hz1 ⊢
      generalize locs1 = locs at hS1 ⊢
      have hS := hS1
      have hP : va_P G.1 vwCl [zci G qa 10 fa, zci G qb 10 fb, zci G qc 10 fc, zci G qe 10 fe, (h0, .inr (4, [.ref qs, .int (zI sc), .ref hr, .ref hc, .ref hk])), zcq G qs 8 SF, (h1, .inr (3, [.ref qa, .ref qb, .ref qc, .ref qe, .int (zI (k : Int))]))] H := hP1
      have hD : va_D A [zci G qa 10 fa, zci G qb 10 fb, zci G qc 10 fc, zci G qe 10 fe, (h0, .inr (4, [.ref qs, .int (zI sc), .ref hr, .ref hc, .ref hk])), zcq G qs 8 SF, (h1, .inr (3, [.ref qa, .ref qb, .ref qc, .ref qe, .int (zI (k : Int))]))] := hD1
      refine zv_istore (lv' := [(7, .int (zI (-1))), (6, .ref h1), (0, .ref h0), (1, .int (zI v)), (2, .int (zI na)), (3, .int (zI nb)), (4, .int (zI nc)), (5, .int (zI ne))]) S dX4_add_70 hl (by decide) rfl (fun ls hl => ?_)
      refine zv_iload S dX4_add_72 (lv_at hl 0 rfl) ?_
      refine zv_iconst S dX4_add_74 ?_
      refine zv_icmp_ne (tgt := 88) S (by unfold zR; omega) (by unfold zR; omega) dX4_add_75 (by decide) (fun c_22 => ?_) (fun c_22 => ?_)
      · exact absurd c_22 (by omega)
      · exact hthr _ _ _ _ _ _ _ zIS "there are 10 inequalities" 41 65 45 () (Or.inl ⟨rfl, rfl, rfl⟩) (List.mem_of_getElem? (i := 2) rfl) hm_X4_add_zIS dX4_add_78 dX4_add_81 dX4_add_82 dX4_add_84 dX4_add_87 (by decide) (Or.inr (Or.inr ⟨rfl, ⟨hok_3, by unfold zadok; omega, hk9⟩⟩)) (hP.sub [4, 5, 6, 0, 1, 2, 3] rfl) (hD.sub [4, 5, 6, 0, 1, 2, 3] (by decide) rfl) hS hl.1 (Nat.le_of_ble_eq_true rfl) (Nat.le_of_ble_eq_true rfl)
  · refine zv_iload_n S dX4_add_45 rfl (lv_at hl 4 rfl) ?_
    refine zv_if_ne (tgt := 59) S (by unfold zR; omega) dX4_add_46 (by decide) (fun c_23 => ?_) (fun c_23 => ?_)
    · rcases (show k < 10 ∨ k = 10 by omega) with hk9 | hk9
      · refine zv_aload S dX4_add_59 (lv_at hl 0 rfl) ?_
        refine zv_iload_n S dX4_add_61 rfl (lv_at hl 3 rfl) ?_
        refine zv_iload_n S dX4_add_62 rfl (lv_at hl 4 rfl) ?_
        refine zv_iload S dX4_add_63 (lv_at hl 5 rfl) ?_
        refine zv_iload S dX4_add_65 (lv_at hl 6 rfl) ?_
        refine zc_Vi (As := [.int (zI na), .int (zI nb), .int (zI nc), .int (zI ne)]) (rest := []) (wr := [(h0, .inr (4, [.ref qs, .int (zI sc), .ref hr, .ref hc, .ref hk])), zcq G qs 8 SF]) (n := 4) S hN hK hP hD hS hA hl (c_X3_append l G H.size h1 qa qb qc qe fa fb fc fe k na nb nc ne hk9) gX4_add_X3_append rfl ⟨rfl, rfl⟩ (by decide +kernel) rfl ⟨Nat.le_of_ble_eq_true rfl, Nat.le_of_ble_eq_true rfl, Nat.le_of_ble_eq_true rfl, Nat.le_of_ble_eq_true rfl⟩ [0, 1, 2, 3, 4] [5, 6] rfl rfl (by decide) (by decide) (by decide) (ci := 3) rfl rfl rfl (Nat.le_of_ble_eq_true rfl) dX4_add_67 rfl (fun r_ u_24 H1 locs1 hp_25 hP1 hD1 hS1 hz1 => ?_)
        try dsimp only at hp_25 hP1 hD1
        subst hp_25
        generalize H1 = H at hP1 hD1 hS1 hz1 ⊢
        generalize locs1 = locs at hS1 ⊢
        have hS := hS1
        have hP : va_P G.1 vwCl [(h0, .inr (4, [.ref qs, .int (zI sc), .ref hr, .ref hc, .ref hk])), zcq G qs 8 SF, (h1, .inr (3, [.ref qa, .ref qb, .ref qc, .ref qe, .int (zI ((k : Int) + 1))])), zci G qa 10 (zU fa k na), zci G qb 10 (zU fb k nb), zci G qc 10 (zU fc k nc), zci G qe 10 (zU fe k ne)] H := hP1
        have hD : va_D A [(h0, .inr (4, [.ref qs, .int (zI sc), .ref hr, .ref hc, .ref hk])), zcq G qs 8 SF, (h1, .inr (3, [.ref qa, .ref qb, .ref qc, .ref qe, .int (zI ((k : Int) + 1))])), zci G qa 10 (zU fa k na), zci G qb 10 (zU fb k nb), zci G qc 10 (zU fc k nc), zci G qe 10 (zU fe k ne)] := hD1
        refine zv_istore (lv' := [(7, .int (zI (k : Int))), (6, .ref h1), (0, .ref h0), (1, .int (zI v)), (2, .int (zI na)), (3, .int (zI nb)), (4, .int (zI nc)), (5, .int (zI ne))]) S dX4_add_70 hl (by decide) rfl (fun ls hl => ?_)
        refine zv_iload S dX4_add_72 (lv_at hl 0 rfl) ?_
        refine zv_iconst S dX4_add_74 ?_
        refine zv_icmp_ne (tgt := 88) S (by unfold zR; omega) (by unfold zR; omega) dX4_add_75 (by decide) (fun c_26 => ?_) (fun c_26 => ?_)
        · refine zv_iload S dX4_add_88 (lv_at hl 0 rfl) ?_
          refine W.widen (k := 6) (n := 36) (by decide) (by decide) ?_
          exact hret _ _ _ _ _ () dX4_add_90 ⟨rfl, ⟨hok_3, by unfold zadok; omega, hk9⟩⟩ (hP.sub [0, 1, 2, 3, 4, 5, 6] rfl) (hD.sub [0, 1, 2, 3, 4, 5, 6] (by decide) rfl) hS
        · exact absurd c_26 (by omega)
      · refine zv_aload S dX4_add_59 (lv_at hl 0 rfl) ?_
        refine zv_iload_n S dX4_add_61 rfl (lv_at hl 3 rfl) ?_
        refine zv_iload_n S dX4_add_62 rfl (lv_at hl 4 rfl) ?_
        refine zv_iload S dX4_add_63 (lv_at hl 5 rfl) ?_
        refine zv_iload S dX4_add_65 (lv_at hl 6 rfl) ?_
        refine zc_Vi (As := [.int (zI na), .int (zI nb), .int (zI nc), .int (zI ne)]) (rest := []) (wr := [zci G qa 10 fa, zci G qb 10 fb, zci G qc 10 fc, zci G qe 10 fe, (h0, .inr (4, [.ref qs, .int (zI sc), .ref hr, .ref hc, .ref hk])), zcq G qs 8 SF]) (n := 4) S hN hK hP hD hS hA hl (c_X3_append_full l G H.size h1 qa qb qc qe k na nb nc ne hk9) gX4_add_X3_append rfl ⟨rfl, rfl⟩ (by decide +kernel) rfl ⟨Nat.le_of_ble_eq_true rfl, Nat.le_of_ble_eq_true rfl, Nat.le_of_ble_eq_true rfl, Nat.le_of_ble_eq_true rfl⟩ [0] [1, 2, 3, 4, 5, 6] rfl rfl (by decide) (by decide) (by decide) (ci := 3) rfl rfl rfl (Nat.le_of_ble_eq_true rfl) dX4_add_67 rfl (fun r_ u_27 H1 locs1 hp_28 hP1 hD1 hS1 hz1 => ?_)
        try dsimp only at hp_28 hP1 hD1
        subst hp_28
        generalize H1 = H at hP1 hD1 hS1 hz1 ⊢
        generalize locs1 = locs at hS1 ⊢
        have hS := hS1
        have hP : va_P G.1 vwCl [zci G qa 10 fa, zci G qb 10 fb, zci G qc 10 fc, zci G qe 10 fe, (h0, .inr (4, [.ref qs, .int (zI sc), .ref hr, .ref hc, .ref hk])), zcq G qs 8 SF, (h1, .inr (3, [.ref qa, .ref qb, .ref qc, .ref qe, .int (zI (k : Int))]))] H := hP1
        have hD : va_D A [zci G qa 10 fa, zci G qb 10 fb, zci G qc 10 fc, zci G qe 10 fe, (h0, .inr (4, [.ref qs, .int (zI sc), .ref hr, .ref hc, .ref hk])), zcq G qs 8 SF, (h1, .inr (3, [.ref qa, .ref qb, .ref qc, .ref qe, .int (zI (k : Int))]))] := hD1
        refine zv_istore (lv' := [(7, .int (zI (-1))), (6, .ref h1), (0, .ref h0), (1, .int (zI v)), (2, .int (zI na)), (3, .int (zI nb)), (4, .int (zI nc)), (5, .int (zI ne))]) S dX4_add_70 hl (by decide) rfl (fun ls hl => ?_)
        refine zv_iload S dX4_add_72 (lv_at hl 0 rfl) ?_
        refine zv_iconst S dX4_add_74 ?_
        refine zv_icmp_ne (tgt := 88) S (by unfold zR; omega) (by unfold zR; omega) dX4_add_75 (by decide) (fun c_29 => ?_) (fun c_29 => ?_)
        · exact absurd c_29 (by omega)
        · exact hthr _ _ _ _ _ _ _ zIS "there are 10 inequalities" 41 65 45 () (Or.inl ⟨rfl, rfl, rfl⟩) (List.mem_of_getElem? (i := 2) rfl) hm_X4_add_zIS dX4_add_78 dX4_add_81 dX4_add_82 dX4_add_84 dX4_add_87 (by decide) (Or.inr (Or.inr ⟨rfl, ⟨hok_3, by unfold zadok; omega, hk9⟩⟩)) (hP.sub [4, 5, 6, 0, 1, 2, 3] rfl) (hD.sub [4, 5, 6, 0, 1, 2, 3] (by decide) rfl) hS hl.1 (Nat.le_of_ble_eq_true rfl) (Nat.le_of_ble_eq_true rfl)
    · exact hthr _ _ _ _ _ _ _ zIA "a and b are both 0" 56 58 60 () (Or.inr (Or.inl ⟨rfl, rfl, rfl⟩)) (List.mem_of_getElem? (i := 1) rfl) hm_X4_add_zIA dX4_add_49 dX4_add_52 dX4_add_53 dX4_add_55 dX4_add_58 (by decide) (Or.inr (Or.inl ⟨rfl, ⟨hok_3, by unfold zadok; omega⟩⟩)) (hP.sub [5, 6, 0, 1, 2, 3, 4] rfl) (hD.sub [5, 6, 0, 1, 2, 3, 4] (by decide) rfl) hS hl.1 (Nat.le_of_ble_eq_true rfl) (Nat.le_of_ble_eq_true rfl)

set_option maxHeartbeats 4000000 in
set_option maxRecDepth 100000 in
theorem c_X3_appendCutI (l : Launch) (G : zG) (sz : Nat) (on : Int) (ot : Int) (h0 : Nat) (qa : Nat) (qb : Nat) (qc : Nat) (qe : Nat) (fa : Nat → Int) (fb : Nat → Int) (fc : Nat → Int) (fe : Nat → Int) (k : Nat) (o : Nat) (t : Nat) (sm : Int) (mr : Int) (dv : Int) (hon : on = (o : Int)) (hot : ot = (t : Int)) (hk : k < 10) (ho : o < k) (ht : t < k) (hsm : 0 ≤ sm ∧ sm ≤ 9) (hmr : 0 ≤ mr ∧ mr ≤ 9) (hdv : 1 ≤ dv ∧ dv ≤ 20) (ha : ∀ j, j < k → -60 ≤ fa j ∧ fa j ≤ 60) (hb : ∀ j, j < k → -60 ≤ fb j ∧ fb j ≤ 60) (hc : ∀ j, j < k → -999 ≤ fc j ∧ fc j ≤ 999) (he : ∀ j, j < k → -9 ≤ fe j ∧ fe j ≤ 9) : Met l yX3_appendCut wsX3_appendCut ({ frames := 1, cells := 0, slots := 0, locals := 24 }) (va_Pc [.ref h0, .int (zI on), .int (zI sm), .int (zI ot), .int (zI mr), .int (zI dv)] (zPre G sz [(h0, .inr (3, [.ref qa, .ref qb, .ref qc, .ref qe, .int (zI (k : Int))])), zci G qa 10 fa, zci G qb 10 fb, zci G qc 10 fc, zci G qe 10 fe])) (va_Qi (fun (r : Int32) (u : (Int) × (Nat → Int) × (Nat → Int) × (Nat → Int) × (Nat → Int) × (Int)) => r = zI u.1 ∧ (zcut fa fb fc fe k o t sm mr dv → u.1 = (k : Int) ∧ u.2.1 = zU fa k ((sm * fa o + mr * fa t).tdiv dv) ∧ u.2.2.1 = zU fb k ((sm * fb o + mr * fb t).tdiv dv) ∧ u.2.2.2.1 = zU fc k ((sm * fc o + mr * fc t) / dv) ∧ u.2.2.2.2.1 = zU fe k 0 ∧ u.2.2.2.2.2 = (k : Int) + 1) ∧ (¬ zcut fa fb fc fe k o t sm mr dv → u.1 = -1 ∧ u.2.1 = fa ∧ u.2.2.1 = fb ∧ u.2.2.2.1 = fc ∧ u.2.2.2.2.1 = fe ∧ u.2.2.2.2.2 = (k : Int))) (fun u => zW G (va_A [(h0, .inr (3, [.ref qa, .ref qb, .ref qc, .ref qe, .int (zI (k : Int))])), zci G qa 10 fa, zci G qb 10 fb, zci G qc 10 fc, zci G qe 10 fe] sz) ((fun (u : (Int) × (Nat → Int) × (Nat → Int) × (Nat → Int) × (Nat → Int) × (Int)) => [(h0, .inr (3, [.ref qa, .ref qb, .ref qc, .ref qe, .int (zI u.2.2.2.2.2)])), zci G qa 10 u.2.1, zci G qb 10 u.2.2.1, zci G qc 10 u.2.2.2.1, zci G qe 10 u.2.2.2.2.1]) u)) (va_A [(h0, .inr (3, [.ref qa, .ref qb, .ref qc, .ref qe, .int (zI (k : Int))])), zci G qa 10 fa, zci G qb 10 fb, zci G qc 10 fc, zci G qe 10 fe] sz)) 0 0 (va_A [(h0, .inr (3, [.ref qa, .ref qb, .ref qc, .ref qe, .int (zI (k : Int))])), zci G qa 10 fa, zci G qb 10 fb, zci G qc 10 fc, zci G qe 10 fe] sz) := by
  subst hon
  subst hot
  exact c_X3_appendCut l G sz h0 qa qb qc qe fa fb fc fe k o t sm mr dv hk ho ht hsm hmr hdv ha hb hc he

set_option maxHeartbeats 4000000 in
set_option maxRecDepth 100000 in
theorem c_X3_appendCut_fullI (l : Launch) (G : zG) (sz : Nat) (on : Int) (ot : Int) (h0 : Nat) (qa : Nat) (qb : Nat) (qc : Nat) (qe : Nat) (fa : Nat → Int) (fb : Nat → Int) (fc : Nat → Int) (fe : Nat → Int) (k : Nat) (o : Nat) (t : Nat) (sm : Int) (mr : Int) (dv : Int) (hon : on = (o : Int)) (hot : ot = (t : Int)) (hk : k = 10) (ho : o < k) (ht : t < k) (hsm : 0 ≤ sm ∧ sm ≤ 9) (hmr : 0 ≤ mr ∧ mr ≤ 9) (hdv : 1 ≤ dv ∧ dv ≤ 20) (ha : ∀ j, j < k → -60 ≤ fa j ∧ fa j ≤ 60) (hb : ∀ j, j < k → -60 ≤ fb j ∧ fb j ≤ 60) (hc : ∀ j, j < k → -999 ≤ fc j ∧ fc j ≤ 999) (he : ∀ j, j < k → -9 ≤ fe j ∧ fe j ≤ 9) : Met l yX3_appendCut wsX3_appendCut ({ frames := 1, cells := 0, slots := 0, locals := 24 }) (va_Pc [.ref h0, .int (zI on), .int (zI sm), .int (zI ot), .int (zI mr), .int (zI dv)] (zPre G sz [(h0, .inr (3, [.ref qa, .ref qb, .ref qc, .ref qe, .int (zI (k : Int))])), zci G qa 10 fa, zci G qb 10 fb, zci G qc 10 fc, zci G qe 10 fe])) (va_Qi (fun (r : Int32) (u : Unit) => r = zI (-1)) (fun u => zW G (va_A [(h0, .inr (3, [.ref qa, .ref qb, .ref qc, .ref qe, .int (zI (k : Int))])), zci G qa 10 fa, zci G qb 10 fb, zci G qc 10 fc, zci G qe 10 fe] sz) ((fun (u : Unit) => [(h0, .inr (3, [.ref qa, .ref qb, .ref qc, .ref qe, .int (zI (k : Int))])), zci G qa 10 fa, zci G qb 10 fb, zci G qc 10 fc, zci G qe 10 fe]) u)) (va_A [(h0, .inr (3, [.ref qa, .ref qb, .ref qc, .ref qe, .int (zI (k : Int))])), zci G qa 10 fa, zci G qb 10 fb, zci G qc 10 fc, zci G qe 10 fe] sz)) 0 0 (va_A [(h0, .inr (3, [.ref qa, .ref qb, .ref qc, .ref qe, .int (zI (k : Int))])), zci G qa 10 fa, zci G qb 10 fb, zci G qc 10 fc, zci G qe 10 fe] sz) := by
  subst hon
  subst hot
  exact c_X3_appendCut_full l G sz h0 qa qb qc qe fa fb fc fe k o t sm mr dv hk ho ht hsm hmr hdv ha hb hc he

theorem hm_X4_cut_zIS : ∀ w ∈ Cond.classLink RX4 41 zIS :: Cond.initialized zIS :: (vx_atS RX4 45 zIS zNN).filter goodWord, w ∈ wsX4_cut := List.forall_mem_cons.mpr ⟨by decide +kernel, List.forall_mem_cons.mpr ⟨by decide +kernel, fun w h => List.mem_cons_of_mem _ (List.mem_append_left _ (List.mem_append_left _ (List.mem_append_right _ h)))⟩⟩
set_option maxHeartbeats 4000000 in
set_option maxRecDepth 100000 in
/-- PointMill.cut -/
theorem c_X4_cut (l : Launch) (hl0 : l.stackTraces = false) (G : zG) (sz : Nat) (h0 : Nat) (qs : Nat) (sc : Int) (hr : Nat) (hc : Nat) (hk : Nat) (SF : Nat → Option Nat) (h1 : Nat) (qa : Nat) (qb : Nat) (qc : Nat) (qe : Nat) (fa : Nat → Int) (fb : Nat → Int) (fc : Nat → Int) (fe : Nat → Int) (k : Nat) (v : Int) (on : Int) (sm : Int) (ot : Int) (mr : Int) (dv : Int) (hsc : 0 ≤ sc ∧ sc ≤ 8) (hsf : 0 ≤ v → v < sc → SF v.toNat = some h1) (hk4 : k ≤ 10) (ha : ∀ j, j < k → -60 ≤ fa j ∧ fa j ≤ 60) (hb : ∀ j, j < k → -60 ≤ fb j ∧ fb j ≤ 60) (hc4 : ∀ j, j < k → -999 ≤ fc j ∧ fc j ≤ 999) (he : ∀ j, j < k → -9 ≤ fe j ∧ fe j ≤ 9) (hv : -2147483648 ≤ v ∧ v < 2147483648) (g1 : -2147483648 ≤ on ∧ on < 2147483648) (g2 : -2147483648 ≤ sm ∧ sm < 2147483648) (g3 : -2147483648 ≤ ot ∧ ot < 2147483648) (g4 : -2147483648 ≤ mr ∧ mr < 2147483648) (g5 : -2147483648 ≤ dv ∧ dv < 2147483648) : vx_Met l yX4_cut wsX4_cut ({ frames := 7, cells := 7, slots := 42, locals := 112 }) (va_Pc [.ref h0, .int (zI v), .int (zI on), .int (zI sm), .int (zI ot), .int (zI mr), .int (zI dv)] (zPx G sz [(h0, .inr (4, [.ref qs, .int (zI sc), .ref hr, .ref hc, .ref hk])), zcq G qs 8 SF, (h1, .inr (3, [.ref qa, .ref qb, .ref qc, .ref qe, .int (zI (k : Int))])), zci G qa 10 fa, zci G qb 10 fb, zci G qc 10 fc, zci G qe 10 fe])) (va_Qi (fun (r : Int32) (u : Unit) => r = zI (k : Int) ∧ ((0 ≤ v ∧ v < sc) ∧ ((0 ≤ on ∧ on < (k : Int)) ∧ (0 ≤ ot ∧ ot < (k : Int))) ∧ zcok sm mr dv ∧ zcut fa fb fc fe k on.toNat ot.toNat sm mr dv)) (fun u => zW G (va_A [(h0, .inr (4, [.ref qs, .int (zI sc), .ref hr, .ref hc, .ref hk])), zcq G qs 8 SF, (h1, .inr (3, [.ref qa, .ref qb, .ref qc, .ref qe, .int (zI (k : Int))])), zci G qa 10 fa, zci G qb 10 fb, zci G qc 10 fc, zci G qe 10 fe] sz) ((fun (u : Unit) => [(h0, .inr (4, [.ref qs, .int (zI sc), .ref hr, .ref hc, .ref hk])), zcq G qs 8 SF, (h1, .inr (3, [.ref qa, .ref qb, .ref qc, .ref qe, .int (zI ((k : Int) + 1))])), zci G qa 10 (zU fa k ((zcs fa on.toNat ot.toNat sm mr).tdiv dv)), zci G qb 10 (zU fb k ((zcs fb on.toNat ot.toNat sm mr).tdiv dv)), zci G qc 10 (zU fc k ((zcs fc on.toNat ot.toNat sm mr) / dv)), zci G qe 10 (zU fe k 0)]) u)) (va_A [(h0, .inr (4, [.ref qs, .int (zI sc), .ref hr, .ref hc, .ref hk])), zcq G qs 8 SF, (h1, .inr (3, [.ref qa, .ref qb, .ref qc, .ref qe, .int (zI (k : Int))])), zci G qa 10 fa, zci G qb 10 fb, zci G qc 10 fc, zci G qe 10 fe] sz)) (vx_X (fun _ => True) (fun (E : String) (u : Unit) (t : State) => (fun (E : String) (u : Unit) => E = zIO ∧ (¬ ((0 ≤ v ∧ v < sc) ∧ (0 ≤ on ∧ on < (k : Int)) ∧ (0 ≤ ot ∧ ot < (k : Int)))) ∨ E = zIA ∧ ((0 ≤ v ∧ v < sc) ∧ ((0 ≤ on ∧ on < (k : Int)) ∧ (0 ≤ ot ∧ ot < (k : Int))) ∧ ¬ zcok sm mr dv) ∨ E = zIS ∧ ((0 ≤ v ∧ v < sc) ∧ ((0 ≤ on ∧ on < (k : Int)) ∧ (0 ≤ ot ∧ ot < (k : Int))) ∧ zcok sm mr dv ∧ ¬ zcut fa fb fc fe k on.toNat ot.toNat sm mr dv)) E u ∧ zW G (va_A [(h0, .inr (4, [.ref qs, .int (zI sc), .ref hr, .ref hc, .ref hk])), zcq G qs 8 SF, (h1, .inr (3, [.ref qa, .ref qb, .ref qc, .ref qe, .int (zI (k : Int))])), zci G qa 10 fa, zci G qb 10 fb, zci G qc 10 fc, zci G qe 10 fe] sz) ((fun (u : Unit) => [(h0, .inr (4, [.ref qs, .int (zI sc), .ref hr, .ref hc, .ref hk])), zcq G qs 8 SF, (h1, .inr (3, [.ref qa, .ref qb, .ref qc, .ref qe, .int (zI (k : Int))])), zci G qa 10 fa, zci G qb 10 fb, zci G qc 10 fc, zci G qe 10 fe]) u) t) (va_A [(h0, .inr (4, [.ref qs, .int (zI sc), .ref hr, .ref hc, .ref hk])), zcq G qs 8 SF, (h1, .inr (3, [.ref qa, .ref qb, .ref qc, .ref qe, .int (zI (k : Int))])), zci G qa 10 fa, zci G qb 10 fb, zci G qc 10 fc, zci G qe 10 fe] sz)) 7 42 (va_A [(h0, .inr (4, [.ref qs, .int (zI sc), .ref hr, .ref hc, .ref hk])), zcq G qs 8 SF, (h1, .inr (3, [.ref qa, .ref qb, .ref qc, .ref qe, .int (zI (k : Int))])), zci G qa 10 fa, zci G qb 10 fb, zci G qc 10 fc, zci G qe 10 fe] sz) := by
  refine zMx_i hl0 (post := fun (r : Int32) (u : Unit) => r = zI (k : Int) ∧ ((0 ≤ v ∧ v < sc) ∧ ((0 ≤ on ∧ on < (k : Int)) ∧ (0 ≤ ot ∧ ot < (k : Int))) ∧ zcok sm mr dv ∧ zcut fa fb fc fe k on.toNat ot.toNat sm mr dv)) (w1 := fun (u : Unit) => [(h0, .inr (4, [.ref qs, .int (zI sc), .ref hr, .ref hc, .ref hk])), zcq G qs 8 SF, (h1, .inr (3, [.ref qa, .ref qb, .ref qc, .ref qe, .int (zI ((k : Int) + 1))])), zci G qa 10 (zU fa k ((zcs fa on.toNat ot.toNat sm mr).tdiv dv)), zci G qb 10 (zU fb k ((zcs fb on.toNat ot.toNat sm mr).tdiv dv)), zci G qc 10 (zU fc k ((zcs fc on.toNat ot.toNat sm mr) / dv)), zci G qe 10 (zU fe k 0)]) (cx := fun (E : String) (u : Unit) => E = zIO ∧ (¬ ((0 ≤ v ∧ v < sc) ∧ (0 ≤ on ∧ on < (k : Int)) ∧ (0 ≤ ot ∧ ot < (k : Int)))) ∨ E = zIA ∧ ((0 ≤ v ∧ v < sc) ∧ ((0 ≤ on ∧ on < (k : Int)) ∧ (0 ≤ ot ∧ ot < (k : Int))) ∧ ¬ zcok sm mr dv) ∨ E = zIS ∧ ((0 ≤ v ∧ v < sc) ∧ ((0 ≤ on ∧ on < (k : Int)) ∧ (0 ≤ ot ∧ ot < (k : Int))) ∧ zcok sm mr dv ∧ ¬ zcut fa fb fc fe k on.toNat ot.toNat sm mr dv)) (w1x := fun (u : Unit) => [(h0, .inr (4, [.ref qs, .int (zI sc), .ref hr, .ref hc, .ref hk])), zcq G qs 8 SF, (h1, .inr (3, [.ref qa, .ref qb, .ref qc, .ref qe, .int (zI (k : Int))])), zci G qa 10 fa, zci G qb 10 fb, zci G qc 10 fc, zci G qe 10 fe]) (by decide) rfl rfl (Nat.le_of_ble_eq_true rfl) ⟨Nat.le_of_ble_eq_true rfl, Nat.le_of_ble_eq_true rfl, rfl, rfl⟩ ?_
  intro p e s m below meth c A Q S hN hK hP hD hS hA hE0 hret hpass hthr ls hl
  have hl : lv_has ls 9 [(0, .ref h0), (1, .int (zI v)), (2, .int (zI on)), (3, .int (zI sm)), (4, .int (zI ot)), (5, .int (zI mr)), (6, .int (zI dv))] := hl
  refine zv_aload_n S dX4_cut_0 rfl (lv_at hl 0 rfl) ?_
  refine zv_iload_n S dX4_cut_1 rfl (lv_at hl 1 rfl) ?_
  refine zcx_Vr (As := [.int (zI v)]) (rest := []) (wr := [(h1, .inr (3, [.ref qa, .ref qb, .ref qc, .ref qe, .int (zI (k : Int))])), zci G qa 10 fa, zci G qb 10 fb, zci G qc 10 fc, zci G qe 10 fe]) (n := 1) S hN hK (hE0.kept hS.2.1) hP hD hS hA hl (c_X4_shapeOf l hl0 G s.heap.size h0 qs sc hr hc hk SF v h1 hsc hsf (by omega)) gX4_cut_X4_shapeOf rfl ⟨rfl, rfl⟩ (by decide +kernel) rfl ⟨Nat.le_of_ble_eq_true rfl, Nat.le_of_ble_eq_true rfl, Nat.le_of_ble_eq_true rfl, Nat.le_of_ble_eq_true rfl⟩ [0, 1] [2, 3, 4, 5, 6] rfl rfl (by decide) (by decide) (by decide) (ci := 4) rfl rfl rfl (Nat.le_of_ble_eq_true rfl) dX4_cut_2 rfl (fun E_ ce_ q_ ux_ H1 locs1 hc1 hP1 hD1 hS1 hz1 hce1 hcv1 hcl1 => ?_) (fun u_1 H1 locs1 hp_2 hP1 hD1 hS1 hz1 => ?_)
  · try dsimp only at hc1 hP1 hD1
    have hP1 : va_P G.1 vwCl [(h1, .inr (3, [.ref qa, .ref qb, .ref qc, .ref qe, .int (zI (k : Int))])), zci G qa 10 fa, zci G qb 10 fb, zci G qc 10 fc, zci G qe 10 fe, (h0, .inr (4, [.ref qs, .int (zI sc), .ref hr, .ref hc, .ref hk])), zcq G qs 8 SF] H1 := hP1
    have hD1 : va_D A [(h1, .inr (3, [.ref qa, .ref qb, .ref qc, .ref qe, .int (zI (k : Int))])), zci G qa 10 fa, zci G qb 10 fb, zci G qc 10 fc, zci G qe 10 fe, (h0, .inr (4, [.ref qs, .int (zI sc), .ref hr, .ref hc, .ref hk])), zcq G qs 8 SF] := hD1
    obtain ⟨rfl, hx_0⟩ := hc1
    exact hpass _ _ _ _ _ _ _ _ ce_ q_ () (Or.inl ⟨rfl, (by omega)⟩) (hP1.sub [5, 6, 0, 1, 2, 3, 4] rfl) (hD1.sub [5, 6, 0, 1, 2, 3, 4] (by decide) rfl) hS1 hce1 hcv1 hcl1 (Nat.le_of_ble_eq_true rfl) (Nat.le_of_ble_eq_true rfl)
  try dsimp only at hp_2 hP1 hD1
  have hok_3 := hp_2
  generalize H1 = H at hP1 hD1 hS1 hz1 ⊢
  generalize locs1 = locs at hS1 ⊢
  have hS := hS1
  have hP : va_P G.1 vwCl [(h1, .inr (3, [.ref qa, .ref qb, .ref qc, .ref qe, .int (zI (k : Int))])), zci G qa 10 fa, zci G qb 10 fb, zci G qc 10 fc, zci G qe 10 fe, (h0, .inr (4, [.ref qs, .int (zI sc), .ref hr, .ref hc, .ref hk])), zcq G qs 8 SF] H := hP1
  have hD : va_D A [(h1, .inr (3, [.ref qa, .ref qb, .ref qc, .ref qe, .int (zI (k : Int))])), zci G qa 10 fa, zci G qb 10 fb, zci G qc 10 fc, zci G qe 10 fe, (h0, .inr (4, [.ref qs, .int (zI sc), .ref hr, .ref hc, .ref hk])), zcq G qs 8 SF] := hD1
  refine zv_astore (lv' := [(7, .ref h1), (0, .ref h0), (1, .int (zI v)), (2, .int (zI on)), (3, .int (zI sm)), (4, .int (zI ot)), (5, .int (zI mr)), (6, .int (zI dv))]) S dX4_cut_5 hl (by decide) rfl (fun ls hl => ?_)
  refine zv_aload S dX4_cut_7 (lv_at hl 0 rfl) ?_
  refine zv_iload_n S dX4_cut_9 rfl (lv_at hl 3 rfl) ?_
  refine zcx_Sv (As := [.ref h1, .int (zI on)]) (rest := []) (wr := [zci G qa 10 fa, zci G qb 10 fb, zci G qc 10 fc, zci G qe 10 fe, (h0, .inr (4, [.ref qs, .int (zI sc), .ref hr, .ref hc, .ref hk])), zcq G qs 8 SF]) (n := 2) S hN hK (hE0.kept hS.2.1) hP hD hS hA hl (c_X4_requireInequality l hl0 G H.size h1 qa qb qc qe k on hk4 (by omega)) gX4_cut_X4_requireInequality rfl ⟨rfl, rfl⟩ (by decide +kernel) rfl ⟨Nat.le_of_ble_eq_true rfl, Nat.le_of_ble_eq_true rfl, Nat.le_of_ble_eq_true rfl, Nat.le_of_ble_eq_true rfl⟩ [0] [1, 2, 3, 4, 5, 6] rfl rfl (by decide) (by decide) (by decide) (Nat.le_of_ble_eq_true rfl) dX4_cut_10 rfl (fun E_ ce_ q_ ux_ H1 locs1 hc1 hP1 hD1 hS1 hz1 hce1 hcv1 hcl1 => ?_) (fun u_4 H1 locs1 hp_5 hP1 hD1 hS1 hz1 => ?_)
  · try dsimp only at hc1 hP1 hD1
    have hP1 : va_P G.1 vwCl [zci G qa 10 fa, zci G qb 10 fb, zci G qc 10 fc, zci G qe 10 fe, (h0, .inr (4, [.ref qs, .int (zI sc), .ref hr, .ref hc, .ref hk])), zcq G qs 8 SF, (h1, .inr (3, [.ref qa, .ref qb, .ref qc, .ref qe, .int (zI (k : Int))]))] H1 := hP1
    have hD1 : va_D A [zci G qa 10 fa, zci G qb 10 fb, zci G qc 10 fc, zci G qe 10 fe, (h0, .inr (4, [.ref qs, .int (zI sc), .ref hr, .ref hc, .ref hk])), zcq G qs 8 SF, (h1, .inr (3, [.ref qa, .ref qb, .ref qc, .ref qe, .int (zI (k : Int))]))] := hD1
    obtain ⟨rfl, hx_0⟩ := hc1
    exact hpass _ _ _ _ _ _ _ _ ce_ q_ () (Or.inl ⟨rfl, (by omega)⟩) (hP1.sub [4, 5, 6, 0, 1, 2, 3] rfl) (hD1.sub [4, 5, 6, 0, 1, 2, 3] (by decide) rfl) hS1 hce1 hcv1 hcl1 (Nat.le_of_ble_eq_true rfl) (Nat.le_of_ble_eq_true rfl)
  try dsimp only at hp_5 hP1 hD1
  have hri_6 := hp_5
  generalize H1 = H at hP1 hD1 hS1 hz1 ⊢
  generalize locs1 = locs at hS1 ⊢
  have hS := hS1
  have hP : va_P G.1 vwCl [zci G qa 10 fa, zci G qb 10 fb, zci G qc 10 fc, zci G qe 10 fe, (h0, .inr (4, [.ref qs, .int (zI sc), .ref hr, .ref hc, .ref hk])), zcq G qs 8 SF, (h1, .inr (3, [.ref qa, .ref qb, .ref qc, .ref qe, .int (zI (k : Int))]))] H := hP1
  have hD : va_D A [zci G qa 10 fa, zci G qb 10 fb, zci G qc 10 fc, zci G qe 10 fe, (h0, .inr (4, [.ref qs, .int (zI sc), .ref hr, .ref hc, .ref hk])), zcq G qs 8 SF, (h1, .inr (3, [.ref qa, .ref qb, .ref qc, .ref qe, .int (zI (k : Int))]))] := hD1
  refine zv_aload S dX4_cut_13 (lv_at hl 0 rfl) ?_
  refine zv_iload S dX4_cut_15 (lv_at hl 5 rfl) ?_
  refine zcx_Sv (As := [.ref h1, .int (zI ot)]) (rest := []) (wr := [zci G qa 10 fa, zci G qb 10 fb, zci G qc 10 fc, zci G qe 10 fe, (h0, .inr (4, [.ref qs, .int (zI sc), .ref hr, .ref hc, .ref hk])), zcq G qs 8 SF]) (n := 2) S hN hK (hE0.kept hS.2.1) hP hD hS hA hl (c_X4_requireInequality l hl0 G H.size h1 qa qb qc qe k ot hk4 (by omega)) gX4_cut_X4_requireInequality rfl ⟨rfl, rfl⟩ (by decide +kernel) rfl ⟨Nat.le_of_ble_eq_true rfl, Nat.le_of_ble_eq_true rfl, Nat.le_of_ble_eq_true rfl, Nat.le_of_ble_eq_true rfl⟩ [6] [0, 1, 2, 3, 4, 5] rfl rfl (by decide) (by decide) (by decide) (Nat.le_of_ble_eq_true rfl) dX4_cut_17 rfl (fun E_ ce_ q_ ux_ H1 locs1 hc1 hP1 hD1 hS1 hz1 hce1 hcv1 hcl1 => ?_) (fun u_7 H1 locs1 hp_8 hP1 hD1 hS1 hz1 => ?_)
  · try dsimp only at hc1 hP1 hD1
    have hP1 : va_P G.1 vwCl [zci G qa 10 fa, zci G qb 10 fb, zci G qc 10 fc, zci G qe 10 fe, (h0, .inr (4, [.ref qs, .int (zI sc), .ref hr, .ref hc, .ref hk])), zcq G qs 8 SF, (h1, .inr (3, [.ref qa, .ref qb, .ref qc, .ref qe, .int (zI (k : Int))]))] H1 := hP1
    have hD1 : va_D A [zci G qa 10 fa, zci G qb 10 fb, zci G qc 10 fc, zci G qe 10 fe, (h0, .inr (4, [.ref qs, .int (zI sc), .ref hr, .ref hc, .ref hk])), zcq G qs 8 SF, (h1, .inr (3, [.ref qa, .ref qb, .ref qc, .ref qe, .int (zI (k : Int))]))] := hD1
    obtain ⟨rfl, hx_0⟩ := hc1
    exact hpass _ _ _ _ _ _ _ _ ce_ q_ () (Or.inl ⟨rfl, (by omega)⟩) (hP1.sub [4, 5, 6, 0, 1, 2, 3] rfl) (hD1.sub [4, 5, 6, 0, 1, 2, 3] (by decide) rfl) hS1 hce1 hcv1 hcl1 (Nat.le_of_ble_eq_true rfl) (Nat.le_of_ble_eq_true rfl)
  try dsimp only at hp_8 hP1 hD1
  have hri_9 := hp_8
  generalize H1 = H at hP1 hD1 hS1 hz1 ⊢
  generalize locs1 = locs at hS1 ⊢
  have hS := hS1
  have hP : va_P G.1 vwCl [zci G qa 10 fa, zci G qb 10 fb, zci G qc 10 fc, zci G qe 10 fe, (h0, .inr (4, [.ref qs, .int (zI sc), .ref hr, .ref hc, .ref hk])), zcq G qs 8 SF, (h1, .inr (3, [.ref qa, .ref qb, .ref qc, .ref qe, .int (zI (k : Int))]))] H := hP1
  have hD : va_D A [zci G qa 10 fa, zci G qb 10 fb, zci G qc 10 fc, zci G qe 10 fe, (h0, .inr (4, [.ref qs, .int (zI sc), .ref hr, .ref hc, .ref hk])), zcq G qs 8 SF, (h1, .inr (3, [.ref qa, .ref qb, .ref qc, .ref qe, .int (zI (k : Int))]))] := hD1
  refine zv_iload_n S dX4_cut_20 rfl (lv_at hl 4 rfl) ?_
  refine zv_iconst S dX4_cut_21 ?_
  refine zv_bipush (v := 9) S dX4_cut_22 (by decide) ?_
  refine zcx_Sv (As := [.int (zI sm), .int (zI 0), .int (zI 9)]) (rest := []) (wr := [zci G qa 10 fa, zci G qb 10 fb, zci G qc 10 fc, zci G qe 10 fe, (h0, .inr (4, [.ref qs, .int (zI sc), .ref hr, .ref hc, .ref hk])), zcq G qs 8 SF, (h1, .inr (3, [.ref qa, .ref qb, .ref qc, .ref qe, .int (zI (k : Int))]))]) (n := 3) S hN hK (hE0.kept hS.2.1) hP hD hS hA hl (c_X4_requireRange l hl0 G H.size sm 0 9 (by omega) (by omega) (by omega)) gX4_cut_X4_requireRange rfl ⟨rfl, rfl⟩ (by decide +kernel) rfl ⟨Nat.le_of_ble_eq_true rfl, Nat.le_of_ble_eq_true rfl, Nat.le_of_ble_eq_true rfl, Nat.le_of_ble_eq_true rfl⟩ [] [0, 1, 2, 3, 4, 5, 6] rfl rfl (by decide) (by decide) (by decide) (Nat.le_of_ble_eq_true rfl) dX4_cut_24 rfl (fun E_ ce_ q_ ux_ H1 locs1 hc1 hP1 hD1 hS1 hz1 hce1 hcv1 hcl1 => ?_) (fun u_10 H1 locs1 hp_11 hP1 hD1 hS1 hz1 => ?_)
  · try dsimp only at hc1 hP1 hD1
    have hP1 : va_P G.1 vwCl [zci G qa 10 fa, zci G qb 10 fb, zci G qc 10 fc, zci G qe 10 fe, (h0, .inr (4, [.ref qs, .int (zI sc), .ref hr, .ref hc, .ref hk])), zcq G qs 8 SF, (h1, .inr (3, [.ref qa, .ref qb, .ref qc, .ref qe, .int (zI (k : Int))]))] H1 := hP1
    have hD1 : va_D A [zci G qa 10 fa, zci G qb 10 fb, zci G qc 10 fc, zci G qe 10 fe, (h0, .inr (4, [.ref qs, .int (zI sc), .ref hr, .ref hc, .ref hk])), zcq G qs 8 SF, (h1, .inr (3, [.ref qa, .ref qb, .ref qc, .ref qe, .int (zI (k : Int))]))] := hD1
    obtain ⟨rfl, hx_0⟩ := hc1
    exact hpass _ _ _ _ _ _ _ _ ce_ q_ () (Or.inr (Or.inl ⟨rfl, ⟨hok_3, by omega, by unfold zcok; omega⟩⟩)) (hP1.sub [4, 5, 6, 0, 1, 2, 3] rfl) (hD1.sub [4, 5, 6, 0, 1, 2, 3] (by decide) rfl) hS1 hce1 hcv1 hcl1 (Nat.le_of_ble_eq_true rfl) (Nat.le_of_ble_eq_true rfl)
  try dsimp only at hp_11 hP1 hD1
  have hrr_12 := hp_11
  generalize H1 = H at hP1 hD1 hS1 hz1 ⊢
  generalize locs1 = locs at hS1 ⊢
  have hS := hS1
  have hP : va_P G.1 vwCl [zci G qa 10 fa, zci G qb 10 fb, zci G qc 10 fc, zci G qe 10 fe, (h0, .inr (4, [.ref qs, .int (zI sc), .ref hr, .ref hc, .ref hk])), zcq G qs 8 SF, (h1, .inr (3, [.ref qa, .ref qb, .ref qc, .ref qe, .int (zI (k : Int))]))] H := hP1
  have hD : va_D A [zci G qa 10 fa, zci G qb 10 fb, zci G qc 10 fc, zci G qe 10 fe, (h0, .inr (4, [.ref qs, .int (zI sc), .ref hr, .ref hc, .ref hk])), zcq G qs 8 SF, (h1, .inr (3, [.ref qa, .ref qb, .ref qc, .ref qe, .int (zI (k : Int))]))] := hD1
  refine zv_iload S dX4_cut_27 (lv_at hl 6 rfl) ?_
  refine zv_iconst S dX4_cut_29 ?_
  refine zv_bipush (v := 9) S dX4_cut_30 (by decide) ?_
  refine zcx_Sv (As := [.int (zI mr), .int (zI 0), .int (zI 9)]) (rest := []) (wr := [zci G qa 10 fa, zci G qb 10 fb, zci G qc 10 fc, zci G qe 10 fe, (h0, .inr (4, [.ref qs, .int (zI sc), .ref hr, .ref hc, .ref hk])), zcq G qs 8 SF, (h1, .inr (3, [.ref qa, .ref qb, .ref qc, .ref qe, .int (zI (k : Int))]))]) (n := 3) S hN hK (hE0.kept hS.2.1) hP hD hS hA hl (c_X4_requireRange l hl0 G H.size mr 0 9 (by omega) (by omega) (by omega)) gX4_cut_X4_requireRange rfl ⟨rfl, rfl⟩ (by decide +kernel) rfl ⟨Nat.le_of_ble_eq_true rfl, Nat.le_of_ble_eq_true rfl, Nat.le_of_ble_eq_true rfl, Nat.le_of_ble_eq_true rfl⟩ [] [0, 1, 2, 3, 4, 5, 6] rfl rfl (by decide) (by decide) (by decide) (Nat.le_of_ble_eq_true rfl) dX4_cut_32 rfl (fun E_ ce_ q_ ux_ H1 locs1 hc1 hP1 hD1 hS1 hz1 hce1 hcv1 hcl1 => ?_) (fun u_13 H1 locs1 hp_14 hP1 hD1 hS1 hz1 => ?_)
  · try dsimp only at hc1 hP1 hD1
    have hP1 : va_P G.1 vwCl [zci G qa 10 fa, zci G qb 10 fb, zci G qc 10 fc, zci G qe 10 fe, (h0, .inr (4, [.ref qs, .int (zI sc), .ref hr, .ref hc, .ref hk])), zcq G qs 8 SF, (h1, .inr (3, [.ref qa, .ref qb, .ref qc, .ref qe, .int (zI (k : Int))]))] H1 := hP1
    have hD1 : va_D A [zci G qa 10 fa, zci G qb 10 fb, zci G qc 10 fc, zci G qe 10 fe, (h0, .inr (4, [.ref qs, .int (zI sc), .ref hr, .ref hc, .ref hk])), zcq G qs 8 SF, (h1, .inr (3, [.ref qa, .ref qb, .ref qc, .ref qe, .int (zI (k : Int))]))] := hD1
    obtain ⟨rfl, hx_0⟩ := hc1
    exact hpass _ _ _ _ _ _ _ _ ce_ q_ () (Or.inr (Or.inl ⟨rfl, ⟨hok_3, by omega, by unfold zcok; omega⟩⟩)) (hP1.sub [4, 5, 6, 0, 1, 2, 3] rfl) (hD1.sub [4, 5, 6, 0, 1, 2, 3] (by decide) rfl) hS1 hce1 hcv1 hcl1 (Nat.le_of_ble_eq_true rfl) (Nat.le_of_ble_eq_true rfl)
  try dsimp only at hp_14 hP1 hD1
  have hrr_15 := hp_14
  generalize H1 = H at hP1 hD1 hS1 hz1 ⊢
  generalize locs1 = locs at hS1 ⊢
  have hS := hS1
  have hP : va_P G.1 vwCl [zci G qa 10 fa, zci G qb 10 fb, zci G qc 10 fc, zci G qe 10 fe, (h0, .inr (4, [.ref qs, .int (zI sc), .ref hr, .ref hc, .ref hk])), zcq G qs 8 SF, (h1, .inr (3, [.ref qa, .ref qb, .ref qc, .ref qe, .int (zI (k : Int))]))] H := hP1
  have hD : va_D A [zci G qa 10 fa, zci G qb 10 fb, zci G qc 10 fc, zci G qe 10 fe, (h0, .inr (4, [.ref qs, .int (zI sc), .ref hr, .ref hc, .ref hk])), zcq G qs 8 SF, (h1, .inr (3, [.ref qa, .ref qb, .ref qc, .ref qe, .int (zI (k : Int))]))] := hD1
  refine zv_iload S dX4_cut_35 (lv_at hl 7 rfl) ?_
  refine zv_iconst S dX4_cut_37 ?_
  refine zv_bipush (v := 20) S dX4_cut_38 (by decide) ?_
  refine zcx_Sv (As := [.int (zI dv), .int (zI 1), .int (zI 20)]) (rest := []) (wr := [zci G qa 10 fa, zci G qb 10 fb, zci G qc 10 fc, zci G qe 10 fe, (h0, .inr (4, [.ref qs, .int (zI sc), .ref hr, .ref hc, .ref hk])), zcq G qs 8 SF, (h1, .inr (3, [.ref qa, .ref qb, .ref qc, .ref qe, .int (zI (k : Int))]))]) (n := 3) S hN hK (hE0.kept hS.2.1) hP hD hS hA hl (c_X4_requireRange l hl0 G H.size dv 1 20 (by omega) (by omega) (by omega)) gX4_cut_X4_requireRange rfl ⟨rfl, rfl⟩ (by decide +kernel) rfl ⟨Nat.le_of_ble_eq_true rfl, Nat.le_of_ble_eq_true rfl, Nat.le_of_ble_eq_true rfl, Nat.le_of_ble_eq_true rfl⟩ [] [0, 1, 2, 3, 4, 5, 6] rfl rfl (by decide) (by decide) (by decide) (Nat.le_of_ble_eq_true rfl) dX4_cut_40 rfl (fun E_ ce_ q_ ux_ H1 locs1 hc1 hP1 hD1 hS1 hz1 hce1 hcv1 hcl1 => ?_) (fun u_16 H1 locs1 hp_17 hP1 hD1 hS1 hz1 => ?_)
  · try dsimp only at hc1 hP1 hD1
    have hP1 : va_P G.1 vwCl [zci G qa 10 fa, zci G qb 10 fb, zci G qc 10 fc, zci G qe 10 fe, (h0, .inr (4, [.ref qs, .int (zI sc), .ref hr, .ref hc, .ref hk])), zcq G qs 8 SF, (h1, .inr (3, [.ref qa, .ref qb, .ref qc, .ref qe, .int (zI (k : Int))]))] H1 := hP1
    have hD1 : va_D A [zci G qa 10 fa, zci G qb 10 fb, zci G qc 10 fc, zci G qe 10 fe, (h0, .inr (4, [.ref qs, .int (zI sc), .ref hr, .ref hc, .ref hk])), zcq G qs 8 SF, (h1, .inr (3, [.ref qa, .ref qb, .ref qc, .ref qe, .int (zI (k : Int))]))] := hD1
    obtain ⟨rfl, hx_0⟩ := hc1
    exact hpass _ _ _ _ _ _ _ _ ce_ q_ () (Or.inr (Or.inl ⟨rfl, ⟨hok_3, by omega, by unfold zcok; omega⟩⟩)) (hP1.sub [4, 5, 6, 0, 1, 2, 3] rfl) (hD1.sub [4, 5, 6, 0, 1, 2, 3] (by decide) rfl) hS1 hce1 hcv1 hcl1 (Nat.le_of_ble_eq_true rfl) (Nat.le_of_ble_eq_true rfl)
  try dsimp only at hp_17 hP1 hD1
  have hrr_18 := hp_17
  generalize H1 = H at hP1 hD1 hS1 hz1 ⊢
  generalize locs1 = locs at hS1 ⊢
  have hS := hS1
  have hP : va_P G.1 vwCl [zci G qa 10 fa, zci G qb 10 fb, zci G qc 10 fc, zci G qe 10 fe, (h0, .inr (4, [.ref qs, .int (zI sc), .ref hr, .ref hc, .ref hk])), zcq G qs 8 SF, (h1, .inr (3, [.ref qa, .ref qb, .ref qc, .ref qe, .int (zI (k : Int))]))] H := hP1
  have hD : va_D A [zci G qa 10 fa, zci G qb 10 fb, zci G qc 10 fc, zci G qe 10 fe, (h0, .inr (4, [.ref qs, .int (zI sc), .ref hr, .ref hc, .ref hk])), zcq G qs 8 SF, (h1, .inr (3, [.ref qa, .ref qb, .ref qc, .ref qe, .int (zI (k : Int))]))] := hD1
  rcases (show (k < 10 ∧ zcut fa fb fc fe k on.toNat ot.toNat sm mr dv) ∨ (k < 10 ∧ ¬ zcut fa fb fc fe k on.toNat ot.toNat sm mr dv) ∨ k = 10 from (by by_cases q1 : k < 10; exact (Classical.em _).elim (fun z => Or.inl ⟨q1, z⟩) (fun z => Or.inr (Or.inl ⟨q1, z⟩)); exact Or.inr (Or.inr (by omega)))) with ⟨hk9, hcu⟩ | ⟨hk9, hcu⟩ | hk9
  · refine zv_aload S dX4_cut_43 (lv_at hl 0 rfl) ?_
    refine zv_iload_n S dX4_cut_45 rfl (lv_at hl 3 rfl) ?_
    refine zv_iload_n S dX4_cut_46 rfl (lv_at hl 4 rfl) ?_
    refine zv_iload S dX4_cut_47 (lv_at hl 5 rfl) ?_
    refine zv_iload S dX4_cut_49 (lv_at hl 6 rfl) ?_
    refine zv_iload S dX4_cut_51 (lv_at hl 7 rfl) ?_
    refine zc_Vi (As := [.int (zI on), .int (zI sm), .int (zI ot), .int (zI mr), .int (zI dv)]) (rest := []) (wr := [(h0, .inr (4, [.ref qs, .int (zI sc), .ref hr, .ref hc, .ref hk])), zcq G qs 8 SF]) (n := 5) S hN hK hP hD hS hA hl (c_X3_appendCutI l G H.size on ot h1 qa qb qc qe fa fb fc fe k on.toNat ot.toNat sm mr dv (by omega) (by omega) hk9 (by omega) (by omega) (by omega) (by omega) (by omega) ha hb hc4 he) gX4_cut_X3_appendCut rfl ⟨rfl, rfl⟩ (by decide +kernel) rfl ⟨Nat.le_of_ble_eq_true rfl, Nat.le_of_ble_eq_true rfl, Nat.le_of_ble_eq_true rfl, Nat.le_of_ble_eq_true rfl⟩ [6, 0, 1, 2, 3] [4, 5] rfl rfl (by decide) (by decide) (by decide) (ci := 3) rfl rfl rfl (Nat.le_of_ble_eq_true rfl) dX4_cut_53 rfl (fun r_ u_19 H1 locs1 hp_20 hP1 hD1 hS1 hz1 => ?_)
    obtain ⟨rr_21, na_22, nb_23, nc_24, ne_25, nk_26⟩ := u_19
    try dsimp only at hp_20 hP1 hD1
    obtain ⟨rfl, hq1_27, hq2_28⟩ := hp_20
    generalize H1 = H at hP1 hD1 hS1 hz1 ⊢
    generalize locs1 = locs at hS1 ⊢
    have hS := hS1
    have hP : va_P G.1 vwCl [(h0, .inr (4, [.ref qs, .int (zI sc), .ref hr, .ref hc, .ref hk])), zcq G qs 8 SF, (h1, .inr (3, [.ref qa, .ref qb, .ref qc, .ref qe, .int (zI nk_26)])), zci G qa 10 na_22, zci G qb 10 nb_23, zci G qc 10 nc_24, zci G qe 10 ne_25] H := hP1
    have hD : va_D A [(h0, .inr (4, [.ref qs, .int (zI sc), .ref hr, .ref hc, .ref hk])), zcq G qs 8 SF, (h1, .inr (3, [.ref qa, .ref qb, .ref qc, .ref qe, .int (zI nk_26)])), zci G qa 10 na_22, zci G qb 10 nb_23, zci G qc 10 nc_24, zci G qe 10 ne_25] := hD1
    obtain ⟨rfl, rfl, rfl, rfl, rfl, rfl⟩ := hq1_27 hcu
    have hP : va_P G.1 vwCl [(h0, .inr (4, [.ref qs, .int (zI sc), .ref hr, .ref hc, .ref hk])), zcq G qs 8 SF, (h1, .inr (3, [.ref qa, .ref qb, .ref qc, .ref qe, .int (zI ((k : Int) + 1))])), zci G qa 10 (zU fa k ((sm * fa on.toNat + mr * fa ot.toNat).tdiv dv)), zci G qb 10 (zU fb k ((sm * fb on.toNat + mr * fb ot.toNat).tdiv dv)), zci G qc 10 (zU fc k ((sm * fc on.toNat + mr * fc ot.toNat) / dv)), zci G qe 10 (zU fe k 0)] H := hP
    have hD : va_D A [(h0, .inr (4, [.ref qs, .int (zI sc), .ref hr, .ref hc, .ref hk])), zcq G qs 8 SF, (h1, .inr (3, [.ref qa, .ref qb, .ref qc, .ref qe, .int (zI ((k : Int) + 1))])), zci G qa 10 (zU fa k ((sm * fa on.toNat + mr * fa ot.toNat).tdiv dv)), zci G qb 10 (zU fb k ((sm * fb on.toNat + mr * fb ot.toNat).tdiv dv)), zci G qc 10 (zU fc k ((sm * fc on.toNat + mr * fc ot.toNat) / dv)), zci G qe 10 (zU fe k 0)] := hD
    refine zv_istore (lv' := [(8, .int (zI (k : Int))), (7, .ref h1), (0, .ref h0), (1, .int (zI v)), (2, .int (zI on)), (3, .int (zI sm)), (4, .int (zI ot)), (5, .int (zI mr)), (6, .int (zI dv))]) S dX4_cut_56 hl (by decide) rfl (fun ls hl => ?_)
    refine zv_iload S dX4_cut_58 (lv_at hl 0 rfl) ?_
    refine zv_iconst S dX4_cut_60 ?_
    refine zv_icmp_ne (tgt := 74) S (by unfold zR; omega) (by unfold zR; omega) dX4_cut_61 (by decide) (fun c_29 => ?_) (fun c_29 => ?_)
    · refine zv_iload S dX4_cut_74 (lv_at hl 0 rfl) ?_
      refine W.widen (k := 7) (n := 42) (by decide) (by decide) ?_
      exact hret _ _ _ _ _ () dX4_cut_76 ⟨rfl, ⟨hok_3, by omega, by unfold zcok; omega, hcu⟩⟩ (hP.sub [0, 1, 2, 3, 4, 5, 6] rfl) (hD.sub [0, 1, 2, 3, 4, 5, 6] (by decide) rfl) hS
    · exact absurd c_29 (by omega)
  · refine zv_aload S dX4_cut_43 (lv_at hl 0 rfl) ?_
    refine zv_iload_n S dX4_cut_45 rfl (lv_at hl 3 rfl) ?_
    refine zv_iload_n S dX4_cut_46 rfl (lv_at hl 4 rfl) ?_
    refine zv_iload S dX4_cut_47 (lv_at hl 5 rfl) ?_
    refine zv_iload S dX4_cut_49 (lv_at hl 6 rfl) ?_
    refine zv_iload S dX4_cut_51 (lv_at hl 7 rfl) ?_
    refine zc_Vi (As := [.int (zI on), .int (zI sm), .int (zI ot), .int (zI mr), .int (zI dv)]) (rest := []) (wr := [(h0, .inr (4, [.ref qs, .int (zI sc), .ref hr, .ref hc, .ref hk])), zcq G qs 8 SF]) (n := 5) S hN hK hP hD hS hA hl (c_X3_appendCutI l G H.size on ot h1 qa qb qc qe fa fb fc fe k on.toNat ot.toNat sm mr dv (by omega) (by omega) hk9 (by omega) (by omega) (by omega) (by omega) (by omega) ha hb hc4 he) gX4_cut_X3_appendCut rfl ⟨rfl, rfl⟩ (by decide +kernel) rfl ⟨Nat.le_of_ble_eq_true rfl, Nat.le_of_ble_eq_true rfl, Nat.le_of_ble_eq_true rfl, Nat.le_of_ble_eq_true rfl⟩ [6, 0, 1, 2, 3] [4, 5] rfl rfl (by decide) (by decide) (by decide) (ci := 3) rfl rfl rfl (Nat.le_of_ble_eq_true rfl) dX4_cut_53 rfl (fun r_ u_30 H1 locs1 hp_31 hP1 hD1 hS1 hz1 => ?_)
    obtain ⟨rr_32, na_33, nb_34, nc_35, ne_36, nk_37⟩ := u_30
    try dsimp only at hp_31 hP1 hD1
    obtain ⟨rfl, hq1_38, hq2_39⟩ := hp_31
    generalize H1 = H at hP1 hD1 hS1 hz1 ⊢
    generalize locs1 = locs at hS1 ⊢
    have hS := hS1
    have hP : va_P G.1 vwCl [(h0, .inr (4, [.ref qs, .int (zI sc), .ref hr, .ref hc, .ref hk])), zcq G qs 8 SF, (h1, .inr (3, [.ref qa, .ref qb, .ref qc, .ref qe, .int (zI nk_37)])), zci G qa 10 na_33, zci G qb 10 nb_34, zci G qc 10 nc_35, zci G qe 10 ne_36] H := hP1
    have hD : va_D A [(h0, .inr (4, [.ref qs, .int (zI sc), .ref hr, .ref hc, .ref hk])), zcq G qs 8 SF, (h1, .inr (3, [.ref qa, .ref qb, .ref qc, .ref qe, .int (zI nk_37)])), zci G qa 10 na_33, zci G qb 10 nb_34, zci G qc 10 nc_35, zci G qe 10 ne_36] := hD1
    obtain ⟨rfl, ea_, eb_, ec_, ee_, rfl⟩ := hq2_39 hcu
    rw [ea_, eb_, ec_, ee_] at hP hD
    have hP : va_P G.1 vwCl [(h0, .inr (4, [.ref qs, .int (zI sc), .ref hr, .ref hc, .ref hk])), zcq G qs 8 SF, (h1, .inr (3, [.ref qa, .ref qb, .ref qc, .ref qe, .int (zI (k : Int))])), zci G qa 10 fa, zci G qb 10 fb, zci G qc 10 fc, zci G qe 10 fe] H := hP
    have hD : va_D A [(h0, .inr (4, [.ref qs, .int (zI sc), .ref hr, .ref hc, .ref hk])), zcq G qs 8 SF, (h1, .inr (3, [.ref qa, .ref qb, .ref qc, .ref qe, .int (zI (k : Int))])), zci G qa 10 fa, zci G qb 10 fb, zci G qc 10 fc, zci G qe 10 fe] := hD
    refine zv_istore (lv' := [(8, .int (zI (-1))), (7, .ref h1), (0, .ref h0), (1, .int (zI v)), (2, .int (zI on)), (3, .int (zI sm)), (4, .int (zI ot)), (5, .int (zI mr)), (6, .int (zI dv))]) S dX4_cut_56 hl (by decide) rfl (fun ls hl => ?_)
    refine zv_iload S dX4_cut_58 (lv_at hl 0 rfl) ?_
    refine zv_iconst S dX4_cut_60 ?_
    refine zv_icmp_ne (tgt := 74) S (by unfold zR; omega) (by unfold zR; omega) dX4_cut_61 (by decide) (fun c_40 => ?_) (fun c_40 => ?_)
    · exact absurd c_40 (by omega)
    · exact hthr _ _ _ _ _ _ _ zIS "there is no such cut, or no room for it" 41 75 45 () (Or.inl ⟨rfl, rfl, rfl⟩) (List.mem_of_getElem? (i := 3) rfl) hm_X4_cut_zIS dX4_cut_64 dX4_cut_67 dX4_cut_68 dX4_cut_70 dX4_cut_73 (by decide) (Or.inr (Or.inr ⟨rfl, ⟨hok_3, by omega, by unfold zcok; omega, hcu⟩⟩)) (hP.sub [0, 1, 2, 3, 4, 5, 6] rfl) (hD.sub [0, 1, 2, 3, 4, 5, 6] (by decide) rfl) hS hl.1 (Nat.le_of_ble_eq_true rfl) (Nat.le_of_ble_eq_true rfl)
  · refine zv_aload S dX4_cut_43 (lv_at hl 0 rfl) ?_
    refine zv_iload_n S dX4_cut_45 rfl (lv_at hl 3 rfl) ?_
    refine zv_iload_n S dX4_cut_46 rfl (lv_at hl 4 rfl) ?_
    refine zv_iload S dX4_cut_47 (lv_at hl 5 rfl) ?_
    refine zv_iload S dX4_cut_49 (lv_at hl 6 rfl) ?_
    refine zv_iload S dX4_cut_51 (lv_at hl 7 rfl) ?_
    refine zc_Vi (As := [.int (zI on), .int (zI sm), .int (zI ot), .int (zI mr), .int (zI dv)]) (rest := []) (wr := [(h0, .inr (4, [.ref qs, .int (zI sc), .ref hr, .ref hc, .ref hk])), zcq G qs 8 SF]) (n := 5) S hN hK hP hD hS hA hl (c_X3_appendCut_fullI l G H.size on ot h1 qa qb qc qe fa fb fc fe k on.toNat ot.toNat sm mr dv (by omega) (by omega) hk9 (by omega) (by omega) (by omega) (by omega) (by omega) ha hb hc4 he) gX4_cut_X3_appendCut rfl ⟨rfl, rfl⟩ (by decide +kernel) rfl ⟨Nat.le_of_ble_eq_true rfl, Nat.le_of_ble_eq_true rfl, Nat.le_of_ble_eq_true rfl, Nat.le_of_ble_eq_true rfl⟩ [6, 0, 1, 2, 3] [4, 5] rfl rfl (by decide) (by decide) (by decide) (ci := 3) rfl rfl rfl (Nat.le_of_ble_eq_true rfl) dX4_cut_53 rfl (fun r_ u_41 H1 locs1 hp_42 hP1 hD1 hS1 hz1 => ?_)
    try dsimp only at hp_42 hP1 hD1
    subst hp_42
    generalize H1 = H at hP1 hD1 hS1 hz1 ⊢
    generalize locs1 = locs at hS1 ⊢
    have hS := hS1
    have hP : va_P G.1 vwCl [(h0, .inr (4, [.ref qs, .int (zI sc), .ref hr, .ref hc, .ref hk])), zcq G qs 8 SF, (h1, .inr (3, [.ref qa, .ref qb, .ref qc, .ref qe, .int (zI (k : Int))])), zci G qa 10 fa, zci G qb 10 fb, zci G qc 10 fc, zci G qe 10 fe] H := hP1
    have hD : va_D A [(h0, .inr (4, [.ref qs, .int (zI sc), .ref hr, .ref hc, .ref hk])), zcq G qs 8 SF, (h1, .inr (3, [.ref qa, .ref qb, .ref qc, .ref qe, .int (zI (k : Int))])), zci G qa 10 fa, zci G qb 10 fb, zci G qc 10 fc, zci G qe 10 fe] := hD1
    refine zv_istore (lv' := [(8, .int (zI (-1))), (7, .ref h1), (0, .ref h0), (1, .int (zI v)), (2, .int (zI on)), (3, .int (zI sm)), (4, .int (zI ot)), (5, .int (zI mr)), (6, .int (zI dv))]) S dX4_cut_56 hl (by decide) rfl (fun ls hl => ?_)
    refine zv_iload S dX4_cut_58 (lv_at hl 0 rfl) ?_
    refine zv_iconst S dX4_cut_60 ?_
    refine zv_icmp_ne (tgt := 74) S (by unfold zR; omega) (by unfold zR; omega) dX4_cut_61 (by decide) (fun c_43 => ?_) (fun c_43 => ?_)
    · exact absurd c_43 (by omega)
    · exact hthr _ _ _ _ _ _ _ zIS "there is no such cut, or no room for it" 41 75 45 () (Or.inl ⟨rfl, rfl, rfl⟩) (List.mem_of_getElem? (i := 3) rfl) hm_X4_cut_zIS dX4_cut_64 dX4_cut_67 dX4_cut_68 dX4_cut_70 dX4_cut_73 (by decide) (Or.inr (Or.inr ⟨rfl, ⟨hok_3, by omega, by unfold zcok; omega, (fun z => absurd (zcut_k.mp z).2 (by omega))⟩⟩)) (hP.sub [0, 1, 2, 3, 4, 5, 6] rfl) (hD.sub [0, 1, 2, 3, 4, 5, 6] (by decide) rfl) hS hl.1 (Nat.le_of_ble_eq_true rfl) (Nat.le_of_ble_eq_true rfl)

theorem in_X4_move_X3 : ∀ w ∈ wsX30, w ∈ wsX4_move := by decide +kernel
theorem hm_X4_move_zIS : ∀ w ∈ Cond.classLink RX4 41 zIS :: Cond.initialized zIS :: (vx_atS RX4 45 zIS zNN).filter goodWord, w ∈ wsX4_move := List.forall_mem_cons.mpr ⟨by decide +kernel, List.forall_mem_cons.mpr ⟨by decide +kernel, fun w h => List.mem_cons_of_mem _ (List.mem_append_left _ (List.mem_append_left _ (List.mem_append_right _ h)))⟩⟩
set_option maxHeartbeats 4000000 in
set_option maxRecDepth 100000 in
/-- PointMill.move -/
theorem c_X4_move (l : Launch) (hl0 : l.stackTraces = false) (G : zG) (sz : Nat) (h0 : Nat) (qs : Nat) (sc : Int) (hr : Nat) (hc : Nat) (hk : Nat) (SF : Nat → Option Nat) (h1 : Nat) (qa : Nat) (qb : Nat) (qc : Nat) (qe : Nat) (fa : Nat → Int) (fb : Nat → Int) (k : Nat) (v : Int) (its : Int) (hsc : 0 ≤ sc ∧ sc ≤ 8) (hsf : 0 ≤ v → v < sc → SF v.toNat = some h1) (hk4 : k ≤ 10) (ha : ∀ j, j < k → -60 ≤ fa j ∧ fa j ≤ 60) (hb : ∀ j, j < k → -60 ≤ fb j ∧ fb j ≤ 60) (hv : -2147483648 ≤ v ∧ v < 2147483648) (g1 : -2147483648 ≤ its ∧ its < 2147483648) : vx_Met l yX4_move wsX4_move ({ frames := 7, cells := 3, slots := 18, locals := 112 }) (va_Pc [.ref h0, .int (zI v), .int (zI its)] (zPx G sz [(h0, .inr (4, [.ref qs, .int (zI sc), .ref hr, .ref hc, .ref hk])), zcq G qs 8 SF, (h1, .inr (3, [.ref qa, .ref qb, .ref qc, .ref qe, .int (zI (k : Int))])), zci G qa 10 fa, zci G qb 10 fb])) (va_Qi (fun (r : Int32) (u : (Nat → Int) × (Nat → Int)) => r = zI (k : Int) ∧ ((0 ≤ v ∧ v < sc) ∧ (0 ≤ its ∧ its ≤ 2) ∧ (its = 1 → zsl fa fb k)) ∧ (zmvC its fa fb k u.1 u.2)) (fun u => zW G (va_A [(h0, .inr (4, [.ref qs, .int (zI sc), .ref hr, .ref hc, .ref hk])), zcq G qs 8 SF, (h1, .inr (3, [.ref qa, .ref qb, .ref qc, .ref qe, .int (zI (k : Int))])), zci G qa 10 fa, zci G qb 10 fb] sz) ((fun (u : (Nat → Int) × (Nat → Int)) => [(h0, .inr (4, [.ref qs, .int (zI sc), .ref hr, .ref hc, .ref hk])), zcq G qs 8 SF, (h1, .inr (3, [.ref qa, .ref qb, .ref qc, .ref qe, .int (zI (k : Int))])), zci G qa 10 u.1, zci G qb 10 u.2]) u)) (va_A [(h0, .inr (4, [.ref qs, .int (zI sc), .ref hr, .ref hc, .ref hk])), zcq G qs 8 SF, (h1, .inr (3, [.ref qa, .ref qb, .ref qc, .ref qe, .int (zI (k : Int))])), zci G qa 10 fa, zci G qb 10 fb] sz)) (vx_X (fun _ => True) (fun (E : String) (u : Unit) (t : State) => (fun (E : String) (u : Unit) => E = zIO ∧ (¬ (0 ≤ v ∧ v < sc)) ∨ E = zIA ∧ ((0 ≤ v ∧ v < sc) ∧ ¬ (0 ≤ its ∧ its ≤ 2)) ∨ E = zIS ∧ ((0 ≤ v ∧ v < sc) ∧ its = 1 ∧ ¬ zsl fa fb k)) E u ∧ zW G (va_A [(h0, .inr (4, [.ref qs, .int (zI sc), .ref hr, .ref hc, .ref hk])), zcq G qs 8 SF, (h1, .inr (3, [.ref qa, .ref qb, .ref qc, .ref qe, .int (zI (k : Int))])), zci G qa 10 fa, zci G qb 10 fb] sz) ((fun (u : Unit) => [(h0, .inr (4, [.ref qs, .int (zI sc), .ref hr, .ref hc, .ref hk])), zcq G qs 8 SF, (h1, .inr (3, [.ref qa, .ref qb, .ref qc, .ref qe, .int (zI (k : Int))])), zci G qa 10 fa, zci G qb 10 fb]) u) t) (va_A [(h0, .inr (4, [.ref qs, .int (zI sc), .ref hr, .ref hc, .ref hk])), zcq G qs 8 SF, (h1, .inr (3, [.ref qa, .ref qb, .ref qc, .ref qe, .int (zI (k : Int))])), zci G qa 10 fa, zci G qb 10 fb] sz)) 3 18 (va_A [(h0, .inr (4, [.ref qs, .int (zI sc), .ref hr, .ref hc, .ref hk])), zcq G qs 8 SF, (h1, .inr (3, [.ref qa, .ref qb, .ref qc, .ref qe, .int (zI (k : Int))])), zci G qa 10 fa, zci G qb 10 fb] sz) := by
  refine zMx_i hl0 (post := fun (r : Int32) (u : (Nat → Int) × (Nat → Int)) => r = zI (k : Int) ∧ ((0 ≤ v ∧ v < sc) ∧ (0 ≤ its ∧ its ≤ 2) ∧ (its = 1 → zsl fa fb k)) ∧ (zmvC its fa fb k u.1 u.2)) (w1 := fun (u : (Nat → Int) × (Nat → Int)) => [(h0, .inr (4, [.ref qs, .int (zI sc), .ref hr, .ref hc, .ref hk])), zcq G qs 8 SF, (h1, .inr (3, [.ref qa, .ref qb, .ref qc, .ref qe, .int (zI (k : Int))])), zci G qa 10 u.1, zci G qb 10 u.2]) (cx := fun (E : String) (u : Unit) => E = zIO ∧ (¬ (0 ≤ v ∧ v < sc)) ∨ E = zIA ∧ ((0 ≤ v ∧ v < sc) ∧ ¬ (0 ≤ its ∧ its ≤ 2)) ∨ E = zIS ∧ ((0 ≤ v ∧ v < sc) ∧ its = 1 ∧ ¬ zsl fa fb k)) (w1x := fun (u : Unit) => [(h0, .inr (4, [.ref qs, .int (zI sc), .ref hr, .ref hc, .ref hk])), zcq G qs 8 SF, (h1, .inr (3, [.ref qa, .ref qb, .ref qc, .ref qe, .int (zI (k : Int))])), zci G qa 10 fa, zci G qb 10 fb]) (by decide) rfl rfl (Nat.le_of_ble_eq_true rfl) ⟨Nat.le_of_ble_eq_true rfl, Nat.le_of_ble_eq_true rfl, rfl, rfl⟩ ?_
  intro p e s m below meth c A Q S hN hK hP hD hS hA hE0 hret hpass hthr ls hl
  have hl : lv_has ls 4 [(0, .ref h0), (1, .int (zI v)), (2, .int (zI its))] := hl
  refine zv_aload_n S dX4_move_0 rfl (lv_at hl 0 rfl) ?_
  refine zv_iload_n S dX4_move_1 rfl (lv_at hl 1 rfl) ?_
  refine zcx_Vr (As := [.int (zI v)]) (rest := []) (wr := [(h1, .inr (3, [.ref qa, .ref qb, .ref qc, .ref qe, .int (zI (k : Int))])), zci G qa 10 fa, zci G qb 10 fb]) (n := 1) S hN hK (hE0.kept hS.2.1) hP hD hS hA hl (c_X4_shapeOf l hl0 G s.heap.size h0 qs sc hr hc hk SF v h1 hsc hsf (by omega)) gX4_move_X4_shapeOf rfl ⟨rfl, rfl⟩ (by decide +kernel) rfl ⟨Nat.le_of_ble_eq_true rfl, Nat.le_of_ble_eq_true rfl, Nat.le_of_ble_eq_true rfl, Nat.le_of_ble_eq_true rfl⟩ [0, 1] [2, 3, 4] rfl rfl (by decide) (by decide) (by decide) (ci := 4) rfl rfl rfl (Nat.le_of_ble_eq_true rfl) dX4_move_2 rfl (fun E_ ce_ q_ ux_ H1 locs1 hc1 hP1 hD1 hS1 hz1 hce1 hcv1 hcl1 => ?_) (fun u_1 H1 locs1 hp_2 hP1 hD1 hS1 hz1 => ?_)
  · try dsimp only at hc1 hP1 hD1
    have hP1 : va_P G.1 vwCl [(h1, .inr (3, [.ref qa, .ref qb, .ref qc, .ref qe, .int (zI (k : Int))])), zci G qa 10 fa, zci G qb 10 fb, (h0, .inr (4, [.ref qs, .int (zI sc), .ref hr, .ref hc, .ref hk])), zcq G qs 8 SF] H1 := hP1
    have hD1 : va_D A [(h1, .inr (3, [.ref qa, .ref qb, .ref qc, .ref qe, .int (zI (k : Int))])), zci G qa 10 fa, zci G qb 10 fb, (h0, .inr (4, [.ref qs, .int (zI sc), .ref hr, .ref hc, .ref hk])), zcq G qs 8 SF] := hD1
    obtain ⟨rfl, hx_0⟩ := hc1
    exact hpass _ _ _ _ _ _ _ _ ce_ q_ () (Or.inl ⟨rfl, hx_0⟩) (hP1.sub [3, 4, 0, 1, 2] rfl) (hD1.sub [3, 4, 0, 1, 2] (by decide) rfl) hS1 hce1 hcv1 hcl1 (Nat.le_of_ble_eq_true rfl) (Nat.le_of_ble_eq_true rfl)
  try dsimp only at hp_2 hP1 hD1
  have hok_3 := hp_2
  generalize H1 = H at hP1 hD1 hS1 hz1 ⊢
  generalize locs1 = locs at hS1 ⊢
  have hS := hS1
  have hP : va_P G.1 vwCl [(h1, .inr (3, [.ref qa, .ref qb, .ref qc, .ref qe, .int (zI (k : Int))])), zci G qa 10 fa, zci G qb 10 fb, (h0, .inr (4, [.ref qs, .int (zI sc), .ref hr, .ref hc, .ref hk])), zcq G qs 8 SF] H := hP1
  have hD : va_D A [(h1, .inr (3, [.ref qa, .ref qb, .ref qc, .ref qe, .int (zI (k : Int))])), zci G qa 10 fa, zci G qb 10 fb, (h0, .inr (4, [.ref qs, .int (zI sc), .ref hr, .ref hc, .ref hk])), zcq G qs 8 SF] := hD1
  refine zv_astore_n (lv' := [(3, .ref h1), (0, .ref h0), (1, .int (zI v)), (2, .int (zI its))]) S dX4_move_5 rfl hl (by decide) rfl (fun ls hl => ?_)
  refine zv_iload_n S dX4_move_6 rfl (lv_at hl 3 rfl) ?_
  refine zv_iconst S dX4_move_7 ?_
  refine zv_iconst S dX4_move_8 ?_
  refine zcx_Sv (As := [.int (zI its), .int (zI 0), .int (zI 2)]) (rest := []) (wr := [(h1, .inr (3, [.ref qa, .ref qb, .ref qc, .ref qe, .int (zI (k : Int))])), zci G qa 10 fa, zci G qb 10 fb, (h0, .inr (4, [.ref qs, .int (zI sc), .ref hr, .ref hc, .ref hk])), zcq G qs 8 SF]) (n := 3) S hN hK (hE0.kept hS.2.1) hP hD hS hA hl (c_X4_requireRange l hl0 G H.size its 0 2 (by omega) (by omega) (by omega)) gX4_move_X4_requireRange rfl ⟨rfl, rfl⟩ (by decide +kernel) rfl ⟨Nat.le_of_ble_eq_true rfl, Nat.le_of_ble_eq_true rfl, Nat.le_of_ble_eq_true rfl, Nat.le_of_ble_eq_true rfl⟩ [] [0, 1, 2, 3, 4] rfl rfl (by decide) (by decide) (by decide) (Nat.le_of_ble_eq_true rfl) dX4_move_9 rfl (fun E_ ce_ q_ ux_ H1 locs1 hc1 hP1 hD1 hS1 hz1 hce1 hcv1 hcl1 => ?_) (fun u_4 H1 locs1 hp_5 hP1 hD1 hS1 hz1 => ?_)
  · try dsimp only at hc1 hP1 hD1
    have hP1 : va_P G.1 vwCl [(h1, .inr (3, [.ref qa, .ref qb, .ref qc, .ref qe, .int (zI (k : Int))])), zci G qa 10 fa, zci G qb 10 fb, (h0, .inr (4, [.ref qs, .int (zI sc), .ref hr, .ref hc, .ref hk])), zcq G qs 8 SF] H1 := hP1
    have hD1 : va_D A [(h1, .inr (3, [.ref qa, .ref qb, .ref qc, .ref qe, .int (zI (k : Int))])), zci G qa 10 fa, zci G qb 10 fb, (h0, .inr (4, [.ref qs, .int (zI sc), .ref hr, .ref hc, .ref hk])), zcq G qs 8 SF] := hD1
    obtain ⟨rfl, hx_0⟩ := hc1
    exact hpass _ _ _ _ _ _ _ _ ce_ q_ () (Or.inr (Or.inl ⟨rfl, ⟨hok_3, by omega⟩⟩)) (hP1.sub [3, 4, 0, 1, 2] rfl) (hD1.sub [3, 4, 0, 1, 2] (by decide) rfl) hS1 hce1 hcv1 hcl1 (Nat.le_of_ble_eq_true rfl) (Nat.le_of_ble_eq_true rfl)
  try dsimp only at hp_5 hP1 hD1
  have hrr_6 := hp_5
  generalize H1 = H at hP1 hD1 hS1 hz1 ⊢
  generalize locs1 = locs at hS1 ⊢
  have hS := hS1
  have hP : va_P G.1 vwCl [(h1, .inr (3, [.ref qa, .ref qb, .ref qc, .ref qe, .int (zI (k : Int))])), zci G qa 10 fa, zci G qb 10 fb, (h0, .inr (4, [.ref qs, .int (zI sc), .ref hr, .ref hc, .ref hk])), zcq G qs 8 SF] H := hP1
  have hD : va_D A [(h1, .inr (3, [.ref qa, .ref qb, .ref qc, .ref qe, .int (zI (k : Int))])), zci G qa 10 fa, zci G qb 10 fb, (h0, .inr (4, [.ref qs, .int (zI sc), .ref hr, .ref hc, .ref hk])), zcq G qs 8 SF] := hD1
  refine zv_iload_n S dX4_move_12 rfl (lv_at hl 3 rfl) ?_
  refine zv_if_ne (tgt := 23) S (by unfold zR; omega) dX4_move_13 (by decide) (fun c_7 => ?_) (fun c_7 => ?_)
  · refine zv_iload_n S dX4_move_23 rfl (lv_at hl 3 rfl) ?_
    refine zv_iconst S dX4_move_24 ?_
    refine zv_icmp_ne (tgt := 35) S (by unfold zR; omega) (by unfold zR; omega) dX4_move_25 (by decide) (fun c_8 => ?_) (fun c_8 => ?_)
    · refine zv_aload_n S dX4_move_35 rfl (lv_at hl 0 rfl) ?_
      refine zc_Vi (As := []) (rest := []) (wr := [(h0, .inr (4, [.ref qs, .int (zI sc), .ref hr, .ref hc, .ref hk])), zcq G qs 8 SF]) (n := 0) S hN hK hP hD hS hA hl (c_X3_slide l G H.size h1 qa qb qc qe fa fb k hk4 ha hb) gX4_move_X3_slide rfl ⟨rfl, rfl⟩ (by decide +kernel) rfl ⟨Nat.le_of_ble_eq_true rfl, Nat.le_of_ble_eq_true rfl, Nat.le_of_ble_eq_true rfl, Nat.le_of_ble_eq_true rfl⟩ [0, 1, 2] [3, 4] rfl rfl (by decide) (by decide) (by decide) (ci := 3) rfl rfl rfl (Nat.le_of_ble_eq_true rfl) dX4_move_36 rfl (fun r_ u_9 H1 locs1 hp_10 hP1 hD1 hS1 hz1 => ?_)
      obtain ⟨nb_11, rfl⟩ : ∃ z, z = u_9 := ⟨_, rfl⟩
      try dsimp only at hp_10 hP1 hD1
      obtain ⟨rfl, hs1_12, hs2_13⟩ := hp_10
      generalize H1 = H at hP1 hD1 hS1 hz1 ⊢
      generalize locs1 = locs at hS1 ⊢
      have hS := hS1
      have hP : va_P G.1 vwCl [(h0, .inr (4, [.ref qs, .int (zI sc), .ref hr, .ref hc, .ref hk])), zcq G qs 8 SF, (h1, .inr (3, [.ref qa, .ref qb, .ref qc, .ref qe, .int (zI (k : Int))])), zci G qa 10 fa, zci G qb 10 nb_11] H := hP1
      have hD : va_D A [(h0, .inr (4, [.ref qs, .int (zI sc), .ref hr, .ref hc, .ref hk])), zcq G qs 8 SF, (h1, .inr (3, [.ref qa, .ref qb, .ref qc, .ref qe, .int (zI (k : Int))])), zci G qa 10 fa, zci G qb 10 nb_11] := hD1
      refine zv_ifb_ne (tgt := 52) S dX4_move_39 (by decide) (fun c_14 => ?_) (fun c_14 => ?_)
      · refine zv_aload_n S dX4_move_52 rfl (lv_at hl 0 rfl) ?_
        refine zv_getN (C := RX3) (T := TX3) (N := 5) (ci := 3) (v := .int (zI (k : Int))) S in_X4_move_X3 hK hP 2 rfl rfl 4 (by decide) (hN _ (List.mem_of_getElem? (i := 5) rfl)) rfl rfl dX4_move_53 ?_
        refine W.widen (k := 3) (n := 18) (by decide) (by decide) ?_
        exact hret _ _ _ _ _ ⟨fa, nb_11⟩ dX4_move_56 ⟨rfl, (show (0 ≤ v ∧ v < sc) ∧ (0 ≤ its ∧ its ≤ 2) ∧ (its = 1 → zsl fa fb k) from ⟨hok_3, by omega, (fun _ => c_14)⟩), (show zmvC its fa fb k fa nb_11 from (by rw [hs1_12 c_14]; exact zmvC_1 (by omega)))⟩ (hP.sub [0, 1, 2, 3, 4] rfl) (hD.sub [0, 1, 2, 3, 4] (by decide) rfl) hS
      · rw [hs2_13 c_14] at hP hD
        exact hthr _ _ _ _ _ _ _ zIS "some b would be out of its range" 41 87 45 () (Or.inl ⟨rfl, rfl, rfl⟩) (List.mem_of_getElem? (i := 4) rfl) hm_X4_move_zIS dX4_move_42 dX4_move_45 dX4_move_46 dX4_move_48 dX4_move_51 (by decide) (Or.inr (Or.inr ⟨rfl, ⟨hok_3, by omega, c_14⟩⟩)) (hP.sub [0, 1, 2, 3, 4] rfl) (hD.sub [0, 1, 2, 3, 4] (by decide) rfl) hS hl.1 (Nat.le_of_ble_eq_true rfl) (Nat.le_of_ble_eq_true rfl)
    · refine zv_aload_n S dX4_move_28 rfl (lv_at hl 0 rfl) ?_
      refine zc_Vv (As := []) (rest := []) (wr := [zci G qb 10 fb, (h0, .inr (4, [.ref qs, .int (zI sc), .ref hr, .ref hc, .ref hk])), zcq G qs 8 SF]) (n := 0) S hN hK hP hD hS hA hl (c_X3_flip l G H.size h1 qa qb qc qe fa k hk4) gX4_move_X3_flip rfl ⟨rfl, rfl⟩ (by decide +kernel) rfl ⟨Nat.le_of_ble_eq_true rfl, Nat.le_of_ble_eq_true rfl, Nat.le_of_ble_eq_true rfl, Nat.le_of_ble_eq_true rfl⟩ [0, 1] [2, 3, 4] rfl rfl (by decide) (by decide) (by decide) (ci := 3) rfl rfl rfl (Nat.le_of_ble_eq_true rfl) dX4_move_29 rfl (fun u_15 H1 locs1 hp_16 hP1 hD1 hS1 hz1 => ?_)
      try dsimp only at hp_16 hP1 hD1
      generalize H1 = H at hP1 hD1 hS1 hz1 ⊢
      generalize locs1 = locs at hS1 ⊢
      have hS := hS1
      have hP : va_P G.1 vwCl [zci G qb 10 fb, (h0, .inr (4, [.ref qs, .int (zI sc), .ref hr, .ref hc, .ref hk])), zcq G qs 8 SF, (h1, .inr (3, [.ref qa, .ref qb, .ref qc, .ref qe, .int (zI (k : Int))])), zci G qa 10 (zfill (fun j => -fa j) fa k)] H := hP1
      have hD : va_D A [zci G qb 10 fb, (h0, .inr (4, [.ref qs, .int (zI sc), .ref hr, .ref hc, .ref hk])), zcq G qs 8 SF, (h1, .inr (3, [.ref qa, .ref qb, .ref qc, .ref qe, .int (zI (k : Int))])), zci G qa 10 (zfill (fun j => -fa j) fa k)] := hD1
      refine zv_goto (tgt := 52) S dX4_move_32 (by decide) ?_
      refine zv_aload_n S dX4_move_52 rfl (lv_at hl 0 rfl) ?_
      refine zv_getN (C := RX3) (T := TX3) (N := 5) (ci := 3) (v := .int (zI (k : Int))) S in_X4_move_X3 hK hP 3 rfl rfl 4 (by decide) (hN _ (List.mem_of_getElem? (i := 5) rfl)) rfl rfl dX4_move_53 ?_
      refine W.widen (k := 3) (n := 18) (by decide) (by decide) ?_
      exact hret _ _ _ _ _ ⟨(zfill (fun j => -fa j) fa k), fb⟩ dX4_move_56 ⟨rfl, (show (0 ≤ v ∧ v < sc) ∧ (0 ≤ its ∧ its ≤ 2) ∧ (its = 1 → zsl fa fb k) from ⟨hok_3, by omega, (fun z => absurd z (by omega))⟩), (show zmvC its fa fb k (zfill (fun j => -fa j) fa k) fb from (zmvC_2 (by omega)))⟩ (hP.sub [1, 2, 3, 4, 0] rfl) (hD.sub [1, 2, 3, 4, 0] (by decide) rfl) hS
  · refine zv_aload_n S dX4_move_16 rfl (lv_at hl 0 rfl) ?_
    refine zc_Vv (As := []) (rest := []) (wr := [(h0, .inr (4, [.ref qs, .int (zI sc), .ref hr, .ref hc, .ref hk])), zcq G qs 8 SF]) (n := 0) S hN hK hP hD hS hA hl (c_X3_swap l G H.size h1 qa qb qc qe fa fb k hk4) gX4_move_X3_swap rfl ⟨rfl, rfl⟩ (by decide +kernel) rfl ⟨Nat.le_of_ble_eq_true rfl, Nat.le_of_ble_eq_true rfl, Nat.le_of_ble_eq_true rfl, Nat.le_of_ble_eq_true rfl⟩ [0, 1, 2] [3, 4] rfl rfl (by decide) (by decide) (by decide) (ci := 3) rfl rfl rfl (Nat.le_of_ble_eq_true rfl) dX4_move_17 rfl (fun u_17 H1 locs1 hp_18 hP1 hD1 hS1 hz1 => ?_)
    try dsimp only at hp_18 hP1 hD1
    generalize H1 = H at hP1 hD1 hS1 hz1 ⊢
    generalize locs1 = locs at hS1 ⊢
    have hS := hS1
    have hP : va_P G.1 vwCl [(h0, .inr (4, [.ref qs, .int (zI sc), .ref hr, .ref hc, .ref hk])), zcq G qs 8 SF, (h1, .inr (3, [.ref qa, .ref qb, .ref qc, .ref qe, .int (zI (k : Int))])), zci G qa 10 (zfill fb fa k), zci G qb 10 (zfill fa fb k)] H := hP1
    have hD : va_D A [(h0, .inr (4, [.ref qs, .int (zI sc), .ref hr, .ref hc, .ref hk])), zcq G qs 8 SF, (h1, .inr (3, [.ref qa, .ref qb, .ref qc, .ref qe, .int (zI (k : Int))])), zci G qa 10 (zfill fb fa k), zci G qb 10 (zfill fa fb k)] := hD1
    refine zv_goto (tgt := 52) S dX4_move_20 (by decide) ?_
    refine zv_aload_n S dX4_move_52 rfl (lv_at hl 0 rfl) ?_
    refine zv_getN (C := RX3) (T := TX3) (N := 5) (ci := 3) (v := .int (zI (k : Int))) S in_X4_move_X3 hK hP 2 rfl rfl 4 (by decide) (hN _ (List.mem_of_getElem? (i := 5) rfl)) rfl rfl dX4_move_53 ?_
    refine W.widen (k := 3) (n := 18) (by decide) (by decide) ?_
    exact hret _ _ _ _ _ ⟨(zfill fb fa k), (zfill fa fb k)⟩ dX4_move_56 ⟨rfl, (show (0 ≤ v ∧ v < sc) ∧ (0 ≤ its ∧ its ≤ 2) ∧ (its = 1 → zsl fa fb k) from ⟨hok_3, by omega, (fun z => absurd z (by omega))⟩), (show zmvC its fa fb k (zfill fb fa k) (zfill fa fb k) from (zmvC_0 (by omega)))⟩ (hP.sub [0, 1, 2, 3, 4] rfl) (hD.sub [0, 1, 2, 3, 4] (by decide) rfl) hS

set_option maxHeartbeats 4000000 in
set_option maxRecDepth 100000 in
theorem c_X3_partI (l : Launch) (G : zG) (sz : Nat) (rw : Int) (h0 : Nat) (qa : Nat) (qb : Nat) (qc : Nat) (qe : Nat) (fa : Nat → Int) (fb : Nat → Int) (fc : Nat → Int) (fe : Nat → Int) (k : Nat) (j : Nat) (wh : Int) (hrw : rw = (j : Int)) (hk : k ≤ 10) (hj : j < k) (hw : 0 ≤ wh ∧ wh ≤ 3) : Met l yX3_part wsX3_part ({ frames := 1, cells := 0, slots := 0, locals := 21 }) (va_Pc [.ref h0, .int (zI rw), .int (zI wh)] (zPre G sz [(h0, .inr (3, [.ref qa, .ref qb, .ref qc, .ref qe, .int (zI (k : Int))])), zci G qa 10 fa, zci G qb 10 fb, zci G qc 10 fc, zci G qe 10 fe])) (va_Qi (fun (r : Int32) (u : Unit) => r = zI (if wh = 0 then fa j else if wh = 1 then fb j else if wh = 2 then fc j else fe j)) (fun u => zW G (va_A [(h0, .inr (3, [.ref qa, .ref qb, .ref qc, .ref qe, .int (zI (k : Int))])), zci G qa 10 fa, zci G qb 10 fb, zci G qc 10 fc, zci G qe 10 fe] sz) ((fun (u : Unit) => [(h0, .inr (3, [.ref qa, .ref qb, .ref qc, .ref qe, .int (zI (k : Int))])), zci G qa 10 fa, zci G qb 10 fb, zci G qc 10 fc, zci G qe 10 fe]) u)) (va_A [(h0, .inr (3, [.ref qa, .ref qb, .ref qc, .ref qe, .int (zI (k : Int))])), zci G qa 10 fa, zci G qb 10 fb, zci G qc 10 fc, zci G qe 10 fe] sz)) 0 0 (va_A [(h0, .inr (3, [.ref qa, .ref qb, .ref qc, .ref qe, .int (zI (k : Int))])), zci G qa 10 fa, zci G qb 10 fb, zci G qc 10 fc, zci G qe 10 fe] sz) := by
  subst hrw
  exact c_X3_part l G sz h0 qa qb qc qe fa fb fc fe k j wh hk hj hw

set_option maxHeartbeats 4000000 in
set_option maxRecDepth 100000 in
/-- PointMill.inequality -/
theorem c_X4_inequality (l : Launch) (hl0 : l.stackTraces = false) (G : zG) (sz : Nat) (h0 : Nat) (qs : Nat) (sc : Int) (hr : Nat) (hc : Nat) (hk : Nat) (SF : Nat → Option Nat) (h1 : Nat) (qa : Nat) (qb : Nat) (qc : Nat) (qe : Nat) (fa : Nat → Int) (fb : Nat → Int) (fc : Nat → Int) (fe : Nat → Int) (k : Nat) (v : Int) (rw : Int) (wt : Int) (hsc : 0 ≤ sc ∧ sc ≤ 8) (hsf : 0 ≤ v → v < sc → SF v.toNat = some h1) (hk4 : k ≤ 10) (hv : -2147483648 ≤ v ∧ v < 2147483648) (g1 : -2147483648 ≤ rw ∧ rw < 2147483648) (g2 : -2147483648 ≤ wt ∧ wt < 2147483648) : vx_Met l yX4_inequality wsX4_inequality ({ frames := 7, cells := 3, slots := 18, locals := 112 }) (va_Pc [.ref h0, .int (zI v), .int (zI rw), .int (zI wt)] (zPx G sz [(h0, .inr (4, [.ref qs, .int (zI sc), .ref hr, .ref hc, .ref hk])), zcq G qs 8 SF, (h1, .inr (3, [.ref qa, .ref qb, .ref qc, .ref qe, .int (zI (k : Int))])), zci G qa 10 fa, zci G qb 10 fb, zci G qc 10 fc, zci G qe 10 fe])) (va_Qi (fun (r : Int32) (u : Unit) => r = zI (zpart (fa rw.toNat) (fb rw.toNat) (fc rw.toNat) (fe rw.toNat) wt) ∧ ((0 ≤ v ∧ v < sc) ∧ (0 ≤ rw ∧ rw < (k : Int)) ∧ (0 ≤ wt ∧ wt ≤ 3))) (fun u => zW G (va_A [(h0, .inr (4, [.ref qs, .int (zI sc), .ref hr, .ref hc, .ref hk])), zcq G qs 8 SF, (h1, .inr (3, [.ref qa, .ref qb, .ref qc, .ref qe, .int (zI (k : Int))])), zci G qa 10 fa, zci G qb 10 fb, zci G qc 10 fc, zci G qe 10 fe] sz) ((fun (u : Unit) => [(h0, .inr (4, [.ref qs, .int (zI sc), .ref hr, .ref hc, .ref hk])), zcq G qs 8 SF, (h1, .inr (3, [.ref qa, .ref qb, .ref qc, .ref qe, .int (zI (k : Int))])), zci G qa 10 fa, zci G qb 10 fb, zci G qc 10 fc, zci G qe 10 fe]) u)) (va_A [(h0, .inr (4, [.ref qs, .int (zI sc), .ref hr, .ref hc, .ref hk])), zcq G qs 8 SF, (h1, .inr (3, [.ref qa, .ref qb, .ref qc, .ref qe, .int (zI (k : Int))])), zci G qa 10 fa, zci G qb 10 fb, zci G qc 10 fc, zci G qe 10 fe] sz)) (vx_X (fun _ => True) (fun (E : String) (u : Unit) (t : State) => (fun (E : String) (u : Unit) => E = zIO ∧ (¬ ((0 ≤ v ∧ v < sc) ∧ 0 ≤ rw ∧ rw < (k : Int))) ∨ E = zIA ∧ ((0 ≤ v ∧ v < sc) ∧ (0 ≤ rw ∧ rw < (k : Int)) ∧ ¬ (0 ≤ wt ∧ wt ≤ 3))) E u ∧ zW G (va_A [(h0, .inr (4, [.ref qs, .int (zI sc), .ref hr, .ref hc, .ref hk])), zcq G qs 8 SF, (h1, .inr (3, [.ref qa, .ref qb, .ref qc, .ref qe, .int (zI (k : Int))])), zci G qa 10 fa, zci G qb 10 fb, zci G qc 10 fc, zci G qe 10 fe] sz) ((fun (u : Unit) => [(h0, .inr (4, [.ref qs, .int (zI sc), .ref hr, .ref hc, .ref hk])), zcq G qs 8 SF, (h1, .inr (3, [.ref qa, .ref qb, .ref qc, .ref qe, .int (zI (k : Int))])), zci G qa 10 fa, zci G qb 10 fb, zci G qc 10 fc, zci G qe 10 fe]) u) t) (va_A [(h0, .inr (4, [.ref qs, .int (zI sc), .ref hr, .ref hc, .ref hk])), zcq G qs 8 SF, (h1, .inr (3, [.ref qa, .ref qb, .ref qc, .ref qe, .int (zI (k : Int))])), zci G qa 10 fa, zci G qb 10 fb, zci G qc 10 fc, zci G qe 10 fe] sz)) 3 18 (va_A [(h0, .inr (4, [.ref qs, .int (zI sc), .ref hr, .ref hc, .ref hk])), zcq G qs 8 SF, (h1, .inr (3, [.ref qa, .ref qb, .ref qc, .ref qe, .int (zI (k : Int))])), zci G qa 10 fa, zci G qb 10 fb, zci G qc 10 fc, zci G qe 10 fe] sz) := by
  refine zMx_i hl0 (post := fun (r : Int32) (u : Unit) => r = zI (zpart (fa rw.toNat) (fb rw.toNat) (fc rw.toNat) (fe rw.toNat) wt) ∧ ((0 ≤ v ∧ v < sc) ∧ (0 ≤ rw ∧ rw < (k : Int)) ∧ (0 ≤ wt ∧ wt ≤ 3))) (w1 := fun (u : Unit) => [(h0, .inr (4, [.ref qs, .int (zI sc), .ref hr, .ref hc, .ref hk])), zcq G qs 8 SF, (h1, .inr (3, [.ref qa, .ref qb, .ref qc, .ref qe, .int (zI (k : Int))])), zci G qa 10 fa, zci G qb 10 fb, zci G qc 10 fc, zci G qe 10 fe]) (cx := fun (E : String) (u : Unit) => E = zIO ∧ (¬ ((0 ≤ v ∧ v < sc) ∧ 0 ≤ rw ∧ rw < (k : Int))) ∨ E = zIA ∧ ((0 ≤ v ∧ v < sc) ∧ (0 ≤ rw ∧ rw < (k : Int)) ∧ ¬ (0 ≤ wt ∧ wt ≤ 3))) (w1x := fun (u : Unit) => [(h0, .inr (4, [.ref qs, .int (zI sc), .ref hr, .ref hc, .ref hk])), zcq G qs 8 SF, (h1, .inr (3, [.ref qa, .ref qb, .ref qc, .ref qe, .int (zI (k : Int))])), zci G qa 10 fa, zci G qb 10 fb, zci G qc 10 fc, zci G qe 10 fe]) (by decide) rfl rfl (Nat.le_of_ble_eq_true rfl) ⟨Nat.le_of_ble_eq_true rfl, Nat.le_of_ble_eq_true rfl, rfl, rfl⟩ ?_
  intro p e s m below meth c A Q S hN hK hP hD hS hA hE0 hret hpass hthr ls hl
  have hl : lv_has ls 5 [(0, .ref h0), (1, .int (zI v)), (2, .int (zI rw)), (3, .int (zI wt))] := hl
  refine zv_aload_n S dX4_inequality_0 rfl (lv_at hl 0 rfl) ?_
  refine zv_iload_n S dX4_inequality_1 rfl (lv_at hl 1 rfl) ?_
  refine zcx_Vr (As := [.int (zI v)]) (rest := []) (wr := [(h1, .inr (3, [.ref qa, .ref qb, .ref qc, .ref qe, .int (zI (k : Int))])), zci G qa 10 fa, zci G qb 10 fb, zci G qc 10 fc, zci G qe 10 fe]) (n := 1) S hN hK (hE0.kept hS.2.1) hP hD hS hA hl (c_X4_shapeOf l hl0 G s.heap.size h0 qs sc hr hc hk SF v h1 hsc hsf (by omega)) gX4_inequality_X4_shapeOf rfl ⟨rfl, rfl⟩ (by decide +kernel) rfl ⟨Nat.le_of_ble_eq_true rfl, Nat.le_of_ble_eq_true rfl, Nat.le_of_ble_eq_true rfl, Nat.le_of_ble_eq_true rfl⟩ [0, 1] [2, 3, 4, 5, 6] rfl rfl (by decide) (by decide) (by decide) (ci := 4) rfl rfl rfl (Nat.le_of_ble_eq_true rfl) dX4_inequality_2 rfl (fun E_ ce_ q_ ux_ H1 locs1 hc1 hP1 hD1 hS1 hz1 hce1 hcv1 hcl1 => ?_) (fun u_1 H1 locs1 hp_2 hP1 hD1 hS1 hz1 => ?_)
  · try dsimp only at hc1 hP1 hD1
    have hP1 : va_P G.1 vwCl [(h1, .inr (3, [.ref qa, .ref qb, .ref qc, .ref qe, .int (zI (k : Int))])), zci G qa 10 fa, zci G qb 10 fb, zci G qc 10 fc, zci G qe 10 fe, (h0, .inr (4, [.ref qs, .int (zI sc), .ref hr, .ref hc, .ref hk])), zcq G qs 8 SF] H1 := hP1
    have hD1 : va_D A [(h1, .inr (3, [.ref qa, .ref qb, .ref qc, .ref qe, .int (zI (k : Int))])), zci G qa 10 fa, zci G qb 10 fb, zci G qc 10 fc, zci G qe 10 fe, (h0, .inr (4, [.ref qs, .int (zI sc), .ref hr, .ref hc, .ref hk])), zcq G qs 8 SF] := hD1
    obtain ⟨rfl, hx_0⟩ := hc1
    exact hpass _ _ _ _ _ _ _ _ ce_ q_ () (Or.inl ⟨rfl, (by omega)⟩) (hP1.sub [5, 6, 0, 1, 2, 3, 4] rfl) (hD1.sub [5, 6, 0, 1, 2, 3, 4] (by decide) rfl) hS1 hce1 hcv1 hcl1 (Nat.le_of_ble_eq_true rfl) (Nat.le_of_ble_eq_true rfl)
  try dsimp only at hp_2 hP1 hD1
  have hok_3 := hp_2
  generalize H1 = H at hP1 hD1 hS1 hz1 ⊢
  generalize locs1 = locs at hS1 ⊢
  have hS := hS1
  have hP : va_P G.1 vwCl [(h1, .inr (3, [.ref qa, .ref qb, .ref qc, .ref qe, .int (zI (k : Int))])), zci G qa 10 fa, zci G qb 10 fb, zci G qc 10 fc, zci G qe 10 fe, (h0, .inr (4, [.ref qs, .int (zI sc), .ref hr, .ref hc, .ref hk])), zcq G qs 8 SF] H := hP1
  have hD : va_D A [(h1, .inr (3, [.ref qa, .ref qb, .ref qc, .ref qe, .int (zI (k : Int))])), zci G qa 10 fa, zci G qb 10 fb, zci G qc 10 fc, zci G qe 10 fe, (h0, .inr (4, [.ref qs, .int (zI sc), .ref hr, .ref hc, .ref hk])), zcq G qs 8 SF] := hD1
  refine zv_astore (lv' := [(4, .ref h1), (0, .ref h0), (1, .int (zI v)), (2, .int (zI rw)), (3, .int (zI wt))]) S dX4_inequality_5 hl (by decide) rfl (fun ls hl => ?_)
  refine zv_aload S dX4_inequality_7 (lv_at hl 0 rfl) ?_
  refine zv_iload_n S dX4_inequality_9 rfl (lv_at hl 3 rfl) ?_
  refine zcx_Sv (As := [.ref h1, .int (zI rw)]) (rest := []) (wr := [zci G qa 10 fa, zci G qb 10 fb, zci G qc 10 fc, zci G qe 10 fe, (h0, .inr (4, [.ref qs, .int (zI sc), .ref hr, .ref hc, .ref hk])), zcq G qs 8 SF]) (n := 2) S hN hK (hE0.kept hS.2.1) hP hD hS hA hl (c_X4_requireInequality l hl0 G H.size h1 qa qb qc qe k rw hk4 (by omega)) gX4_inequality_X4_requireInequality rfl ⟨rfl, rfl⟩ (by decide +kernel) rfl ⟨Nat.le_of_ble_eq_true rfl, Nat.le_of_ble_eq_true rfl, Nat.le_of_ble_eq_true rfl, Nat.le_of_ble_eq_true rfl⟩ [0] [1, 2, 3, 4, 5, 6] rfl rfl (by decide) (by decide) (by decide) (Nat.le_of_ble_eq_true rfl) dX4_inequality_10 rfl (fun E_ ce_ q_ ux_ H1 locs1 hc1 hP1 hD1 hS1 hz1 hce1 hcv1 hcl1 => ?_) (fun u_4 H1 locs1 hp_5 hP1 hD1 hS1 hz1 => ?_)
  · try dsimp only at hc1 hP1 hD1
    have hP1 : va_P G.1 vwCl [zci G qa 10 fa, zci G qb 10 fb, zci G qc 10 fc, zci G qe 10 fe, (h0, .inr (4, [.ref qs, .int (zI sc), .ref hr, .ref hc, .ref hk])), zcq G qs 8 SF, (h1, .inr (3, [.ref qa, .ref qb, .ref qc, .ref qe, .int (zI (k : Int))]))] H1 := hP1
    have hD1 : va_D A [zci G qa 10 fa, zci G qb 10 fb, zci G qc 10 fc, zci G qe 10 fe, (h0, .inr (4, [.ref qs, .int (zI sc), .ref hr, .ref hc, .ref hk])), zcq G qs 8 SF, (h1, .inr (3, [.ref qa, .ref qb, .ref qc, .ref qe, .int (zI (k : Int))]))] := hD1
    obtain ⟨rfl, hx_0⟩ := hc1
    exact hpass _ _ _ _ _ _ _ _ ce_ q_ () (Or.inl ⟨rfl, (by omega)⟩) (hP1.sub [4, 5, 6, 0, 1, 2, 3] rfl) (hD1.sub [4, 5, 6, 0, 1, 2, 3] (by decide) rfl) hS1 hce1 hcv1 hcl1 (Nat.le_of_ble_eq_true rfl) (Nat.le_of_ble_eq_true rfl)
  try dsimp only at hp_5 hP1 hD1
  have hri_6 := hp_5
  generalize H1 = H at hP1 hD1 hS1 hz1 ⊢
  generalize locs1 = locs at hS1 ⊢
  have hS := hS1
  have hP : va_P G.1 vwCl [zci G qa 10 fa, zci G qb 10 fb, zci G qc 10 fc, zci G qe 10 fe, (h0, .inr (4, [.ref qs, .int (zI sc), .ref hr, .ref hc, .ref hk])), zcq G qs 8 SF, (h1, .inr (3, [.ref qa, .ref qb, .ref qc, .ref qe, .int (zI (k : Int))]))] H := hP1
  have hD : va_D A [zci G qa 10 fa, zci G qb 10 fb, zci G qc 10 fc, zci G qe 10 fe, (h0, .inr (4, [.ref qs, .int (zI sc), .ref hr, .ref hc, .ref hk])), zcq G qs 8 SF, (h1, .inr (3, [.ref qa, .ref qb, .ref qc, .ref qe, .int (zI (k : Int))]))] := hD1
  refine zv_iload_n S dX4_inequality_13 rfl (lv_at hl 4 rfl) ?_
  refine zv_iconst S dX4_inequality_14 ?_
  refine zv_iconst S dX4_inequality_15 ?_
  refine zcx_Sv (As := [.int (zI wt), .int (zI 0), .int (zI 3)]) (rest := []) (wr := [zci G qa 10 fa, zci G qb 10 fb, zci G qc 10 fc, zci G qe 10 fe, (h0, .inr (4, [.ref qs, .int (zI sc), .ref hr, .ref hc, .ref hk])), zcq G qs 8 SF, (h1, .inr (3, [.ref qa, .ref qb, .ref qc, .ref qe, .int (zI (k : Int))]))]) (n := 3) S hN hK (hE0.kept hS.2.1) hP hD hS hA hl (c_X4_requireRange l hl0 G H.size wt 0 3 (by omega) (by omega) (by omega)) gX4_inequality_X4_requireRange rfl ⟨rfl, rfl⟩ (by decide +kernel) rfl ⟨Nat.le_of_ble_eq_true rfl, Nat.le_of_ble_eq_true rfl, Nat.le_of_ble_eq_true rfl, Nat.le_of_ble_eq_true rfl⟩ [] [0, 1, 2, 3, 4, 5, 6] rfl rfl (by decide) (by decide) (by decide) (Nat.le_of_ble_eq_true rfl) dX4_inequality_16 rfl (fun E_ ce_ q_ ux_ H1 locs1 hc1 hP1 hD1 hS1 hz1 hce1 hcv1 hcl1 => ?_) (fun u_7 H1 locs1 hp_8 hP1 hD1 hS1 hz1 => ?_)
  · try dsimp only at hc1 hP1 hD1
    have hP1 : va_P G.1 vwCl [zci G qa 10 fa, zci G qb 10 fb, zci G qc 10 fc, zci G qe 10 fe, (h0, .inr (4, [.ref qs, .int (zI sc), .ref hr, .ref hc, .ref hk])), zcq G qs 8 SF, (h1, .inr (3, [.ref qa, .ref qb, .ref qc, .ref qe, .int (zI (k : Int))]))] H1 := hP1
    have hD1 : va_D A [zci G qa 10 fa, zci G qb 10 fb, zci G qc 10 fc, zci G qe 10 fe, (h0, .inr (4, [.ref qs, .int (zI sc), .ref hr, .ref hc, .ref hk])), zcq G qs 8 SF, (h1, .inr (3, [.ref qa, .ref qb, .ref qc, .ref qe, .int (zI (k : Int))]))] := hD1
    obtain ⟨rfl, hx_0⟩ := hc1
    exact hpass _ _ _ _ _ _ _ _ ce_ q_ () (Or.inr ⟨rfl, (by omega)⟩) (hP1.sub [4, 5, 6, 0, 1, 2, 3] rfl) (hD1.sub [4, 5, 6, 0, 1, 2, 3] (by decide) rfl) hS1 hce1 hcv1 hcl1 (Nat.le_of_ble_eq_true rfl) (Nat.le_of_ble_eq_true rfl)
  try dsimp only at hp_8 hP1 hD1
  have hrr_9 := hp_8
  generalize H1 = H at hP1 hD1 hS1 hz1 ⊢
  generalize locs1 = locs at hS1 ⊢
  have hS := hS1
  have hP : va_P G.1 vwCl [zci G qa 10 fa, zci G qb 10 fb, zci G qc 10 fc, zci G qe 10 fe, (h0, .inr (4, [.ref qs, .int (zI sc), .ref hr, .ref hc, .ref hk])), zcq G qs 8 SF, (h1, .inr (3, [.ref qa, .ref qb, .ref qc, .ref qe, .int (zI (k : Int))]))] H := hP1
  have hD : va_D A [zci G qa 10 fa, zci G qb 10 fb, zci G qc 10 fc, zci G qe 10 fe, (h0, .inr (4, [.ref qs, .int (zI sc), .ref hr, .ref hc, .ref hk])), zcq G qs 8 SF, (h1, .inr (3, [.ref qa, .ref qb, .ref qc, .ref qe, .int (zI (k : Int))]))] := hD1
  refine zv_aload S dX4_inequality_19 (lv_at hl 0 rfl) ?_
  refine zv_iload_n S dX4_inequality_21 rfl (lv_at hl 3 rfl) ?_
  refine zv_iload_n S dX4_inequality_22 rfl (lv_at hl 4 rfl) ?_
  refine zc_Vi (As := [.int (zI rw), .int (zI wt)]) (rest := []) (wr := [(h0, .inr (4, [.ref qs, .int (zI sc), .ref hr, .ref hc, .ref hk])), zcq G qs 8 SF]) (n := 2) S hN hK hP hD hS hA hl (c_X3_partI l G H.size rw h1 qa qb qc qe fa fb fc fe k rw.toNat wt (by omega) hk4 (by omega) (by omega)) gX4_inequality_X3_part rfl ⟨rfl, rfl⟩ (by decide +kernel) rfl ⟨Nat.le_of_ble_eq_true rfl, Nat.le_of_ble_eq_true rfl, Nat.le_of_ble_eq_true rfl, Nat.le_of_ble_eq_true rfl⟩ [6, 0, 1, 2, 3] [4, 5] rfl rfl (by decide) (by decide) (by decide) (ci := 3) rfl rfl rfl (Nat.le_of_ble_eq_true rfl) dX4_inequality_23 rfl (fun r_ u_10 H1 locs1 hp_11 hP1 hD1 hS1 hz1 => ?_)
  try dsimp only at hp_11 hP1 hD1
  subst hp_11
  generalize H1 = H at hP1 hD1 hS1 hz1 ⊢
  generalize locs1 = locs at hS1 ⊢
  have hS := hS1
  have hP : va_P G.1 vwCl [(h0, .inr (4, [.ref qs, .int (zI sc), .ref hr, .ref hc, .ref hk])), zcq G qs 8 SF, (h1, .inr (3, [.ref qa, .ref qb, .ref qc, .ref qe, .int (zI (k : Int))])), zci G qa 10 fa, zci G qb 10 fb, zci G qc 10 fc, zci G qe 10 fe] H := hP1
  have hD : va_D A [(h0, .inr (4, [.ref qs, .int (zI sc), .ref hr, .ref hc, .ref hk])), zcq G qs 8 SF, (h1, .inr (3, [.ref qa, .ref qb, .ref qc, .ref qe, .int (zI (k : Int))])), zci G qa 10 fa, zci G qb 10 fb, zci G qc 10 fc, zci G qe 10 fe] := hD1
  exact hret _ _ _ _ _ () dX4_inequality_26 ⟨rfl, (by omega)⟩ (hP.sub [0, 1, 2, 3, 4, 5, 6] rfl) (hD.sub [0, 1, 2, 3, 4, 5, 6] (by decide) rfl) hS

set_option maxHeartbeats 4000000 in
set_option maxRecDepth 100000 in
/-- PointMill.isPlace -/
theorem c_X4_isPlace (l : Launch) (hl0 : l.stackTraces = false) (G : zG) (sz : Nat) (h0 : Nat) (qs : Nat) (sc : Int) (hr : Nat) (hc : Nat) (hk : Nat) (SF : Nat → Option Nat) (h1 : Nat) (qa : Nat) (qb : Nat) (qc : Nat) (qe : Nat) (fa : Nat → Int) (fb : Nat → Int) (k : Nat) (v : Int) (hsc : 0 ≤ sc ∧ sc ≤ 8) (hsf : 0 ≤ v → v < sc → SF v.toNat = some h1) (hk4 : k ≤ 10) (ha : ∀ j, j < k → -60 ≤ fa j ∧ fa j ≤ 60) (hb : ∀ j, j < k → -60 ≤ fb j ∧ fb j ≤ 60) (hv : -2147483648 ≤ v ∧ v < 2147483648) : vx_Met l yX4_isPlace wsX4_isPlace ({ frames := 7, cells := 1, slots := 6, locals := 111 }) (va_Pc [.ref h0, .int (zI v)] (zPx G sz [(h0, .inr (4, [.ref qs, .int (zI sc), .ref hr, .ref hc, .ref hk])), zcq G qs 8 SF, (h1, .inr (3, [.ref qa, .ref qb, .ref qc, .ref qe, .int (zI (k : Int))])), zci G qa 10 fa, zci G qb 10 fb])) (va_Qi (fun (r : Int32) (u : Unit) => r = zI (zb (zpl fa fb k)) ∧ ((0 ≤ v ∧ v < sc))) (fun u => zW G (va_A [(h0, .inr (4, [.ref qs, .int (zI sc), .ref hr, .ref hc, .ref hk])), zcq G qs 8 SF, (h1, .inr (3, [.ref qa, .ref qb, .ref qc, .ref qe, .int (zI (k : Int))])), zci G qa 10 fa, zci G qb 10 fb] sz) ((fun (u : Unit) => [(h0, .inr (4, [.ref qs, .int (zI sc), .ref hr, .ref hc, .ref hk])), zcq G qs 8 SF, (h1, .inr (3, [.ref qa, .ref qb, .ref qc, .ref qe, .int (zI (k : Int))])), zci G qa 10 fa, zci G qb 10 fb]) u)) (va_A [(h0, .inr (4, [.ref qs, .int (zI sc), .ref hr, .ref hc, .ref hk])), zcq G qs 8 SF, (h1, .inr (3, [.ref qa, .ref qb, .ref qc, .ref qe, .int (zI (k : Int))])), zci G qa 10 fa, zci G qb 10 fb] sz)) (vx_X (fun _ => True) (fun (E : String) (u : Unit) (t : State) => (fun (E : String) (u : Unit) => E = zIO ∧ (¬ (0 ≤ v ∧ v < sc))) E u ∧ zW G (va_A [(h0, .inr (4, [.ref qs, .int (zI sc), .ref hr, .ref hc, .ref hk])), zcq G qs 8 SF, (h1, .inr (3, [.ref qa, .ref qb, .ref qc, .ref qe, .int (zI (k : Int))])), zci G qa 10 fa, zci G qb 10 fb] sz) ((fun (u : Unit) => [(h0, .inr (4, [.ref qs, .int (zI sc), .ref hr, .ref hc, .ref hk])), zcq G qs 8 SF, (h1, .inr (3, [.ref qa, .ref qb, .ref qc, .ref qe, .int (zI (k : Int))])), zci G qa 10 fa, zci G qb 10 fb]) u) t) (va_A [(h0, .inr (4, [.ref qs, .int (zI sc), .ref hr, .ref hc, .ref hk])), zcq G qs 8 SF, (h1, .inr (3, [.ref qa, .ref qb, .ref qc, .ref qe, .int (zI (k : Int))])), zci G qa 10 fa, zci G qb 10 fb] sz)) 1 6 (va_A [(h0, .inr (4, [.ref qs, .int (zI sc), .ref hr, .ref hc, .ref hk])), zcq G qs 8 SF, (h1, .inr (3, [.ref qa, .ref qb, .ref qc, .ref qe, .int (zI (k : Int))])), zci G qa 10 fa, zci G qb 10 fb] sz) := by
  refine zMx_z hl0 (post := fun (r : Int32) (u : Unit) => r = zI (zb (zpl fa fb k)) ∧ ((0 ≤ v ∧ v < sc))) (w1 := fun (u : Unit) => [(h0, .inr (4, [.ref qs, .int (zI sc), .ref hr, .ref hc, .ref hk])), zcq G qs 8 SF, (h1, .inr (3, [.ref qa, .ref qb, .ref qc, .ref qe, .int (zI (k : Int))])), zci G qa 10 fa, zci G qb 10 fb]) (cx := fun (E : String) (u : Unit) => E = zIO ∧ (¬ (0 ≤ v ∧ v < sc))) (w1x := fun (u : Unit) => [(h0, .inr (4, [.ref qs, .int (zI sc), .ref hr, .ref hc, .ref hk])), zcq G qs 8 SF, (h1, .inr (3, [.ref qa, .ref qb, .ref qc, .ref qe, .int (zI (k : Int))])), zci G qa 10 fa, zci G qb 10 fb]) (by decide) rfl rfl (Nat.le_of_ble_eq_true rfl) ⟨Nat.le_of_ble_eq_true rfl, Nat.le_of_ble_eq_true rfl, rfl, rfl⟩ ?_
  intro p e s m below meth c A Q S hN hK hP hD hS hA hE0 hret hpass hthr ls hl
  have hl : lv_has ls 2 [(0, .ref h0), (1, .int (zI v))] := hl
  refine zv_aload_n S dX4_isPlace_0 rfl (lv_at hl 0 rfl) ?_
  refine zv_iload_n S dX4_isPlace_1 rfl (lv_at hl 1 rfl) ?_
  refine zcx_Vr (As := [.int (zI v)]) (rest := []) (wr := [(h1, .inr (3, [.ref qa, .ref qb, .ref qc, .ref qe, .int (zI (k : Int))])), zci G qa 10 fa, zci G qb 10 fb]) (n := 1) S hN hK (hE0.kept hS.2.1) hP hD hS hA hl (c_X4_shapeOf l hl0 G s.heap.size h0 qs sc hr hc hk SF v h1 hsc hsf (by omega)) gX4_isPlace_X4_shapeOf rfl ⟨rfl, rfl⟩ (by decide +kernel) rfl ⟨Nat.le_of_ble_eq_true rfl, Nat.le_of_ble_eq_true rfl, Nat.le_of_ble_eq_true rfl, Nat.le_of_ble_eq_true rfl⟩ [0, 1] [2, 3, 4] rfl rfl (by decide) (by decide) (by decide) (ci := 4) rfl rfl rfl (Nat.le_of_ble_eq_true rfl) dX4_isPlace_2 rfl (fun E_ ce_ q_ ux_ H1 locs1 hc1 hP1 hD1 hS1 hz1 hce1 hcv1 hcl1 => ?_) (fun u_1 H1 locs1 hp_2 hP1 hD1 hS1 hz1 => ?_)
  · try dsimp only at hc1 hP1 hD1
    have hP1 : va_P G.1 vwCl [(h1, .inr (3, [.ref qa, .ref qb, .ref qc, .ref qe, .int (zI (k : Int))])), zci G qa 10 fa, zci G qb 10 fb, (h0, .inr (4, [.ref qs, .int (zI sc), .ref hr, .ref hc, .ref hk])), zcq G qs 8 SF] H1 := hP1
    have hD1 : va_D A [(h1, .inr (3, [.ref qa, .ref qb, .ref qc, .ref qe, .int (zI (k : Int))])), zci G qa 10 fa, zci G qb 10 fb, (h0, .inr (4, [.ref qs, .int (zI sc), .ref hr, .ref hc, .ref hk])), zcq G qs 8 SF] := hD1
    obtain ⟨rfl, hx_0⟩ := hc1
    exact hpass _ _ _ _ _ _ _ _ ce_ q_ () ⟨rfl, hx_0⟩ (hP1.sub [3, 4, 0, 1, 2] rfl) (hD1.sub [3, 4, 0, 1, 2] (by decide) rfl) hS1 hce1 hcv1 hcl1 (Nat.le_of_ble_eq_true rfl) (Nat.le_of_ble_eq_true rfl)
  try dsimp only at hp_2 hP1 hD1
  have hok_3 := hp_2
  generalize H1 = H at hP1 hD1 hS1 hz1 ⊢
  generalize locs1 = locs at hS1 ⊢
  have hS := hS1
  have hP : va_P G.1 vwCl [(h1, .inr (3, [.ref qa, .ref qb, .ref qc, .ref qe, .int (zI (k : Int))])), zci G qa 10 fa, zci G qb 10 fb, (h0, .inr (4, [.ref qs, .int (zI sc), .ref hr, .ref hc, .ref hk])), zcq G qs 8 SF] H := hP1
  have hD : va_D A [(h1, .inr (3, [.ref qa, .ref qb, .ref qc, .ref qe, .int (zI (k : Int))])), zci G qa 10 fa, zci G qb 10 fb, (h0, .inr (4, [.ref qs, .int (zI sc), .ref hr, .ref hc, .ref hk])), zcq G qs 8 SF] := hD1
  refine zc_Vi (As := []) (rest := []) (wr := [(h0, .inr (4, [.ref qs, .int (zI sc), .ref hr, .ref hc, .ref hk])), zcq G qs 8 SF]) (n := 0) S hN hK hP hD hS hA hl (c_X3_isClosed l G H.size h1 qa qb qc qe fa fb k hk4 ha hb) gX4_isPlace_X3_isClosed rfl ⟨rfl, rfl⟩ (by decide +kernel) rfl ⟨Nat.le_of_ble_eq_true rfl, Nat.le_of_ble_eq_true rfl, Nat.le_of_ble_eq_true rfl, Nat.le_of_ble_eq_true rfl⟩ [0, 1, 2] [3, 4] rfl rfl (by decide) (by decide) (by decide) (ci := 3) rfl rfl rfl (Nat.le_of_ble_eq_true rfl) dX4_isPlace_5 rfl (fun r_ u_4 H1 locs1 hp_5 hP1 hD1 hS1 hz1 => ?_)
  try dsimp only at hp_5 hP1 hD1
  subst hp_5
  generalize H1 = H at hP1 hD1 hS1 hz1 ⊢
  generalize locs1 = locs at hS1 ⊢
  have hS := hS1
  have hP : va_P G.1 vwCl [(h0, .inr (4, [.ref qs, .int (zI sc), .ref hr, .ref hc, .ref hk])), zcq G qs 8 SF, (h1, .inr (3, [.ref qa, .ref qb, .ref qc, .ref qe, .int (zI (k : Int))])), zci G qa 10 fa, zci G qb 10 fb] H := hP1
  have hD : va_D A [(h0, .inr (4, [.ref qs, .int (zI sc), .ref hr, .ref hc, .ref hk])), zcq G qs 8 SF, (h1, .inr (3, [.ref qa, .ref qb, .ref qc, .ref qe, .int (zI (k : Int))])), zci G qa 10 fa, zci G qb 10 fb] := hD1
  exact hret _ _ _ _ _ () dX4_isPlace_8 (zI_01 _) ⟨rfl, hok_3⟩ (hP.sub [0, 1, 2, 3, 4] rfl) (hD.sub [0, 1, 2, 3, 4] (by decide) rfl) hS
