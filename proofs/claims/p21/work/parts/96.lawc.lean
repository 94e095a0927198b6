set_option maxHeartbeats 4000000 in
set_option maxRecDepth 100000 in
/-- the law: areCoins -/
theorem c_L_areCoins (l : Launch) (hl0 : l.stackTraces = false) (G : zG) (sz : Nat) (h0 : Nat) (qs : Nat) (sc : Int) (hr : Nat) (hc : Nat) (hk : Nat) (qw : Nat) (ql : Nat) (n : Nat) (wg : Int) (W0 : Nat → Int) (L0 : Nat → Int) (hn : n < 2 ^ 60) (hC : zcn (fun i => zkc n (i + 1)) 60 ≤ 5) : Met l yL_areCoins wsL_areCoins ({ frames := 9, cells := 700, slots := 4200, locals := 153 }) (va_Pc [.ref h0] (zPx G sz [(h0, .inr (4, [.ref qs, .int (zI sc), .ref hr, .ref hc, .ref hk])), (hk, .inr (0, [.ref qw, .ref ql, .long (zL (n : Int)), .int (zI wg)])), zcl G qw 1001 W0, zci G ql 60 L0])) (va_Qi (fun (r : Int32) (u : (Int) × (Nat → Int) × (Nat → Int)) => r = zI 1) (fun u => zW G (va_A [(h0, .inr (4, [.ref qs, .int (zI sc), .ref hr, .ref hc, .ref hk])), (hk, .inr (0, [.ref qw, .ref ql, .long (zL (n : Int)), .int (zI wg)])), zcl G qw 1001 W0, zci G ql 60 L0] sz) ((fun (u : (Int) × (Nat → Int) × (Nat → Int)) => [(h0, .inr (4, [.ref qs, .int (zI sc), .ref hr, .ref hc, .ref hk])), (hk, .inr (0, [.ref qw, .ref ql, .long (zL (n : Int)), .int (zI u.1)])), zcl G qw 1001 u.2.1, zci G ql 60 u.2.2]) u)) (va_A [(h0, .inr (4, [.ref qs, .int (zI sc), .ref hr, .ref hc, .ref hk])), (hk, .inr (0, [.ref qw, .ref ql, .long (zL (n : Int)), .int (zI wg)])), zcl G qw 1001 W0, zci G ql 60 L0] sz)) 700 4200 (va_A [(h0, .inr (4, [.ref qs, .int (zI sc), .ref hr, .ref hc, .ref hk])), (hk, .inr (0, [.ref qw, .ref ql, .long (zL (n : Int)), .int (zI wg)])), zcl G qw 1001 W0, zci G ql 60 L0] sz) := by
  refine zMp_z (post := fun (r : Int32) (u : (Int) × (Nat → Int) × (Nat → Int)) => r = zI 1) (w1 := fun (u : (Int) × (Nat → Int) × (Nat → Int)) => [(h0, .inr (4, [.ref qs, .int (zI sc), .ref hr, .ref hc, .ref hk])), (hk, .inr (0, [.ref qw, .ref ql, .long (zL (n : Int)), .int (zI u.1)])), zcl G qw 1001 u.2.1, zci G ql 60 u.2.2]) (plainFor_of_name (by decide)) rfl (Nat.le_of_ble_eq_true rfl) ?_
  intro p e s m below meth c A Q S hN hK hP hD hS hA hE0 hret ls hl
  have hl : lv_has ls 8 [(0, .ref h0)] := hl
  refine zv_aload_n S dL_areCoins_0 rfl (lv_at hl 0 rfl) ?_
  refine zch_Si (As := [.ref h0]) (rest := []) (wr := [zcl G qw 1001 W0, zci G ql 60 L0]) (n := 1) S hN hK (hE0.kept hS.2.1) hP hD hS hA hl (c_L_gaps l hl0 G s.heap.size h0 qs sc hr hc hk qw ql n wg hn) gL_areCoins_L_gaps rfl ⟨rfl, rfl⟩ (by decide +kernel) rfl ⟨Nat.le_of_ble_eq_true rfl, Nat.le_of_ble_eq_true rfl, Nat.le_of_ble_eq_true rfl, Nat.le_of_ble_eq_true rfl⟩ [0, 1] [2, 3] rfl rfl (by decide) (by decide) (by decide) (Nat.le_of_ble_eq_true rfl) dL_areCoins_1 rfl (fun r_ u_1 H1 locs1 hp_2 hP1 hD1 hS1 hz1 => ?_)
  obtain ⟨kr_3, w1_4⟩ := u_1
  try dsimp only at hp_2 hP1 hD1
  obtain ⟨rfl, hga_5⟩ := hp_2
  generalize H1 = H at hP1 hD1 hS1 hz1 ⊢
  generalize locs1 = locs at hS1 ⊢
  have hS := hS1
  have hP : va_P G.1 vwCl [zcl G qw 1001 W0, zci G ql 60 L0, (h0, .inr (4, [.ref qs, .int (zI sc), .ref hr, .ref hc, .ref hk])), (hk, .inr (0, [.ref qw, .ref ql, .long (zL (n : Int)), .int (zI w1_4)]))] H := hP1
  have hD : va_D A [zcl G qw 1001 W0, zci G ql 60 L0, (h0, .inr (4, [.ref qs, .int (zI sc), .ref hr, .ref hc, .ref hk])), (hk, .inr (0, [.ref qw, .ref ql, .long (zL (n : Int)), .int (zI w1_4)]))] := hD1
  have hP : va_P G.1 vwCl [(h0, .inr (4, [.ref qs, .int (zI sc), .ref hr, .ref hc, .ref hk])), (hk, .inr (0, [.ref qw, .ref ql, .long (zL (n : Int)), .int (zI w1_4)])), zcl G qw 1001 W0, zci G ql 60 L0] H := hP.sub [2, 3, 0, 1] rfl
  have hD : va_D A [(h0, .inr (4, [.ref qs, .int (zI sc), .ref hr, .ref hc, .ref hk])), (hk, .inr (0, [.ref qw, .ref ql, .long (zL (n : Int)), .int (zI w1_4)])), zcl G qw 1001 W0, zci G ql 60 L0] := hD.sub [2, 3, 0, 1] (by decide) rfl
  have hga := hga_5
  obtain ⟨kr, hkr_⟩ : ∃ z : Int, z = kr_3 := ⟨_, rfl⟩
  rw [← hkr_] at hga ⊢
  have hnn := zcn_le (fun t => ¬ zpay (zkc n) t) 3601
  refine zv_istore_n (lv' := [(1, .int (zI kr)), (0, .ref h0)]) S dL_areCoins_4 rfl hl (by decide) rfl (fun ls hl => ?_)
  refine zv_iconst S dL_areCoins_5 ?_
  refine zv_istore_n (lv' := [(2, .int (zI 0)), (1, .int (zI kr)), (0, .ref h0)]) S dL_areCoins_6 rfl hl (by decide) rfl (fun ls hl => ?_)
  refine zv_iconst S dL_areCoins_7 ?_
  refine zv_istore_n (lv' := [(3, .int (zI 0)), (2, .int (zI 0)), (1, .int (zI kr)), (0, .ref h0)]) S dL_areCoins_8 rfl hl (by decide) rfl (fun ls hl => ?_)
  have LP9 : ∀ (nf : Nat) (t : Nat) (v3 : Int) (sm : Int) (W2 : Nat → Int) (cc : Nat) (ss : Nat) (hv3 : v3 = (t : Int)) (ht : t ≤ 201) (hsm : sm = ((zcn (fun t => ¬ zpay (zkc n) t) t : Nat) : Int)) (hcc : cc ≤ 3 + t) (hss : ss ≤ 18 + 6 * t), (201 - t) < nf → ∀ (H : Heap) (locs : List Loc), va_P G.1 vwCl [(h0, .inr (4, [.ref qs, .int (zI sc), .ref hr, .ref hc, .ref hk])), (hk, .inr (0, [.ref qw, .ref ql, .long (zL (n : Int)), .int (zI w1_4)])), zcl G qw 1001 W2, zci G ql 60 L0] H → va_D A [(h0, .inr (4, [.ref qs, .int (zI sc), .ref hr, .ref hc, .ref hk])), (hk, .inr (0, [.ref qw, .ref ql, .long (zL (n : Int)), .int (zI w1_4)])), zcl G qw 1001 W2, zci G ql 60 L0] → va_S A s.heap H locs → ∀ ls : Array Slot, lv_has ls 8 [(3, .int (zI v3)), (2, .int (zI sm)), (1, .int (zI kr)), (0, .ref h0)] → W p l e ({ frames := 9, cells := 700, slots := 4200, locals := 153 }) s m ([.ref h0]).toArray below meth c H locs cc ss Q (F0 m 9 ls []) := by
    intro nf
    induction nf with
    | zero =>
      intro t v3 sm W2 cc ss hv3 ht hsm hcc hss hf
      exact absurd hf (Nat.not_lt_zero _)
    | succ nf ih9 =>
      intro t v3 sm W2 cc ss hv3 ht hsm hcc hss hf H locs hP hD hS ls hl
      refine zv_iload_n S dL_areCoins_9 rfl (lv_at hl 0 rfl) ?_
      refine zv_sipush (v := 200) S dL_areCoins_10 (by decide) ?_
      refine zv_icmp_gt (tgt := 40) S (by unfold zR; omega) (by unfold zR; omega) dL_areCoins_13 (by decide) (fun c_6 => ?_) (fun c_6 => ?_)
      · have ht1 : t = 201 := by omega
        rw [ht1] at hsm
        have hsb := zcn_le (fun t => ¬ zpay (zkc n) t) 201
        refine zv_iload_n S dL_areCoins_40 rfl (lv_at hl 2 rfl) ?_
        refine zv_if_ge (tgt := 64) S (by unfold zR; omega) dL_areCoins_41 (by decide) (fun c_7 => ?_) (fun c_7 => ?_)
        · obtain ⟨hkn, hgd⟩ : kr = ((zcn (fun t => ¬ zpay (zkc n) t) 3601 : Nat) : Int) ∧ zgd (zkc n) 60 = 1 := (by rcases hga with z | z; exact z; exact absurd z.1 (by omega))
          refine zv_aload_n S dL_areCoins_64 rfl (lv_at hl 3 rfl) ?_
          have JN91 : ∀ (wg3 : Int) (L3 : Nat → Int) (c3 : Nat) (s3 : Nat) (hc3 : c3 ≤ 300) (hs3 : s3 ≤ 1800) (H : Heap) (locs : List Loc), va_P G.1 vwCl [(h0, .inr (4, [.ref qs, .int (zI sc), .ref hr, .ref hc, .ref hk])), (hk, .inr (0, [.ref qw, .ref ql, .long (zL (n : Int)), .int (zI wg3)])), zcl G qw 1001 W2, zci G ql 60 L3] H → va_D A [(h0, .inr (4, [.ref qs, .int (zI sc), .ref hr, .ref hc, .ref hk])), (hk, .inr (0, [.ref qw, .ref ql, .long (zL (n : Int)), .int (zI wg3)])), zcl G qw 1001 W2, zci G ql 60 L3] → va_S A s.heap H locs → ∀ ls : Array Slot, lv_has ls 8 [(3, .int (zI v3)), (2, .int (zI sm)), (1, .int (zI kr)), (0, .ref h0)] → W p l e ({ frames := 9, cells := 700, slots := 4200, locals := 153 }) s m ([.ref h0]).toArray below meth c H locs c3 s3 Q (F0 m 91 ls [.int (zI 1)]) := by
            intro wg3 L3 c3 s3 hc3 hs3 H locs hP hD hS ls hl
            refine zv_istore_n (lv' := [(3, .int (zI 1)), (2, .int (zI sm)), (1, .int (zI kr)), (0, .ref h0)]) S dL_areCoins_91 rfl hl (by decide) rfl (fun ls hl => ?_)
            refine zv_iconst S dL_areCoins_92 ?_
            refine zv_istore (lv' := [(4, .int (zI 0)), (3, .int (zI 1)), (2, .int (zI sm)), (1, .int (zI kr)), (0, .ref h0)]) S dL_areCoins_93 hl (by decide) rfl (fun ls hl => ?_)
            refine zv_iconst S dL_areCoins_95 ?_
            refine zv_istore (lv' := [(5, .int (zI 0)), (4, .int (zI 0)), (3, .int (zI 1)), (2, .int (zI sm)), (1, .int (zI kr)), (0, .ref h0)]) S dL_areCoins_96 hl (by decide) rfl (fun ls hl => ?_)
            refine zv_iconst S dL_areCoins_98 ?_
            refine zv_istore (lv' := [(6, .int (zI 0)), (5, .int (zI 0)), (4, .int (zI 0)), (3, .int (zI 1)), (2, .int (zI sm)), (1, .int (zI kr)), (0, .ref h0)]) S dL_areCoins_99 hl (by decide) rfl (fun ls hl => ?_)
            have LP101 : ∀ (nf : Nat) (r : Nat) (v6 : Int) (ah : Int) (lw : Int) (wg4 : Int) (W4 : Nat → Int) (c4 : Nat) (s4 : Nat) (hv6 : v6 = (r : Int)) (hr60 : r ≤ 60 ∧ (r : Int) ≤ kr) (hah : (r = 0 ∧ ah = 0) ∨ ∃ g : Nat, ah = (g : Int) ∧ ¬ zpay (zkc n) g ∧ zcn (fun t => ¬ zpay (zkc n) t) g + 1 = r) (hlw : (lw = (r : Int) ∧ (r : Int) ≤ sm) ∨ (lw = sm ∧ sm ≤ (r : Int))) (hab : 0 ≤ ah ∧ ah ≤ 3600) (hc4 : c4 ≤ 300 + 4 * r) (hs4 : s4 ≤ 1800 + 24 * r), (60 - r) < nf → ∀ (H : Heap) (locs : List Loc), va_P G.1 vwCl [(h0, .inr (4, [.ref qs, .int (zI sc), .ref hr, .ref hc, .ref hk])), (hk, .inr (0, [.ref qw, .ref ql, .long (zL (n : Int)), .int (zI wg4)])), zcl G qw 1001 W4, zci G ql 60 L3] H → va_D A [(h0, .inr (4, [.ref qs, .int (zI sc), .ref hr, .ref hc, .ref hk])), (hk, .inr (0, [.ref qw, .ref ql, .long (zL (n : Int)), .int (zI wg4)])), zcl G qw 1001 W4, zci G ql 60 L3] → va_S A s.heap H locs → ∀ ls : Array Slot, lv_has ls 8 [(6, .int (zI v6)), (5, .int (zI lw)), (4, .int (zI ah)), (3, .int (zI 1)), (2, .int (zI sm)), (1, .int (zI kr)), (0, .ref h0)] → W p l e ({ frames := 9, cells := 700, slots := 4200, locals := 153 }) s m ([.ref h0]).toArray below meth c H locs c4 s4 Q (F0 m 101 ls []) := by
              intro nf
              induction nf with
              | zero =>
                intro r v6 ah lw wg4 W4 c4 s4 hv6 hr60 hah hlw hab hc4 hs4 hf
                exact absurd hf (Nat.not_lt_zero _)
              | succ nf ih101 =>
                intro r v6 ah lw wg4 W4 c4 s4 hv6 hr60 hah hlw hab hc4 hs4 hf H locs hP hD hS ls hl
                refine zv_iload S dL_areCoins_101 (lv_at hl 0 rfl) ?_
                refine zv_iload_n S dL_areCoins_103 rfl (lv_at hl 5 rfl) ?_
                refine zv_icmp_ge (tgt := 186) S (by unfold zR; omega) (by unfold zR; omega) dL_areCoins_104 (by decide) (fun c_8 => ?_) (fun c_8 => ?_)
                · refine zv_iload_n S dL_areCoins_186 rfl (lv_at hl 3 rfl) ?_
                  refine zv_if_eq (tgt := 206) S (by unfold zR; omega) dL_areCoins_187 (by decide) (fun c_9 => ?_) (fun c_9 => ?_)
                  · exact absurd c_9 (by omega)
                  · refine zv_iload_n S dL_areCoins_190 rfl (lv_at hl 5 rfl) ?_
                    refine zv_bipush (v := 60) S dL_areCoins_191 (by decide) ?_
                    refine zv_icmp_gt (tgt := 202) S (by unfold zR; omega) (by unfold zR; omega) dL_areCoins_193 (by decide) (fun c_10 => ?_) (fun c_10 => ?_)
                    · refine zv_iconst S dL_areCoins_202 ?_
                      refine zv_goto (tgt := 207) S dL_areCoins_203 (by decide) ?_
                      refine W.widen (k := 700) (n := 4200) (by omega) (by omega) ?_
                      exact hret _ _ _ _ _ ⟨wg4, W4, L3⟩ dL_areCoins_207 (by first | exact Or.inl rfl | exact Or.inr rfl) rfl (hP.sub [0, 1, 2, 3] rfl) (hD.sub [0, 1, 2, 3] (by decide) rfl) hS
                    · refine zv_iload S dL_areCoins_196 (lv_at hl 1 rfl) ?_
                      refine zv_iload_n S dL_areCoins_198 rfl (lv_at hl 4 rfl) ?_
                      refine zv_icmp_ne (tgt := 206) S (by unfold zR; omega) (by unfold zR; omega) dL_areCoins_199 (by decide) (fun c_11 => ?_) (fun c_11 => ?_)
                      · exact absurd (zlow_end hsm hkn hlw (by omega)) c_11
                      · refine zv_iconst S dL_areCoins_202 ?_
                        refine zv_goto (tgt := 207) S dL_areCoins_203 (by decide) ?_
                        refine W.widen (k := 700) (n := 4200) (by omega) (by omega) ?_
                        exact hret _ _ _ _ _ ⟨wg4, W4, L3⟩ dL_areCoins_207 (by first | exact Or.inl rfl | exact Or.inr rfl) rfl (hP.sub [0, 1, 2, 3] rfl) (hD.sub [0, 1, 2, 3] (by decide) rfl) hS
                · refine zv_iload S dL_areCoins_107 (lv_at hl 0 rfl) ?_
                  refine zv_bipush (v := 60) S dL_areCoins_109 (by decide) ?_
                  refine zv_icmp_ge (tgt := 186) S (by unfold zR; omega) (by unfold zR; omega) dL_areCoins_111 (by decide) (fun c_12 => ?_) (fun c_12 => ?_)
                  · refine zv_iload_n S dL_areCoins_186 rfl (lv_at hl 3 rfl) ?_
                    refine zv_if_eq (tgt := 206) S (by unfold zR; omega) dL_areCoins_187 (by decide) (fun c_13 => ?_) (fun c_13 => ?_)
                    · exact absurd c_13 (by omega)
                    · refine zv_iload_n S dL_areCoins_190 rfl (lv_at hl 5 rfl) ?_
                      refine zv_bipush (v := 60) S dL_areCoins_191 (by decide) ?_
                      refine zv_icmp_gt (tgt := 202) S (by unfold zR; omega) (by unfold zR; omega) dL_areCoins_193 (by decide) (fun c_14 => ?_) (fun c_14 => ?_)
                      · refine zv_iconst S dL_areCoins_202 ?_
                        refine zv_goto (tgt := 207) S dL_areCoins_203 (by decide) ?_
                        refine W.widen (k := 700) (n := 4200) (by omega) (by omega) ?_
                        exact hret _ _ _ _ _ ⟨wg4, W4, L3⟩ dL_areCoins_207 (by first | exact Or.inl rfl | exact Or.inr rfl) rfl (hP.sub [0, 1, 2, 3] rfl) (hD.sub [0, 1, 2, 3] (by decide) rfl) hS
                      · refine zv_iload S dL_areCoins_196 (lv_at hl 1 rfl) ?_
                        refine zv_iload_n S dL_areCoins_198 rfl (lv_at hl 4 rfl) ?_
                        refine zv_icmp_ne (tgt := 206) S (by unfold zR; omega) (by unfold zR; omega) dL_areCoins_199 (by decide) (fun c_15 => ?_) (fun c_15 => ?_)
                        · exact absurd (zlow_end hsm hkn hlw (by omega)) c_15
                        · refine zv_iconst S dL_areCoins_202 ?_
                          refine zv_goto (tgt := 207) S dL_areCoins_203 (by decide) ?_
                          refine W.widen (k := 700) (n := 4200) (by omega) (by omega) ?_
                          exact hret _ _ _ _ _ ⟨wg4, W4, L3⟩ dL_areCoins_207 (by first | exact Or.inl rfl | exact Or.inr rfl) rfl (hP.sub [0, 1, 2, 3] rfl) (hD.sub [0, 1, 2, 3] (by decide) rfl) hS
                  · refine zv_iload_n S dL_areCoins_114 rfl (lv_at hl 3 rfl) ?_
                    refine zv_if_eq (tgt := 186) S (by unfold zR; omega) dL_areCoins_115 (by decide) (fun c_16 => ?_) (fun c_16 => ?_)
                    · exact absurd c_16 (by omega)
                    · refine zv_aload_n S dL_areCoins_118 rfl (lv_at hl 6 rfl) ?_
                      refine zv_iload S dL_areCoins_119 (lv_at hl 0 rfl) ?_
                      refine zcp_Vi (As := [.int (zI v6)]) (rest := []) (wr := [zcl G qw 1001 W4, zci G ql 60 L3]) (n := 1) S hN hK (hE0.kept hS.2.1) hP hD hS hA hl (n_X4_gap l hl0 G H.size h0 qs sc hr hc hk qw ql n wg4 v6 hn hgd (by omega) (by omega)) gL_areCoins_X4_gap rfl ⟨rfl, rfl⟩ (by decide +kernel) rfl ⟨Nat.le_of_ble_eq_true rfl, Nat.le_of_ble_eq_true rfl, (show c4 + 3 ≤ 700 by omega), (show s4 + 18 ≤ 4200 by omega)⟩ [0, 1] [2, 3] rfl rfl (by decide) (by decide) (by decide) (ci := 4) rfl rfl rfl (Nat.le_of_ble_eq_true rfl) dL_areCoins_121 rfl (fun r_ u_17 H1 locs1 hp_18 hP1 hD1 hS1 hz1 => ?_)
                      obtain ⟨rr_19, w1_20⟩ := u_17
                      try dsimp only at hp_18 hP1 hD1
                      obtain ⟨rfl, hpo_21⟩ := hp_18
                      generalize H1 = H at hP1 hD1 hS1 hz1 ⊢
                      generalize locs1 = locs at hS1 ⊢
                      have hS := hS1
                      have hP : va_P G.1 vwCl [zcl G qw 1001 W4, zci G ql 60 L3, (h0, .inr (4, [.ref qs, .int (zI sc), .ref hr, .ref hc, .ref hk])), (hk, .inr (0, [.ref qw, .ref ql, .long (zL (n : Int)), .int (zI w1_20)]))] H := hP1
                      have hD : va_D A [zcl G qw 1001 W4, zci G ql 60 L3, (h0, .inr (4, [.ref qs, .int (zI sc), .ref hr, .ref hc, .ref hk])), (hk, .inr (0, [.ref qw, .ref ql, .long (zL (n : Int)), .int (zI w1_20)]))] := hD1
                      have hP : va_P G.1 vwCl [(h0, .inr (4, [.ref qs, .int (zI sc), .ref hr, .ref hc, .ref hk])), (hk, .inr (0, [.ref qw, .ref ql, .long (zL (n : Int)), .int (zI w1_20)])), zcl G qw 1001 W4, zci G ql 60 L3] H := hP.sub [2, 3, 0, 1] rfl
                      have hD : va_D A [(h0, .inr (4, [.ref qs, .int (zI sc), .ref hr, .ref hc, .ref hk])), (hk, .inr (0, [.ref qw, .ref ql, .long (zL (n : Int)), .int (zI w1_20)])), zcl G qw 1001 W4, zci G ql 60 L3] := hD.sub [2, 3, 0, 1] (by decide) rfl
                      obtain ⟨g, hg1, hg2, hg3, hg4⟩ := zgap_law (by omega) hpo_21.2.2.1 hpo_21.2.2.2
                      rw [hg1]
                      refine zv_istore (lv' := [(7, .int (zI (g : Int))), (6, .int (zI v6)), (5, .int (zI lw)), (4, .int (zI ah)), (3, .int (zI 1)), (2, .int (zI sm)), (1, .int (zI kr)), (0, .ref h0)]) S dL_areCoins_124 hl (by decide) rfl (fun ls hl => ?_)
                      refine zv_iload S dL_areCoins_126 (lv_at hl 0 rfl) ?_
                      refine zv_iload S dL_areCoins_128 (lv_at hl 3 rfl) ?_
                      refine zv_icmp_le (tgt := 156) S (by unfold zR; omega) (by unfold zR; omega) dL_areCoins_130 (by decide) (fun c_22 => ?_) (fun c_22 => ?_)
                      · exact absurd (zgap_up hv6 hah hg3 hg4) (by omega)
                      · refine zv_iload S dL_areCoins_133 (lv_at hl 0 rfl) ?_
                        refine zv_sipush (v := 1000) S dL_areCoins_135 (by decide) ?_
                        refine zv_icmp_gt (tgt := 152) S (by unfold zR; omega) (by unfold zR; omega) dL_areCoins_138 (by decide) (fun c_23 => ?_) (fun c_23 => ?_)
                        · refine zv_iconst S dL_areCoins_152 ?_
                          refine zv_goto (tgt := 157) S dL_areCoins_153 (by decide) ?_
                          refine zv_istore_n (lv' := [(3, .int (zI 1)), (7, .int (zI (g : Int))), (6, .int (zI v6)), (5, .int (zI lw)), (4, .int (zI ah)), (2, .int (zI sm)), (1, .int (zI kr)), (0, .ref h0)]) S dL_areCoins_157 rfl hl (by decide) rfl (fun ls hl => ?_)
                          refine zv_iload S dL_areCoins_158 (lv_at hl 3 rfl) ?_
                          refine zv_iload S dL_areCoins_160 (lv_at hl 1 rfl) ?_
                          refine zv_sipush (v := 200) S dL_areCoins_162 (by decide) ?_
                          refine zv_icmp_gt (tgt := 172) S (by unfold zR; omega) (by unfold zR; omega) dL_areCoins_165 (by decide) (fun c_24 => ?_) (fun c_24 => ?_)
                          · refine zv_iconst S dL_areCoins_172 ?_
                            refine zv_iadd S dL_areCoins_173 ?_
                            refine zv_istore (lv' := [(5, .int (zI (lw + 0))), (3, .int (zI 1)), (7, .int (zI (g : Int))), (6, .int (zI v6)), (4, .int (zI ah)), (2, .int (zI sm)), (1, .int (zI kr)), (0, .ref h0)]) S dL_areCoins_174 hl (by decide) rfl (fun ls hl => ?_)
                            refine zv_iload S dL_areCoins_176 (lv_at hl 2 rfl) ?_
                            refine zv_istore (lv' := [(4, .int (zI (g : Int))), (5, .int (zI (lw + 0))), (3, .int (zI 1)), (7, .int (zI (g : Int))), (6, .int (zI v6)), (2, .int (zI sm)), (1, .int (zI kr)), (0, .ref h0)]) S dL_areCoins_178 hl (by decide) rfl (fun ls hl => ?_)
                            refine zv_iinc (k0 := 4) (lv' := [(6, .int (zI (v6 + 1))), (4, .int (zI (g : Int))), (5, .int (zI (lw + 0))), (3, .int (zI 1)), (7, .int (zI (g : Int))), (2, .int (zI sm)), (1, .int (zI kr)), (0, .ref h0)]) S dL_areCoins_180 hl rfl (by decide) rfl (fun ls hl => ?_)
                            refine zv_goto (tgt := 101) S dL_areCoins_183 (by decide) ?_
                            refine W.widen (k := (c4 + 3)) (n := (s4 + 18)) (by omega) (by omega) ?_
                            exact ih101 (r + 1) (v6 + 1) (g : Int) (lw + 0) w1_20 W4 (c4 + 3) (s4 + 18) (by omega) (by omega) (Or.inr ⟨g, rfl, hg3, by omega⟩) ((zgap_low hv6 hsm hlw hg3 hg4).2 c_24) (by omega) (by omega) (by omega) (by omega) _ _ hP hD hS _ (lv_sub hl [0, 2, 1, 3, 5, 6, 7] rfl)
                          · refine zv_iconst S dL_areCoins_168 ?_
                            refine zv_goto (tgt := 173) S dL_areCoins_169 (by decide) ?_
                            refine zv_iadd S dL_areCoins_173 ?_
                            refine zv_istore (lv' := [(5, .int (zI (lw + 1))), (3, .int (zI 1)), (7, .int (zI (g : Int))), (6, .int (zI v6)), (4, .int (zI ah)), (2, .int (zI sm)), (1, .int (zI kr)), (0, .ref h0)]) S dL_areCoins_174 hl (by decide) rfl (fun ls hl => ?_)
                            refine zv_iload S dL_areCoins_176 (lv_at hl 2 rfl) ?_
                            refine zv_istore (lv' := [(4, .int (zI (g : Int))), (5, .int (zI (lw + 1))), (3, .int (zI 1)), (7, .int (zI (g : Int))), (6, .int (zI v6)), (2, .int (zI sm)), (1, .int (zI kr)), (0, .ref h0)]) S dL_areCoins_178 hl (by decide) rfl (fun ls hl => ?_)
                            refine zv_iinc (k0 := 4) (lv' := [(6, .int (zI (v6 + 1))), (4, .int (zI (g : Int))), (5, .int (zI (lw + 1))), (3, .int (zI 1)), (7, .int (zI (g : Int))), (2, .int (zI sm)), (1, .int (zI kr)), (0, .ref h0)]) S dL_areCoins_180 hl rfl (by decide) rfl (fun ls hl => ?_)
                            refine zv_goto (tgt := 101) S dL_areCoins_183 (by decide) ?_
                            refine W.widen (k := (c4 + 3)) (n := (s4 + 18)) (by omega) (by omega) ?_
                            exact ih101 (r + 1) (v6 + 1) (g : Int) (lw + 1) w1_20 W4 (c4 + 3) (s4 + 18) (by omega) (by omega) (Or.inr ⟨g, rfl, hg3, by omega⟩) ((zgap_low hv6 hsm hlw hg3 hg4).1 c_24) (by omega) (by omega) (by omega) (by omega) _ _ hP hD hS _ (lv_sub hl [0, 2, 1, 3, 5, 6, 7] rfl)
                        · refine zv_aload_n S dL_areCoins_141 rfl (lv_at hl 7 rfl) ?_
                          refine zv_iload S dL_areCoins_142 (lv_at hl 0 rfl) ?_
                          refine zcp_Vl (As := [.int (zI (g : Int))]) (rest := []) (wr := [zci G ql 60 L3]) (n := 1) S hN hK (hE0.kept hS.2.1) hP hD hS hA hl (n_X4_ways l hl0 G H.size h0 qs sc hr hc hk qw ql n w1_20 W4 (g : Int) hn (by omega)) gL_areCoins_X4_ways rfl ⟨rfl, rfl⟩ (by decide +kernel) rfl ⟨Nat.le_of_ble_eq_true rfl, Nat.le_of_ble_eq_true rfl, (show (c4 + 3) + 1 ≤ 700 by omega), (show (s4 + 18) + 6 ≤ 4200 by omega)⟩ [0, 1, 2] [3] rfl rfl (by decide) (by decide) (by decide) (ci := 4) rfl rfl rfl (Nat.le_of_ble_eq_true rfl) dL_areCoins_144 rfl (fun r_ u_25 H1 locs1 hp_26 hP1 hD1 hS1 hz1 => ?_)
                          obtain ⟨W1_27, rfl⟩ : ∃ z, z = u_25 := ⟨_, rfl⟩
                          try dsimp only at hp_26 hP1 hD1
                          obtain ⟨rfl, hpo_28⟩ := hp_26
                          generalize H1 = H at hP1 hD1 hS1 hz1 ⊢
                          generalize locs1 = locs at hS1 ⊢
                          have hS := hS1
                          have hP : va_P G.1 vwCl [zci G ql 60 L3, (h0, .inr (4, [.ref qs, .int (zI sc), .ref hr, .ref hc, .ref hk])), (hk, .inr (0, [.ref qw, .ref ql, .long (zL (n : Int)), .int (zI w1_20)])), zcl G qw 1001 W1_27] H := hP1
                          have hD : va_D A [zci G ql 60 L3, (h0, .inr (4, [.ref qs, .int (zI sc), .ref hr, .ref hc, .ref hk])), (hk, .inr (0, [.ref qw, .ref ql, .long (zL (n : Int)), .int (zI w1_20)])), zcl G qw 1001 W1_27] := hD1
                          have hP : va_P G.1 vwCl [(h0, .inr (4, [.ref qs, .int (zI sc), .ref hr, .ref hc, .ref hk])), (hk, .inr (0, [.ref qw, .ref ql, .long (zL (n : Int)), .int (zI w1_20)])), zcl G qw 1001 W1_27, zci G ql 60 L3] H := hP.sub [1, 2, 3, 0] rfl
                          have hD : va_D A [(h0, .inr (4, [.ref qs, .int (zI sc), .ref hr, .ref hc, .ref hk])), (hk, .inr (0, [.ref qw, .ref ql, .long (zL (n : Int)), .int (zI w1_20)])), zcl G qw 1001 W1_27, zci G ql 60 L3] := hD.sub [1, 2, 3, 0] (by decide) rfl
                          refine zv_lconst (v := 0) S dL_areCoins_147 (by decide) ?_
                          refine zv_lif_ne (tgt := 156) S (zws_zS hC (by omega)) (by unfold zS; omega) dL_areCoins_148 dL_areCoins_149 (by decide) (fun c_29 => ?_) (fun c_29 => ?_)
                          · exact absurd ((zws_iff (Nat.le_refl _)).mpr hg3) c_29
                          · refine zv_iconst S dL_areCoins_152 ?_
                            refine zv_goto (tgt := 157) S dL_areCoins_153 (by decide) ?_
                            refine zv_istore_n (lv' := [(3, .int (zI 1)), (7, .int (zI (g : Int))), (6, .int (zI v6)), (5, .int (zI lw)), (4, .int (zI ah)), (2, .int (zI sm)), (1, .int (zI kr)), (0, .ref h0)]) S dL_areCoins_157 rfl hl (by decide) rfl (fun ls hl => ?_)
                            refine zv_iload S dL_areCoins_158 (lv_at hl 3 rfl) ?_
                            refine zv_iload S dL_areCoins_160 (lv_at hl 1 rfl) ?_
                            refine zv_sipush (v := 200) S dL_areCoins_162 (by decide) ?_
                            refine zv_icmp_gt (tgt := 172) S (by unfold zR; omega) (by unfold zR; omega) dL_areCoins_165 (by decide) (fun c_30 => ?_) (fun c_30 => ?_)
                            · refine zv_iconst S dL_areCoins_172 ?_
                              refine zv_iadd S dL_areCoins_173 ?_
                              refine zv_istore (lv' := [(5, .int (zI (lw + 0))), (3, .int (zI 1)), (7, .int (zI (g : Int))), (6, .int (zI v6)), (4, .int (zI ah)), (2, .int (zI sm)), (1, .int (zI kr)), (0, .ref h0)]) S dL_areCoins_174 hl (by decide) rfl (fun ls hl => ?_)
                              refine zv_iload S dL_areCoins_176 (lv_at hl 2 rfl) ?_
                              refine zv_istore (lv' := [(4, .int (zI (g : Int))), (5, .int (zI (lw + 0))), (3, .int (zI 1)), (7, .int (zI (g : Int))), (6, .int (zI v6)), (2, .int (zI sm)), (1, .int (zI kr)), (0, .ref h0)]) S dL_areCoins_178 hl (by decide) rfl (fun ls hl => ?_)
                              refine zv_iinc (k0 := 4) (lv' := [(6, .int (zI (v6 + 1))), (4, .int (zI (g : Int))), (5, .int (zI (lw + 0))), (3, .int (zI 1)), (7, .int (zI (g : Int))), (2, .int (zI sm)), (1, .int (zI kr)), (0, .ref h0)]) S dL_areCoins_180 hl rfl (by decide) rfl (fun ls hl => ?_)
                              refine zv_goto (tgt := 101) S dL_areCoins_183 (by decide) ?_
                              refine W.widen (k := (c4 + 4)) (n := (s4 + 24)) (by omega) (by omega) ?_
                              exact ih101 (r + 1) (v6 + 1) (g : Int) (lw + 0) w1_20 W1_27 (c4 + 4) (s4 + 24) (by omega) (by omega) (Or.inr ⟨g, rfl, hg3, by omega⟩) ((zgap_low hv6 hsm hlw hg3 hg4).2 c_30) (by omega) (by omega) (by omega) (by omega) _ _ hP hD hS _ (lv_sub hl [0, 2, 1, 3, 5, 6, 7] rfl)
                            · refine zv_iconst S dL_areCoins_168 ?_
                              refine zv_goto (tgt := 173) S dL_areCoins_169 (by decide) ?_
                              refine zv_iadd S dL_areCoins_173 ?_
                              refine zv_istore (lv' := [(5, .int (zI (lw + 1))), (3, .int (zI 1)), (7, .int (zI (g : Int))), (6, .int (zI v6)), (4, .int (zI ah)), (2, .int (zI sm)), (1, .int (zI kr)), (0, .ref h0)]) S dL_areCoins_174 hl (by decide) rfl (fun ls hl => ?_)
                              refine zv_iload S dL_areCoins_176 (lv_at hl 2 rfl) ?_
                              refine zv_istore (lv' := [(4, .int (zI (g : Int))), (5, .int (zI (lw + 1))), (3, .int (zI 1)), (7, .int (zI (g : Int))), (6, .int (zI v6)), (2, .int (zI sm)), (1, .int (zI kr)), (0, .ref h0)]) S dL_areCoins_178 hl (by decide) rfl (fun ls hl => ?_)
                              refine zv_iinc (k0 := 4) (lv' := [(6, .int (zI (v6 + 1))), (4, .int (zI (g : Int))), (5, .int (zI (lw + 1))), (3, .int (zI 1)), (7, .int (zI (g : Int))), (2, .int (zI sm)), (1, .int (zI kr)), (0, .ref h0)]) S dL_areCoins_180 hl rfl (by decide) rfl (fun ls hl => ?_)
                              refine zv_goto (tgt := 101) S dL_areCoins_183 (by decide) ?_
                              refine W.widen (k := (c4 + 4)) (n := (s4 + 24)) (by omega) (by omega) ?_
                              exact ih101 (r + 1) (v6 + 1) (g : Int) (lw + 1) w1_20 W1_27 (c4 + 4) (s4 + 24) (by omega) (by omega) (Or.inr ⟨g, rfl, hg3, by omega⟩) ((zgap_low hv6 hsm hlw hg3 hg4).1 c_30) (by omega) (by omega) (by omega) (by omega) _ _ hP hD hS _ (lv_sub hl [0, 2, 1, 3, 5, 6, 7] rfl)
            exact LP101 _ 0 0 0 0 wg3 W2 c3 s3 rfl (by omega) (Or.inl ⟨rfl, rfl⟩) (Or.inl ⟨rfl, by omega⟩) (by omega) (by omega) (by omega) (Nat.lt_succ_self _) _ _ hP hD hS _ (lv_sub hl [0, 1, 2, 3, 4, 5, 6] rfl)
          refine zcp_Vi (As := []) (rest := []) (wr := [zcl G qw 1001 W2]) (n := 0) S hN hK (hE0.kept hS.2.1) hP hD hS hA hl (n_X4_greatestGap l hl0 G H.size h0 qs sc hr hc hk qw ql n w1_4 L0 hn hgd) gL_areCoins_X4_greatestGap rfl ⟨rfl, rfl⟩ (by decide +kernel) rfl ⟨Nat.le_of_ble_eq_true rfl, Nat.le_of_ble_eq_true rfl, (show cc + 1 ≤ 700 by omega), (show ss + 6 ≤ 4200 by omega)⟩ [0, 1, 3] [2] rfl rfl (by decide) (by decide) (by decide) (ci := 4) rfl rfl rfl (Nat.le_of_ble_eq_true rfl) dL_areCoins_65 rfl (fun r_ u_31 H1 locs1 hp_32 hP1 hD1 hS1 hz1 => ?_)
          obtain ⟨mm_33, L2_34, mx_35⟩ := u_31
          try dsimp only at hp_32 hP1 hD1
          obtain ⟨rfl, hgd_36, ha1_37, ha2_38, ha3_39, ha4_40⟩ := hp_32
          generalize H1 = H at hP1 hD1 hS1 hz1 ⊢
          generalize locs1 = locs at hS1 ⊢
          have hS := hS1
          have hP : va_P G.1 vwCl [zcl G qw 1001 W2, (h0, .inr (4, [.ref qs, .int (zI sc), .ref hr, .ref hc, .ref hk])), (hk, .inr (0, [.ref qw, .ref ql, .long (zL (n : Int)), .int (zI w1_4)])), zci G ql 60 L2_34] H := hP1
          have hD : va_D A [zcl G qw 1001 W2, (h0, .inr (4, [.ref qs, .int (zI sc), .ref hr, .ref hc, .ref hk])), (hk, .inr (0, [.ref qw, .ref ql, .long (zL (n : Int)), .int (zI w1_4)])), zci G ql 60 L2_34] := hD1
          have hP : va_P G.1 vwCl [(h0, .inr (4, [.ref qs, .int (zI sc), .ref hr, .ref hc, .ref hk])), (hk, .inr (0, [.ref qw, .ref ql, .long (zL (n : Int)), .int (zI w1_4)])), zcl G qw 1001 W2, zci G ql 60 L2_34] H := hP.sub [1, 2, 0, 3] rfl
          have hD : va_D A [(h0, .inr (4, [.ref qs, .int (zI sc), .ref hr, .ref hc, .ref hk])), (hk, .inr (0, [.ref qw, .ref ql, .long (zL (n : Int)), .int (zI w1_4)])), zcl G qw 1001 W2, zci G ql 60 L2_34] := hD.sub [1, 2, 0, 3] (by decide) rfl
          have hgr := zgg_law hgd ha1_37 ha2_38 ha3_39 ha4_40
          have hgb := zgg_b hgr
          refine zv_iload_n S dL_areCoins_68 rfl (lv_at hl 2 rfl) ?_
          refine zv_if_ne (tgt := 76) S (by unfold zR; omega) dL_areCoins_69 (by decide) (fun c_41 => ?_) (fun c_41 => ?_)
          · refine zv_aload_n S dL_areCoins_76 rfl (lv_at hl 3 rfl) ?_
            refine zv_iload_n S dL_areCoins_77 rfl (lv_at hl 2 rfl) ?_
            refine zv_iconst S dL_areCoins_78 ?_
            refine zv_isub S dL_areCoins_79 ?_
            refine zcp_Vi (As := [.int (zI (kr - 1))]) (rest := [.int (zI (mx_35 - (mm_33 : Int)))]) (wr := [zcl G qw 1001 W2, zci G ql 60 L2_34]) (n := 1) S hN hK (hE0.kept hS.2.1) hP hD hS hA hl (n_X4_gap l hl0 G H.size h0 qs sc hr hc hk qw ql n w1_4 (kr - 1) hn hgd (by omega) (by omega)) gL_areCoins_X4_gap rfl ⟨rfl, rfl⟩ (by decide +kernel) rfl ⟨Nat.le_of_ble_eq_true rfl, Nat.le_of_ble_eq_true rfl, (show (cc + 1) + 3 ≤ 700 by omega), (show (ss + 6) + 18 ≤ 4200 by omega)⟩ [0, 1] [2, 3] rfl rfl (by decide) (by decide) (by decide) (ci := 4) rfl rfl rfl (Nat.le_of_ble_eq_true rfl) dL_areCoins_80 rfl (fun r_ u_42 H1 locs1 hp_43 hP1 hD1 hS1 hz1 => ?_)
            obtain ⟨rr_44, w1_45⟩ := u_42
            try dsimp only at hp_43 hP1 hD1
            obtain ⟨rfl, hpo_46⟩ := hp_43
            generalize H1 = H at hP1 hD1 hS1 hz1 ⊢
            generalize locs1 = locs at hS1 ⊢
            have hS := hS1
            have hP : va_P G.1 vwCl [zcl G qw 1001 W2, zci G ql 60 L2_34, (h0, .inr (4, [.ref qs, .int (zI sc), .ref hr, .ref hc, .ref hk])), (hk, .inr (0, [.ref qw, .ref ql, .long (zL (n : Int)), .int (zI w1_45)]))] H := hP1
            have hD : va_D A [zcl G qw 1001 W2, zci G ql 60 L2_34, (h0, .inr (4, [.ref qs, .int (zI sc), .ref hr, .ref hc, .ref hk])), (hk, .inr (0, [.ref qw, .ref ql, .long (zL (n : Int)), .int (zI w1_45)]))] := hD1
            have hP : va_P G.1 vwCl [(h0, .inr (4, [.ref qs, .int (zI sc), .ref hr, .ref hc, .ref hk])), (hk, .inr (0, [.ref qw, .ref ql, .long (zL (n : Int)), .int (zI w1_45)])), zcl G qw 1001 W2, zci G ql 60 L2_34] H := hP.sub [2, 3, 0, 1] rfl
            have hD : va_D A [(h0, .inr (4, [.ref qs, .int (zI sc), .ref hr, .ref hc, .ref hk])), (hk, .inr (0, [.ref qw, .ref ql, .long (zL (n : Int)), .int (zI w1_45)])), zcl G qw 1001 W2, zci G ql 60 L2_34] := hD.sub [2, 3, 0, 1] (by decide) rfl
            have hgp := zgap_law (by omega) hpo_46.2.2.1 hpo_46.2.2.2
            have hrb : 0 ≤ rr_44 ∧ rr_44 ≤ 3600 := (by obtain ⟨g, g1, g2, -⟩ := hgp; omega)
            refine zv_icmp_ne (tgt := 90) S (by unfold zR; omega) (by unfold zR; omega) dL_areCoins_83 (by decide) (fun c_47 => ?_) (fun c_47 => ?_)
            · exact absurd (zgg_1 hgr hkn hgp) c_47
            · refine zv_iconst S dL_areCoins_86 ?_
              refine zv_goto (tgt := 91) S dL_areCoins_87 (by decide) ?_
              refine W.widen (k := (cc + 4)) (n := (ss + 24)) (by omega) (by omega) ?_
              exact JN91 w1_45 L2_34 (cc + 4) (ss + 24) (by omega) (by omega) _ _ hP hD hS _ (lv_sub hl [0, 1, 2, 3] rfl)
          · refine zv_iconst S dL_areCoins_72 ?_
            refine zv_goto (tgt := 83) S dL_areCoins_73 (by decide) ?_
            refine zv_icmp_ne (tgt := 90) S (by unfold zR; omega) (by unfold zR; omega) dL_areCoins_83 (by decide) (fun c_48 => ?_) (fun c_48 => ?_)
            · exact absurd (zgg_0 hgr hkn (by omega)) c_48
            · refine zv_iconst S dL_areCoins_86 ?_
              refine zv_goto (tgt := 91) S dL_areCoins_87 (by decide) ?_
              refine W.widen (k := (cc + 1)) (n := (ss + 6)) (by omega) (by omega) ?_
              exact JN91 w1_4 L2_34 (cc + 1) (ss + 6) (by omega) (by omega) _ _ hP hD hS _ (lv_sub hl [0, 1, 2, 3] rfl)
        · have hsp : 0 < sm := zno_end (t := 201) (by omega) hsm (by rcases hga with z | z; exact absurd z.1 (by omega); exact z.2)
          refine zv_iload_n S dL_areCoins_44 rfl (lv_at hl 1 rfl) ?_
          refine zv_if_le (tgt := 62) S (by unfold zR; omega) dL_areCoins_45 (by decide) (fun c_49 => ?_) (fun c_49 => ?_)
          · exact absurd c_49 (by omega)
          · refine zv_aload_n S dL_areCoins_48 rfl (lv_at hl 3 rfl) ?_
            refine zv_iconst S dL_areCoins_49 ?_
            refine zcp_Vl (As := [.int (zI 0)]) (rest := []) (wr := [zci G ql 60 L0]) (n := 1) S hN hK (hE0.kept hS.2.1) hP hD hS hA hl (n_X4_ways l hl0 G H.size h0 qs sc hr hc hk qw ql n w1_4 W2 0 hn (by omega)) gL_areCoins_X4_ways rfl ⟨rfl, rfl⟩ (by decide +kernel) rfl ⟨Nat.le_of_ble_eq_true rfl, Nat.le_of_ble_eq_true rfl, (show cc + 1 ≤ 700 by omega), (show ss + 6 ≤ 4200 by omega)⟩ [0, 1, 2] [3] rfl rfl (by decide) (by decide) (by decide) (ci := 4) rfl rfl rfl (Nat.le_of_ble_eq_true rfl) dL_areCoins_50 rfl (fun r_ u_50 H1 locs1 hp_51 hP1 hD1 hS1 hz1 => ?_)
            obtain ⟨W1_52, rfl⟩ : ∃ z, z = u_50 := ⟨_, rfl⟩
            try dsimp only at hp_51 hP1 hD1
            obtain ⟨rfl, hpo_53⟩ := hp_51
            generalize H1 = H at hP1 hD1 hS1 hz1 ⊢
            generalize locs1 = locs at hS1 ⊢
            have hS := hS1
            have hP : va_P G.1 vwCl [zci G ql 60 L0, (h0, .inr (4, [.ref qs, .int (zI sc), .ref hr, .ref hc, .ref hk])), (hk, .inr (0, [.ref qw, .ref ql, .long (zL (n : Int)), .int (zI w1_4)])), zcl G qw 1001 W1_52] H := hP1
            have hD : va_D A [zci G ql 60 L0, (h0, .inr (4, [.ref qs, .int (zI sc), .ref hr, .ref hc, .ref hk])), (hk, .inr (0, [.ref qw, .ref ql, .long (zL (n : Int)), .int (zI w1_4)])), zcl G qw 1001 W1_52] := hD1
            have hP : va_P G.1 vwCl [(h0, .inr (4, [.ref qs, .int (zI sc), .ref hr, .ref hc, .ref hk])), (hk, .inr (0, [.ref qw, .ref ql, .long (zL (n : Int)), .int (zI w1_4)])), zcl G qw 1001 W1_52, zci G ql 60 L0] H := hP.sub [1, 2, 3, 0] rfl
            have hD : va_D A [(h0, .inr (4, [.ref qs, .int (zI sc), .ref hr, .ref hc, .ref hk])), (hk, .inr (0, [.ref qw, .ref ql, .long (zL (n : Int)), .int (zI w1_4)])), zcl G qw 1001 W1_52, zci G ql 60 L0] := hD.sub [1, 2, 3, 0] (by decide) rfl
            rw [zws_00]
            refine zv_lconst (v := 1) S dL_areCoins_53 (by decide) ?_
            refine zv_lif_ne (tgt := 62) S (by unfold zS; omega) (by unfold zS; omega) dL_areCoins_54 dL_areCoins_55 (by decide) (fun c_54 => ?_) (fun c_54 => ?_)
            · exact absurd rfl c_54
            · refine zv_iconst S dL_areCoins_58 ?_
              refine zv_goto (tgt := 63) S dL_areCoins_59 (by decide) ?_
              refine W.widen (k := 700) (n := 4200) (by omega) (by omega) ?_
              exact hret _ _ _ _ _ ⟨w1_4, W1_52, L0⟩ dL_areCoins_63 (by first | exact Or.inl rfl | exact Or.inr rfl) rfl (hP.sub [0, 1, 2, 3] rfl) (hD.sub [0, 1, 2, 3] (by decide) rfl) hS
      · refine zv_iload_n S dL_areCoins_16 rfl (lv_at hl 1 rfl) ?_
        refine zv_aload_n S dL_areCoins_17 rfl (lv_at hl 3 rfl) ?_
        refine zv_iload_n S dL_areCoins_18 rfl (lv_at hl 0 rfl) ?_
        refine zcp_Vl (As := [.int (zI v3)]) (rest := [.int (zI sm)]) (wr := [zci G ql 60 L0]) (n := 1) S hN hK (hE0.kept hS.2.1) hP hD hS hA hl (n_X4_ways l hl0 G H.size h0 qs sc hr hc hk qw ql n w1_4 W2 v3 hn (by omega)) gL_areCoins_X4_ways rfl ⟨rfl, rfl⟩ (by decide +kernel) rfl ⟨Nat.le_of_ble_eq_true rfl, Nat.le_of_ble_eq_true rfl, (show cc + 1 ≤ 700 by omega), (show ss + 6 ≤ 4200 by omega)⟩ [0, 1, 2] [3] rfl rfl (by decide) (by decide) (by decide) (ci := 4) rfl rfl rfl (Nat.le_of_ble_eq_true rfl) dL_areCoins_19 rfl (fun r_ u_55 H1 locs1 hp_56 hP1 hD1 hS1 hz1 => ?_)
        obtain ⟨W1_57, rfl⟩ : ∃ z, z = u_55 := ⟨_, rfl⟩
        try dsimp only at hp_56 hP1 hD1
        obtain ⟨rfl, hpo_58⟩ := hp_56
        generalize H1 = H at hP1 hD1 hS1 hz1 ⊢
        generalize locs1 = locs at hS1 ⊢
        have hS := hS1
        have hP : va_P G.1 vwCl [zci G ql 60 L0, (h0, .inr (4, [.ref qs, .int (zI sc), .ref hr, .ref hc, .ref hk])), (hk, .inr (0, [.ref qw, .ref ql, .long (zL (n : Int)), .int (zI w1_4)])), zcl G qw 1001 W1_57] H := hP1
        have hD : va_D A [zci G ql 60 L0, (h0, .inr (4, [.ref qs, .int (zI sc), .ref hr, .ref hc, .ref hk])), (hk, .inr (0, [.ref qw, .ref ql, .long (zL (n : Int)), .int (zI w1_4)])), zcl G qw 1001 W1_57] := hD1
        have hP : va_P G.1 vwCl [(h0, .inr (4, [.ref qs, .int (zI sc), .ref hr, .ref hc, .ref hk])), (hk, .inr (0, [.ref qw, .ref ql, .long (zL (n : Int)), .int (zI w1_4)])), zcl G qw 1001 W1_57, zci G ql 60 L0] H := hP.sub [1, 2, 3, 0] rfl
        have hD : va_D A [(h0, .inr (4, [.ref qs, .int (zI sc), .ref hr, .ref hc, .ref hk])), (hk, .inr (0, [.ref qw, .ref ql, .long (zL (n : Int)), .int (zI w1_4)])), zcl G qw 1001 W1_57, zci G ql 60 L0] := hD.sub [1, 2, 3, 0] (by decide) rfl
        refine zv_lconst (v := 0) S dL_areCoins_22 (by decide) ?_
        refine zv_lif_ne (tgt := 31) S (zws_zS hC (by omega)) (by unfold zS; omega) dL_areCoins_23 dL_areCoins_24 (by decide) (fun c_59 => ?_) (fun c_59 => ?_)
        · refine zv_iconst S dL_areCoins_31 ?_
          refine zv_iadd S dL_areCoins_32 ?_
          refine zv_istore_n (lv' := [(2, .int (zI (sm + 0))), (3, .int (zI v3)), (1, .int (zI kr)), (0, .ref h0)]) S dL_areCoins_33 rfl hl (by decide) rfl (fun ls hl => ?_)
          refine zv_iinc (k0 := 1) (lv' := [(3, .int (zI (v3 + 1))), (2, .int (zI (sm + 0))), (1, .int (zI kr)), (0, .ref h0)]) S dL_areCoins_34 hl rfl (by decide) rfl (fun ls hl => ?_)
          refine zv_goto (tgt := 9) S dL_areCoins_37 (by decide) ?_
          refine W.widen (k := (cc + 1)) (n := (ss + 6)) (by omega) (by omega) ?_
          exact ih9 (t + 1) (v3 + 1) (sm + 0) W1_57 (cc + 1) (ss + 6) (by omega) (by omega) (zsum_f hsm hv3 c_59) (by omega) (by omega) (by omega) _ _ hP hD hS _ (lv_sub hl [0, 1, 2, 3] rfl)
        · refine zv_iconst S dL_areCoins_27 ?_
          refine zv_goto (tgt := 32) S dL_areCoins_28 (by decide) ?_
          refine zv_iadd S dL_areCoins_32 ?_
          refine zv_istore_n (lv' := [(2, .int (zI (sm + 1))), (3, .int (zI v3)), (1, .int (zI kr)), (0, .ref h0)]) S dL_areCoins_33 rfl hl (by decide) rfl (fun ls hl => ?_)
          refine zv_iinc (k0 := 1) (lv' := [(3, .int (zI (v3 + 1))), (2, .int (zI (sm + 1))), (1, .int (zI kr)), (0, .ref h0)]) S dL_areCoins_34 hl rfl (by decide) rfl (fun ls hl => ?_)
          refine zv_goto (tgt := 9) S dL_areCoins_37 (by decide) ?_
          refine W.widen (k := (cc + 1)) (n := (ss + 6)) (by omega) (by omega) ?_
          exact ih9 (t + 1) (v3 + 1) (sm + 1) W1_57 (cc + 1) (ss + 6) (by omega) (by omega) (zsum_t hsm hv3 c_59) (by omega) (by omega) (by omega) _ _ hP hD hS _ (lv_sub hl [0, 1, 2, 3] rfl)
  exact LP9 _ 0 0 0 W0 3 18 rfl (by omega) rfl (by omega) (by omega) (Nat.lt_succ_self _) _ _ hP hD hS _ (lv_sub hl [0, 1, 2, 3] rfl)
