theorem wd_X5_meets_f25 : Cond.fieldLink RX5 25 "PointMillModel" "p" "[J" ∈ wsX5_meets := by decide +kernel
theorem in_X5_meets_X5 : ∀ w ∈ wsX50, w ∈ wsX5_meets := by decide +kernel
theorem wd_X5_meets_f29 : Cond.fieldLink RX5 29 "PointMillModel" "q" "[J" ∈ wsX5_meets := by decide +kernel
theorem wd_X5_meets_f32 : Cond.fieldLink RX5 32 "PointMillModel" "most" "[J" ∈ wsX5_meets := by decide +kernel
theorem wd_X5_meets_f84 : Cond.fieldLink RX5 84 "PointMillModel" "rows" "I" ∈ wsX5_meets := by decide +kernel
theorem wd_X5_meets_f87 : Cond.fieldLink RX5 87 "PointMillModel" "first" "J" ∈ wsX5_meets := by decide +kernel
theorem wd_X5_meets_f91 : Cond.fieldLink RX5 91 "PointMillModel" "last" "J" ∈ wsX5_meets := by decide +kernel
theorem wd_X5_meets_f100 : Cond.fieldLink RX5 100 "PointMillModel" "isReached" "Z" ∈ wsX5_meets := by decide +kernel
theorem wd_X5_meets_kl98 : Cond.constantLong RX5 98 (-1) ∈ wsX5_meets := by decide +kernel
set_option maxHeartbeats 4000000 in
set_option maxRecDepth 100000 in
/-- the model: meets -/
theorem c_X5_meets (l : Launch) (G : zG) (sz : Nat) (h0 : Nat) (th : Int) (sh : Int) (ym : Nat) (ya : Nat) (yb : Nat) (yc : Nat) (ye : Nat) (yp : Nat) (yq : Nat) (yo : Nat) (ro : Int) (fi : Int) (la : Int) (lo : Int) (hi : Int) (co : Int) (yk : Nat) (yw : Nat) (yi : Nat) (ge : Int) (yx : Nat) (yy : Nat) (ir : Int) (P : Nat → Int) (Qu : Nat → Int) (M : Nat → Int) (k : Nat) (ST : Nat → Nat → Prop) (vi : Int) (vj : Int) (i : Nat) (j : Nat) (hvi : vi = (i : Int)) (hvj : vj = (j : Int)) (hkr : ro = (k : Int)) (hk2 : k ≤ 10) (hi0 : i < k) (hj0 : j < k) (hP0 : ∀ j, j < k → -60 ≤ P j ∧ P j ≤ 60) (hQ0 : ∀ j, j < k → -60 ≤ Qu j ∧ Qu j ≤ 60) (hM0 : ∀ j, j < k → -9000 ≤ M j ∧ M j ≤ 9000) (hlk : zlk P Qu M k ST fi la ir) : Met l yX5_meets wsX5_meets ({ frames := 1, cells := 0, slots := 0, locals := 25 }) (va_Pc [.ref h0, .int (zI vi), .int (zI vj)] (zPre G sz [(h0, .inr (5, [.int (zI th), .int (zI sh), .ref ym, .ref ya, .ref yb, .ref yc, .ref ye, .ref yp, .ref yq, .ref yo, .int (zI ro), .long (zL fi), .long (zL la), .long (zL lo), .long (zL hi), .int (zI co), .ref yk, .ref yw, .ref yi, .int (zI ge), .ref yx, .ref yy, .int (zI ir)])), zcl G yp 10 P, zcl G yq 10 Qu, zcl G yo 10 M])) (va_Qv (fun (u : (Int) × (Int) × (Int)) => (zlk P Qu M k (fun a b => ST a b ∨ (a = i ∧ b = j)) u.1 u.2.1 u.2.2)) (fun u => zW G (va_A [(h0, .inr (5, [.int (zI th), .int (zI sh), .ref ym, .ref ya, .ref yb, .ref yc, .ref ye, .ref yp, .ref yq, .ref yo, .int (zI ro), .long (zL fi), .long (zL la), .long (zL lo), .long (zL hi), .int (zI co), .ref yk, .ref yw, .ref yi, .int (zI ge), .ref yx, .ref yy, .int (zI ir)])), zcl G yp 10 P, zcl G yq 10 Qu, zcl G yo 10 M] sz) ((fun (u : (Int) × (Int) × (Int)) => [(h0, .inr (5, [.int (zI th), .int (zI sh), .ref ym, .ref ya, .ref yb, .ref yc, .ref ye, .ref yp, .ref yq, .ref yo, .int (zI ro), .long (zL u.1), .long (zL u.2.1), .long (zL lo), .long (zL hi), .int (zI co), .ref yk, .ref yw, .ref yi, .int (zI ge), .ref yx, .ref yy, .int (zI u.2.2)])), zcl G yp 10 P, zcl G yq 10 Qu, zcl G yo 10 M]) u)) (va_A [(h0, .inr (5, [.int (zI th), .int (zI sh), .ref ym, .ref ya, .ref yb, .ref yc, .ref ye, .ref yp, .ref yq, .ref yo, .int (zI ro), .long (zL fi), .long (zL la), .long (zL lo), .long (zL hi), .int (zI co), .ref yk, .ref yw, .ref yi, .int (zI ge), .ref yx, .ref yy, .int (zI ir)])), zcl G yp 10 P, zcl G yq 10 Qu, zcl G yo 10 M] sz)) 0 0 (va_A [(h0, .inr (5, [.int (zI th), .int (zI sh), .ref ym, .ref ya, .ref yb, .ref yc, .ref ye, .ref yp, .ref yq, .ref yo, .int (zI ro), .long (zL fi), .long (zL la), .long (zL lo), .long (zL hi), .int (zI co), .ref yk, .ref yw, .ref yi, .int (zI ge), .ref yx, .ref yy, .int (zI ir)])), zcl G yp 10 P, zcl G yq 10 Qu, zcl G yo 10 M] sz) := by
  subst hvi
  subst hvj
  refine zM_v (post := fun (u : (Int) × (Int) × (Int)) => (zlk P Qu M k (fun a b => ST a b ∨ (a = i ∧ b = j)) u.1 u.2.1 u.2.2)) (w1 := fun (u : (Int) × (Int) × (Int)) => [(h0, .inr (5, [.int (zI th), .int (zI sh), .ref ym, .ref ya, .ref yb, .ref yc, .ref ye, .ref yp, .ref yq, .ref yo, .int (zI ro), .long (zL u.1), .long (zL u.2.1), .long (zL lo), .long (zL hi), .int (zI co), .ref yk, .ref yw, .ref yi, .int (zI ge), .ref yx, .ref yy, .int (zI u.2.2)])), zcl G yp 10 P, zcl G yq 10 Qu, zcl G yo 10 M]) (plainFor_of_name (by decide)) rfl (Nat.le_of_ble_eq_true rfl) ?_
  intro p e s m below meth c A Q S hN hK hP hD hS hA hret ls hl
  have hl : lv_has ls 17 [(0, .ref h0), (1, .int (zI (i : Int))), (2, .int (zI (j : Int)))] := hl
  have a1 := hP0 i hi0
  have a2 := hQ0 i hi0
  have a3 := hM0 i hi0
  have b1 := hP0 j hj0
  have b2 := hQ0 j hj0
  have b3 := hM0 j hj0
  have g1 := zmulb a1.1 a1.2 b2.1 b2.2
  have g2 := zmulb b1.1 b1.2 a2.1 a2.2
  have g3 := zmulb a3.1 a3.2 b2.1 b2.2
  have g4 := zmulb b3.1 b3.2 a2.1 a2.2
  have g5 := zmulb a1.1 a1.2 b3.1 b3.2
  have g6 := zmulb b1.1 b1.2 a3.1 a3.2
  have kb := zlk_b hlk
  refine zv_aload_n S dX5_meets_0 rfl (lv_at hl 0 rfl) ?_
  refine zv_get (C := RX5) (T := TX5) (N := 23) (ci := 5) (v := .ref yp) S in_X5_meets_X5 hK hP 0 rfl rfl 7 (by decide) wd_X5_meets_f25 rfl rfl dX5_meets_1 ?_
  refine zv_iload_n S dX5_meets_4 rfl (lv_at hl 1 rfl) ?_
  refine zv_lald S hK hP 1 1 rfl rfl i rfl (by omega) (by decide) dX5_meets_5 ?_
  refine zv_aload_n S dX5_meets_6 rfl (lv_at hl 0 rfl) ?_
  refine zv_get (C := RX5) (T := TX5) (N := 23) (ci := 5) (v := .ref yq) S in_X5_meets_X5 hK hP 0 rfl rfl 8 (by decide) wd_X5_meets_f29 rfl rfl dX5_meets_7 ?_
  refine zv_iload_n S dX5_meets_10 rfl (lv_at hl 2 rfl) ?_
  refine zv_lald S hK hP 2 1 rfl rfl j rfl (by omega) (by decide) dX5_meets_11 ?_
  refine zv_lmul S dX5_meets_12 ?_
  refine zv_aload_n S dX5_meets_13 rfl (lv_at hl 0 rfl) ?_
  refine zv_get (C := RX5) (T := TX5) (N := 23) (ci := 5) (v := .ref yp) S in_X5_meets_X5 hK hP 0 rfl rfl 7 (by decide) wd_X5_meets_f25 rfl rfl dX5_meets_14 ?_
  refine zv_iload_n S dX5_meets_17 rfl (lv_at hl 2 rfl) ?_
  refine zv_lald S hK hP 1 1 rfl rfl j rfl (by omega) (by decide) dX5_meets_18 ?_
  refine zv_aload_n S dX5_meets_19 rfl (lv_at hl 0 rfl) ?_
  refine zv_get (C := RX5) (T := TX5) (N := 23) (ci := 5) (v := .ref yq) S in_X5_meets_X5 hK hP 0 rfl rfl 8 (by decide) wd_X5_meets_f29 rfl rfl dX5_meets_20 ?_
  refine zv_iload_n S dX5_meets_23 rfl (lv_at hl 1 rfl) ?_
  refine zv_lald S hK hP 2 1 rfl rfl i rfl (by omega) (by decide) dX5_meets_24 ?_
  refine zv_lmul S dX5_meets_25 ?_
  refine zv_lsub S dX5_meets_26 ?_
  refine zv_lstore_n (lv' := [(3, .long (zL (((P i) * (Qu j)) - ((P j) * (Qu i))))), (0, .ref h0), (1, .int (zI (i : Int))), (2, .int (zI (j : Int)))]) S dX5_meets_27 rfl hl (by decide) rfl (fun ls hl => ?_)
  refine zv_lload_n S dX5_meets_28 rfl (lv_at hl 0 rfl) ?_
  refine zv_lconst (v := 0) S dX5_meets_29 (by decide) ?_
  refine zv_lif_ne (tgt := 35) S (by unfold zS; omega) (by unfold zS; omega) dX5_meets_30 dX5_meets_31 (by decide) (fun c_1 => ?_) (fun c_1 => ?_)
  · have JN48 : ∀ (sg : Int) (hsg : sg = zsg (P i * Qu j - P j * Qu i)) (hs1 : sg = -1 ∨ sg = 1) (H : Heap) (locs : List Loc), va_P G.1 vwCl [(h0, .inr (5, [.int (zI th), .int (zI sh), .ref ym, .ref ya, .ref yb, .ref yc, .ref ye, .ref yp, .ref yq, .ref yo, .int (zI ro), .long (zL fi), .long (zL la), .long (zL lo), .long (zL hi), .int (zI co), .ref yk, .ref yw, .ref yi, .int (zI ge), .ref yx, .ref yy, .int (zI ir)])), zcl G yp 10 P, zcl G yq 10 Qu, zcl G yo 10 M] H → va_D A [(h0, .inr (5, [.int (zI th), .int (zI sh), .ref ym, .ref ya, .ref yb, .ref yc, .ref ye, .ref yp, .ref yq, .ref yo, .int (zI ro), .long (zL fi), .long (zL la), .long (zL lo), .long (zL hi), .int (zI co), .ref yk, .ref yw, .ref yi, .int (zI ge), .ref yx, .ref yy, .int (zI ir)])), zcl G yp 10 P, zcl G yq 10 Qu, zcl G yo 10 M] → va_S A s.heap H locs → ∀ ls : Array Slot, lv_has ls 17 [(3, .long (zL (((P i) * (Qu j)) - ((P j) * (Qu i))))), (0, .ref h0), (1, .int (zI (i : Int))), (2, .int (zI (j : Int)))] → W p l e ({ frames := 1, cells := 0, slots := 0, locals := 25 }) s m ([.ref h0, .int (zI (i : Int)), .int (zI (j : Int))]).toArray below meth c H locs 0 0 Q (F0 m 48 ls [.long (zL sg)]) := by
      intro sg hsg hs1 H locs hP hD hS ls hl
      have xb : -1080000 ≤ (sg * (M i * Qu j - M j * Qu i)) ∧ (sg * (M i * Qu j - M j * Qu i)) ≤ 1080000 := by rcases hs1 with h | h <;> rw [h] <;> omega
      have yb1 : -1080000 ≤ (sg * (P i * M j - P j * M i)) ∧ (sg * (P i * M j - P j * M i)) ≤ 1080000 := by rcases hs1 with h | h <;> rw [h] <;> omega
      have bb := zsg_b hsg (by omega) (by omega)
      refine zv_lstore (lv' := [(5, .long (zL sg)), (3, .long (zL (((P i) * (Qu j)) - ((P j) * (Qu i))))), (0, .ref h0), (1, .int (zI (i : Int))), (2, .int (zI (j : Int)))]) S dX5_meets_48 hl (by decide) rfl (fun ls hl => ?_)
      refine zv_lload S dX5_meets_50 (lv_at hl 0 rfl) ?_
      refine zv_aload_n S dX5_meets_52 rfl (lv_at hl 2 rfl) ?_
      refine zv_get (C := RX5) (T := TX5) (N := 23) (ci := 5) (v := .ref yo) S in_X5_meets_X5 hK hP 0 rfl rfl 9 (by decide) wd_X5_meets_f32 rfl rfl dX5_meets_53 ?_
      refine zv_iload_n S dX5_meets_56 rfl (lv_at hl 3 rfl) ?_
      refine zv_lald S hK hP 3 1 rfl rfl i rfl (by omega) (by decide) dX5_meets_57 ?_
      refine zv_aload_n S dX5_meets_58 rfl (lv_at hl 2 rfl) ?_
      refine zv_get (C := RX5) (T := TX5) (N := 23) (ci := 5) (v := .ref yq) S in_X5_meets_X5 hK hP 0 rfl rfl 8 (by decide) wd_X5_meets_f29 rfl rfl dX5_meets_59 ?_
      refine zv_iload_n S dX5_meets_62 rfl (lv_at hl 4 rfl) ?_
      refine zv_lald S hK hP 2 1 rfl rfl j rfl (by omega) (by decide) dX5_meets_63 ?_
      refine zv_lmul S dX5_meets_64 ?_
      refine zv_aload_n S dX5_meets_65 rfl (lv_at hl 2 rfl) ?_
      refine zv_get (C := RX5) (T := TX5) (N := 23) (ci := 5) (v := .ref yo) S in_X5_meets_X5 hK hP 0 rfl rfl 9 (by decide) wd_X5_meets_f32 rfl rfl dX5_meets_66 ?_
      refine zv_iload_n S dX5_meets_69 rfl (lv_at hl 4 rfl) ?_
      refine zv_lald S hK hP 3 1 rfl rfl j rfl (by omega) (by decide) dX5_meets_70 ?_
      refine zv_aload_n S dX5_meets_71 rfl (lv_at hl 2 rfl) ?_
      refine zv_get (C := RX5) (T := TX5) (N := 23) (ci := 5) (v := .ref yq) S in_X5_meets_X5 hK hP 0 rfl rfl 8 (by decide) wd_X5_meets_f29 rfl rfl dX5_meets_72 ?_
      refine zv_iload_n S dX5_meets_75 rfl (lv_at hl 3 rfl) ?_
      refine zv_lald S hK hP 2 1 rfl rfl i rfl (by omega) (by decide) dX5_meets_76 ?_
      refine zv_lmul S dX5_meets_77 ?_
      refine zv_lsub S dX5_meets_78 ?_
      refine zv_lmul S dX5_meets_79 ?_
      refine zv_lstore (lv' := [(7, .long (zL (sg * (((M i) * (Qu j)) - ((M j) * (Qu i)))))), (5, .long (zL sg)), (3, .long (zL (((P i) * (Qu j)) - ((P j) * (Qu i))))), (0, .ref h0), (1, .int (zI (i : Int))), (2, .int (zI (j : Int)))]) S dX5_meets_80 hl (by decide) rfl (fun ls hl => ?_)
      refine zv_lload S dX5_meets_82 (lv_at hl 1 rfl) ?_
      refine zv_aload_n S dX5_meets_84 rfl (lv_at hl 3 rfl) ?_
      refine zv_get (C := RX5) (T := TX5) (N := 23) (ci := 5) (v := .ref yp) S in_X5_meets_X5 hK hP 0 rfl rfl 7 (by decide) wd_X5_meets_f25 rfl rfl dX5_meets_85 ?_
      refine zv_iload_n S dX5_meets_88 rfl (lv_at hl 4 rfl) ?_
      refine zv_lald S hK hP 1 1 rfl rfl i rfl (by omega) (by decide) dX5_meets_89 ?_
      refine zv_aload_n S dX5_meets_90 rfl (lv_at hl 3 rfl) ?_
      refine zv_get (C := RX5) (T := TX5) (N := 23) (ci := 5) (v := .ref yo) S in_X5_meets_X5 hK hP 0 rfl rfl 9 (by decide) wd_X5_meets_f32 rfl rfl dX5_meets_91 ?_
      refine zv_iload_n S dX5_meets_94 rfl (lv_at hl 5 rfl) ?_
      refine zv_lald S hK hP 3 1 rfl rfl j rfl (by omega) (by decide) dX5_meets_95 ?_
      refine zv_lmul S dX5_meets_96 ?_
      refine zv_aload_n S dX5_meets_97 rfl (lv_at hl 3 rfl) ?_
      refine zv_get (C := RX5) (T := TX5) (N := 23) (ci := 5) (v := .ref yp) S in_X5_meets_X5 hK hP 0 rfl rfl 7 (by decide) wd_X5_meets_f25 rfl rfl dX5_meets_98 ?_
      refine zv_iload_n S dX5_meets_101 rfl (lv_at hl 5 rfl) ?_
      refine zv_lald S hK hP 1 1 rfl rfl j rfl (by omega) (by decide) dX5_meets_102 ?_
      refine zv_aload_n S dX5_meets_103 rfl (lv_at hl 3 rfl) ?_
      refine zv_get (C := RX5) (T := TX5) (N := 23) (ci := 5) (v := .ref yo) S in_X5_meets_X5 hK hP 0 rfl rfl 9 (by decide) wd_X5_meets_f32 rfl rfl dX5_meets_104 ?_
      refine zv_iload_n S dX5_meets_107 rfl (lv_at hl 4 rfl) ?_
      refine zv_lald S hK hP 3 1 rfl rfl i rfl (by omega) (by decide) dX5_meets_108 ?_
      refine zv_lmul S dX5_meets_109 ?_
      refine zv_lsub S dX5_meets_110 ?_
      refine zv_lmul S dX5_meets_111 ?_
      refine zv_lstore (lv' := [(9, .long (zL (sg * (((P i) * (M j)) - ((P j) * (M i)))))), (7, .long (zL (sg * (((M i) * (Qu j)) - ((M j) * (Qu i)))))), (5, .long (zL sg)), (3, .long (zL (((P i) * (Qu j)) - ((P j) * (Qu i))))), (0, .ref h0), (1, .int (zI (i : Int))), (2, .int (zI (j : Int)))]) S dX5_meets_112 hl (by decide) rfl (fun ls hl => ?_)
      refine zv_lload_n S dX5_meets_114 rfl (lv_at hl 3 rfl) ?_
      refine zv_lload S dX5_meets_115 (lv_at hl 2 rfl) ?_
      refine zv_lmul S dX5_meets_117 ?_
      refine zv_lstore_n (lv' := [(3, .long (zL ((((P i) * (Qu j)) - ((P j) * (Qu i))) * sg))), (9, .long (zL (sg * (((P i) * (M j)) - ((P j) * (M i)))))), (7, .long (zL (sg * (((M i) * (Qu j)) - ((M j) * (Qu i)))))), (5, .long (zL sg)), (0, .ref h0), (1, .int (zI (i : Int))), (2, .int (zI (j : Int)))]) S dX5_meets_118 rfl hl (by decide) rfl (fun ls hl => ?_)
      refine zv_iconst S dX5_meets_119 ?_
      refine zv_istore (lv' := [(11, .int (zI 1)), (3, .long (zL ((((P i) * (Qu j)) - ((P j) * (Qu i))) * sg))), (9, .long (zL (sg * (((P i) * (M j)) - ((P j) * (M i)))))), (7, .long (zL (sg * (((M i) * (Qu j)) - ((M j) * (Qu i)))))), (5, .long (zL sg)), (0, .ref h0), (1, .int (zI (i : Int))), (2, .int (zI (j : Int)))]) S dX5_meets_120 hl (by decide) rfl (fun ls hl => ?_)
      refine zv_iconst S dX5_meets_122 ?_
      refine zv_istore (lv' := [(12, .int (zI 0)), (11, .int (zI 1)), (3, .long (zL ((((P i) * (Qu j)) - ((P j) * (Qu i))) * sg))), (9, .long (zL (sg * (((P i) * (M j)) - ((P j) * (M i)))))), (7, .long (zL (sg * (((M i) * (Qu j)) - ((M j) * (Qu i)))))), (5, .long (zL sg)), (0, .ref h0), (1, .int (zI (i : Int))), (2, .int (zI (j : Int)))]) S dX5_meets_123 hl (by decide) rfl (fun ls hl => ?_)
      have LP125 : ∀ (nf : Nat) (q : Nat) (v12 : Int) (is : Int) (hv12 : v12 = (q : Int)) (hck : q ≤ k) (his : is = zb (zvf P Qu M (sg * (M i * Qu j - M j * Qu i)) (sg * (P i * M j - P j * M i)) ((P i * Qu j - P j * Qu i) * sg) q)) (hib : is = 0 ∨ is = 1), (k - q) < nf → ∀ (H : Heap) (locs : List Loc), va_P G.1 vwCl [(h0, .inr (5, [.int (zI th), .int (zI sh), .ref ym, .ref ya, .ref yb, .ref yc, .ref ye, .ref yp, .ref yq, .ref yo, .int (zI ro), .long (zL fi), .long (zL la), .long (zL lo), .long (zL hi), .int (zI co), .ref yk, .ref yw, .ref yi, .int (zI ge), .ref yx, .ref yy, .int (zI ir)])), zcl G yp 10 P, zcl G yq 10 Qu, zcl G yo 10 M] H → va_D A [(h0, .inr (5, [.int (zI th), .int (zI sh), .ref ym, .ref ya, .ref yb, .ref yc, .ref ye, .ref yp, .ref yq, .ref yo, .int (zI ro), .long (zL fi), .long (zL la), .long (zL lo), .long (zL hi), .int (zI co), .ref yk, .ref yw, .ref yi, .int (zI ge), .ref yx, .ref yy, .int (zI ir)])), zcl G yp 10 P, zcl G yq 10 Qu, zcl G yo 10 M] → va_S A s.heap H locs → ∀ ls : Array Slot, lv_has ls 17 [(12, .int (zI v12)), (11, .int (zI is)), (3, .long (zL ((((P i) * (Qu j)) - ((P j) * (Qu i))) * sg))), (9, .long (zL (sg * (((P i) * (M j)) - ((P j) * (M i)))))), (7, .long (zL (sg * (((M i) * (Qu j)) - ((M j) * (Qu i)))))), (5, .long (zL sg)), (0, .ref h0), (1, .int (zI (i : Int))), (2, .int (zI (j : Int)))] → W p l e ({ frames := 1, cells := 0, slots := 0, locals := 25 }) s m ([.ref h0, .int (zI (i : Int)), .int (zI (j : Int))]).toArray below meth c H locs 0 0 Q (F0 m 125 ls []) := by
        intro nf
        induction nf with
        | zero =>
          intro q v12 is hv12 hck his hib hf
          exact absurd hf (Nat.not_lt_zero _)
        | succ nf ih125 =>
          intro q v12 is hv12 hck his hib hf H locs hP hD hS ls hl
          refine zv_iload S dX5_meets_125 (lv_at hl 0 rfl) ?_
          refine zv_aload_n S dX5_meets_127 rfl (lv_at hl 6 rfl) ?_
          refine zv_get (C := RX5) (T := TX5) (N := 23) (ci := 5) (v := .int (zI ro)) S in_X5_meets_X5 hK hP 0 rfl rfl 10 (by decide) wd_X5_meets_f84 rfl rfl dX5_meets_128 ?_
          refine zv_icmp_ge (tgt := 186) S (by unfold zR; omega) (by unfold zR; omega) dX5_meets_131 (by decide) (fun c_2 => ?_) (fun c_2 => ?_)
          · refine zv_iload S dX5_meets_186 (lv_at hl 1 rfl) ?_
            refine zv_if_eq (tgt := 296) S (by unfold zR; omega) dX5_meets_188 (by decide) (fun c_3 => ?_) (fun c_3 => ?_)
            · exact hret _ _ _ _ ⟨fi, la, ir⟩ dX5_meets_296 (show zlk P Qu M k (fun a b => ST a b ∨ (a = i ∧ b = j)) fi la ir from (zlk_no hlk (fun z => absurd (his.trans (zb_t (by have e : q = k := (by omega); rw [e, hsg]; exact z.2))) (by omega)))) (hP.sub [0, 1, 2, 3] rfl) (hD.sub [0, 1, 2, 3] (by decide) rfl) hS
            · have hdd := zdivb (A := 2000000) bb.1 (x := (sg * (M i * Qu j - M j * Qu i))) (by omega) (by omega)
              have hdc0 := zdivb (A := 2000000) bb.1 (x := -(sg * (M i * Qu j - M j * Qu i))) (by omega) (by omega)
              have hdc : -2000000 ≤ (-((-(sg * (M i * Qu j - M j * Qu i))) / ((P i * Qu j - P j * Qu i) * sg))) ∧ (-((-(sg * (M i * Qu j - M j * Qu i))) / ((P i * Qu j - P j * Qu i) * sg))) ≤ 2000000 := by omega
              refine zv_lload S dX5_meets_191 (lv_at hl 4 rfl) ?_
              refine zv_lneg S dX5_meets_193 ?_
              refine zv_lload_n S dX5_meets_194 rfl (lv_at hl 2 rfl) ?_
              refine zc_Sl (As := [.long (zL (-(sg * (((M i) * (Qu j)) - ((M j) * (Qu i)))))), .long (zL ((((P i) * (Qu j)) - ((P j) * (Qu i))) * sg))]) (rest := []) (wr := [(h0, .inr (5, [.int (zI th), .int (zI sh), .ref ym, .ref ya, .ref yb, .ref yc, .ref ye, .ref yp, .ref yq, .ref yo, .int (zI ro), .long (zL fi), .long (zL la), .long (zL lo), .long (zL hi), .int (zI co), .ref yk, .ref yw, .ref yi, .int (zI ge), .ref yx, .ref yy, .int (zI ir)])), zcl G yp 10 P, zcl G yq 10 Qu, zcl G yo 10 M]) (n := 2) S hN hK hP hD hS hA hl (c_X5_floor l G H.size (-(sg * (((M i) * (Qu j)) - ((M j) * (Qu i))))) ((((P i) * (Qu j)) - ((P j) * (Qu i))) * sg) (by omega) (by omega)) gX5_meets_X5_floor rfl ⟨rfl, rfl⟩ (by decide +kernel) rfl ⟨Nat.le_of_ble_eq_true rfl, Nat.le_of_ble_eq_true rfl, Nat.le_of_ble_eq_true rfl, Nat.le_of_ble_eq_true rfl⟩ [] [0, 1, 2, 3] rfl rfl (by decide) (by decide) (by decide) (Nat.le_of_ble_eq_true rfl) dX5_meets_195 rfl (fun r_ u_4 H1 locs1 hp_5 hP1 hD1 hS1 hz1 => ?_)
              try dsimp only at hp_5 hP1 hD1
              subst hp_5
              generalize H1 = H at hP1 hD1 hS1 hz1 ⊢
              generalize locs1 = locs at hS1 ⊢
              have hS := hS1
              have hP : va_P G.1 vwCl [(h0, .inr (5, [.int (zI th), .int (zI sh), .ref ym, .ref ya, .ref yb, .ref yc, .ref ye, .ref yp, .ref yq, .ref yo, .int (zI ro), .long (zL fi), .long (zL la), .long (zL lo), .long (zL hi), .int (zI co), .ref yk, .ref yw, .ref yi, .int (zI ge), .ref yx, .ref yy, .int (zI ir)])), zcl G yp 10 P, zcl G yq 10 Qu, zcl G yo 10 M] H := hP1
              have hD : va_D A [(h0, .inr (5, [.int (zI th), .int (zI sh), .ref ym, .ref ya, .ref yb, .ref yc, .ref ye, .ref yp, .ref yq, .ref yo, .int (zI ro), .long (zL fi), .long (zL la), .long (zL lo), .long (zL hi), .int (zI co), .ref yk, .ref yw, .ref yi, .int (zI ge), .ref yx, .ref yy, .int (zI ir)])), zcl G yp 10 P, zcl G yq 10 Qu, zcl G yo 10 M] := hD1
              refine zv_lneg S dX5_meets_198 ?_
              refine zv_lstore (lv' := [(12, .long (zL (-((-(sg * (((M i) * (Qu j)) - ((M j) * (Qu i))))) / ((((P i) * (Qu j)) - ((P j) * (Qu i))) * sg))))), (11, .int (zI is)), (3, .long (zL ((((P i) * (Qu j)) - ((P j) * (Qu i))) * sg))), (9, .long (zL (sg * (((P i) * (M j)) - ((P j) * (M i)))))), (7, .long (zL (sg * (((M i) * (Qu j)) - ((M j) * (Qu i)))))), (5, .long (zL sg)), (0, .ref h0), (1, .int (zI (i : Int))), (2, .int (zI (j : Int)))]) S dX5_meets_199 hl (by decide) rfl (fun ls hl => ?_)
              refine zv_lload S dX5_meets_201 (lv_at hl 4 rfl) ?_
              refine zv_lload_n S dX5_meets_203 rfl (lv_at hl 2 rfl) ?_
              refine zc_Sl (As := [.long (zL (sg * (((M i) * (Qu j)) - ((M j) * (Qu i))))), .long (zL ((((P i) * (Qu j)) - ((P j) * (Qu i))) * sg))]) (rest := []) (wr := [(h0, .inr (5, [.int (zI th), .int (zI sh), .ref ym, .ref ya, .ref yb, .ref yc, .ref ye, .ref yp, .ref yq, .ref yo, .int (zI ro), .long (zL fi), .long (zL la), .long (zL lo), .long (zL hi), .int (zI co), .ref yk, .ref yw, .ref yi, .int (zI ge), .ref yx, .ref yy, .int (zI ir)])), zcl G yp 10 P, zcl G yq 10 Qu, zcl G yo 10 M]) (n := 2) S hN hK hP hD hS hA hl (c_X5_floor l G H.size (sg * (((M i) * (Qu j)) - ((M j) * (Qu i)))) ((((P i) * (Qu j)) - ((P j) * (Qu i))) * sg) (by omega) (by omega)) gX5_meets_X5_floor rfl ⟨rfl, rfl⟩ (by decide +kernel) rfl ⟨Nat.le_of_ble_eq_true rfl, Nat.le_of_ble_eq_true rfl, Nat.le_of_ble_eq_true rfl, Nat.le_of_ble_eq_true rfl⟩ [] [0, 1, 2, 3] rfl rfl (by decide) (by decide) (by decide) (Nat.le_of_ble_eq_true rfl) dX5_meets_204 rfl (fun r_ u_6 H1 locs1 hp_7 hP1 hD1 hS1 hz1 => ?_)
              try dsimp only at hp_7 hP1 hD1
              subst hp_7
              generalize H1 = H at hP1 hD1 hS1 hz1 ⊢
              generalize locs1 = locs at hS1 ⊢
              have hS := hS1
              have hP : va_P G.1 vwCl [(h0, .inr (5, [.int (zI th), .int (zI sh), .ref ym, .ref ya, .ref yb, .ref yc, .ref ye, .ref yp, .ref yq, .ref yo, .int (zI ro), .long (zL fi), .long (zL la), .long (zL lo), .long (zL hi), .int (zI co), .ref yk, .ref yw, .ref yi, .int (zI ge), .ref yx, .ref yy, .int (zI ir)])), zcl G yp 10 P, zcl G yq 10 Qu, zcl G yo 10 M] H := hP1
              have hD : va_D A [(h0, .inr (5, [.int (zI th), .int (zI sh), .ref ym, .ref ya, .ref yb, .ref yc, .ref ye, .ref yp, .ref yq, .ref yo, .int (zI ro), .long (zL fi), .long (zL la), .long (zL lo), .long (zL hi), .int (zI co), .ref yk, .ref yw, .ref yi, .int (zI ge), .ref yx, .ref yy, .int (zI ir)])), zcl G yp 10 P, zcl G yq 10 Qu, zcl G yo 10 M] := hD1
              refine zv_lstore (lv' := [(14, .long (zL ((sg * (((M i) * (Qu j)) - ((M j) * (Qu i)))) / ((((P i) * (Qu j)) - ((P j) * (Qu i))) * sg)))), (12, .long (zL (-((-(sg * (((M i) * (Qu j)) - ((M j) * (Qu i))))) / ((((P i) * (Qu j)) - ((P j) * (Qu i))) * sg))))), (11, .int (zI is)), (3, .long (zL ((((P i) * (Qu j)) - ((P j) * (Qu i))) * sg))), (9, .long (zL (sg * (((P i) * (M j)) - ((P j) * (M i)))))), (7, .long (zL (sg * (((M i) * (Qu j)) - ((M j) * (Qu i)))))), (5, .long (zL sg)), (0, .ref h0), (1, .int (zI (i : Int))), (2, .int (zI (j : Int)))]) S dX5_meets_207 hl (by decide) rfl (fun ls hl => ?_)
              have JN233 : ∀ (nw : Int) (hnw : nw = 1 ∧ la < fi ∧ ir = 0 ∨ nw = 0 ∧ ¬ (la < fi ∧ ir = 0)) (H : Heap) (locs : List Loc), va_P G.1 vwCl [(h0, .inr (5, [.int (zI th), .int (zI sh), .ref ym, .ref ya, .ref yb, .ref yc, .ref ye, .ref yp, .ref yq, .ref yo, .int (zI ro), .long (zL fi), .long (zL la), .long (zL lo), .long (zL hi), .int (zI co), .ref yk, .ref yw, .ref yi, .int (zI ge), .ref yx, .ref yy, .int (zI ir)])), zcl G yp 10 P, zcl G yq 10 Qu, zcl G yo 10 M] H → va_D A [(h0, .inr (5, [.int (zI th), .int (zI sh), .ref ym, .ref ya, .ref yb, .ref yc, .ref ye, .ref yp, .ref yq, .ref yo, .int (zI ro), .long (zL fi), .long (zL la), .long (zL lo), .long (zL hi), .int (zI co), .ref yk, .ref yw, .ref yi, .int (zI ge), .ref yx, .ref yy, .int (zI ir)])), zcl G yp 10 P, zcl G yq 10 Qu, zcl G yo 10 M] → va_S A s.heap H locs → ∀ ls : Array Slot, lv_has ls 17 [(14, .long (zL ((sg * (((M i) * (Qu j)) - ((M j) * (Qu i)))) / ((((P i) * (Qu j)) - ((P j) * (Qu i))) * sg)))), (12, .long (zL (-((-(sg * (((M i) * (Qu j)) - ((M j) * (Qu i))))) / ((((P i) * (Qu j)) - ((P j) * (Qu i))) * sg))))), (11, .int (zI is)), (3, .long (zL ((((P i) * (Qu j)) - ((P j) * (Qu i))) * sg))), (9, .long (zL (sg * (((P i) * (M j)) - ((P j) * (M i)))))), (7, .long (zL (sg * (((M i) * (Qu j)) - ((M j) * (Qu i)))))), (5, .long (zL sg)), (0, .ref h0), (1, .int (zI (i : Int))), (2, .int (zI (j : Int)))] → W p l e ({ frames := 1, cells := 0, slots := 0, locals := 25 }) s m ([.ref h0, .int (zI (i : Int)), .int (zI (j : Int))]).toArray below meth c H locs 0 0 Q (F0 m 233 ls [.int (zI nw)]) := by
                intro nw hnw H locs hP hD hS ls hl
                refine zv_istore (lv' := [(16, .int (zI nw)), (14, .long (zL ((sg * (((M i) * (Qu j)) - ((M j) * (Qu i)))) / ((((P i) * (Qu j)) - ((P j) * (Qu i))) * sg)))), (12, .long (zL (-((-(sg * (((M i) * (Qu j)) - ((M j) * (Qu i))))) / ((((P i) * (Qu j)) - ((P j) * (Qu i))) * sg))))), (11, .int (zI is)), (3, .long (zL ((((P i) * (Qu j)) - ((P j) * (Qu i))) * sg))), (9, .long (zL (sg * (((P i) * (M j)) - ((P j) * (M i)))))), (7, .long (zL (sg * (((M i) * (Qu j)) - ((M j) * (Qu i)))))), (5, .long (zL sg)), (0, .ref h0), (1, .int (zI (i : Int))), (2, .int (zI (j : Int)))]) S dX5_meets_233 hl (by decide) rfl (fun ls hl => ?_)
                have JN260 : ∀ (nf1 : Int) (hnf1 : nf1 = (-((-(sg * (M i * Qu j - M j * Qu i))) / ((P i * Qu j - P j * Qu i) * sg))) ∧ (nw ≠ 0 ∨ (-((-(sg * (M i * Qu j - M j * Qu i))) / ((P i * Qu j - P j * Qu i) * sg))) < fi) ∨ nf1 = fi ∧ nw = 0 ∧ ¬ (-((-(sg * (M i * Qu j - M j * Qu i))) / ((P i * Qu j - P j * Qu i) * sg))) < fi) (H : Heap) (locs : List Loc), va_P G.1 vwCl [(h0, .inr (5, [.int (zI th), .int (zI sh), .ref ym, .ref ya, .ref yb, .ref yc, .ref ye, .ref yp, .ref yq, .ref yo, .int (zI ro), .long (zL fi), .long (zL la), .long (zL lo), .long (zL hi), .int (zI co), .ref yk, .ref yw, .ref yi, .int (zI ge), .ref yx, .ref yy, .int (zI ir)])), zcl G yp 10 P, zcl G yq 10 Qu, zcl G yo 10 M] H → va_D A [(h0, .inr (5, [.int (zI th), .int (zI sh), .ref ym, .ref ya, .ref yb, .ref yc, .ref ye, .ref yp, .ref yq, .ref yo, .int (zI ro), .long (zL fi), .long (zL la), .long (zL lo), .long (zL hi), .int (zI co), .ref yk, .ref yw, .ref yi, .int (zI ge), .ref yx, .ref yy, .int (zI ir)])), zcl G yp 10 P, zcl G yq 10 Qu, zcl G yo 10 M] → va_S A s.heap H locs → ∀ ls : Array Slot, lv_has ls 17 [(16, .int (zI nw)), (14, .long (zL ((sg * (((M i) * (Qu j)) - ((M j) * (Qu i)))) / ((((P i) * (Qu j)) - ((P j) * (Qu i))) * sg)))), (12, .long (zL (-((-(sg * (((M i) * (Qu j)) - ((M j) * (Qu i))))) / ((((P i) * (Qu j)) - ((P j) * (Qu i))) * sg))))), (11, .int (zI is)), (3, .long (zL ((((P i) * (Qu j)) - ((P j) * (Qu i))) * sg))), (9, .long (zL (sg * (((P i) * (M j)) - ((P j) * (M i)))))), (7, .long (zL (sg * (((M i) * (Qu j)) - ((M j) * (Qu i)))))), (5, .long (zL sg)), (0, .ref h0), (1, .int (zI (i : Int))), (2, .int (zI (j : Int)))] → W p l e ({ frames := 1, cells := 0, slots := 0, locals := 25 }) s m ([.ref h0, .int (zI (i : Int)), .int (zI (j : Int))]).toArray below meth c H locs 0 0 Q (F0 m 260 ls [.long (zL nf1), .ref h0]) := by
                  intro nf1 hnf1 H locs hP hD hS ls hl
                  refine zv_put (C := RX5) (T := TX5) (N := 23) (ci := 5) (v := .long (zL nf1)) S in_X5_meets_X5 tyX5 tyX5_ok nmX5 hK hP hD hS 0 rfl rfl 11 (by decide) wd_X5_meets_f87 rfl rfl rfl rfl (Nat.le_of_ble_eq_true rfl) dX5_meets_260 (fun H locs hP hD hS => ?_)
                  have hP : va_P G.1 vwCl [(h0, .inr (5, [.int (zI th), .int (zI sh), .ref ym, .ref ya, .ref yb, .ref yc, .ref ye, .ref yp, .ref yq, .ref yo, .int (zI ro), .long (zL nf1), .long (zL la), .long (zL lo), .long (zL hi), .int (zI co), .ref yk, .ref yw, .ref yi, .int (zI ge), .ref yx, .ref yy, .int (zI ir)])), zcl G yp 10 P, zcl G yq 10 Qu, zcl G yo 10 M] H := hP
                  have hD : va_D A [(h0, .inr (5, [.int (zI th), .int (zI sh), .ref ym, .ref ya, .ref yb, .ref yc, .ref ye, .ref yp, .ref yq, .ref yo, .int (zI ro), .long (zL nf1), .long (zL la), .long (zL lo), .long (zL hi), .int (zI co), .ref yk, .ref yw, .ref yi, .int (zI ge), .ref yx, .ref yy, .int (zI ir)])), zcl G yp 10 P, zcl G yq 10 Qu, zcl G yo 10 M] := hD
                  have JN288 : ∀ (nl1 : Int) (hnl1 : nl1 = ((sg * (M i * Qu j - M j * Qu i)) / ((P i * Qu j - P j * Qu i) * sg)) ∧ (nw ≠ 0 ∨ la < ((sg * (M i * Qu j - M j * Qu i)) / ((P i * Qu j - P j * Qu i) * sg))) ∨ nl1 = la ∧ nw = 0 ∧ ¬ la < ((sg * (M i * Qu j - M j * Qu i)) / ((P i * Qu j - P j * Qu i) * sg))) (H : Heap) (locs : List Loc), va_P G.1 vwCl [(h0, .inr (5, [.int (zI th), .int (zI sh), .ref ym, .ref ya, .ref yb, .ref yc, .ref ye, .ref yp, .ref yq, .ref yo, .int (zI ro), .long (zL nf1), .long (zL la), .long (zL lo), .long (zL hi), .int (zI co), .ref yk, .ref yw, .ref yi, .int (zI ge), .ref yx, .ref yy, .int (zI ir)])), zcl G yp 10 P, zcl G yq 10 Qu, zcl G yo 10 M] H → va_D A [(h0, .inr (5, [.int (zI th), .int (zI sh), .ref ym, .ref ya, .ref yb, .ref yc, .ref ye, .ref yp, .ref yq, .ref yo, .int (zI ro), .long (zL nf1), .long (zL la), .long (zL lo), .long (zL hi), .int (zI co), .ref yk, .ref yw, .ref yi, .int (zI ge), .ref yx, .ref yy, .int (zI ir)])), zcl G yp 10 P, zcl G yq 10 Qu, zcl G yo 10 M] → va_S A s.heap H locs → ∀ ls : Array Slot, lv_has ls 17 [(16, .int (zI nw)), (14, .long (zL ((sg * (((M i) * (Qu j)) - ((M j) * (Qu i)))) / ((((P i) * (Qu j)) - ((P j) * (Qu i))) * sg)))), (12, .long (zL (-((-(sg * (((M i) * (Qu j)) - ((M j) * (Qu i))))) / ((((P i) * (Qu j)) - ((P j) * (Qu i))) * sg))))), (11, .int (zI is)), (3, .long (zL ((((P i) * (Qu j)) - ((P j) * (Qu i))) * sg))), (9, .long (zL (sg * (((P i) * (M j)) - ((P j) * (M i)))))), (7, .long (zL (sg * (((M i) * (Qu j)) - ((M j) * (Qu i)))))), (5, .long (zL sg)), (0, .ref h0), (1, .int (zI (i : Int))), (2, .int (zI (j : Int)))] → W p l e ({ frames := 1, cells := 0, slots := 0, locals := 25 }) s m ([.ref h0, .int (zI (i : Int)), .int (zI (j : Int))]).toArray below meth c H locs 0 0 Q (F0 m 288 ls [.long (zL nl1), .ref h0]) := by
                    intro nl1 hnl1 H locs hP hD hS ls hl
                    refine zv_put (C := RX5) (T := TX5) (N := 23) (ci := 5) (v := .long (zL nl1)) S in_X5_meets_X5 tyX5 tyX5_ok nmX5 hK hP hD hS 0 rfl rfl 12 (by decide) wd_X5_meets_f91 rfl rfl rfl rfl (Nat.le_of_ble_eq_true rfl) dX5_meets_288 (fun H locs hP hD hS => ?_)
                    have hP : va_P G.1 vwCl [(h0, .inr (5, [.int (zI th), .int (zI sh), .ref ym, .ref ya, .ref yb, .ref yc, .ref ye, .ref yp, .ref yq, .ref yo, .int (zI ro), .long (zL nf1), .long (zL nl1), .long (zL lo), .long (zL hi), .int (zI co), .ref yk, .ref yw, .ref yi, .int (zI ge), .ref yx, .ref yy, .int (zI ir)])), zcl G yp 10 P, zcl G yq 10 Qu, zcl G yo 10 M] H := hP
                    have hD : va_D A [(h0, .inr (5, [.int (zI th), .int (zI sh), .ref ym, .ref ya, .ref yb, .ref yc, .ref ye, .ref yp, .ref yq, .ref yo, .int (zI ro), .long (zL nf1), .long (zL nl1), .long (zL lo), .long (zL hi), .int (zI co), .ref yk, .ref yw, .ref yi, .int (zI ge), .ref yx, .ref yy, .int (zI ir)])), zcl G yp 10 P, zcl G yq 10 Qu, zcl G yo 10 M] := hD
                    refine zv_aload_n S dX5_meets_291 rfl (lv_at hl 8 rfl) ?_
                    refine zv_iconst S dX5_meets_292 ?_
                    refine zv_put (C := RX5) (T := TX5) (N := 23) (ci := 5) (v := .int (zI 1)) S in_X5_meets_X5 tyX5 tyX5_ok nmX5 hK hP hD hS 0 rfl rfl 22 (by decide) wd_X5_meets_f100 rfl rfl rfl rfl (Nat.le_of_ble_eq_true rfl) dX5_meets_293 (fun H locs hP hD hS => ?_)
                    have hP : va_P G.1 vwCl [(h0, .inr (5, [.int (zI th), .int (zI sh), .ref ym, .ref ya, .ref yb, .ref yc, .ref ye, .ref yp, .ref yq, .ref yo, .int (zI ro), .long (zL nf1), .long (zL nl1), .long (zL lo), .long (zL hi), .int (zI co), .ref yk, .ref yw, .ref yi, .int (zI ge), .ref yx, .ref yy, .int (zI 1)])), zcl G yp 10 P, zcl G yq 10 Qu, zcl G yo 10 M] H := hP
                    have hD : va_D A [(h0, .inr (5, [.int (zI th), .int (zI sh), .ref ym, .ref ya, .ref yb, .ref yc, .ref ye, .ref yp, .ref yq, .ref yo, .int (zI ro), .long (zL nf1), .long (zL nl1), .long (zL lo), .long (zL hi), .int (zI co), .ref yk, .ref yw, .ref yi, .int (zI ge), .ref yx, .ref yy, .int (zI 1)])), zcl G yp 10 P, zcl G yq 10 Qu, zcl G yo 10 M] := hD
                    exact hret _ _ _ _ ⟨nf1, nl1, 1⟩ dX5_meets_296 (show zlk P Qu M k (fun a b => ST a b ∨ (a = i ∧ b = j)) nf1 nl1 1 from (zlk_yes hlk hsg hdc hdd hnw hnf1 hnl1)) (hP.sub [0, 1, 2, 3] rfl) (hD.sub [0, 1, 2, 3] (by decide) rfl) hS
                  refine zv_aload_n S dX5_meets_263 rfl (lv_at hl 8 rfl) ?_
                  refine zv_iload S dX5_meets_264 (lv_at hl 0 rfl) ?_
                  refine zv_if_ne (tgt := 279) S (by unfold zR; omega) dX5_meets_266 (by decide) (fun c_8 => ?_) (fun c_8 => ?_)
                  · refine zv_lload S dX5_meets_279 (lv_at hl 1 rfl) ?_
                    refine zv_goto (tgt := 288) S dX5_meets_281 (by decide) ?_
                    exact JN288 ((sg * (((M i) * (Qu j)) - ((M j) * (Qu i)))) / ((((P i) * (Qu j)) - ((P j) * (Qu i))) * sg)) (by omega) _ _ hP hD hS _ (lv_sub hl [0, 1, 2, 3, 4, 5, 6, 7, 8, 9, 10] rfl)
                  · refine zv_lload S dX5_meets_269 (lv_at hl 1 rfl) ?_
                    refine zv_aload_n S dX5_meets_271 rfl (lv_at hl 8 rfl) ?_
                    refine zv_get (C := RX5) (T := TX5) (N := 23) (ci := 5) (v := .long (zL la)) S in_X5_meets_X5 hK hP 0 rfl rfl 12 (by decide) wd_X5_meets_f91 rfl rfl dX5_meets_272 ?_
                    refine zv_lif_le (tgt := 284) S (by unfold zS; omega) (by unfold zS; omega) dX5_meets_275 dX5_meets_276 (by decide) (fun c_9 => ?_) (fun c_9 => ?_)
                    · refine zv_aload_n S dX5_meets_284 rfl (lv_at hl 8 rfl) ?_
                      refine zv_get (C := RX5) (T := TX5) (N := 23) (ci := 5) (v := .long (zL la)) S in_X5_meets_X5 hK hP 0 rfl rfl 12 (by decide) wd_X5_meets_f91 rfl rfl dX5_meets_285 ?_
                      exact JN288 la (by omega) _ _ hP hD hS _ (lv_sub hl [0, 1, 2, 3, 4, 5, 6, 7, 8, 9, 10] rfl)
                    · refine zv_lload S dX5_meets_279 (lv_at hl 1 rfl) ?_
                      refine zv_goto (tgt := 288) S dX5_meets_281 (by decide) ?_
                      exact JN288 ((sg * (((M i) * (Qu j)) - ((M j) * (Qu i)))) / ((((P i) * (Qu j)) - ((P j) * (Qu i))) * sg)) (by omega) _ _ hP hD hS _ (lv_sub hl [0, 1, 2, 3, 4, 5, 6, 7, 8, 9, 10] rfl)
                refine zv_aload_n S dX5_meets_235 rfl (lv_at hl 8 rfl) ?_
                refine zv_iload S dX5_meets_236 (lv_at hl 0 rfl) ?_
                refine zv_if_ne (tgt := 251) S (by unfold zR; omega) dX5_meets_238 (by decide) (fun c_10 => ?_) (fun c_10 => ?_)
                · refine zv_lload S dX5_meets_251 (lv_at hl 2 rfl) ?_
                  refine zv_goto (tgt := 260) S dX5_meets_253 (by decide) ?_
                  exact JN260 (-((-(sg * (((M i) * (Qu j)) - ((M j) * (Qu i))))) / ((((P i) * (Qu j)) - ((P j) * (Qu i))) * sg))) (by omega) _ _ hP hD hS _ (lv_sub hl [0, 1, 2, 3, 4, 5, 6, 7, 8, 9, 10] rfl)
                · refine zv_lload S dX5_meets_241 (lv_at hl 2 rfl) ?_
                  refine zv_aload_n S dX5_meets_243 rfl (lv_at hl 8 rfl) ?_
                  refine zv_get (C := RX5) (T := TX5) (N := 23) (ci := 5) (v := .long (zL fi)) S in_X5_meets_X5 hK hP 0 rfl rfl 11 (by decide) wd_X5_meets_f87 rfl rfl dX5_meets_244 ?_
                  refine zv_lif_ge (tgt := 256) S (by unfold zS; omega) (by unfold zS; omega) dX5_meets_247 dX5_meets_248 (by decide) (fun c_11 => ?_) (fun c_11 => ?_)
                  · refine zv_aload_n S dX5_meets_256 rfl (lv_at hl 8 rfl) ?_
                    refine zv_get (C := RX5) (T := TX5) (N := 23) (ci := 5) (v := .long (zL fi)) S in_X5_meets_X5 hK hP 0 rfl rfl 11 (by decide) wd_X5_meets_f87 rfl rfl dX5_meets_257 ?_
                    exact JN260 fi (by omega) _ _ hP hD hS _ (lv_sub hl [0, 1, 2, 3, 4, 5, 6, 7, 8, 9, 10] rfl)
                  · refine zv_lload S dX5_meets_251 (lv_at hl 2 rfl) ?_
                    refine zv_goto (tgt := 260) S dX5_meets_253 (by decide) ?_
                    exact JN260 (-((-(sg * (((M i) * (Qu j)) - ((M j) * (Qu i))))) / ((((P i) * (Qu j)) - ((P j) * (Qu i))) * sg))) (by omega) _ _ hP hD hS _ (lv_sub hl [0, 1, 2, 3, 4, 5, 6, 7, 8, 9, 10] rfl)
              refine zv_aload_n S dX5_meets_209 rfl (lv_at hl 7 rfl) ?_
              refine zv_get (C := RX5) (T := TX5) (N := 23) (ci := 5) (v := .long (zL fi)) S in_X5_meets_X5 hK hP 0 rfl rfl 11 (by decide) wd_X5_meets_f87 rfl rfl dX5_meets_210 ?_
              refine zv_aload_n S dX5_meets_213 rfl (lv_at hl 7 rfl) ?_
              refine zv_get (C := RX5) (T := TX5) (N := 23) (ci := 5) (v := .long (zL la)) S in_X5_meets_X5 hK hP 0 rfl rfl 12 (by decide) wd_X5_meets_f91 rfl rfl dX5_meets_214 ?_
              refine zv_lif_le (tgt := 232) S (by unfold zS; omega) (by unfold zS; omega) dX5_meets_217 dX5_meets_218 (by decide) (fun c_12 => ?_) (fun c_12 => ?_)
              · refine zv_iconst S dX5_meets_232 ?_
                exact JN233 0 (by omega) _ _ hP hD hS _ (lv_sub hl [0, 1, 2, 3, 4, 5, 6, 7, 8, 9] rfl)
              · refine zv_aload_n S dX5_meets_221 rfl (lv_at hl 7 rfl) ?_
                refine zv_get (C := RX5) (T := TX5) (N := 23) (ci := 5) (v := .int (zI ir)) S in_X5_meets_X5 hK hP 0 rfl rfl 22 (by decide) wd_X5_meets_f100 rfl rfl dX5_meets_222 ?_
                refine zv_if_ne (tgt := 232) S (by unfold zR; omega) dX5_meets_225 (by decide) (fun c_13 => ?_) (fun c_13 => ?_)
                · refine zv_iconst S dX5_meets_232 ?_
                  exact JN233 0 (by omega) _ _ hP hD hS _ (lv_sub hl [0, 1, 2, 3, 4, 5, 6, 7, 8, 9] rfl)
                · refine zv_iconst S dX5_meets_228 ?_
                  refine zv_goto (tgt := 233) S dX5_meets_229 (by decide) ?_
                  exact JN233 1 (by omega) _ _ hP hD hS _ (lv_sub hl [0, 1, 2, 3, 4, 5, 6, 7, 8, 9] rfl)
          · have JN178 : ∀ (is2 : Int) (hj : is2 = zb (is ≠ 0 ∧ P q * (sg * (M i * Qu j - M j * Qu i)) + Qu q * (sg * (P i * M j - P j * M i)) ≤ M q * ((P i * Qu j - P j * Qu i) * sg))) (hj01 : is2 = 0 ∨ is2 = 1) (H : Heap) (locs : List Loc), va_P G.1 vwCl [(h0, .inr (5, [.int (zI th), .int (zI sh), .ref ym, .ref ya, .ref yb, .ref yc, .ref ye, .ref yp, .ref yq, .ref yo, .int (zI ro), .long (zL fi), .long (zL la), .long (zL lo), .long (zL hi), .int (zI co), .ref yk, .ref yw, .ref yi, .int (zI ge), .ref yx, .ref yy, .int (zI ir)])), zcl G yp 10 P, zcl G yq 10 Qu, zcl G yo 10 M] H → va_D A [(h0, .inr (5, [.int (zI th), .int (zI sh), .ref ym, .ref ya, .ref yb, .ref yc, .ref ye, .ref yp, .ref yq, .ref yo, .int (zI ro), .long (zL fi), .long (zL la), .long (zL lo), .long (zL hi), .int (zI co), .ref yk, .ref yw, .ref yi, .int (zI ge), .ref yx, .ref yy, .int (zI ir)])), zcl G yp 10 P, zcl G yq 10 Qu, zcl G yo 10 M] → va_S A s.heap H locs → ∀ ls : Array Slot, lv_has ls 17 [(12, .int (zI v12)), (11, .int (zI is)), (3, .long (zL ((((P i) * (Qu j)) - ((P j) * (Qu i))) * sg))), (9, .long (zL (sg * (((P i) * (M j)) - ((P j) * (M i)))))), (7, .long (zL (sg * (((M i) * (Qu j)) - ((M j) * (Qu i)))))), (5, .long (zL sg)), (0, .ref h0), (1, .int (zI (i : Int))), (2, .int (zI (j : Int)))] → W p l e ({ frames := 1, cells := 0, slots := 0, locals := 25 }) s m ([.ref h0, .int (zI (i : Int)), .int (zI (j : Int))]).toArray below meth c H locs 0 0 Q (F0 m 178 ls [.int (zI is2)]) := by
              intro is2 hj hj01 H locs hP hD hS ls hl
              refine zv_istore (lv' := [(11, .int (zI is2)), (12, .int (zI v12)), (3, .long (zL ((((P i) * (Qu j)) - ((P j) * (Qu i))) * sg))), (9, .long (zL (sg * (((P i) * (M j)) - ((P j) * (M i)))))), (7, .long (zL (sg * (((M i) * (Qu j)) - ((M j) * (Qu i)))))), (5, .long (zL sg)), (0, .ref h0), (1, .int (zI (i : Int))), (2, .int (zI (j : Int)))]) S dX5_meets_178 hl (by decide) rfl (fun ls hl => ?_)
              refine zv_iinc (k0 := 1) (lv' := [(12, .int (zI (v12 + 1))), (11, .int (zI is2)), (3, .long (zL ((((P i) * (Qu j)) - ((P j) * (Qu i))) * sg))), (9, .long (zL (sg * (((P i) * (M j)) - ((P j) * (M i)))))), (7, .long (zL (sg * (((M i) * (Qu j)) - ((M j) * (Qu i)))))), (5, .long (zL sg)), (0, .ref h0), (1, .int (zI (i : Int))), (2, .int (zI (j : Int)))]) S dX5_meets_180 hl rfl (by decide) rfl (fun ls hl => ?_)
              refine zv_goto (tgt := 125) S dX5_meets_183 (by decide) ?_
              exact ih125 (q + 1) (v12 + 1) is2 (by omega) (by omega) (zvf_s his hj) hj01 (by omega) _ _ hP hD hS _ (lv_sub hl [0, 1, 2, 3, 4, 5, 6, 7, 8] rfl)
            refine zv_iload S dX5_meets_134 (lv_at hl 1 rfl) ?_
            refine zv_if_eq (tgt := 177) S (by unfold zR; omega) dX5_meets_136 (by decide) (fun c_14 => ?_) (fun c_14 => ?_)
            · refine zv_iconst S dX5_meets_177 ?_
              exact JN178 0 (zb_0 is c_14) (Or.inl rfl) _ _ hP hD hS _ (lv_sub hl [0, 1, 2, 3, 4, 5, 6, 7, 8] rfl)
            · have d1 := hP0 q (by omega)
              have d2 := hQ0 q (by omega)
              have d3 := hM0 q (by omega)
              have t1 := zmulb d1.1 d1.2 xb.1 xb.2
              have t2 := zmulb d2.1 d2.2 yb1.1 yb1.2
              have t3 := zmulb (B := 7200) d3.1 d3.2 (by omega) bb.2
              refine zv_aload_n S dX5_meets_139 rfl (lv_at hl 6 rfl) ?_
              refine zv_get (C := RX5) (T := TX5) (N := 23) (ci := 5) (v := .ref yp) S in_X5_meets_X5 hK hP 0 rfl rfl 7 (by decide) wd_X5_meets_f25 rfl rfl dX5_meets_140 ?_
              refine zv_iload S dX5_meets_143 (lv_at hl 0 rfl) ?_
              refine zv_lald S hK hP 1 1 rfl rfl q hv12 (by omega) (by decide) dX5_meets_145 ?_
              refine zv_lload S dX5_meets_146 (lv_at hl 4 rfl) ?_
              refine zv_lmul S dX5_meets_148 ?_
              refine zv_aload_n S dX5_meets_149 rfl (lv_at hl 6 rfl) ?_
              refine zv_get (C := RX5) (T := TX5) (N := 23) (ci := 5) (v := .ref yq) S in_X5_meets_X5 hK hP 0 rfl rfl 8 (by decide) wd_X5_meets_f29 rfl rfl dX5_meets_150 ?_
              refine zv_iload S dX5_meets_153 (lv_at hl 0 rfl) ?_
              refine zv_lald S hK hP 2 1 rfl rfl q hv12 (by omega) (by decide) dX5_meets_155 ?_
              refine zv_lload S dX5_meets_156 (lv_at hl 3 rfl) ?_
              refine zv_lmul S dX5_meets_158 ?_
              refine zv_ladd S dX5_meets_159 ?_
              refine zv_aload_n S dX5_meets_160 rfl (lv_at hl 6 rfl) ?_
              refine zv_get (C := RX5) (T := TX5) (N := 23) (ci := 5) (v := .ref yo) S in_X5_meets_X5 hK hP 0 rfl rfl 9 (by decide) wd_X5_meets_f32 rfl rfl dX5_meets_161 ?_
              refine zv_iload S dX5_meets_164 (lv_at hl 0 rfl) ?_
              refine zv_lald S hK hP 3 1 rfl rfl q hv12 (by omega) (by decide) dX5_meets_166 ?_
              refine zv_lload_n S dX5_meets_167 rfl (lv_at hl 2 rfl) ?_
              refine zv_lmul S dX5_meets_168 ?_
              refine zv_lif_gt (tgt := 177) S (by unfold zS; omega) (by unfold zS; omega) dX5_meets_169 dX5_meets_170 (by decide) (fun c_15 => ?_) (fun c_15 => ?_)
              · refine zv_iconst S dX5_meets_177 ?_
                exact JN178 0 (zb_n is (by omega)) (Or.inl rfl) _ _ hP hD hS _ (lv_sub hl [0, 1, 2, 3, 4, 5, 6, 7, 8] rfl)
              · refine zv_iconst S dX5_meets_173 ?_
                refine zv_goto (tgt := 178) S dX5_meets_174 (by decide) ?_
                exact JN178 1 (zb_y is c_14 (by omega)) (Or.inr rfl) _ _ hP hD hS _ (lv_sub hl [0, 1, 2, 3, 4, 5, 6, 7, 8] rfl)
      exact LP125 _ 0 0 1 rfl (Nat.zero_le _) (zb_t zvf_0).symm (Or.inr rfl) (Nat.lt_succ_self _) _ _ hP hD hS _ (lv_sub hl [0, 1, 2, 3, 4, 5, 6, 7, 8] rfl)
    refine zv_lload_n S dX5_meets_35 rfl (lv_at hl 0 rfl) ?_
    refine zv_lconst (v := 0) S dX5_meets_36 (by decide) ?_
    refine zv_lif_ge (tgt := 47) S (by unfold zS; omega) (by unfold zS; omega) dX5_meets_37 dX5_meets_38 (by decide) (fun c_16 => ?_) (fun c_16 => ?_)
    · refine zv_lconst (v := 1) S dX5_meets_47 (by decide) ?_
      exact JN48 1 (by unfold zsg; rw [if_neg (by omega)]) (by omega) _ _ hP hD hS _ (lv_sub hl [0, 1, 2, 3] rfl)
    · refine zv_ldc2 (v := (-1)) S wd_X5_meets_kl98 (by decide) dX5_meets_41 ?_
      refine zv_goto (tgt := 48) S dX5_meets_44 (by decide) ?_
      exact JN48 (-1) (by unfold zsg; rw [if_pos (by omega)]) (by omega) _ _ hP hD hS _ (lv_sub hl [0, 1, 2, 3] rfl)
  · exact hret _ _ _ _ ⟨fi, la, ir⟩ dX5_meets_34 (show zlk P Qu M k (fun a b => ST a b ∨ (a = i ∧ b = j)) fi la ir from (zlk_no hlk (fun z => z.1 (by unfold zbel; omega)))) (hP.sub [0, 1, 2, 3] rfl) (hD.sub [0, 1, 2, 3] (by decide) rfl) hS
