/-! and with 2^k - 1; Long.bitCount -/
section ZI2
variable {p : Program} {l : Launch} {e : Env} {R : Room} {s : State} {m : MethodId} {args : Array Value} {below : List Frame} {meth : Method} {c : Code} {H : Heap} {locs : List Loc} {cells slots : Nat} {Q : State → Prop}
variable {cc : ByteArray} {nL pc : Nat} {ls : Array Slot} {rest : List Value} {Ts : List Cond} {own : String}
theorem zsubN {a b : Nat} (h : b ≤ a) : (a : Int) - (b : Int) = ((a - b : Nat) : Int) := by omega
theorem zaddN (a b : Nat) : (a : Int) + (b : Int) = ((a + b : Nat) : Int) := by omega
theorem zI_and31 (x : Int) : zI x &&& zI 31 = zI (x % 32) := by
  apply Int32.toBitVec_inj.mp
  rw [Int32.toBitVec_and]
  show BitVec.ofInt 32 x &&& 31#32 = BitVec.ofInt 32 (x % 32)
  apply BitVec.eq_of_toNat_eq
  rw [BitVec.toNat_and, BitVec.toNat_ofInt, BitVec.toNat_ofInt]
  show (x % 4294967296).toNat &&& (2 ^ 5 - 1) = ((x % 32) % 4294967296).toNat
  rw [Nat.and_two_pow_sub_one_eq_mod _ 5]
  omega
theorem zv_iand31 (S : CallFix p m c cc nL s args Ts own) {x : Int} (hdg : decode cc pc = .ok (.iand, 1)) (k : W p l e R s m args below meth c H locs cells slots Q (F0 m (pc + 1) ls (.int (zI (x % 32)) :: rest))) : W p l e R s m args below meth c H locs cells slots Q (F0 m pc ls (.int (zI 31) :: .int (zI x) :: rest)) := lv_iand S.1 S.2.1 hdg (zI_and31 x ▸ k)
theorem zI_and127 (x : Int) : zI x &&& zI 127 = zI (x % 128) := by
  apply Int32.toBitVec_inj.mp
  rw [Int32.toBitVec_and]
  show BitVec.ofInt 32 x &&& 127#32 = BitVec.ofInt 32 (x % 128)
  apply BitVec.eq_of_toNat_eq
  rw [BitVec.toNat_and, BitVec.toNat_ofInt, BitVec.toNat_ofInt]
  show (x % 4294967296).toNat &&& (2 ^ 7 - 1) = ((x % 128) % 4294967296).toNat
  rw [Nat.and_two_pow_sub_one_eq_mod _ 7]
  omega
theorem zv_iand127 (S : CallFix p m c cc nL s args Ts own) {x : Int} (hdg : decode cc pc = .ok (.iand, 1)) (k : W p l e R s m args below meth c H locs cells slots Q (F0 m (pc + 1) ls (.int (zI (x % 128)) :: rest))) : W p l e R s m args below meth c H locs cells slots Q (F0 m pc ls (.int (zI 127) :: .int (zI x) :: rest)) := lv_iand S.1 S.2.1 hdg (zI_and127 x ▸ k)
end ZI2

theorem wd_J13_bitCount_95d88_kl314 : Cond.constantLong RJ13 314 (6148914691236517205) ∈ wsJ13_bitCount_95d88 := by decide +kernel
theorem wd_J13_bitCount_95d88_kl316 : Cond.constantLong RJ13 316 (3689348814741910323) ∈ wsJ13_bitCount_95d88 := by decide +kernel
theorem wd_J13_bitCount_95d88_kl318 : Cond.constantLong RJ13 318 (1085102592571150095) ∈ wsJ13_bitCount_95d88 := by decide +kernel
set_option maxHeartbeats 4000000 in
set_option maxRecDepth 100000 in
/-- Long.bitCount -/
theorem c_J13_bitCount_95d88 (l : Launch) (G : zG) (sz : Nat) (n : Nat) (hn : n < 2 ^ 60) : Met l yJ13_bitCount_95d88 wsJ13_bitCount_95d88 ({ frames := 0, cells := 0, slots := 0, locals := 0 }) (va_Pc [.long (zL (n : Int))] (zPre G sz [])) (va_Qi (fun (r : Int32) (u : Unit) => r = zI ((zpop 64 n : Nat) : Int)) (fun u => zW G (va_A [] sz) ((fun (u : Unit) => []) u)) (va_A [] sz)) 0 0 (va_A [] sz) := by
  refine zM_i (post := fun (r : Int32) (u : Unit) => r = zI ((zpop 64 n : Nat) : Int)) (w1 := fun (u : Unit) => []) (by decide +kernel) rfl (Nat.le_of_ble_eq_true rfl) ?_
  intro p e s m below meth c A Q S hN hK hP hD hS hA hret ls hl
  have hl : lv_has ls 2 [(0, .long (zL (n : Int)))] := hl
  refine zv_lload_n S dJ13_bitCount_95d88_0 rfl (lv_at hl 0 rfl) ?_
  refine zv_lload_n S dJ13_bitCount_95d88_1 rfl (lv_at hl 0 rfl) ?_
  refine zv_iconst S dJ13_bitCount_95d88_2 ?_
  refine zv_lushr (a := n) S 1 rfl (by decide) (by omega) dJ13_bitCount_95d88_3 ?_
  refine zv_ldc2 (v := 6148914691236517205) S wd_J13_bitCount_95d88_kl314 (by decide) dJ13_bitCount_95d88_4 ?_
  refine zv_land (a := (n / 2 ^ 1)) (b := 6148914691236517205) S dJ13_bitCount_95d88_7 ?_
  refine zv_lsub S dJ13_bitCount_95d88_8 ?_
  obtain ⟨a1, ha1⟩ : ∃ z : Nat, z = n - (n / 2 ^ 1 &&& 6148914691236517205) := ⟨_, rfl⟩
  rw [show ((n : Int) - (((n / 2 ^ 1) &&& 6148914691236517205 : Nat) : Int) : Int) = (a1 : Int) from (zsubN (Nat.le_trans Nat.and_le_left (Nat.div_le_self _ _))).trans (congrArg (fun z : Nat => (z : Int)) ha1.symm)]
  have ba : a1 ≤ n := by rw [ha1]; exact Nat.sub_le _ _
  refine zv_lstore_n (lv' := [(0, .long (zL (a1 : Int)))]) S dJ13_bitCount_95d88_9 rfl hl (by decide) rfl (fun ls hl => ?_)
  refine zv_lload_n S dJ13_bitCount_95d88_10 rfl (lv_at hl 0 rfl) ?_
  refine zv_ldc2 (v := 3689348814741910323) S wd_J13_bitCount_95d88_kl316 (by decide) dJ13_bitCount_95d88_11 ?_
  refine zv_land (a := a1) (b := 3689348814741910323) S dJ13_bitCount_95d88_14 ?_
  refine zv_lload_n S dJ13_bitCount_95d88_15 rfl (lv_at hl 0 rfl) ?_
  refine zv_iconst S dJ13_bitCount_95d88_16 ?_
  refine zv_lushr (a := a1) S 2 rfl (by decide) (by omega) dJ13_bitCount_95d88_17 ?_
  refine zv_ldc2 (v := 3689348814741910323) S wd_J13_bitCount_95d88_kl316 (by decide) dJ13_bitCount_95d88_18 ?_
  refine zv_land (a := (a1 / 2 ^ 2)) (b := 3689348814741910323) S dJ13_bitCount_95d88_21 ?_
  refine zv_ladd S dJ13_bitCount_95d88_22 ?_
  obtain ⟨b1, hb1⟩ : ∃ z : Nat, z = (a1 &&& 3689348814741910323) + (a1 / 2 ^ 2 &&& 3689348814741910323) := ⟨_, rfl⟩
  rw [show (((a1 &&& 3689348814741910323 : Nat) : Int) + (((a1 / 2 ^ 2) &&& 3689348814741910323 : Nat) : Int) : Int) = (b1 : Int) from (zaddN _ _).trans (congrArg (fun z : Nat => (z : Int)) hb1.symm)]
  have bb : b1 ≤ 3689348814741910323 + 3689348814741910323 := by rw [hb1]; exact Nat.add_le_add Nat.and_le_right Nat.and_le_right
  refine zv_lstore_n (lv' := [(0, .long (zL (b1 : Int)))]) S dJ13_bitCount_95d88_23 rfl hl (by decide) rfl (fun ls hl => ?_)
  refine zv_lload_n S dJ13_bitCount_95d88_24 rfl (lv_at hl 0 rfl) ?_
  refine zv_lload_n S dJ13_bitCount_95d88_25 rfl (lv_at hl 0 rfl) ?_
  refine zv_iconst S dJ13_bitCount_95d88_26 ?_
  refine zv_lushr (a := b1) S 4 rfl (by decide) (by omega) dJ13_bitCount_95d88_27 ?_
  refine zv_ladd S dJ13_bitCount_95d88_28 ?_
  obtain ⟨c1, hc1⟩ : ∃ z : Nat, z = b1 + b1 / 2 ^ 4 := ⟨_, rfl⟩
  rw [show ((b1 : Int) + ((b1 / 2 ^ 4 : Nat) : Int) : Int) = (c1 : Int) from (zaddN _ _).trans (congrArg (fun z : Nat => (z : Int)) hc1.symm)]
  refine zv_ldc2 (v := 1085102592571150095) S wd_J13_bitCount_95d88_kl318 (by decide) dJ13_bitCount_95d88_29 ?_
  refine zv_land (a := c1) (b := 1085102592571150095) S dJ13_bitCount_95d88_32 ?_
  obtain ⟨x1, hx1⟩ : ∃ z : Nat, z = c1 &&& 1085102592571150095 := ⟨_, rfl⟩
  rw [show (((c1 &&& 1085102592571150095 : Nat) : Int) : Int) = (x1 : Int) from congrArg (fun z : Nat => (z : Int)) hx1.symm]
  have bx : x1 ≤ 1085102592571150095 := by rw [hx1]; exact Nat.and_le_right
  refine zv_lstore_n (lv' := [(0, .long (zL (x1 : Int)))]) S dJ13_bitCount_95d88_33 rfl hl (by decide) rfl (fun ls hl => ?_)
  refine zv_lload_n S dJ13_bitCount_95d88_34 rfl (lv_at hl 0 rfl) ?_
  refine zv_lload_n S dJ13_bitCount_95d88_35 rfl (lv_at hl 0 rfl) ?_
  refine zv_bipush (v := 8) S dJ13_bitCount_95d88_36 (by decide) ?_
  refine zv_lushr (a := x1) S 8 rfl (by decide) (by omega) dJ13_bitCount_95d88_38 ?_
  refine zv_ladd S dJ13_bitCount_95d88_39 ?_
  obtain ⟨d1, hd1⟩ : ∃ z : Nat, z = x1 + x1 / 2 ^ 8 := ⟨_, rfl⟩
  rw [show ((x1 : Int) + ((x1 / 2 ^ 8 : Nat) : Int) : Int) = (d1 : Int) from (zaddN _ _).trans (congrArg (fun z : Nat => (z : Int)) hd1.symm)]
  refine zv_lstore_n (lv' := [(0, .long (zL (d1 : Int)))]) S dJ13_bitCount_95d88_40 rfl hl (by decide) rfl (fun ls hl => ?_)
  refine zv_lload_n S dJ13_bitCount_95d88_41 rfl (lv_at hl 0 rfl) ?_
  refine zv_lload_n S dJ13_bitCount_95d88_42 rfl (lv_at hl 0 rfl) ?_
  refine zv_bipush (v := 16) S dJ13_bitCount_95d88_43 (by decide) ?_
  refine zv_lushr (a := d1) S 16 rfl (by decide) (by omega) dJ13_bitCount_95d88_45 ?_
  refine zv_ladd S dJ13_bitCount_95d88_46 ?_
  obtain ⟨e1, he1⟩ : ∃ z : Nat, z = d1 + d1 / 2 ^ 16 := ⟨_, rfl⟩
  rw [show ((d1 : Int) + ((d1 / 2 ^ 16 : Nat) : Int) : Int) = (e1 : Int) from (zaddN _ _).trans (congrArg (fun z : Nat => (z : Int)) he1.symm)]
  refine zv_lstore_n (lv' := [(0, .long (zL (e1 : Int)))]) S dJ13_bitCount_95d88_47 rfl hl (by decide) rfl (fun ls hl => ?_)
  refine zv_lload_n S dJ13_bitCount_95d88_48 rfl (lv_at hl 0 rfl) ?_
  refine zv_lload_n S dJ13_bitCount_95d88_49 rfl (lv_at hl 0 rfl) ?_
  refine zv_bipush (v := 32) S dJ13_bitCount_95d88_50 (by decide) ?_
  refine zv_lushr (a := e1) S 32 rfl (by decide) (by omega) dJ13_bitCount_95d88_52 ?_
  refine zv_ladd S dJ13_bitCount_95d88_53 ?_
  obtain ⟨f1, hf1⟩ : ∃ z : Nat, z = e1 + e1 / 2 ^ 32 := ⟨_, rfl⟩
  rw [show ((e1 : Int) + ((e1 / 2 ^ 32 : Nat) : Int) : Int) = (f1 : Int) from (zaddN _ _).trans (congrArg (fun z : Nat => (z : Int)) hf1.symm)]
  refine zv_lstore_n (lv' := [(0, .long (zL (f1 : Int)))]) S dJ13_bitCount_95d88_54 rfl hl (by decide) rfl (fun ls hl => ?_)
  refine zv_lload_n S dJ13_bitCount_95d88_55 rfl (lv_at hl 0 rfl) ?_
  refine zv_l2i S dJ13_bitCount_95d88_56 ?_
  refine zv_bipush (v := 127) S dJ13_bitCount_95d88_57 (by decide) ?_
  refine zv_iand127 S dJ13_bitCount_95d88_59 ?_
  exact hret _ _ _ _ _ () dJ13_bitCount_95d88_60 (congrArg zI (by have hz := zbc_all (show n < 2 ^ 64 by omega) ha1 hb1 (show x1 = (b1 + b1 / 2 ^ 4) &&& 1085102592571150095 by rw [hx1, hc1]) hd1 he1 hf1; omega)) (hP.sub [] rfl) (hD.sub [] (by decide) rfl) hS

theorem wd_X0_size_f19 : Cond.fieldLink RX0 19 "PointMill$Coins" "values" "J" ∈ wsX0_size := by decide +kernel
theorem in_X0_size_X0 : ∀ w ∈ wsX00, w ∈ wsX0_size := by decide +kernel
set_option maxHeartbeats 4000000 in
set_option maxRecDepth 100000 in
/-- Coins.size -/
theorem c_X0_size (l : Launch) (G : zG) (sz : Nat) (h0 : Nat) (qw : Nat) (ql : Nat) (n : Nat) (wg : Int) (hn : n < 2 ^ 60) : Met l yX0_size wsX0_size ({ frames := 1, cells := 0, slots := 0, locals := 21 }) (va_Pc [.ref h0] (zPre G sz [(h0, .inr (0, [.ref qw, .ref ql, .long (zL (n : Int)), .int (zI wg)]))])) (va_Qi (fun (r : Int32) (u : Unit) => r = zI ((zpop 64 n : Nat) : Int)) (fun u => zW G (va_A [(h0, .inr (0, [.ref qw, .ref ql, .long (zL (n : Int)), .int (zI wg)]))] sz) ((fun (u : Unit) => [(h0, .inr (0, [.ref qw, .ref ql, .long (zL (n : Int)), .int (zI wg)]))]) u)) (va_A [(h0, .inr (0, [.ref qw, .ref ql, .long (zL (n : Int)), .int (zI wg)]))] sz)) 0 0 (va_A [(h0, .inr (0, [.ref qw, .ref ql, .long (zL (n : Int)), .int (zI wg)]))] sz) := by
  refine zM_i (post := fun (r : Int32) (u : Unit) => r = zI ((zpop 64 n : Nat) : Int)) (w1 := fun (u : Unit) => [(h0, .inr (0, [.ref qw, .ref ql, .long (zL (n : Int)), .int (zI wg)]))]) (plainFor_of_name (by decide)) rfl (Nat.le_of_ble_eq_true rfl) ?_
  intro p e s m below meth c A Q S hN hK hP hD hS hA hret ls hl
  have hl : lv_has ls 1 [(0, .ref h0)] := hl
  refine zv_aload_n S dX0_size_0 rfl (lv_at hl 0 rfl) ?_
  refine zv_get (C := RX0) (T := TX0) (N := 4) (ci := 0) (v := .long (zL (n : Int))) S in_X0_size_X0 hK hP 0 rfl rfl 2 (by decide) wd_X0_size_f19 rfl rfl dX0_size_1 ?_
  refine zc_Si (As := [.long (zL (n : Int))]) (rest := []) (wr := [(h0, .inr (0, [.ref qw, .ref ql, .long (zL (n : Int)), .int (zI wg)]))]) (n := 1) S hN hK hP hD hS hA hl (c_J13_bitCount_95d88 l G s.heap.size n hn) gX0_size_J13_bitCount_95d88 rfl ⟨rfl, rfl⟩ (by decide +kernel) rfl ⟨Nat.le_of_ble_eq_true rfl, Nat.le_of_ble_eq_true rfl, Nat.le_of_ble_eq_true rfl, Nat.le_of_ble_eq_true rfl⟩ [] [0] rfl rfl (by decide) (by decide) (by decide) (Nat.le_of_ble_eq_true rfl) dX0_size_4 rfl (fun r_ u_1 H1 locs1 hp_2 hP1 hD1 hS1 hz1 => ?_)
  try dsimp only at hp_2 hP1 hD1
  subst hp_2
  generalize H1 = H at hP1 hD1 hS1 hz1 ⊢
  generalize locs1 = locs at hS1 ⊢
  have hS := hS1
  have hP : va_P G.1 vwCl [(h0, .inr (0, [.ref qw, .ref ql, .long (zL (n : Int)), .int (zI wg)]))] H := hP1
  have hD : va_D A [(h0, .inr (0, [.ref qw, .ref ql, .long (zL (n : Int)), .int (zI wg)]))] := hD1
  exact hret _ _ _ _ _ () dX0_size_7 rfl (hP.sub [0] rfl) (hD.sub [0] (by decide) rfl) hS
