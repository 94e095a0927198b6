/-! rows over longs that are sets of bits -/
section ZX
variable {p : Program} {l : Launch} {e : Env} {R : Room} {s : State} {m : MethodId} {args : Array Value} {below : List Frame} {meth : Method} {c : Code} {H : Heap} {locs : List Loc} {cells slots : Nat} {Q : State → Prop}
variable {cc : ByteArray} {nL pc : Nat} {ls : Array Slot} {rest : List Value} {Ts : List Cond} {own : String}
theorem zL_and (a b : Nat) : zL (a : Int) &&& zL (b : Int) = zL ((a &&& b : Nat) : Int) := by rw [← zL_lN, ← zL_lN, ← zL_lN]; exact fb_andL a b
theorem zL_or (a b : Nat) : zL (a : Int) ||| zL (b : Int) = zL ((a ||| b : Nat) : Int) := by rw [← zL_lN, ← zL_lN, ← zL_lN]; exact fb_orL a b
theorem zL_xor (a b : Nat) : zL (a : Int) ^^^ zL (b : Int) = zL ((a ^^^ b : Nat) : Int) := by rw [← zL_lN, ← zL_lN, ← zL_lN]; exact fb_xorL a b
theorem zL_shl (a : Nat) {j : Nat} {x : Int} (hx : x = (j : Int)) (hj : j < 64) : zL (a : Int) <<< ((zI x).toInt64 &&& 63) = zL ((a * 2 ^ j : Nat) : Int) := by
  rw [hx, ← zI_nI, ← zL_lN, ← zL_lN]; exact wb_shl a hj
theorem zL_shr {a j : Nat} {x : Int} (hx : x = (j : Int)) (hj : j < 64) (ha : a < 2 ^ 62) : zL (a : Int) >>> ((zI x).toInt64 &&& 63) = zL ((a / 2 ^ j : Nat) : Int) := by
  rw [hx, ← zI_nI, ← zL_lN, ← zL_lN]
  refine pf_shr ?_ ha
  rw [wb_c j hj, wb_tb, wb_sm j hj, BitVec.toNat_ofNat]
  exact Nat.mod_eq_of_lt (by omega)
theorem zL_ushr {a j : Nat} {x : Int} (hx : x = (j : Int)) (hj : j < 64) (ha : a < 2 ^ 64) : ((zL (a : Int)).toUInt64 >>> ((zI x).toInt64.toUInt64 &&& Int64.toUInt64 63)).toInt64 = zL ((a / 2 ^ j : Nat) : Int) := by
  rw [hx, ← zI_nI, ← zL_lN, ← zL_lN]; exact wb_shr ha hj
theorem zv_land (S : CallFix p m c cc nL s args Ts own) {a b : Nat} (hdg : decode cc pc = .ok (.land, 1)) (k : W p l e R s m args below meth c H locs cells slots Q (F0 m (pc + 1) ls (.long (zL ((a &&& b : Nat) : Int)) :: rest))) : W p l e R s m args below meth c H locs cells slots Q (F0 m pc ls (.long (zL (b : Int)) :: .long (zL (a : Int)) :: rest)) := lv_land S.1 S.2.1 hdg (zL_and a b ▸ k)
theorem zv_lor (S : CallFix p m c cc nL s args Ts own) {a b : Nat} (hdg : decode cc pc = .ok (.lor, 1)) (k : W p l e R s m args below meth c H locs cells slots Q (F0 m (pc + 1) ls (.long (zL ((a ||| b : Nat) : Int)) :: rest))) : W p l e R s m args below meth c H locs cells slots Q (F0 m pc ls (.long (zL (b : Int)) :: .long (zL (a : Int)) :: rest)) := lv_lor S.1 S.2.1 hdg (zL_or a b ▸ k)
theorem zv_lxor (S : CallFix p m c cc nL s args Ts own) {a b : Nat} (hdg : decode cc pc = .ok (.lxor, 1)) (k : W p l e R s m args below meth c H locs cells slots Q (F0 m (pc + 1) ls (.long (zL ((a ^^^ b : Nat) : Int)) :: rest))) : W p l e R s m args below meth c H locs cells slots Q (F0 m pc ls (.long (zL (b : Int)) :: .long (zL (a : Int)) :: rest)) := lv_lxor S.1 S.2.1 hdg (zL_xor a b ▸ k)
theorem zv_lshl (S : CallFix p m c cc nL s args Ts own) {a : Nat} {x : Int} (j : Nat) (hx : x = (j : Int)) (hj : j < 64) (hdg : decode cc pc = .ok (.lshl, 1)) (k : W p l e R s m args below meth c H locs cells slots Q (F0 m (pc + 1) ls (.long (zL ((a * 2 ^ j : Nat) : Int)) :: rest))) : W p l e R s m args below meth c H locs cells slots Q (F0 m pc ls (.int (zI x) :: .long (zL (a : Int)) :: rest)) := lv_lshl S.1 S.2.1 hdg (zL_shl a hx hj) k
theorem zv_lshr (S : CallFix p m c cc nL s args Ts own) {a : Nat} {x : Int} (j : Nat) (hx : x = (j : Int)) (hj : j < 64) (ha : a < 2 ^ 62) (hdg : decode cc pc = .ok (.lshr, 1)) (k : W p l e R s m args below meth c H locs cells slots Q (F0 m (pc + 1) ls (.long (zL ((a / 2 ^ j : Nat) : Int)) :: rest))) : W p l e R s m args below meth c H locs cells slots Q (F0 m pc ls (.int (zI x) :: .long (zL (a : Int)) :: rest)) := lv_lshr S.1 S.2.1 hdg (zL_shr hx hj ha) k
theorem zv_lushr (S : CallFix p m c cc nL s args Ts own) {a : Nat} {x : Int} (j : Nat) (hx : x = (j : Int)) (hj : j < 64) (ha : a < 2 ^ 64) (hdg : decode cc pc = .ok (.lushr, 1)) (k : W p l e R s m args below meth c H locs cells slots Q (F0 m (pc + 1) ls (.long (zL ((a / 2 ^ j : Nat) : Int)) :: rest))) : W p l e R s m args below meth c H locs cells slots Q (F0 m pc ls (.int (zI x) :: .long (zL (a : Int)) :: rest)) := lv_lushr S.1 S.2.1 hdg (zL_ushr hx hj ha) k
theorem zL_and0 {a n : Nat} (hn : n < 2 ^ 60) : ((a &&& n : Nat) : Int) = 0 ↔ a &&& n = 0 := by omega
end ZX
/-- the coin of the value v is there -/
def zk (n : Nat) (v : Int) : Prop := 1 ≤ v ∧ v ≤ 60 ∧ n.testBit (v - 1).toNat = true
theorem zk_bit {n : Nat} {v : Int} (h1 : 1 ≤ v) (h2 : v ≤ 60) : (((n / 2 ^ (v - 1).toNat) &&& 1 : Nat) : Int) = 1 ↔ zk n v := by
  have e : (n / 2 ^ (v - 1).toNat) &&& 1 = (n / 2 ^ (v - 1).toNat) % 2 := Nat.and_one_is_mod _
  have e2 : n.testBit (v - 1).toNat = decide ((n / 2 ^ (v - 1).toNat) % 2 = 1) := Nat.testBit_eq_decide_div_mod_eq
  unfold zk
  rw [e, e2, decide_eq_true_iff]
  omega
