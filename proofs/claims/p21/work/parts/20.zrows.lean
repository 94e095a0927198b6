/-! rows over whole numbers: zI x is the int of x, zL x the long; sums, differences and products go through without a premise -/
def zI (x : Int) : Int32 := Int32.ofInt x
def zL (x : Int) : Int64 := Int64.ofInt x
def zR (x : Int) : Prop := -2147483648 ≤ x ∧ x < 2147483648
def zS (x : Int) : Prop := -9223372036854775808 ≤ x ∧ x < 9223372036854775808
def zA (F : Nat → Int) : Nat → Int32 := fun k => zI (F k)
def zB (F : Nat → Int) : Nat → Int64 := fun k => zL (F k)
def zU (F : Nat → Int) (j : Nat) (v : Int) : Nat → Int := fun k => if k = j then v else F k
def zcmp (x y : Int) : Int := if y < x then 1 else if x = y then 0 else -1
theorem zU_same {F : Nat → Int} {j : Nat} {v : Int} : zU F j v j = v := if_pos rfl
theorem zU_ne {F : Nat → Int} {j k : Nat} {v : Int} (h : k ≠ j) : zU F j v k = F k := if_neg h
theorem zI_toInt {x : Int} (h : zR x) : (zI x).toInt = x := by
  unfold zI
  exact Int32.toInt_ofInt_of_le (by have := h.1; omega) (by have := h.2; omega)
theorem zL_toInt {x : Int} (h : zS x) : (zL x).toInt = x := by
  unfold zL
  exact Int64.toInt_ofInt_of_le (by have := h.1; omega) (by have := h.2; omega)
theorem zI_self (x : Int32) : zI x.toInt = x := Int32.ofInt_toInt x
theorem zL_self (x : Int64) : zL x.toInt = x := Int64.ofInt_toInt x
theorem zR_of (x : Int32) : zR x.toInt := by
  have h1 := x.le_toInt
  have h2 := x.toInt_lt
  unfold zR
  omega
theorem zS_of (x : Int64) : zS x.toInt := by
  have h1 := x.le_toInt
  have h2 := x.toInt_lt
  unfold zS
  omega
theorem zI_add (x y : Int) : zI x + zI y = zI (x + y) := (Int32.ofInt_add x y).symm
theorem zI_sub (x y : Int) : zI x - zI y = zI (x - y) := (Int32.ofInt_sub x y).symm
theorem zI_mul (x y : Int) : zI x * zI y = zI (x * y) := (Int32.ofInt_mul x y).symm
theorem zI_neg (x : Int) : -zI x = zI (-x) := (Int32.ofInt_neg x).symm
theorem zL_add (x y : Int) : zL x + zL y = zL (x + y) := (Int64.ofInt_add x y).symm
theorem zL_sub (x y : Int) : zL x - zL y = zL (x - y) := (Int64.ofInt_sub x y).symm
theorem zL_mul (x y : Int) : zL x * zL y = zL (x * y) := (Int64.ofInt_mul x y).symm
theorem zL_neg (x : Int) : -zL x = zL (-x) := (Int64.ofInt_neg x).symm
theorem zI_lt {x y : Int} (hx : zR x) (hy : zR y) : zI x < zI y ↔ x < y := by rw [Int32.lt_iff_toInt_lt, zI_toInt hx, zI_toInt hy]
theorem zI_le {x y : Int} (hx : zR x) (hy : zR y) : zI x ≤ zI y ↔ x ≤ y := by rw [Int32.le_iff_toInt_le, zI_toInt hx, zI_toInt hy]
theorem zI_eq {x y : Int} (hx : zR x) (hy : zR y) : zI x = zI y ↔ x = y := by rw [← Int32.toInt_inj, zI_toInt hx, zI_toInt hy]
theorem zL_lt {x y : Int} (hx : zS x) (hy : zS y) : zL x < zL y ↔ x < y := by rw [Int64.lt_iff_toInt_lt, zL_toInt hx, zL_toInt hy]
theorem zL_le {x y : Int} (hx : zS x) (hy : zS y) : zL x ≤ zL y ↔ x ≤ y := by rw [Int64.le_iff_toInt_le, zL_toInt hx, zL_toInt hy]
theorem zL_eq {x y : Int} (hx : zS x) (hy : zS y) : zL x = zL y ↔ x = y := by rw [← Int64.toInt_inj, zL_toInt hx, zL_toInt hy]
theorem zR0 : zR 0 := by unfold zR; omega
theorem zS0 : zS 0 := by unfold zS; omega
theorem zI_0 : (0 : Int32) = zI 0 := rfl
theorem zI_long {x : Int} (h : zR x) : (zI x).toInt64 = zL x := by
  rw [← Int64.toInt_inj, Int32.toInt_toInt64, zI_toInt h, zL_toInt]
  exact ⟨by have := h.1; omega, by have := h.2; omega⟩
theorem zL_int (x : Int) : (zL x).toInt32 = zI x := by
  rw [← Int32.toInt_inj, Int64.toInt_toInt32]
  unfold zL zI
  rw [Int64.toInt_ofInt, Int32.toInt_ofInt]
  exact Int.bmod_bmod_of_dvd (by decide)
theorem zI_nI (n : Nat) : nI n = zI (n : Int) := by
  unfold nI zI
  exact (Int32.ofInt_eq_ofNat).symm
theorem zL_lN (n : Nat) : lN n = zL (n : Int) := by
  unfold lN zL
  exact (Int64.ofInt_eq_ofNat).symm
theorem zI_div {x y : Int} (hx : zR x) (hy : zR y) (hm : y ≠ -1) : zI x / zI y = zI (x.tdiv y) := by
  have hq : zR (x.tdiv y) := by
    have h1 := Int.natAbs_tdiv_le_natAbs x y
    obtain ⟨a, b⟩ := hx
    unfold zR
    by_cases e : x = -2147483648
    · by_cases e1 : y = 1
      · subst e1; rw [Int.tdiv_one]; omega
      · by_cases e0 : y = 0
        · subst e0; rw [Int.tdiv_zero]; omega
        · have h2 : (x.tdiv y).natAbs < x.natAbs := by
            rw [Int.natAbs_tdiv]
            exact Nat.div_lt_self (by omega) (by omega)
          omega
    · omega
  rw [← Int32.toInt_inj, Int32.toInt_div_of_ne_right, zI_toInt hx, zI_toInt hy, zI_toInt hq]
  intro h
  have h2 := congrArg Int32.toInt h
  rw [zI_toInt hy] at h2
  exact hm (h2.trans rfl)
theorem zI_rem {x y : Int} (hx : zR x) (hy : zR y) (hm : y ≠ -1) : zI x - zI x / zI y * zI y = zI (x.tmod y) := by
  rw [zI_div hx hy hm, zI_mul, zI_sub]
  congr 1
  have := Int.tmod_add_mul_tdiv x y
  rw [Int.mul_comm (x.tdiv y) y]
  omega
theorem zL_div {x y : Int} (hx : zS x) (hy : zS y) (h1 : 0 < y) : zL x / zL y = zL (x.tdiv y) := by
  have hq : zS (x.tdiv y) := by
    have h2 := Int.natAbs_tdiv_le_natAbs x y
    have h3 : 0 ≤ x → 0 ≤ x.tdiv y := fun h => Int.tdiv_nonneg h (by omega)
    have h4 : x ≤ 0 → 0 ≤ (-x).tdiv y := fun h => Int.tdiv_nonneg (by omega) (by omega)
    rw [Int.neg_tdiv] at h4
    obtain ⟨a, b⟩ := hx
    unfold zS
    omega
  rw [← Int64.toInt_inj, Int64.toInt_div_of_ne_right, zL_toInt hx, zL_toInt hy, zL_toInt hq]
  intro h
  have h2 := congrArg Int64.toInt h
  rw [zL_toInt hy] at h2
  have h3 : y = -1 := h2.trans rfl
  omega
theorem zA_U (F : Nat → Int) (j : Nat) (v : Int) : upd (zA F) j (zI v) = zA (zU F j v) := by
  funext k
  unfold upd zA zU
  by_cases h : k = j <;> simp [h]
theorem zB_U (F : Nat → Int) (j : Nat) (v : Int) : vp_updL (zB F) j (zL v) = zB (zU F j v) := by
  funext k
  unfold vp_updL zB zU
  by_cases h : k = j <;> simp [h]
theorem zI_clamp {e : Int} {j : Nat} (hj : e = (j : Int)) (h : j < 2147483648) : (zI e).toNatClampNeg = j := by
  show (zI e).toInt.toNat = j
  rw [zI_toInt (by unfold zR; omega), hj]
  exact Int.toNat_natCast j
theorem zI_in {e : Int} {j n : Nat} (hj : e = (j : Int)) (h : j < n) (hn : n < 2147483648) : vp_in (zI e) n := by
  rw [vp_in_iff, zI_toInt (by unfold zR; omega)]
  omega
theorem zcmp_R (x y : Int) : zR (zcmp x y) := by unfold zR zcmp; split <;> (try split) <;> omega
theorem zcmp_of {x y : Int} (hx : zS x) (hy : zS y) : lg_cmp (zL x) (zL y) = zI (zcmp x y) := by
  unfold lg_cmp zcmp
  by_cases h1 : y < x
  · rw [if_pos ((zL_lt hy hx).mpr h1), if_pos h1]; rfl
  · rw [if_neg (fun h => h1 ((zL_lt hy hx).mp h)), if_neg h1]
    by_cases h2 : x = y
    · rw [if_pos ((zL_eq hx hy).mpr h2), if_pos h2]; rfl
    · rw [if_neg (fun h => h2 ((zL_eq hx hy).mp h)), if_neg h2]; rfl
theorem zcmp_eq (x y : Int) : zcmp x y = 0 ↔ x = y := by unfold zcmp; split <;> (try split) <;> omega
theorem zcmp_lt (x y : Int) : zcmp x y < 0 ↔ x < y := by unfold zcmp; split <;> (try split) <;> omega
theorem zcmp_ge (x y : Int) : 0 ≤ zcmp x y ↔ y ≤ x := by unfold zcmp; split <;> (try split) <;> omega
theorem zcmp_gt (x y : Int) : 0 < zcmp x y ↔ y < x := by unfold zcmp; split <;> (try split) <;> omega
theorem zcmp_le (x y : Int) : zcmp x y ≤ 0 ↔ x ≤ y := by unfold zcmp; split <;> (try split) <;> omega
noncomputable def zb (P : Prop) : Int := @ite Int P (Classical.propDecidable P) 1 0
theorem zb_t {P : Prop} (h : P) : zb P = 1 := by unfold zb; exact if_pos h
theorem zb_f {P : Prop} (h : ¬ P) : zb P = 0 := by unfold zb; exact if_neg h
theorem zb_01 (P : Prop) : zb P = 0 ∨ zb P = 1 := by
  by_cases h : P
  · exact Or.inr (zb_t h)
  · exact Or.inl (zb_f h)
theorem zb_iff1 {P : Prop} : zb P = 1 ↔ P := by
  constructor
  · intro h
    by_cases q : P
    · exact q
    · rw [zb_f q] at h; omega
  · exact zb_t
theorem zb_iff0 {P : Prop} : zb P = 0 ↔ ¬ P := by
  constructor
  · intro h q
    rw [zb_t q] at h; omega
  · exact zb_f
theorem zb_congr {P P2 : Prop} (h : P ↔ P2) : zb P = zb P2 := by
  by_cases q : P
  · rw [zb_t q, zb_t (h.mp q)]
  · rw [zb_f q, zb_f (fun z => q (h.mpr z))]
theorem zb_R (P : Prop) : zR (zb P) := by rcases zb_01 P with h | h <;> (rw [h]; unfold zR; omega)
theorem zb_S (P : Prop) : zS (zb P) := by rcases zb_01 P with h | h <;> (rw [h]; unfold zS; omega)
def zmax (x y : Int) : Int := if x < y then y else x
def zmin (x y : Int) : Int := if y < x then y else x
def zabs (x : Int) : Int := if 0 ≤ x then x else -x
section ZV
variable {p : Program} {l : Launch} {e : Env} {R : Room} {s : State} {m : MethodId} {args : Array Value} {below : List Frame} {meth : Method} {c : Code} {H : Heap} {locs : List Loc} {cells slots : Nat} {Q : State → Prop}
variable {cc : ByteArray} {nL pc : Nat} {ls : Array Slot} {rest : List Value} {Ts : List Cond} {own : String} {cl : List vw_C} {D : va_G} {tys : List (ClassId × FieldType)} {ws : va_W} {A : Nat → Prop} {H0 : Heap}
theorem zv_iconst (S : CallFix p m c cc nL s args Ts own) {n : Int} (hdg : decode cc pc = .ok (.iconst n, 1))
    (k : W p l e R s m args below meth c H locs cells slots Q (F0 m (pc + 1) ls (.int (zI n) :: rest))) : W p l e R s m args below meth c H locs cells slots Q (F0 m pc ls rest) := lv_iconst S.1 S.2.1 hdg rfl k
theorem zv_bipush (S : CallFix p m c cc nL s args Ts own) {n v : Int} (hdg : decode cc pc = .ok (.bipush n, 2)) (hv : (Int8.ofInt n).toInt32 = zI v)
    (k : W p l e R s m args below meth c H locs cells slots Q (F0 m (pc + 2) ls (.int (zI v) :: rest))) : W p l e R s m args below meth c H locs cells slots Q (F0 m pc ls rest) := lv_bipush S.1 S.2.1 hdg hv k
theorem zv_sipush (S : CallFix p m c cc nL s args Ts own) {n v : Int} (hdg : decode cc pc = .ok (.sipush n, 3)) (hv : (Int16.ofInt n).toInt32 = zI v)
    (k : W p l e R s m args below meth c H locs cells slots Q (F0 m (pc + 3) ls (.int (zI v) :: rest))) : W p l e R s m args below meth c H locs cells slots Q (F0 m pc ls rest) := lv_sipush S.1 S.2.1 hdg hv k
theorem zv_lconst (S : CallFix p m c cc nL s args Ts own) {n : Fin 2} {v : Int} (hdg : decode cc pc = .ok (.lconst n, 1)) (hv : Int64.ofNat (n : Nat) = zL v)
    (k : W p l e R s m args below meth c H locs cells slots Q (F0 m (pc + 1) ls (.long (zL v) :: rest))) : W p l e R s m args below meth c H locs cells slots Q (F0 m pc ls rest) := lv_lconst S.1 S.2.1 hdg hv k
theorem zv_ldc (S : CallFix p m c cc nL s args Ts own) {index : Nat} {z : Int32} {v : Int} (hw : Cond.constant own index z ∈ Ts) (hv : z = zI v) (hdg : decode cc pc = .ok (.ldc index, 2))
    (k : W p l e R s m args below meth c H locs cells slots Q (F0 m (pc + 2) ls (.int (zI v) :: rest))) : W p l e R s m args below meth c H locs cells slots Q (F0 m pc ls rest) := lv_ldc S.1 S.2.1 S.2.2.2.1 (S.2.2.2.2 _ hw) hdg (hv ▸ k)
theorem zv_iadd (S : CallFix p m c cc nL s args Ts own) {x y : Int} (hdg : decode cc pc = .ok (.iadd, 1))
    (k : W p l e R s m args below meth c H locs cells slots Q (F0 m (pc + 1) ls (.int (zI (x + y)) :: rest))) : W p l e R s m args below meth c H locs cells slots Q (F0 m pc ls (.int (zI y) :: .int (zI x) :: rest)) := lv_iadd S.1 S.2.1 hdg (zI_add x y ▸ k)
theorem zv_isub (S : CallFix p m c cc nL s args Ts own) {x y : Int} (hdg : decode cc pc = .ok (.isub, 1))
    (k : W p l e R s m args below meth c H locs cells slots Q (F0 m (pc + 1) ls (.int (zI (x - y)) :: rest))) : W p l e R s m args below meth c H locs cells slots Q (F0 m pc ls (.int (zI y) :: .int (zI x) :: rest)) := lv_isub S.1 S.2.1 hdg (zI_sub x y ▸ k)
theorem zv_imul (S : CallFix p m c cc nL s args Ts own) {x y : Int} (hdg : decode cc pc = .ok (.imul, 1))
    (k : W p l e R s m args below meth c H locs cells slots Q (F0 m (pc + 1) ls (.int (zI (x * y)) :: rest))) : W p l e R s m args below meth c H locs cells slots Q (F0 m pc ls (.int (zI y) :: .int (zI x) :: rest)) := lv_imul S.1 S.2.1 hdg (zI_mul x y ▸ k)
theorem zv_ineg (S : CallFix p m c cc nL s args Ts own) {x : Int} (hdg : decode cc pc = .ok (.ineg, 1))
    (k : W p l e R s m args below meth c H locs cells slots Q (F0 m (pc + 1) ls (.int (zI (-x)) :: rest))) : W p l e R s m args below meth c H locs cells slots Q (F0 m pc ls (.int (zI x) :: rest)) := lv_ineg S.1 S.2.1 hdg (zI_neg x ▸ k)
theorem zv_idiv (S : CallFix p m c cc nL s args Ts own) {x y : Int} (hx : zR x) (hy : zR y) (h0 : y ≠ 0) (hm : y ≠ -1) (hdg : decode cc pc = .ok (.idiv, 1))
    (k : W p l e R s m args below meth c H locs cells slots Q (F0 m (pc + 1) ls (.int (zI (x.tdiv y)) :: rest))) : W p l e R s m args below meth c H locs cells slots Q (F0 m pc ls (.int (zI y) :: .int (zI x) :: rest)) := lv_idiv S.1 S.2.1 hdg (fun h => h0 ((zI_eq hy zR0).mp h)) (zI_div hx hy hm ▸ k)
theorem zv_irem (S : CallFix p m c cc nL s args Ts own) {x y : Int} (hx : zR x) (hy : zR y) (h0 : y ≠ 0) (hm : y ≠ -1) (hdg : decode cc pc = .ok (.irem, 1))
    (k : W p l e R s m args below meth c H locs cells slots Q (F0 m (pc + 1) ls (.int (zI (x.tmod y)) :: rest))) : W p l e R s m args below meth c H locs cells slots Q (F0 m pc ls (.int (zI y) :: .int (zI x) :: rest)) := lv_irem S.1 S.2.1 hdg (fun h => h0 ((zI_eq hy zR0).mp h)) (zI_rem hx hy hm ▸ k)
theorem zv_ladd (S : CallFix p m c cc nL s args Ts own) {x y : Int} (hdg : decode cc pc = .ok (.ladd, 1))
    (k : W p l e R s m args below meth c H locs cells slots Q (F0 m (pc + 1) ls (.long (zL (x + y)) :: rest))) : W p l e R s m args below meth c H locs cells slots Q (F0 m pc ls (.long (zL y) :: .long (zL x) :: rest)) := lv_ladd S.1 S.2.1 hdg (zL_add x y ▸ k)
theorem zv_lsub (S : CallFix p m c cc nL s args Ts own) {x y : Int} (hdg : decode cc pc = .ok (.lsub, 1))
    (k : W p l e R s m args below meth c H locs cells slots Q (F0 m (pc + 1) ls (.long (zL (x - y)) :: rest))) : W p l e R s m args below meth c H locs cells slots Q (F0 m pc ls (.long (zL y) :: .long (zL x) :: rest)) := lv_lsub S.1 S.2.1 hdg (zL_sub x y ▸ k)
theorem zv_lmul (S : CallFix p m c cc nL s args Ts own) {x y : Int} (hdg : decode cc pc = .ok (.lmul, 1))
    (k : W p l e R s m args below meth c H locs cells slots Q (F0 m (pc + 1) ls (.long (zL (x * y)) :: rest))) : W p l e R s m args below meth c H locs cells slots Q (F0 m pc ls (.long (zL y) :: .long (zL x) :: rest)) := lv_lmul S.1 S.2.1 hdg (zL_mul x y ▸ k)
theorem zv_lneg (S : CallFix p m c cc nL s args Ts own) {x : Int} (hdg : decode cc pc = .ok (.lneg, 1))
    (k : W p l e R s m args below meth c H locs cells slots Q (F0 m (pc + 1) ls (.long (zL (-x)) :: rest))) : W p l e R s m args below meth c H locs cells slots Q (F0 m pc ls (.long (zL x) :: rest)) := lv_lneg S.1 S.2.1 hdg (zL_neg x ▸ k)
theorem zv_ldiv (S : CallFix p m c cc nL s args Ts own) {x y : Int} (hx : zS x) (hy : zS y) (h0 : 0 < y) (hdg : decode cc pc = .ok (.ldiv, 1))
    (k : W p l e R s m args below meth c H locs cells slots Q (F0 m (pc + 1) ls (.long (zL (x.tdiv y)) :: rest))) : W p l e R s m args below meth c H locs cells slots Q (F0 m pc ls (.long (zL y) :: .long (zL x) :: rest)) := lv_ldiv S.1 S.2.1 hdg (fun h => by have := (zL_eq hy zS0).mp h; omega) (zL_div hx hy h0 ▸ k)
theorem zv_i2l (S : CallFix p m c cc nL s args Ts own) {x : Int} (hx : zR x) (hdg : decode cc pc = .ok (.i2l, 1))
    (k : W p l e R s m args below meth c H locs cells slots Q (F0 m (pc + 1) ls (.long (zL x) :: rest))) : W p l e R s m args below meth c H locs cells slots Q (F0 m pc ls (.int (zI x) :: rest)) := lv_i2l S.1 S.2.1 hdg (zI_long hx) k
theorem zv_l2i (S : CallFix p m c cc nL s args Ts own) {x : Int} (hdg : decode cc pc = .ok (.l2i, 1))
    (k : W p l e R s m args below meth c H locs cells slots Q (F0 m (pc + 1) ls (.int (zI x) :: rest))) : W p l e R s m args below meth c H locs cells slots Q (F0 m pc ls (.long (zL x) :: rest)) := lv_l2i S.1 S.2.1 hdg (zL_int x) k
theorem zv_lcmp (S : CallFix p m c cc nL s args Ts own) {x y : Int} (hx : zS x) (hy : zS y) (hdg : decode cc pc = .ok (.lcmp, 1))
    (k : W p l e R s m args below meth c H locs cells slots Q (F0 m (pc + 1) ls (.int (zI (zcmp x y)) :: rest))) : W p l e R s m args below meth c H locs cells slots Q (F0 m pc ls (.long (zL y) :: .long (zL x) :: rest)) := W.lcmp S.1 S.2.1 hdg (zcmp_of hx hy ▸ k)
theorem zv_iload_n (S : CallFix p m c cc nL s args Ts own) {q : Fin 4} {i : Nat} {x : Int32} (hdg : decode cc pc = .ok (.iload_n q, 1)) (hi : (q : Nat) = i) (hl : ls[i]? = some (.val (.int x)))
    (k : W p l e R s m args below meth c H locs cells slots Q (F0 m (pc + 1) ls (.int x :: rest))) : W p l e R s m args below meth c H locs cells slots Q (F0 m pc ls rest) := lv_iload_n S.1 S.2.1 hdg hi hl k
theorem zv_iload (S : CallFix p m c cc nL s args Ts own) {i : Nat} {x : Int32} (hdg : decode cc pc = .ok (.iload i, 2)) (hl : ls[i]? = some (.val (.int x)))
    (k : W p l e R s m args below meth c H locs cells slots Q (F0 m (pc + 2) ls (.int x :: rest))) : W p l e R s m args below meth c H locs cells slots Q (F0 m pc ls rest) := lv_iload S.1 S.2.1 hdg hl k
theorem zv_lload_n (S : CallFix p m c cc nL s args Ts own) {q : Fin 4} {i : Nat} {x : Int64} (hdg : decode cc pc = .ok (.lload_n q, 1)) (hi : (q : Nat) = i) (hl : ls[i]? = some (.val (.long x)))
    (k : W p l e R s m args below meth c H locs cells slots Q (F0 m (pc + 1) ls (.long x :: rest))) : W p l e R s m args below meth c H locs cells slots Q (F0 m pc ls rest) := lv_lload_n S.1 S.2.1 hdg hi hl k
theorem zv_lload (S : CallFix p m c cc nL s args Ts own) {i : Nat} {x : Int64} (hdg : decode cc pc = .ok (.lload i, 2)) (hl : ls[i]? = some (.val (.long x)))
    (k : W p l e R s m args below meth c H locs cells slots Q (F0 m (pc + 2) ls (.long x :: rest))) : W p l e R s m args below meth c H locs cells slots Q (F0 m pc ls rest) := lv_lload S.1 S.2.1 hdg hl k
theorem zv_aload_n (S : CallFix p m c cc nL s args Ts own) {q : Fin 4} {i : Nat} {x : Nat} (hdg : decode cc pc = .ok (.aload_n q, 1)) (hi : (q : Nat) = i) (hl : ls[i]? = some (.val (.ref x)))
    (k : W p l e R s m args below meth c H locs cells slots Q (F0 m (pc + 1) ls (.ref x :: rest))) : W p l e R s m args below meth c H locs cells slots Q (F0 m pc ls rest) := lv_aload_n S.1 S.2.1 hdg hi hl k
theorem zv_aload (S : CallFix p m c cc nL s args Ts own) {i : Nat} {x : Nat} (hdg : decode cc pc = .ok (.aload i, 2)) (hl : ls[i]? = some (.val (.ref x)))
    (k : W p l e R s m args below meth c H locs cells slots Q (F0 m (pc + 2) ls (.ref x :: rest))) : W p l e R s m args below meth c H locs cells slots Q (F0 m pc ls rest) := lv_aload S.1 S.2.1 hdg hl k
theorem zv_istore_n (S : CallFix p m c cc nL s args Ts own) {q : Fin 4} {i : Nat} {x : Int32} {lv lv' : List (Nat × Value)} (hdg : decode cc pc = .ok (.istore_n q, 1)) (hi : (q : Nat) = i) (h : lv_has ls nL lv) (hn : i < nL) (hl : (i, Value.int x) :: lv.filter (fun q => !(q.1 == i) && !(q.1 + 1 == i && q.2.category == 2)) = lv')
    (k : ∀ ls' : Array Slot, lv_has ls' nL lv' → W p l e R s m args below meth c H locs cells slots Q (F0 m (pc + 1) ls' rest)) : W p l e R s m args below meth c H locs cells slots Q (F0 m pc ls (Value.int x :: rest)) := lv_istore_n S.1 S.2.1 hdg hi h hn hl k
theorem zv_istore (S : CallFix p m c cc nL s args Ts own) {i : Nat} {x : Int32} {lv lv' : List (Nat × Value)} (hdg : decode cc pc = .ok (.istore i, 2)) (h : lv_has ls nL lv) (hn : i < nL) (hl : (i, Value.int x) :: lv.filter (fun q => !(q.1 == i) && !(q.1 + 1 == i && q.2.category == 2)) = lv')
    (k : ∀ ls' : Array Slot, lv_has ls' nL lv' → W p l e R s m args below meth c H locs cells slots Q (F0 m (pc + 2) ls' rest)) : W p l e R s m args below meth c H locs cells slots Q (F0 m pc ls (Value.int x :: rest)) := lv_istore S.1 S.2.1 hdg h hn hl k
theorem zv_lstore_n (S : CallFix p m c cc nL s args Ts own) {q : Fin 4} {i : Nat} {x : Int64} {lv lv' : List (Nat × Value)} (hdg : decode cc pc = .ok (.lstore_n q, 1)) (hi : (q : Nat) = i) (h : lv_has ls nL lv) (hn : i + 1 < nL) (hl : (i, Value.long x) :: lv.filter (fun q => !(q.1 == i) && (!(q.1 == i + 1) && !(q.1 + 1 == i && q.2.category == 2))) = lv')
    (k : ∀ ls' : Array Slot, lv_has ls' nL lv' → W p l e R s m args below meth c H locs cells slots Q (F0 m (pc + 1) ls' rest)) : W p l e R s m args below meth c H locs cells slots Q (F0 m pc ls (Value.long x :: rest)) := lv_lstore_n S.1 S.2.1 hdg hi h hn hl k
theorem zv_lstore (S : CallFix p m c cc nL s args Ts own) {i : Nat} {x : Int64} {lv lv' : List (Nat × Value)} (hdg : decode cc pc = .ok (.lstore i, 2)) (h : lv_has ls nL lv) (hn : i + 1 < nL) (hl : (i, Value.long x) :: lv.filter (fun q => !(q.1 == i) && (!(q.1 == i + 1) && !(q.1 + 1 == i && q.2.category == 2))) = lv')
    (k : ∀ ls' : Array Slot, lv_has ls' nL lv' → W p l e R s m args below meth c H locs cells slots Q (F0 m (pc + 2) ls' rest)) : W p l e R s m args below meth c H locs cells slots Q (F0 m pc ls (Value.long x :: rest)) := lv_lstore S.1 S.2.1 hdg h hn hl k
theorem zv_astore_n (S : CallFix p m c cc nL s args Ts own) {q : Fin 4} {i : Nat} {x : Nat} {lv lv' : List (Nat × Value)} (hdg : decode cc pc = .ok (.astore_n q, 1)) (hi : (q : Nat) = i) (h : lv_has ls nL lv) (hn : i < nL) (hl : (i, Value.ref x) :: lv.filter (fun q => !(q.1 == i) && !(q.1 + 1 == i && q.2.category == 2)) = lv')
    (k : ∀ ls' : Array Slot, lv_has ls' nL lv' → W p l e R s m args below meth c H locs cells slots Q (F0 m (pc + 1) ls' rest)) : W p l e R s m args below meth c H locs cells slots Q (F0 m pc ls (Value.ref x :: rest)) := lv_astore_n S.1 S.2.1 hdg hi h hn hl k
theorem zv_astore (S : CallFix p m c cc nL s args Ts own) {i : Nat} {x : Nat} {lv lv' : List (Nat × Value)} (hdg : decode cc pc = .ok (.astore i, 2)) (h : lv_has ls nL lv) (hn : i < nL) (hl : (i, Value.ref x) :: lv.filter (fun q => !(q.1 == i) && !(q.1 + 1 == i && q.2.category == 2)) = lv')
    (k : ∀ ls' : Array Slot, lv_has ls' nL lv' → W p l e R s m args below meth c H locs cells slots Q (F0 m (pc + 2) ls' rest)) : W p l e R s m args below meth c H locs cells slots Q (F0 m pc ls (Value.ref x :: rest)) := lv_astore S.1 S.2.1 hdg h hn hl k
theorem zv_iinc (S : CallFix p m c cc nL s args Ts own) {i k0 : Nat} {n x : Int} {lv lv' : List (Nat × Value)} (hdg : decode cc pc = .ok (.iinc i n, 3)) (h : lv_has ls nL lv) (hk : lv[k0]? = some (i, .int (zI x))) (hn : i < nL) (hl : (i, Value.int (zI (x + n))) :: lv.filter (fun q => !(q.1 == i) && !(q.1 + 1 == i && q.2.category == 2)) = lv')
    (k : ∀ ls' : Array Slot, lv_has ls' nL lv' → W p l e R s m args below meth c H locs cells slots Q (F0 m (pc + 3) ls' rest)) : W p l e R s m args below meth c H locs cells slots Q (F0 m pc ls rest) := lv_iinc S.1 S.2.1 hdg h hk (zI_add x n) hn hl k
theorem zv_goto (S : CallFix p m c cc nL s args Ts own) {off : Int} {tgt : Nat} (hdg : decode cc pc = .ok (.goto off, 3)) (ht : (pc : Int) + off = (tgt : Int))
    (k : W p l e R s m args below meth c H locs cells slots Q (F0 m tgt ls rest)) : W p l e R s m args below meth c H locs cells slots Q (F0 m pc ls rest) := lv_goto S.1 S.2.1 hdg ht k
theorem zv_dup (S : CallFix p m c cc nL s args Ts own) {v : Value} (hdg : decode cc pc = .ok (.dup, 1)) (hv : v.category = 1)
    (k : W p l e R s m args below meth c H locs cells slots Q (F0 m (pc + 1) ls (v :: v :: rest))) : W p l e R s m args below meth c H locs cells slots Q (F0 m pc ls (v :: rest)) := lv_dup S.1 S.2.1 hdg hv k
theorem zv_dup2_11 (S : CallFix p m c cc nL s args Ts own) {va vb : Value} (hdg : decode cc pc = .ok (.dup2, 1)) (hva : va.category = 1) (hvb : vb.category = 1)
    (k : W p l e R s m args below meth c H locs cells slots Q (F0 m (pc + 1) ls (va :: vb :: va :: vb :: rest))) : W p l e R s m args below meth c H locs cells slots Q (F0 m pc ls (va :: vb :: rest)) := lv_dup2_11 S.1 S.2.1 hdg hva hvb k
theorem zI_xor {x y : Int} (hx : zR x) (hy : zR y) : ∃ z : Int, zR z ∧ zI x ^^^ zI y = zI z ∧ (z < 0 ↔ ¬ (x < 0 ↔ y < 0)) := by
  refine ⟨(zI x ^^^ zI y).toInt, zR_of _, (zI_self _).symm, ?_⟩
  have hm : ∀ w : Int32, (w.toInt < 0 ↔ w.toBitVec.msb = true) := fun w => by
    rw [BitVec.msb_eq_toInt, decide_eq_true_iff]; rfl
  have h1 := hm (zI x)
  have h2 := hm (zI y)
  have h3 := hm (zI x ^^^ zI y)
  have h4 : (zI x ^^^ zI y).toBitVec = (zI x).toBitVec ^^^ (zI y).toBitVec := rfl
  rw [h4, BitVec.msb_xor] at h3
  rw [zI_toInt hx] at h1
  rw [zI_toInt hy] at h2
  rw [h3, h1, h2]
  cases (zI x).toBitVec.msb <;> cases (zI y).toBitVec.msb <;> simp
theorem zv_ixor (S : CallFix p m c cc nL s args Ts own) {x y : Int} (hx : zR x) (hy : zR y) (hdg : decode cc pc = .ok (.ixor, 1))
    (k : ∀ z : Int, (-2147483648 ≤ z ∧ z < 2147483648) → (z < 0 ↔ ¬ (x < 0 ↔ y < 0)) → W p l e R s m args below meth c H locs cells slots Q (F0 m (pc + 1) ls (.int (zI z) :: rest))) : W p l e R s m args below meth c H locs cells slots Q (F0 m pc ls (.int (zI y) :: .int (zI x) :: rest)) := by
  obtain ⟨z, h1, h2, h3⟩ := zI_xor hx hy
  refine lv_ixor S.1 S.2.1 hdg ?_
  rw [h2]
  exact k z h1 h3
theorem zv_icmp_eq (S : CallFix p m c cc nL s args Ts own) {x y off : Int} {tgt : Nat} (hx : zR x) (hy : zR y) (hdg : decode cc pc = .ok (.if_icmp .eq off, 3)) (ht : (pc : Int) + off = (tgt : Int))
    (kt : x = y → W p l e R s m args below meth c H locs cells slots Q (F0 m tgt ls rest)) (kf : ¬ x = y → W p l e R s m args below meth c H locs cells slots Q (F0 m (pc + 3) ls rest)) : W p l e R s m args below meth c H locs cells slots Q (F0 m pc ls (.int (zI y) :: .int (zI x) :: rest)) := lv_icmp_eq S.1 S.2.1 hdg ht (fun h => kt ((zI_eq hx hy).mp h)) (fun h => kf (fun z => h ((zI_eq hx hy).mpr z)))
theorem zv_if_eq (S : CallFix p m c cc nL s args Ts own) {x off : Int} {tgt : Nat} (hx : zR x) (hdg : decode cc pc = .ok (.ifCond .eq off, 3)) (ht : (pc : Int) + off = (tgt : Int))
    (kt : x = 0 → W p l e R s m args below meth c H locs cells slots Q (F0 m tgt ls rest)) (kf : ¬ x = 0 → W p l e R s m args below meth c H locs cells slots Q (F0 m (pc + 3) ls rest)) : W p l e R s m args below meth c H locs cells slots Q (F0 m pc ls (.int (zI x) :: rest)) := lv_if_eq S.1 S.2.1 hdg ht (fun h => kt ((zI_eq hx zR0).mp h)) (fun h => kf (fun z => h ((zI_eq hx zR0).mpr z)))
theorem zv_lif_eq (S : CallFix p m c cc nL s args Ts own) {x y off : Int} {tgt : Nat} (hx : zS x) (hy : zS y) (hdc : decode cc pc = .ok (.lcmp, 1)) (hdg : decode cc (pc + 1) = .ok (.ifCond .eq off, 3)) (ht : ((pc + 1 : Nat) : Int) + off = (tgt : Int))
    (kt : x = y → W p l e R s m args below meth c H locs cells slots Q (F0 m tgt ls rest)) (kf : ¬ x = y → W p l e R s m args below meth c H locs cells slots Q (F0 m (pc + 4) ls rest)) : W p l e R s m args below meth c H locs cells slots Q (F0 m pc ls (.long (zL y) :: .long (zL x) :: rest)) := zv_lcmp S hx hy hdc (zv_if_eq S (zcmp_R x y) hdg ht (fun h => kt ((zcmp_eq x y).mp h)) (fun h => kf (fun z => h ((zcmp_eq x y).mpr z))))
theorem zv_icmp_ne (S : CallFix p m c cc nL s args Ts own) {x y off : Int} {tgt : Nat} (hx : zR x) (hy : zR y) (hdg : decode cc pc = .ok (.if_icmp .ne off, 3)) (ht : (pc : Int) + off = (tgt : Int))
    (kt : ¬ x = y → W p l e R s m args below meth c H locs cells slots Q (F0 m tgt ls rest)) (kf : x = y → W p l e R s m args below meth c H locs cells slots Q (F0 m (pc + 3) ls rest)) : W p l e R s m args below meth c H locs cells slots Q (F0 m pc ls (.int (zI y) :: .int (zI x) :: rest)) := lv_icmp_ne S.1 S.2.1 hdg ht (fun h => kt (fun z => h ((zI_eq hx hy).mpr z))) (fun h => kf ((zI_eq hx hy).mp h))
theorem zv_if_ne (S : CallFix p m c cc nL s args Ts own) {x off : Int} {tgt : Nat} (hx : zR x) (hdg : decode cc pc = .ok (.ifCond .ne off, 3)) (ht : (pc : Int) + off = (tgt : Int))
    (kt : ¬ x = 0 → W p l e R s m args below meth c H locs cells slots Q (F0 m tgt ls rest)) (kf : x = 0 → W p l e R s m args below meth c H locs cells slots Q (F0 m (pc + 3) ls rest)) : W p l e R s m args below meth c H locs cells slots Q (F0 m pc ls (.int (zI x) :: rest)) := lv_if_ne S.1 S.2.1 hdg ht (fun h => kt (fun z => h ((zI_eq hx zR0).mpr z))) (fun h => kf ((zI_eq hx zR0).mp h))
theorem zv_lif_ne (S : CallFix p m c cc nL s args Ts own) {x y off : Int} {tgt : Nat} (hx : zS x) (hy : zS y) (hdc : decode cc pc = .ok (.lcmp, 1)) (hdg : decode cc (pc + 1) = .ok (.ifCond .ne off, 3)) (ht : ((pc + 1 : Nat) : Int) + off = (tgt : Int))
    (kt : ¬ x = y → W p l e R s m args below meth c H locs cells slots Q (F0 m tgt ls rest)) (kf : x = y → W p l e R s m args below meth c H locs cells slots Q (F0 m (pc + 4) ls rest)) : W p l e R s m args below meth c H locs cells slots Q (F0 m pc ls (.long (zL y) :: .long (zL x) :: rest)) := zv_lcmp S hx hy hdc (zv_if_ne S (zcmp_R x y) hdg ht (fun h => kt (fun z => h ((zcmp_eq x y).mpr z))) (fun h => kf ((zcmp_eq x y).mp h)))
theorem zv_icmp_lt (S : CallFix p m c cc nL s args Ts own) {x y off : Int} {tgt : Nat} (hx : zR x) (hy : zR y) (hdg : decode cc pc = .ok (.if_icmp .lt off, 3)) (ht : (pc : Int) + off = (tgt : Int))
    (kt : x < y → W p l e R s m args below meth c H locs cells slots Q (F0 m tgt ls rest)) (kf : ¬ x < y → W p l e R s m args below meth c H locs cells slots Q (F0 m (pc + 3) ls rest)) : W p l e R s m args below meth c H locs cells slots Q (F0 m pc ls (.int (zI y) :: .int (zI x) :: rest)) := lv_icmp_lt S.1 S.2.1 hdg ht (fun h => kt ((zI_lt hx hy).mp h)) (fun h => kf (fun z => h ((zI_lt hx hy).mpr z)))
theorem zv_if_lt (S : CallFix p m c cc nL s args Ts own) {x off : Int} {tgt : Nat} (hx : zR x) (hdg : decode cc pc = .ok (.ifCond .lt off, 3)) (ht : (pc : Int) + off = (tgt : Int))
    (kt : x < 0 → W p l e R s m args below meth c H locs cells slots Q (F0 m tgt ls rest)) (kf : ¬ x < 0 → W p l e R s m args below meth c H locs cells slots Q (F0 m (pc + 3) ls rest)) : W p l e R s m args below meth c H locs cells slots Q (F0 m pc ls (.int (zI x) :: rest)) := lv_if_lt S.1 S.2.1 hdg ht (fun h => kt ((zI_lt hx zR0).mp h)) (fun h => kf (fun z => h ((zI_lt hx zR0).mpr z)))
theorem zv_lif_lt (S : CallFix p m c cc nL s args Ts own) {x y off : Int} {tgt : Nat} (hx : zS x) (hy : zS y) (hdc : decode cc pc = .ok (.lcmp, 1)) (hdg : decode cc (pc + 1) = .ok (.ifCond .lt off, 3)) (ht : ((pc + 1 : Nat) : Int) + off = (tgt : Int))
    (kt : x < y → W p l e R s m args below meth c H locs cells slots Q (F0 m tgt ls rest)) (kf : ¬ x < y → W p l e R s m args below meth c H locs cells slots Q (F0 m (pc + 4) ls rest)) : W p l e R s m args below meth c H locs cells slots Q (F0 m pc ls (.long (zL y) :: .long (zL x) :: rest)) := zv_lcmp S hx hy hdc (zv_if_lt S (zcmp_R x y) hdg ht (fun h => kt ((zcmp_lt x y).mp h)) (fun h => kf (fun z => h ((zcmp_lt x y).mpr z))))
theorem zv_icmp_ge (S : CallFix p m c cc nL s args Ts own) {x y off : Int} {tgt : Nat} (hx : zR x) (hy : zR y) (hdg : decode cc pc = .ok (.if_icmp .ge off, 3)) (ht : (pc : Int) + off = (tgt : Int))
    (kt : y ≤ x → W p l e R s m args below meth c H locs cells slots Q (F0 m tgt ls rest)) (kf : ¬ y ≤ x → W p l e R s m args below meth c H locs cells slots Q (F0 m (pc + 3) ls rest)) : W p l e R s m args below meth c H locs cells slots Q (F0 m pc ls (.int (zI y) :: .int (zI x) :: rest)) := lv_icmp_ge S.1 S.2.1 hdg ht (fun h => kt ((zI_le hy hx).mp h)) (fun h => kf (fun z => h ((zI_le hy hx).mpr z)))
theorem zv_if_ge (S : CallFix p m c cc nL s args Ts own) {x off : Int} {tgt : Nat} (hx : zR x) (hdg : decode cc pc = .ok (.ifCond .ge off, 3)) (ht : (pc : Int) + off = (tgt : Int))
    (kt : 0 ≤ x → W p l e R s m args below meth c H locs cells slots Q (F0 m tgt ls rest)) (kf : ¬ 0 ≤ x → W p l e R s m args below meth c H locs cells slots Q (F0 m (pc + 3) ls rest)) : W p l e R s m args below meth c H locs cells slots Q (F0 m pc ls (.int (zI x) :: rest)) := lv_if_ge S.1 S.2.1 hdg ht (fun h => kt ((zI_le zR0 hx).mp h)) (fun h => kf (fun z => h ((zI_le zR0 hx).mpr z)))
theorem zv_lif_ge (S : CallFix p m c cc nL s args Ts own) {x y off : Int} {tgt : Nat} (hx : zS x) (hy : zS y) (hdc : decode cc pc = .ok (.lcmp, 1)) (hdg : decode cc (pc + 1) = .ok (.ifCond .ge off, 3)) (ht : ((pc + 1 : Nat) : Int) + off = (tgt : Int))
    (kt : y ≤ x → W p l e R s m args below meth c H locs cells slots Q (F0 m tgt ls rest)) (kf : ¬ y ≤ x → W p l e R s m args below meth c H locs cells slots Q (F0 m (pc + 4) ls rest)) : W p l e R s m args below meth c H locs cells slots Q (F0 m pc ls (.long (zL y) :: .long (zL x) :: rest)) := zv_lcmp S hx hy hdc (zv_if_ge S (zcmp_R x y) hdg ht (fun h => kt ((zcmp_ge x y).mp h)) (fun h => kf (fun z => h ((zcmp_ge x y).mpr z))))
theorem zv_icmp_gt (S : CallFix p m c cc nL s args Ts own) {x y off : Int} {tgt : Nat} (hx : zR x) (hy : zR y) (hdg : decode cc pc = .ok (.if_icmp .gt off, 3)) (ht : (pc : Int) + off = (tgt : Int))
    (kt : y < x → W p l e R s m args below meth c H locs cells slots Q (F0 m tgt ls rest)) (kf : ¬ y < x → W p l e R s m args below meth c H locs cells slots Q (F0 m (pc + 3) ls rest)) : W p l e R s m args below meth c H locs cells slots Q (F0 m pc ls (.int (zI y) :: .int (zI x) :: rest)) := lv_icmp_gt S.1 S.2.1 hdg ht (fun h => kt ((zI_lt hy hx).mp h)) (fun h => kf (fun z => h ((zI_lt hy hx).mpr z)))
theorem zv_if_gt (S : CallFix p m c cc nL s args Ts own) {x off : Int} {tgt : Nat} (hx : zR x) (hdg : decode cc pc = .ok (.ifCond .gt off, 3)) (ht : (pc : Int) + off = (tgt : Int))
    (kt : 0 < x → W p l e R s m args below meth c H locs cells slots Q (F0 m tgt ls rest)) (kf : ¬ 0 < x → W p l e R s m args below meth c H locs cells slots Q (F0 m (pc + 3) ls rest)) : W p l e R s m args below meth c H locs cells slots Q (F0 m pc ls (.int (zI x) :: rest)) := lv_if_gt S.1 S.2.1 hdg ht (fun h => kt ((zI_lt zR0 hx).mp h)) (fun h => kf (fun z => h ((zI_lt zR0 hx).mpr z)))
theorem zv_lif_gt (S : CallFix p m c cc nL s args Ts own) {x y off : Int} {tgt : Nat} (hx : zS x) (hy : zS y) (hdc : decode cc pc = .ok (.lcmp, 1)) (hdg : decode cc (pc + 1) = .ok (.ifCond .gt off, 3)) (ht : ((pc + 1 : Nat) : Int) + off = (tgt : Int))
    (kt : y < x → W p l e R s m args below meth c H locs cells slots Q (F0 m tgt ls rest)) (kf : ¬ y < x → W p l e R s m args below meth c H locs cells slots Q (F0 m (pc + 4) ls rest)) : W p l e R s m args below meth c H locs cells slots Q (F0 m pc ls (.long (zL y) :: .long (zL x) :: rest)) := zv_lcmp S hx hy hdc (zv_if_gt S (zcmp_R x y) hdg ht (fun h => kt ((zcmp_gt x y).mp h)) (fun h => kf (fun z => h ((zcmp_gt x y).mpr z))))
theorem zv_icmp_le (S : CallFix p m c cc nL s args Ts own) {x y off : Int} {tgt : Nat} (hx : zR x) (hy : zR y) (hdg : decode cc pc = .ok (.if_icmp .le off, 3)) (ht : (pc : Int) + off = (tgt : Int))
    (kt : x ≤ y → W p l e R s m args below meth c H locs cells slots Q (F0 m tgt ls rest)) (kf : ¬ x ≤ y → W p l e R s m args below meth c H locs cells slots Q (F0 m (pc + 3) ls rest)) : W p l e R s m args below meth c H locs cells slots Q (F0 m pc ls (.int (zI y) :: .int (zI x) :: rest)) := lv_icmp_le S.1 S.2.1 hdg ht (fun h => kt ((zI_le hx hy).mp h)) (fun h => kf (fun z => h ((zI_le hx hy).mpr z)))
theorem zv_if_le (S : CallFix p m c cc nL s args Ts own) {x off : Int} {tgt : Nat} (hx : zR x) (hdg : decode cc pc = .ok (.ifCond .le off, 3)) (ht : (pc : Int) + off = (tgt : Int))
    (kt : x ≤ 0 → W p l e R s m args below meth c H locs cells slots Q (F0 m tgt ls rest)) (kf : ¬ x ≤ 0 → W p l e R s m args below meth c H locs cells slots Q (F0 m (pc + 3) ls rest)) : W p l e R s m args below meth c H locs cells slots Q (F0 m pc ls (.int (zI x) :: rest)) := lv_if_le S.1 S.2.1 hdg ht (fun h => kt ((zI_le hx zR0).mp h)) (fun h => kf (fun z => h ((zI_le hx zR0).mpr z)))
theorem zv_lif_le (S : CallFix p m c cc nL s args Ts own) {x y off : Int} {tgt : Nat} (hx : zS x) (hy : zS y) (hdc : decode cc pc = .ok (.lcmp, 1)) (hdg : decode cc (pc + 1) = .ok (.ifCond .le off, 3)) (ht : ((pc + 1 : Nat) : Int) + off = (tgt : Int))
    (kt : x ≤ y → W p l e R s m args below meth c H locs cells slots Q (F0 m tgt ls rest)) (kf : ¬ x ≤ y → W p l e R s m args below meth c H locs cells slots Q (F0 m (pc + 4) ls rest)) : W p l e R s m args below meth c H locs cells slots Q (F0 m pc ls (.long (zL y) :: .long (zL x) :: rest)) := zv_lcmp S hx hy hdc (zv_if_le S (zcmp_R x y) hdg ht (fun h => kt ((zcmp_le x y).mp h)) (fun h => kf (fun z => h ((zcmp_le x y).mpr z))))
theorem zv_tableIn (S : CallFix p m c cc nL s args Ts own) {dflt lo hi : Int} {offs : Array Int} {len : Nat} {x off : Int} {tgt : Nat} (hx : zR x) (hdg : decode cc pc = .ok (.tableswitch dflt lo hi offs, len)) (j : Nat) (hj : x = lo + (j : Int)) (hh : x ≤ hi) (ho : offs[j]? = some off) (ht : (pc : Int) + off = (tgt : Int))
    (k : W p l e R s m args below meth c H locs cells slots Q (F0 m tgt ls rest)) : W p l e R s m args below meth c H locs cells slots Q (F0 m pc ls (.int (zI x) :: rest)) := by
  refine lv_tableIn S.1 S.2.1 hdg (by rw [zI_toInt hx]; omega) (by rw [zI_toInt hx]; omega) ?_ ht k
  rw [zI_toInt hx, show (x - lo).toNat = j by omega]
  exact ho
theorem zv_tableOut (S : CallFix p m c cc nL s args Ts own) {dflt lo hi : Int} {offs : Array Int} {len : Nat} {x : Int} {tgt : Nat} (hx : zR x) (hdg : decode cc pc = .ok (.tableswitch dflt lo hi offs, len)) (h : x < lo ∨ hi < x) (ht : (pc : Int) + dflt = (tgt : Int))
    (k : W p l e R s m args below meth c H locs cells slots Q (F0 m tgt ls rest)) : W p l e R s m args below meth c H locs cells slots Q (F0 m pc ls (.int (zI x) :: rest)) := lv_tableOut S.1 S.2.1 hdg (by rw [zI_toInt hx]; exact h) ht k
theorem zv_iald (S : CallFix p m c cc nL s args Ts own) (hK : va_K D cl tys s) (hP : va_P D cl ws H) (q0 t0 : Nat) {a n : Nat} {cA : ClassId} {F : Nat → Int} (ha : ws[q0]? = some (a, .inl (cA, n, .inl (zA F)))) (ht : tys[t0]? = some (cA, .int)) {i : Int} (j : Nat) (hj : i = (j : Int)) (hn : j < n) (hN : n < 2147483648) (hdg : decode cc pc = .ok (.iaload, 1))
    (k : W p l e R s m args below meth c H locs cells slots Q (F0 m (pc + 1) ls (.int (zI (F j)) :: rest))) : W p l e R s m args below meth c H locs cells slots Q (F0 m pc ls (.int (zI i) :: .ref a :: rest)) := by
  refine va_iald S.1 S.2.1 hK hP q0 t0 ha ht (zI_in hj hn hN) hdg ?_
  rw [zI_clamp hj (Nat.lt_trans hn hN)]
  exact k
theorem zv_zald (S : CallFix p m c cc nL s args Ts own) (hK : va_K D cl tys s) (hP : va_P D cl ws H) (q0 t0 : Nat) {a n : Nat} {cA : ClassId} {F : Nat → Int} (ha : ws[q0]? = some (a, .inl (cA, n, .inl (zA F)))) (ht : tys[t0]? = some (cA, .boolean)) {i : Int} (j : Nat) (hj : i = (j : Int)) (hn : j < n) (hN : n < 2147483648) (hdg : decode cc pc = .ok (.baload, 1))
    (k : W p l e R s m args below meth c H locs cells slots Q (F0 m (pc + 1) ls (.int (zI (F j)) :: rest))) : W p l e R s m args below meth c H locs cells slots Q (F0 m pc ls (.int (zI i) :: .ref a :: rest)) := by
  refine va_zald S.1 S.2.1 hK hP q0 t0 ha ht (zI_in hj hn hN) hdg ?_
  rw [zI_clamp hj (Nat.lt_trans hn hN)]
  exact k
theorem zv_lald (S : CallFix p m c cc nL s args Ts own) (hK : va_K D cl tys s) (hP : va_P D cl ws H) (q0 t0 : Nat) {a n : Nat} {cA : ClassId} {F : Nat → Int} (ha : ws[q0]? = some (a, .inl (cA, n, .inr (.inl (zB F))))) (ht : tys[t0]? = some (cA, .long)) {i : Int} (j : Nat) (hj : i = (j : Int)) (hn : j < n) (hN : n < 2147483648) (hdg : decode cc pc = .ok (.laload, 1))
    (k : W p l e R s m args below meth c H locs cells slots Q (F0 m (pc + 1) ls (.long (zL (F j)) :: rest))) : W p l e R s m args below meth c H locs cells slots Q (F0 m pc ls (.int (zI i) :: .ref a :: rest)) := by
  refine va_lald S.1 S.2.1 hK hP q0 t0 ha ht (zI_in hj hn hN) hdg ?_
  rw [zI_clamp hj (Nat.lt_trans hn hN)]
  exact k
theorem zv_iast (S : CallFix p m c cc nL s args Ts own) (hK : va_K D cl tys s) (hP : va_P D cl ws H) (hD : va_D A ws) (hS : va_S A H0 H locs) (q0 t0 : Nat) {a n : Nat} {cA : ClassId} {F : Nat → Int} (ha : ws[q0]? = some (a, .inl (cA, n, .inl (zA F)))) (ht : tys[t0]? = some (cA, .int)) {i v : Int} (j : Nat) (hj : i = (j : Int)) (hn : j < n) (hN : n < 2147483648) (hdg : decode cc pc = .ok (.iastore, 1))
    (k : ∀ (H1 : Heap) (locs1 : List Loc), va_P D cl (ws.set q0 (a, .inl (cA, n, .inl (zA (zU F j v))))) H1 → va_D A (ws.set q0 (a, .inl (cA, n, .inl (zA (zU F j v))))) → va_S A H0 H1 locs1 → W p l e R s m args below meth c H1 locs1 cells slots Q (F0 m (pc + 1) ls rest)) : W p l e R s m args below meth c H locs cells slots Q (F0 m pc ls (.int (zI v) :: .int (zI i) :: .ref a :: rest)) := by
  refine va_iast S.1 S.2.1 hK hP hD hS q0 t0 ha ht (zI_in hj hn hN) hdg (fun H1 locs1 h1 h2 h3 => ?_)
  rw [zI_clamp hj (Nat.lt_trans hn hN), zA_U] at h1 h2
  exact k H1 locs1 h1 h2 h3
theorem zI_bool {v : Int} (h : v = 0 ∨ v = 1) : vp_nar .boolean (zI v) = zI v := by rcases h with rfl | rfl <;> rfl
theorem zv_zast (S : CallFix p m c cc nL s args Ts own) (hK : va_K D cl tys s) (hP : va_P D cl ws H) (hD : va_D A ws) (hS : va_S A H0 H locs) (q0 t0 : Nat) {a n : Nat} {cA : ClassId} {F : Nat → Int} (ha : ws[q0]? = some (a, .inl (cA, n, .inl (zA F)))) (ht : tys[t0]? = some (cA, .boolean)) {i v : Int} (j : Nat) (hj : i = (j : Int)) (hn : j < n) (hN : n < 2147483648) (hv : v = 0 ∨ v = 1) (hdg : decode cc pc = .ok (.bastore, 1))
    (k : ∀ (H1 : Heap) (locs1 : List Loc), va_P D cl (ws.set q0 (a, .inl (cA, n, .inl (zA (zU F j v))))) H1 → va_D A (ws.set q0 (a, .inl (cA, n, .inl (zA (zU F j v))))) → va_S A H0 H1 locs1 → W p l e R s m args below meth c H1 locs1 cells slots Q (F0 m (pc + 1) ls rest)) : W p l e R s m args below meth c H locs cells slots Q (F0 m pc ls (.int (zI v) :: .int (zI i) :: .ref a :: rest)) := by
  refine va_zast S.1 S.2.1 hK hP hD hS q0 t0 ha ht (zI_in hj hn hN) hdg (fun H1 locs1 h1 h2 h3 => ?_)
  rw [zI_clamp hj (Nat.lt_trans hn hN), zI_bool hv, zA_U] at h1 h2
  exact k H1 locs1 h1 h2 h3
theorem zv_last (S : CallFix p m c cc nL s args Ts own) (hK : va_K D cl tys s) (hP : va_P D cl ws H) (hD : va_D A ws) (hS : va_S A H0 H locs) (q0 t0 : Nat) {a n : Nat} {cA : ClassId} {F : Nat → Int} (ha : ws[q0]? = some (a, .inl (cA, n, .inr (.inl (zB F))))) (ht : tys[t0]? = some (cA, .long)) {i v : Int} (j : Nat) (hj : i = (j : Int)) (hn : j < n) (hN : n < 2147483648) (hdg : decode cc pc = .ok (.lastore, 1))
    (k : ∀ (H1 : Heap) (locs1 : List Loc), va_P D cl (ws.set q0 (a, .inl (cA, n, .inr (.inl (zB (zU F j v)))))) H1 → va_D A (ws.set q0 (a, .inl (cA, n, .inr (.inl (zB (zU F j v)))))) → va_S A H0 H1 locs1 → W p l e R s m args below meth c H1 locs1 cells slots Q (F0 m (pc + 1) ls rest)) : W p l e R s m args below meth c H locs cells slots Q (F0 m pc ls (.long (zL v) :: .int (zI i) :: .ref a :: rest)) := by
  refine va_last S.1 S.2.1 hK hP hD hS q0 t0 ha ht (zI_in hj hn hN) hdg (fun H1 locs1 h1 h2 h3 => ?_)
  rw [zI_clamp hj (Nat.lt_trans hn hN), zB_U] at h1 h2
  exact k H1 locs1 h1 h2 h3
theorem zv_get (S : CallFix p m c cc nL s args Ts own) {ref C : String} {T : u_T} {N ci index a : Nat} (hin : ∀ w ∈ u_ws C T N, w ∈ Ts) (hK : va_K D cl tys s) (hP : va_P D cl ws H) (q0 : Nat) {fs : List Value} (he : ws[q0]? = some (a, .inr (ci, fs))) (hc : cl[ci]? = some (C, T, N)) (k0 : Nat) (hk : k0 < N) (hw : Cond.fieldLink own index ref (T k0).2.1 (T k0).2.2.1 ∈ Ts) (href : (T k0).1 = ref) {v : Value} (hv : fs[k0]? = some v) (hdg : decode cc pc = .ok (.getfield index, 3))
    (k : W p l e R s m args below meth c H locs cells slots Q (F0 m (pc + 3) ls (v :: rest))) : W p l e R s m args below meth c H locs cells slots Q (F0 m pc ls (.ref a :: rest)) := va_get S.1 S.2.1 S.2.2.2.2 hin S.2.2.2.1 hK hP q0 he hc k0 hk (S.2.2.2.2 _ hw) (fun _ h => href ▸ h) hv hdg k
theorem zv_getN (S : CallFix p m c cc nL s args Ts own) {ref C host : String} {T : u_T} {N ci index a : Nat} (hin : ∀ w ∈ u_ws C T N, w ∈ Ts) (hK : va_K D cl tys s) (hP : va_P D cl ws H) (q0 : Nat) {fs : List Value} (he : ws[q0]? = some (a, .inr (ci, fs))) (hc : cl[ci]? = some (C, T, N)) (k0 : Nat) (hk : k0 < N) (hw : va_Nw (Cond.fieldLinkNest own index ref (T k0).2.1 (T k0).2.2.1 host) s) (href : (T k0).1 = ref) {v : Value} (hv : fs[k0]? = some v) (hdg : decode cc pc = .ok (.getfield index, 3))
    (k : W p l e R s m args below meth c H locs cells slots Q (F0 m (pc + 3) ls (v :: rest))) : W p l e R s m args below meth c H locs cells slots Q (F0 m pc ls (.ref a :: rest)) := va_getN S.1 S.2.1 S.2.2.2.2 hin S.2.2.2.1 hK hP q0 he hc k0 hk (va_Nw.use rfl hw) (fun _ h => href ▸ h) hv hdg k
theorem zv_put (S : CallFix p m c cc nL s args Ts own) {ref C : String} {T : u_T} {N ci index a : Nat} (hin : ∀ w ∈ u_ws C T N, w ∈ Ts) (ty0 : Nat → FieldType) (hty : ∀ k, k < N → parseFieldDescriptor (T k).2.2.1 = some (ty0 k)) (hnm : ∀ a, a < N → ∀ b, b < N → a ≠ b → (T a).2.1 ≠ (T b).2.1) (hK : va_K D cl tys s) (hP : va_P D cl ws H) (hD : va_D A ws) (hS : va_S A H0 H locs) (q0 : Nat) {fs : List Value} (he : ws[q0]? = some (a, .inr (ci, fs))) (hc : cl[ci]? = some (C, T, N)) (k0 : Nat) (hk : k0 < N) (hw : Cond.fieldLink own index ref (T k0).2.1 (T k0).2.2.1 ∈ Ts) (href : (T k0).1 = ref) (hfin : (T k0).2.2.2 = false) {v : Value} (hn : narrow (ty0 k0) v = v) (hfit : fits (ty0 k0) v = true) (hl : k0 < fs.length) (hdg : decode cc pc = .ok (.putfield index, 3))
    (k : ∀ (H1 : Heap) (locs1 : List Loc), va_P D cl (ws.set q0 (a, .inr (ci, fs.set k0 v))) H1 → va_D A (ws.set q0 (a, .inr (ci, fs.set k0 v))) → va_S A H0 H1 locs1 → W p l e R s m args below meth c H1 locs1 cells slots Q (F0 m (pc + 3) ls rest)) : W p l e R s m args below meth c H locs cells slots Q (F0 m pc ls (v :: .ref a :: rest)) := va_put S.1 S.2.1 S.2.2.2.2 hin ty0 hty hnm S.2.2.2.1 hK hP hD hS q0 he hc k0 hk (S.2.2.2.2 _ hw) (fun _ h => href ▸ h) hfin (hty k0 hk) hn hfit hl hdg k
theorem zv_putF (S : CallFix p m c cc nL s args Ts own) {ref C : String} {T : u_T} {N ci index a : Nat} (hin : ∀ w ∈ u_ws C T N, w ∈ Ts) (ty0 : Nat → FieldType) (hty : ∀ k, k < N → parseFieldDescriptor (T k).2.2.1 = some (ty0 k)) (hnm : ∀ a, a < N → ∀ b, b < N → a ≠ b → (T a).2.1 ≠ (T b).2.1) (hK : va_K D cl tys s) (hP : va_P D cl ws H) (hD : va_D A ws) (hS : va_S A H0 H locs) (q0 : Nat) {fs : List Value} (he : ws[q0]? = some (a, .inr (ci, fs))) (hc : cl[ci]? = some (C, T, N)) (k0 : Nat) (hk : k0 < N) (hw : Cond.fieldLink own index ref (T k0).2.1 (T k0).2.2.1 ∈ Ts) (href : (T k0).1 = ref) (hfin : (T k0).2.2.2 = true) (hin2 : meth.name = "<init>") (hdecl : (T k0).1 = own) {v : Value} (hn : narrow (ty0 k0) v = v) (hfit : fits (ty0 k0) v = true) (hl : k0 < fs.length) (hdg : decode cc pc = .ok (.putfield index, 3))
    (k : ∀ (H1 : Heap) (locs1 : List Loc), va_P D cl (ws.set q0 (a, .inr (ci, fs.set k0 v))) H1 → va_D A (ws.set q0 (a, .inr (ci, fs.set k0 v))) → va_S A H0 H1 locs1 → W p l e R s m args below meth c H1 locs1 cells slots Q (F0 m (pc + 3) ls rest)) : W p l e R s m args below meth c H locs cells slots Q (F0 m pc ls (v :: .ref a :: rest)) := va_putF S.1 S.2.1 S.2.2.2.2 hin ty0 hty hnm S.2.2.2.1 hK hP hD hS q0 he hc k0 hk (S.2.2.2.2 _ hw) (fun _ h => href ▸ h) hfin hin2 hdecl (hty k0 hk) hn hfit hl hdg k
theorem zv_ifb_eq (S : CallFix p m c cc nL s args Ts own) {P : Prop} {off : Int} {tgt : Nat} (hdg : decode cc pc = .ok (.ifCond .eq off, 3)) (ht : (pc : Int) + off = (tgt : Int))
    (kt : ¬ P → W p l e R s m args below meth c H locs cells slots Q (F0 m tgt ls rest)) (kf : P → W p l e R s m args below meth c H locs cells slots Q (F0 m (pc + 3) ls rest)) : W p l e R s m args below meth c H locs cells slots Q (F0 m pc ls (.int (zI (zb P)) :: rest)) := zv_if_eq S (zb_R P) hdg ht (fun h => kt (zb_iff0.mp h)) (fun h => kf (Classical.byContradiction fun q => h (zb_f q)))
theorem zv_ifb_ne (S : CallFix p m c cc nL s args Ts own) {P : Prop} {off : Int} {tgt : Nat} (hdg : decode cc pc = .ok (.ifCond .ne off, 3)) (ht : (pc : Int) + off = (tgt : Int))
    (kt : P → W p l e R s m args below meth c H locs cells slots Q (F0 m tgt ls rest)) (kf : ¬ P → W p l e R s m args below meth c H locs cells slots Q (F0 m (pc + 3) ls rest)) : W p l e R s m args below meth c H locs cells slots Q (F0 m pc ls (.int (zI (zb P)) :: rest)) := zv_if_ne S (zb_R P) hdg ht (fun h => kt (Classical.byContradiction fun q => h (zb_f q))) (fun h => kf (zb_iff0.mp h))
theorem zI_max {x y : Int} (hx : zR x) (hy : zR y) : (if zI x < zI y then zI y else zI x) = zI (zmax x y) := by
  unfold zmax
  by_cases h : x < y
  · rw [if_pos h, if_pos ((zI_lt hx hy).mpr h)]
  · rw [if_neg h, if_neg (fun q => h ((zI_lt hx hy).mp q))]
theorem zv_max (S : CallFix p m c cc nL s args Ts own) {lv : List (Nat × Value)} (hl : lv_has ls nL lv) {x y : Int} {index : Nat} (hx : zR x) (hy : zR y) (w1 : Cond.methodLink own index Lib.Math.max.name ∈ Ts) (w2 : Cond.static Lib.Math.max.name ∈ Ts) (w3 : Cond.initialized "java/lang/Math" ∈ Ts) (w4 : Cond.code Lib.Math.max.name Lib.Math.max.code 2 (some .int) ∈ Ts)
    (hf : 1 ≤ R.frames) (hlo : (rest.map fun v => v.category).sum + 13 ≤ R.locals) (hc : cells ≤ R.cells) (hs : slots ≤ R.slots) (hdg : decode cc pc = .ok (.invokestatic index, 3))
    (k : W p l e R s m args below meth c H locs cells slots Q (F0 m (pc + 3) ls (.int (zI (zmax x y)) :: rest))) : W p l e R s m args below meth c H locs cells slots Q (F0 m pc ls (.int (zI y) :: .int (zI x) :: rest)) := va_mmax S.1 S.2.1 (S.2.2.1.trans hl.1.symm) S.2.2.2.1 (S.2.2.2.2 _ w1) (S.2.2.2.2 _ w2) (S.2.2.2.2 _ w3) (S.2.2.2.2 _ w4) hf hlo hc hs hdg (zI_max hx hy ▸ k)
theorem zI_min {x y : Int} (hx : zR x) (hy : zR y) : (if zI y < zI x then zI y else zI x) = zI (zmin x y) := by
  unfold zmin
  by_cases h : y < x
  · rw [if_pos h, if_pos ((zI_lt hy hx).mpr h)]
  · rw [if_neg h, if_neg (fun q => h ((zI_lt hy hx).mp q))]
theorem zv_min (S : CallFix p m c cc nL s args Ts own) {lv : List (Nat × Value)} (hl : lv_has ls nL lv) {x y : Int} {index : Nat} (hx : zR x) (hy : zR y) (w1 : Cond.methodLink own index Lib.Math.min.name ∈ Ts) (w2 : Cond.static Lib.Math.min.name ∈ Ts) (w3 : Cond.initialized "java/lang/Math" ∈ Ts) (w4 : Cond.code Lib.Math.min.name Lib.Math.min.code 2 (some .int) ∈ Ts)
    (hf : 1 ≤ R.frames) (hlo : (rest.map fun v => v.category).sum + 13 ≤ R.locals) (hc : cells ≤ R.cells) (hs : slots ≤ R.slots) (hdg : decode cc pc = .ok (.invokestatic index, 3))
    (k : W p l e R s m args below meth c H locs cells slots Q (F0 m (pc + 3) ls (.int (zI (zmin x y)) :: rest))) : W p l e R s m args below meth c H locs cells slots Q (F0 m pc ls (.int (zI y) :: .int (zI x) :: rest)) := va_mmin S.1 S.2.1 (S.2.2.1.trans hl.1.symm) S.2.2.2.1 (S.2.2.2.2 _ w1) (S.2.2.2.2 _ w2) (S.2.2.2.2 _ w3) (S.2.2.2.2 _ w4) hf hlo hc hs hdg (zI_min hx hy ▸ k)
theorem zI_abs {x : Int} (hx : zR x) : (if 0 ≤ zI x then zI x else 0 - zI x) = zI (zabs x) := by
  show (if zI 0 ≤ zI x then zI x else zI 0 - zI x) = zI (zabs x)
  unfold zabs
  by_cases h : 0 ≤ x
  · rw [if_pos h, if_pos ((zI_le zR0 hx).mpr h)]
  · rw [if_neg h, if_neg (fun q => h ((zI_le zR0 hx).mp q)), zI_sub, Int.zero_sub]
theorem zv_abs (S : CallFix p m c cc nL s args Ts own) {lv : List (Nat × Value)} (hl : lv_has ls nL lv) {x : Int} {index : Nat} (hx : zR x) (w1 : Cond.methodLink own index Lib.Math.abs.name ∈ Ts) (w2 : Cond.static Lib.Math.abs.name ∈ Ts) (w3 : Cond.initialized "java/lang/Math" ∈ Ts) (w4 : Cond.code Lib.Math.abs.name Lib.Math.abs.code 1 (some .int) ∈ Ts)
    (hf : 1 ≤ R.frames) (hlo : (rest.map fun v => v.category).sum + 13 ≤ R.locals) (hc : cells ≤ R.cells) (hs : slots ≤ R.slots) (hdg : decode cc pc = .ok (.invokestatic index, 3))
    (k : W p l e R s m args below meth c H locs cells slots Q (F0 m (pc + 3) ls (.int (zI (zabs x)) :: rest))) : W p l e R s m args below meth c H locs cells slots Q (F0 m pc ls (.int (zI x) :: rest)) := va_mabs S.1 S.2.1 (S.2.2.1.trans hl.1.symm) S.2.2.2.1 (S.2.2.2.2 _ w1) (S.2.2.2.2 _ w2) (S.2.2.2.2 _ w3) (S.2.2.2.2 _ w4) hf hlo hc hs hdg (zI_abs hx ▸ k)
end ZV
