/-! the law: what holds between calls; rows of its own -/
def zInv (x : zSt) : Prop := (0 ≤ x.sc ∧ x.sc ≤ 8) ∧ x.sh = x.sc ∧ (∀ j, j < 8 → x.K j ≤ 10 ∧ x.MN j = (x.K j : Int)) ∧
  (∀ j i, j < 8 → i < x.K j → x.FA j i = x.MA (10 * j + i) ∧ x.FB j i = x.MB (10 * j + i) ∧ x.FC j i = x.MC (10 * j + i) ∧ x.FE j i = x.ME (10 * j + i) ∧ ¬ (x.FA j i = 0 ∧ x.FB j i = 0)) ∧
  (∀ j, j < 80 → (-60 ≤ x.MA j ∧ x.MA j ≤ 60) ∧ (-60 ≤ x.MB j ∧ x.MB j ≤ 60) ∧ (-999 ≤ x.MC j ∧ x.MC j ≤ 999) ∧ (-9 ≤ x.ME j ∧ x.ME j ≤ 9)) ∧
  x.n < 2 ^ 60 ∧ (∀ v, 1 ≤ v → v ≤ 60 → (zkc x.n v ↔ ¬ x.Kc v = 0)) ∧ (∀ j, j < 61 → x.Kc j = 0 ∨ x.Kc j = 1) ∧ x.co = ((zpop 64 x.n : Nat) : Int) ∧ zpop 64 x.n ≤ 6
section ZV
variable {x : zSt} {t : Nat}
theorem zi_a (I : zInv x) (ht : t < 8) : ∀ j, j < x.K t → -60 ≤ x.FA t j ∧ x.FA t j ≤ 60 := fun j hj => by
  have h1 := I.2.2.1 t ht; have h2 := I.2.2.2.1 t j ht hj; have h3 := I.2.2.2.2.1 (10 * t + j) (by omega)
  rw [h2.1]; exact h3.1
theorem zi_b (I : zInv x) (ht : t < 8) : ∀ j, j < x.K t → -60 ≤ x.FB t j ∧ x.FB t j ≤ 60 := fun j hj => by
  have h1 := I.2.2.1 t ht; have h2 := I.2.2.2.1 t j ht hj; have h3 := I.2.2.2.2.1 (10 * t + j) (by omega)
  rw [h2.2.1]; exact h3.2.1
theorem zi_c (I : zInv x) (ht : t < 8) : ∀ j, j < x.K t → -999 ≤ x.FC t j ∧ x.FC t j ≤ 999 := fun j hj => by
  have h1 := I.2.2.1 t ht; have h2 := I.2.2.2.1 t j ht hj; have h3 := I.2.2.2.2.1 (10 * t + j) (by omega)
  rw [h2.2.2.1]; exact h3.2.2.1
theorem zi_e (I : zInv x) (ht : t < 8) : ∀ j, j < x.K t → -9 ≤ x.FE t j ∧ x.FE t j ≤ 9 := fun j hj => by
  have h1 := I.2.2.1 t ht; have h2 := I.2.2.2.1 t j ht hj; have h3 := I.2.2.2.2.1 (10 * t + j) (by omega)
  rw [h2.2.2.2.1]; exact h3.2.2.2
theorem zi_z (I : zInv x) (ht : t < 8) : ∀ i, i < x.K t → ¬ (x.FA t i = 0 ∧ x.FB t i = 0) := fun i hi => (I.2.2.2.1 t i ht hi).2.2.2.2
theorem zi_N (I : zInv x) : ∀ j, j < 8 → 0 ≤ x.MN j ∧ x.MN j ≤ 10 := fun j hj => by have h := I.2.2.1 j hj; omega
theorem zi_A (I : zInv x) : ∀ j, j < 80 → -60 ≤ x.MA j ∧ x.MA j ≤ 60 := fun j hj => (I.2.2.2.2.1 j hj).1
theorem zi_B (I : zInv x) : ∀ j, j < 80 → -60 ≤ x.MB j ∧ x.MB j ≤ 60 := fun j hj => (I.2.2.2.2.1 j hj).2.1
theorem zi_C (I : zInv x) : ∀ j, j < 80 → -999 ≤ x.MC j ∧ x.MC j ≤ 999 := fun j hj => (I.2.2.2.2.1 j hj).2.2.1
theorem zi_E (I : zInv x) : ∀ j, j < 80 → -9 ≤ x.ME j ∧ x.ME j ≤ 9 := fun j hj => (I.2.2.2.2.1 j hj).2.2.2
theorem zi_sh (I : zInv x) : 0 ≤ x.sh ∧ x.sh ≤ 8 := by have h := I.1; have h2 := I.2.1; omega
theorem zi_co (I : zInv x) : 0 ≤ x.co ∧ x.co ≤ 60 := by have h := I.2.2.2.2.2.2.2.2; omega
theorem zi_sf (I : zInv x) {g : Nat → Nat} {v : Int} (ht : t < 8) (hvt : 0 ≤ v → v < x.sc → v.toNat = t) : 0 ≤ v → v < x.sc → zSF g v.toNat = some (g (2 + 5 * t)) := fun h1 h2 => by
  rw [hvt h1 h2]; exact if_pos ht
theorem zi_t (I : zInv x) (v : Int) : ∃ t, t < 8 ∧ (0 ≤ v → v < x.sc → v.toNat = t) := by
  have h := I.1
  by_cases q : 0 ≤ v ∧ v < x.sc
  · exact ⟨v.toNat, by omega, fun _ _ => rfl⟩
  · exact ⟨0, by omega, fun h1 h2 => absurd ⟨h1, h2⟩ q⟩
end ZV
section ZLR
variable {p : Program} {l : Launch} {e : Env} {R : Room} {s : State} {m : MethodId} {args : Array Value} {below : List Frame} {meth : Method} {c : Code} {H : Heap} {locs : List Loc} {cells slots : Nat} {Q : State → Prop}
variable {cc : ByteArray} {nL pc : Nat} {ls : Array Slot} {rest : List Value} {Ts : List Cond} {own : String}
variable {A : Nat → Prop} {H0 : Heap}
theorem zv_sld (S : CallFix p m c cc nL s args Ts own) {b L : Nat} {sx : Nat → Int} (hX : va_X b L (fun j => zI (sx j)) s H0) (hbl : b < H0.size) (hbA : ¬ A b) (hS : va_S A H0 H locs) {i : Int} (j : Nat) (hj : i = (j : Int)) (hn : j < L) (hN : L < 2147483648) (hdg : decode cc pc = .ok (.iaload, 1))
    (kk : W p l e R s m args below meth c H locs cells slots Q (F0 m (pc + 1) ls (.int (zI (sx j)) :: rest))) : W p l e R s m args below meth c H locs cells slots Q (F0 m pc ls (.int (zI i) :: .ref b :: rest)) := by
  refine va_sld S.1 S.2.1 hX hbl hbA hS (zI_in hj hn hN) hdg ?_
  rw [zI_clamp hj (Nat.lt_trans hn hN)]
  exact kk
theorem zv_bool (S : CallFix p m c cc nL s args Ts own) {v : Int} (hv : zR v) (d0 : decode cc pc = .ok (.ifCond .eq 7, 3)) (d3 : decode cc (pc + 3) = .ok (.iconst 1, 1)) (d4 : decode cc (pc + 4) = .ok (.goto 4, 3)) (d7 : decode cc (pc + 7) = .ok (.iconst 0, 1))
    (k : W p l e R s m args below meth c H locs cells slots Q (F0 m (pc + 8) ls (.int (zI (zb (v ≠ 0))) :: rest))) : W p l e R s m args below meth c H locs cells slots Q (F0 m pc ls (.int (zI v) :: rest)) := by
  refine zv_if_eq (tgt := pc + 7) S hv d0 (by omega) (fun z => ?_) (fun z => ?_)
  · rw [zb_f (fun q => q z)] at k
    exact zv_iconst S d7 k
  · rw [zb_t z] at k
    refine zv_iconst S d3 ?_
    exact zv_goto (tgt := pc + 8) S d4 (by omega) k
theorem zv_boolL (S : CallFix p m c cc nL s args Ts own) {v : Int} (hv : zR v) (d0 : decode cc pc = .ok (.ifCond .eq 7, 3)) (d3 : decode cc (pc + 3) = .ok (.lconst 1, 1)) (d4 : decode cc (pc + 4) = .ok (.goto 4, 3)) (d7 : decode cc (pc + 7) = .ok (.lconst 0, 1))
    (k : W p l e R s m args below meth c H locs cells slots Q (F0 m (pc + 8) ls (.long (zL (zb (v ≠ 0))) :: rest))) : W p l e R s m args below meth c H locs cells slots Q (F0 m pc ls (.int (zI v) :: rest)) := by
  refine zv_if_eq (tgt := pc + 7) S hv d0 (by omega) (fun z => ?_) (fun z => ?_)
  · rw [zb_f (fun q => q z)] at k
    exact zv_lconst (v := 0) S d7 (by decide) k
  · rw [zb_t z] at k
    refine zv_lconst (v := 1) S d3 (by decide) ?_
    exact zv_goto (tgt := pc + 8) S d4 (by omega) k
theorem zv_lif_same (S : CallFix p m c cc nL s args Ts own) {x y off : Int} {tgt : Nat} (h : x = y) (hdc : decode cc pc = .ok (.lcmp, 1)) (hdg : decode cc (pc + 1) = .ok (.ifCond .eq off, 3)) (ht : ((pc + 1 : Nat) : Int) + off = (tgt : Int))
    (k : W p l e R s m args below meth c H locs cells slots Q (F0 m tgt ls rest)) : W p l e R s m args below meth c H locs cells slots Q (F0 m pc ls (.long (zL y) :: .long (zL x) :: rest)) := by
  subst h
  rw [← zL_self (zL x)]
  exact zv_lif_eq S (zS_of _) (zS_of _) hdc hdg ht (fun _ => k) (fun z => absurd rfl z)
end ZLR
/-- what the law's body stands on, the same at each of its instructions -/
def zCtx (p : Program) (l : Launch) (s : State) (m : MethodId) (c : Code) (G : zG) (b L : Nat) (sx : Nat → Int) : Prop :=
  CallFix p m c code 8 s #[Value.ref b] wsL_law RL ∧ zN s ∧ va_K G.1 vwCl (zT G) s ∧ zE (fun q => s.heap.size ≤ q) s s.heap ∧ va_X b L (fun j => zI (sx j)) s s.heap ∧ b < s.heap.size ∧ l.stackTraces = false ∧ L ≤ 3584 ∧ (∀ j, zR (sx j))
/-- from this instruction, at the start of a round, the law comes to Q -/
def zAt (p : Program) (l : Launch) (e : Env) (s : State) (m : MethodId) (below : List Frame) (meth : Method) (c : Code) (G : zG) (b o : Nat) (g h : Nat → Nat) (Q : State → Prop) (i : Int) (cells slots pc : Nat) : Prop :=
  ∀ x, zInv x → ∀ (H : Heap) (locs : List Loc), va_P G.1 vwCl (zWd G o g h x) H → va_D (fun q => s.heap.size ≤ q) (zWd G o g h x) → va_S (fun q => s.heap.size ≤ q) s.heap H locs → ∀ ls : Array Slot, lv_has ls 8 [(4, .int (zI i)), (3, .ref o), (2, .ref (h 0)), (1, .ref (g 0)), (0, .ref b)] → W p l e room_1 s m #[Value.ref b] below meth c H locs cells slots Q (F0 m pc ls [])
