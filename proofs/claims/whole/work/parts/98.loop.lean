/-! the law's loop -/
section ZLO
variable {p : Program} {l : Launch} {e : Env} {R : Room} {s : State} {m : MethodId} {args : Array Value} {below : List Frame} {meth : Method} {c : Code} {H : Heap} {locs : List Loc} {cells slots : Nat} {Q : State → Prop}
variable {cc : ByteArray} {nL pc : Nat} {ls : Array Slot} {rest : List Value} {Ts : List Cond} {own : String} {A : Nat → Prop} {H0 : Heap}
theorem zv_slen (S : CallFix p m c cc nL s args Ts own) {b L : Nat} {xs : Nat → Int32} (hX : va_X b L xs s H0) (hbl : b < H0.size) (hbA : ¬ A b) (hS : va_S A H0 H locs) (hdg : decode cc pc = .ok (.arraylength, 1))
    (kk : W p l e R s m args below meth c H locs cells slots Q (F0 m (pc + 1) ls (.int (zI (L : Int)) :: rest))) : W p l e R s m args below meth c H locs cells slots Q (F0 m pc ls (.ref b :: rest)) := by
  refine va_slen S.1 S.2.1 hX hbl hbA hS hdg ?_
  rw [show Int32.ofNat L = zI (L : Int) from zI_nI L]
  exact kk
end ZLO
set_option maxRecDepth 20000 in
set_option maxHeartbeats 8000000 in
theorem zloop {p : Program} {l : Launch} {e : Env} {s : State} {m : MethodId} {below : List Frame} {meth : Method} {c : Code} {G : zG} {b o L : Nat} {g h : Nat → Nat} {sx : Nat → Int} {Q : State → Prop} (C : zCtx p l s m c G b L sx)
    (kx : ∀ (H : Heap) (locs : List Loc) (cells slots : Nat) (ls : Array Slot), (∀ q ∈ locs, s.heap.size ≤ q.base) → cells ≤ 601024 → slots ≤ 7293034 → W p l e room_1 s m #[Value.ref b] below meth c H locs cells slots Q (F0 m 1607 ls [])) :
    ∀ (nf k : Nat) (i : Int) (cells slots : Nat), 513 ≤ k + nf → 7 * k ≤ L → i = ((7 * k : Nat) : Int) → cells ≤ 100 + 10 * k → slots ≤ 10000 + 100 * k → zAt p l e s m below meth c G b o g h Q i cells slots 23 := by
  intro nf
  induction nf with
  | zero =>
    intro k i cells slots hf hk
    obtain ⟨S, hN, hK, hE0, hX, hbl, hl0, hL, hR⟩ := C
    omega
  | succ nf ih =>
    intro k i cells slots hf hk hi hc hs x I H locs hP hD hS ls hl
    obtain ⟨S, hN, hK, hE0, hX, hbl, hl0, hL, hR⟩ := id C
    have hbA : ¬ (fun q : Nat => s.heap.size ≤ q) b := Nat.not_le.mpr hbl
    refine zv_iload S dL_law_23 (lv_at hl 0 rfl) ?_
    refine zv_aload_n S dL_law_25 rfl (lv_at hl 4 rfl) ?_
    refine zv_slen S hX hbl hbA hS dL_law_26 ?_
    refine zv_bipush (v := 7) S dL_law_27 (by decide) ?_
    refine zv_isub S dL_law_29 ?_
    refine zv_icmp_gt (tgt := 1607) S (by unfold zR; omega) (by unfold zR; omega) dL_law_30 (by decide) (fun cz => ?_) (fun cz => ?_)
    · exact kx _ _ _ _ _ hS.2.2 (by omega) (by omega)
    have hk7 : 7 * k + 7 ≤ L := by omega
    have kk : zAt p l e s m below meth c G b o g h Q i (cells + 10) (slots + 100) 1601 := by
      intro x I H locs hP hD hS ls hl
      refine zv_iinc (k0 := 0) (lv' := [(4, .int (zI (i + 7))), (3, .ref o), (2, .ref (h 0)), (1, .ref (g 0)), (0, .ref b)]) S dL_law_1601 hl rfl (by decide) rfl (fun ls hl => ?_)
      refine zv_goto (tgt := 23) S dL_law_1604 (by decide) ?_
      exact ih (k + 1) (i + 7) (cells + 10) (slots + 100) (by omega) (by omega) (by omega) (by omega) (by omega) x I H locs hP hD hS ls hl
    refine zv_aload_n S dL_law_33 rfl (lv_at hl 4 rfl) ?_
    refine zv_iload S dL_law_34 (lv_at hl 0 rfl) ?_
    refine zv_sld S hX hbl hbA hS (7 * k) hi (by omega) (by omega) dL_law_36 ?_
    refine zv_bipush (v := 31) S dL_law_37 (by decide) ?_
    refine zv_iand31 S dL_law_39 ?_
    have hm : 0 ≤ sx (7 * k) % 32 ∧ sx (7 * k) % 32 < 32 := by omega
    generalize sx (7 * k) % 32 = v at hm ⊢
    rcases (show v = 0 ∨ v = 1 ∨ v = 2 ∨ v = 3 ∨ v = 4 ∨ v = 5 ∨ v = 6 ∨ v = 7 ∨ v = 8 ∨ v = 9 ∨ v = 10 ∨ v = 11 ∨ v = 12 ∨ v = 13 ∨ v = 14 ∨ v = 15 ∨ v = 16 ∨ v = 17 ∨ (v < 0 ∨ 17 < v) by omega) with hz | hz | hz | hz | hz | hz | hz | hz | hz | hz | hz | hz | hz | hz | hz | hz | hz | hz | hz
    · refine zv_tableIn (tgt := 128) S (by unfold zR; omega) dL_law_40 0 (by omega) (by omega) rfl (by decide) ?_
      exact zcase_shape C hi hk7 (by omega) (by omega) kk x I H locs hP hD hS ls hl
    · refine zv_tableIn (tgt := 172) S (by unfold zR; omega) dL_law_40 1 (by omega) (by omega) rfl (by decide) ?_
      exact zcase_add C hi hk7 (by omega) (by omega) kk x I H locs hP hD hS ls hl
    · refine zv_tableIn (tgt := 276) S (by unfold zR; omega) dL_law_40 2 (by omega) (by omega) rfl (by decide) ?_
      exact zcase_cut C hi hk7 (by omega) (by omega) kk x I H locs hP hD hS ls hl
    · refine zv_tableIn (tgt := 394) S (by unfold zR; omega) dL_law_40 3 (by omega) (by omega) rfl (by decide) ?_
      exact zcase_move C hi hk7 (by omega) (by omega) kk x I H locs hP hD hS ls hl
    · refine zv_tableIn (tgt := 462) S (by unfold zR; omega) dL_law_40 4 (by omega) (by omega) rfl (by decide) ?_
      exact zcase_inequality C hi hk7 (by omega) (by omega) kk x I H locs hP hD hS ls hl
    · refine zv_tableIn (tgt := 542) S (by unfold zR; omega) dL_law_40 5 (by omega) (by omega) rfl (by decide) ?_
      exact zcase_isPlace C hi hk7 (by omega) (by omega) kk x I H locs hP hD hS ls hl
    · refine zv_tableIn (tgt := 605) S (by unfold zR; omega) dL_law_40 6 (by omega) (by omega) rfl (by decide) ?_
      exact zcase_count C hi hk7 (by omega) (by omega) kk x I H locs hP hD hS ls hl
    · refine zv_tableIn (tgt := 672) S (by unfold zR; omega) dL_law_40 7 (by omega) (by omega) rfl (by decide) ?_
      exact zcase_countAnew C hi hk7 (by omega) (by omega) kk x I H locs hP hD hS ls hl
    · refine zv_tableIn (tgt := 739) S (by unfold zR; omega) dL_law_40 8 (by omega) (by omega) rfl (by decide) ?_
      exact zcase_blown C hi hk7 (by omega) (by omega) kk x I H locs hP hD hS ls hl
    · refine zv_tableIn (tgt := 834) S (by unfold zR; omega) dL_law_40 9 (by omega) (by omega) rfl (by decide) ?_
      exact zcase_best C hi hk7 (by omega) (by omega) kk x I H locs hP hD hS ls hl
    · refine zv_tableIn (tgt := 938) S (by unfold zR; omega) dL_law_40 10 (by omega) (by omega) rfl (by decide) ?_
      exact zcase_index C hi hk7 (by omega) (by omega) kk x I H locs hP hD hS ls hl
    · refine zv_tableIn (tgt := 1030) S (by unfold zR; omega) dL_law_40 11 (by omega) (by omega) rfl (by decide) ?_
      exact zcase_generator C hi hk7 (by omega) (by omega) kk x I H locs hP hD hS ls hl
    · refine zv_tableIn (tgt := 1164) S (by unfold zR; omega) dL_law_40 12 (by omega) (by omega) rfl (by decide) ?_
      exact zcase_generatorAnew C hi hk7 (by omega) (by omega) kk x I H locs hP hD hS ls hl
    · refine zv_tableIn (tgt := 1298) S (by unfold zR; omega) dL_law_40 13 (by omega) (by omega) rfl (by decide) ?_
      exact zcase_coin C hi hk7 (by omega) (by omega) kk x I H locs hP hD hS ls hl
    · refine zv_tableIn (tgt := 1354) S (by unfold zR; omega) dL_law_40 14 (by omega) (by omega) rfl (by decide) ?_
      exact zcase_ways C hi hk7 (by omega) (by omega) kk x I H locs hP hD hS ls hl
    · refine zv_tableIn (tgt := 1409) S (by unfold zR; omega) dL_law_40 15 (by omega) (by omega) rfl (by decide) ?_
      exact zcase_gap C hi hk7 (by omega) (by omega) kk x I H locs hP hD hS ls hl
    · refine zv_tableIn (tgt := 1465) S (by unfold zR; omega) dL_law_40 16 (by omega) (by omega) rfl (by decide) ?_
      exact zcase_greatestGap C hi hk7 (by omega) (by omega) kk x I H locs hP hD hS ls hl
    · refine zv_tableIn (tgt := 1509) S (by unfold zR; omega) dL_law_40 17 (by omega) (by omega) rfl (by decide) ?_
      exact zcase_tables C hi hk7 (by omega) (by omega) kk x I H locs hP hD hS ls hl
    · refine zv_tableOut (tgt := 1601) S (by unfold zR; omega) dL_law_40 (by omega) (by decide) ?_
      refine W.widen (k := cells + 10) (n := slots + 100) (by omega) (by omega) ?_
      exact kk x I H locs hP hD hS ls hl
