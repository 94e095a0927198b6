/-! the row of shapes -/
section ZQ
variable {p : Program} {l : Launch} {e : Env} {R : Room} {s : State} {m : MethodId} {args : Array Value} {below : List Frame} {meth : Method} {c : Code} {H : Heap} {locs : List Loc} {cells slots : Nat} {Q : State → Prop}
variable {cc : ByteArray} {nL pc : Nat} {ls : Array Slot} {rest : List Value} {Ts : List Cond} {own : String} {G : zG} {ws : va_W} {A : Nat → Prop} {H0 : Heap}
theorem zv_aald (S : CallFix p m c cc nL s args Ts own) (hK : va_K G.1 vwCl (zT G) s) (hP : va_P G.1 vwCl ws H) (q0 t0 : Nat) {a n : Nat} {cA : ClassId} {C : String} {F : Nat → Option Nat} (ha : ws[q0]? = some (a, .inl (cA, n, .inr (.inr (.inr (.inr F)))))) (ht : (zT G)[t0]? = some (cA, .object C)) {i : Int} (j : Nat) (hj : i = (j : Int)) (hn : j < n) (hN : n < 2147483648) (hdg : decode cc pc = .ok (.aaload, 1))
    (k : W p l e R s m args below meth c H locs cells slots Q (F0 m (pc + 1) ls (va_rf (F j) :: rest))) : W p l e R s m args below meth c H locs cells slots Q (F0 m pc ls (.int (zI i) :: .ref a :: rest)) := by
  refine va_aldq S.1 S.2.1 hK hP q0 t0 ha ht (zI_in hj hn hN) hdg ?_
  rw [zI_clamp hj (Nat.lt_trans hn hN)]
  exact k
def zQ (F : Nat → Option Nat) (j v : Nat) : Nat → Option Nat := fun k => if k = j then some v else F k
theorem zv_aast (S : CallFix p m c cc nL s args Ts own) (hK : va_K G.1 vwCl (zT G) s) (hP : va_P G.1 vwCl ws H) (hD : va_D A ws) (hS : va_S A H0 H locs) (q0 qk : Nat) {a n v : Nat} {F : Nat → Option Nat} {vs : List Value} (ha : ws[q0]? = some (zcq G a n F)) (hv : ws[qk]? = some (v, .inr (3, vs))) {i : Int} (j : Nat) (hj : i = (j : Int)) (hn : j < n) (hN : n < 2147483648) (hdg : decode cc pc = .ok (.aastore, 1))
    (k : ∀ (H1 : Heap) (locs1 : List Loc), va_P G.1 vwCl (ws.set q0 (zcq G a n (zQ F j v))) H1 → va_D A (ws.set q0 (zcq G a n (zQ F j v))) → va_S A H0 H1 locs1 → W p l e R s m args below meth c H1 locs1 cells slots Q (F0 m (pc + 1) ls rest)) : W p l e R s m args below meth c H locs cells slots Q (F0 m pc ls (.ref v :: .int (zI i) :: .ref a :: rest)) := by
  refine va_astq S.1 S.2.1 hK hP hD hS q0 3 qk 3 ha rfl hv rfl (zI_in hj hn hN) hdg (fun H1 locs1 h1 h2 h3 => ?_)
  rw [zI_clamp hj (Nat.lt_trans hn hN)] at h1 h2
  exact k H1 locs1 h1 h2 h3
theorem zv_newq (S : CallFix p m c cc nL s args Ts own) {index : Nat} (hown : s.vm.findClass own = some m.cls) (hw : Cond.classLink own index "PointMill$Shape" ∈ Ts) (hover : va_AO "PointMill$Shape" s) (hK : va_K G.1 vwCl (zT G) s) (hP : va_P G.1 vwCl ws H) (hD : va_D A ws) (hS : va_S A H0 H locs) (hA : ∀ q, H0.size ≤ q → A q) {i : Int} (n : Nat) (hi : i = (n : Int)) (hn : n ≤ 4000) (hcells : cells + 1 ≤ R.cells) (hslots : slots + n ≤ R.slots) (hdg : decode cc pc = .ok (.anewarray index, 3))
    (kk : ∀ (q : Nat) (H1 : Heap), va_P G.1 vwCl (ws ++ [zcq G q n (fun _ => none)]) H1 → va_D A (ws ++ [zcq G q n (fun _ => none)]) → va_S A H0 H1 locs → W p l e R s m args below meth c H1 locs (cells + 1) (slots + n) Q (F0 m (pc + 3) ls (.ref q :: rest))) : W p l e R s m args below meth c H locs cells slots Q (F0 m pc ls (.int (zI i) :: rest)) := by
  refine va_newq S.1 S.2.1 hown (S.2.2.2.2 _ hw) hover hK hP hD hS hA (fun z => ?_) (zI_clamp hi (by omega)) (by omega) hcells hslots hdg (fun q cA H1 hK1 hP1 hD1 hS1 => ?_)
  · rw [show (0 : Int32) = zI 0 from rfl, zI_lt (by unfold zR; omega) (by unfold zR; omega)] at z
    omega
  · have e : cA = G.2.2.2.2 := zK_at hK1 (hK.2 3 _ rfl).2 (fun h1 h2 => by
      obtain ⟨_, _, -, -, -, g1⟩ := h1
      obtain ⟨_, _, -, -, -, g2⟩ := h2
      exact zKc g1 g2)
    subst e
    exact kk q H1 hP1 hD1 hS1
end ZQ
