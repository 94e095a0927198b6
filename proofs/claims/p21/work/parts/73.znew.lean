/-! new arrays and objects -/
section ZNEW
variable {p : Program} {l : Launch} {e : Env} {R : Room} {s : State} {m : MethodId} {args : Array Value} {below : List Frame} {meth : Method} {c : Code} {H : Heap} {locs : List Loc} {cells slots : Nat} {Q : State → Prop}
variable {cc : ByteArray} {nL pc : Nat} {ls : Array Slot} {rest : List Value} {Ts : List Cond} {own : String} {G : zG} {ws : va_W} {A : Nat → Prop} {H0 : Heap}
theorem zA_0 : zA (fun _ => 0) = fun _ => (0 : Int32) := by funext k; rfl
theorem zB_0 : zB (fun _ => 0) = fun _ => (0 : Int64) := by funext k; rfl
theorem zK_at {ty : FieldType} {cA cB : ClassId} {tys : List (ClassId × FieldType)} {D : va_G} {cl : List vw_C} (hK : va_K D cl (tys ++ [(cA, ty)]) s) (h : va_RA s cB ty) (hp : va_RA s cA ty → va_RA s cB ty → cA = cB) : cA = cB :=
  hp (hK.2 tys.length (cA, ty) (by rw [List.getElem?_append_right (Nat.le_refl _), Nat.sub_self]; rfl)).2 h
theorem zKc {U : State} {n : String} {a b : ClassId} (h1 : U.vm.findClass n = some a) (h2 : U.vm.findClass n = some b) : a = b := Option.some.inj (h1.symm.trans h2)
theorem zv_newi (S : CallFix p m c cc nL s args Ts own) (hw : Cond.arrayClass .int ∈ Ts) (hK : va_K G.1 vwCl (zT G) s) (hP : va_P G.1 vwCl ws H) (hD : va_D A ws) (hS : va_S A H0 H locs) (hA : ∀ q, H0.size ≤ q → A q) {i : Int} (n : Nat) (hi : i = (n : Int)) (hn : n ≤ 4000) (hcells : cells + 1 ≤ R.cells) (hslots : slots + n ≤ R.slots) (hdg : decode cc pc = .ok (.newarray .int, 2))
    (kk : ∀ (q : Nat) (H1 : Heap), va_P G.1 vwCl (ws ++ [zci G q n (fun _ => 0)]) H1 → va_D A (ws ++ [zci G q n (fun _ => 0)]) → va_S A H0 H1 locs → W p l e R s m args below meth c H1 locs (cells + 1) (slots + n) Q (F0 m (pc + 2) ls (.ref q :: rest))) : W p l e R s m args below meth c H locs cells slots Q (F0 m pc ls (.int (zI i) :: rest)) := by
  refine va_newa (atype := .int) (ty := .int) (a0 := (n, .inl (zA (fun _ => 0)))) S.1 S.2.1 (S.2.2.2.2 _ hw) rfl hK hP hD hS hA (fun cA => by rw [zA_0]; rfl) (fun z => ?_) (zI_clamp hi (by omega)) (by show n * 4 ≤ _; omega) hcells hslots hdg (fun q cA H1 hK1 hP1 hD1 hS1 => ?_)
  · rw [show (0 : Int32) = zI 0 from rfl, zI_lt (by unfold zR; omega) (by unfold zR; omega)] at z
    omega
  · have e : cA = G.2.1 := zK_at hK1 (hK.2 0 _ rfl).2 (fun h1 h2 => zKc h1 h2)
    subst e
    exact kk q H1 hP1 hD1 hS1
theorem zv_newl (S : CallFix p m c cc nL s args Ts own) (hw : Cond.arrayClass .long ∈ Ts) (hK : va_K G.1 vwCl (zT G) s) (hP : va_P G.1 vwCl ws H) (hD : va_D A ws) (hS : va_S A H0 H locs) (hA : ∀ q, H0.size ≤ q → A q) {i : Int} (n : Nat) (hi : i = (n : Int)) (hn : n ≤ 4000) (hcells : cells + 1 ≤ R.cells) (hslots : slots + n ≤ R.slots) (hdg : decode cc pc = .ok (.newarray .long, 2))
    (kk : ∀ (q : Nat) (H1 : Heap), va_P G.1 vwCl (ws ++ [zcl G q n (fun _ => 0)]) H1 → va_D A (ws ++ [zcl G q n (fun _ => 0)]) → va_S A H0 H1 locs → W p l e R s m args below meth c H1 locs (cells + 1) (slots + n) Q (F0 m (pc + 2) ls (.ref q :: rest))) : W p l e R s m args below meth c H locs cells slots Q (F0 m pc ls (.int (zI i) :: rest)) := by
  refine va_newa (atype := .long) (ty := .long) (a0 := (n, .inr (.inl (zB (fun _ => 0))))) S.1 S.2.1 (S.2.2.2.2 _ hw) rfl hK hP hD hS hA (fun cA => by rw [zB_0]; rfl) (fun z => ?_) (zI_clamp hi (by omega)) (by show n * 8 ≤ _; omega) hcells hslots hdg (fun q cA H1 hK1 hP1 hD1 hS1 => ?_)
  · rw [show (0 : Int32) = zI 0 from rfl, zI_lt (by unfold zR; omega) (by unfold zR; omega)] at z
    omega
  · have e : cA = G.2.2.1 := zK_at hK1 (hK.2 1 _ rfl).2 (fun h1 h2 => zKc h1 h2)
    subst e
    exact kk q H1 hP1 hD1 hS1
end ZNEW
