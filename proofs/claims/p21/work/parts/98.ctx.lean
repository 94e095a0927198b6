/-! THE CLAIM OUT OF ONE WALK OF THE LAW'S BODY. Your part is whole_start (and what it stands on); all else here is the same for every law, but numbers. -/
def R_law : String := "PointMillLaw"
def lw_P (b : Addr) (xs : List Int32) (args : Array Value) (s : State) : Prop := args = #[.ref b] ∧ s.IntsAt b xs ∧ xs.length ≤ 260 ∧ (Jvm.Cond.and given_1 narrow_1).before args s = true
def lw_Q (_ : Array Value) (s : State) (o : Outcome) (t : State) : Prop := o = .returned (some (.int 1)) ∧ Framed s o t [] 600074 7301550
def lw_Z (below : List Frame) (a : Array Value) (s : State) : State → Prop := fun t => ∃ o, t.status = .running ∧ Ended t below o ∧ lw_Q a s o t
/-- the law's own end, with 1 on the stack, nothing written that was there before, its room as the claim has it -/
theorem lw_ret {p : Program} {l : Launch} {e : Env} {s : State} {m : MethodId} {below : List Frame} {meth : Method} {c : Code} {b : Nat} (hx : p.tables.exec = Jvm.exec) (hb : c.code = code) (hr : meth.sig.returnType = ret) (hlocks : meth.locks = false) {pc : Nat} {H : Heap} {ls : Array Slot} (hdg : decode code pc = .ok (.ireturn, 1)) : W p l e room_1 s m #[Value.ref b] below meth c H [] 600074 7301550 (lw_Z below #[Value.ref b] s) (F0 m pc ls [.int 1]) := by
  intro T hT X
  obtain ⟨fs, hret, hrun, hended, hW, hframe⟩ := X.leave (v := some (.int 1)) (hlocks := hlocks) (fun h => by rw [hr] at h; cases h)
  have hmeth' : T.vm.method? m = some meth := X.method'
  refine ⟨T.setFrames fs, ?_, .returned (some (.int 1)), hrun, hended, rfl, ⟨_, rfl⟩, hW, hframe⟩
  jvm_step X.here [X.here.top, hx, hb, hdg, hmeth', hr, ret, narrow_b1]
  (try refine ⟨rfl, ?_⟩); (try refine ⟨rfl, ?_⟩)
  first | (intro acts; rw [hret _ acts rfl rfl rfl]) | rw [hret _ _ rfl rfl rfl]
  exact Steps.refl _
/-- what holds at the law's entry: the machine, the code, the tables' words (any of lw_tbl by 'hts w (by decide +kernel)'), the script of L ints xs at the cell b, what the Statement gives of the start (any of its parts by flat_of_before) -/
def lw_At (p : Program) (s : State) (m : MethodId) (meth : Method) (c : Code) (b L : Nat) (xs : Nat → Int32) : Prop :=
  p.tables.exec = Jvm.exec ∧ c.code = code ∧ meth.sig.returnType = ret ∧ c.maxLocals = 11 ∧ s.vm.findClass R_law = some m.cls ∧ (∀ w ∈ lw_tbl, w.before #[Value.ref b] s = true) ∧ va_X b L xs s s.heap ∧ b < s.heap.size ∧ meth.locks = false ∧ (Jvm.Cond.and given_1 narrow_1).before #[Value.ref b] s = true
/-! what the start gives -/
theorem zmem_nest : ∀ w ∈ zNest, w ∈ lw_tbl := by decide +kernel
theorem zmem_xw : ∀ w ∈ zXw, w ∈ lw_tbl := by decide +kernel
theorem zmem_str : ∀ q ∈ zStr, Cond.stringRef RX4 q.1 q.2 ∈ lw_tbl := by decide +kernel
theorem zmem_strx : ∀ q ∈ zStr, Cond.exactly (.string RX4 q.1) "java/lang/String" ∈ flatC (Jvm.Cond.and given_1 narrow_1) := by decide +kernel
theorem zmem_st : Cond.isRef (.static Bundle.tN "UNASSIGNED_STACK" Bundle.steD) ∈ flatC (Jvm.Cond.and given_1 narrow_1) ∧ Cond.isRef (.static Bundle.tN "SUPPRESSED_SENTINEL" Bundle.listD) ∈ flatC (Jvm.Cond.and given_1 narrow_1) := by decide +kernel
theorem zmem_nc : Cond.not (.castable zIA zIS) ∈ flatC (Jvm.Cond.and given_1 narrow_1) ∧ Cond.not (.castable zIO zIS) ∈ flatC (Jvm.Cond.and given_1 narrow_1) ∧ Cond.not (.castable zIO zIS) ∈ flatC (Jvm.Cond.and given_1 narrow_1) := by decide +kernel
def zLay : List Cond := [Cond.laysStatic Bundle.tN "UNASSIGNED_STACK" Bundle.steD, Cond.laysStatic Bundle.tN "SUPPRESSED_SENTINEL" Bundle.listD, Cond.initialized Bundle.tN, Cond.arrayOver (.object "PointMill$Shape"), Cond.arrayClass .int, Cond.arrayClass .long, Cond.instantiable RX0 4, Cond.instantiable RX1 9, Cond.instantiable RX2 10, Cond.instantiable RX3 5, Cond.instantiable RX4 5]
theorem zmem_lay : ∀ w ∈ zLay, w ∈ lw_tbl := by decide +kernel
theorem zarr_of {args : Array Value} {s : State} {ty : FieldType} (h : (Cond.arrayClass ty).before args s = true) (ht : ∀ C, ty ≠ .object C) : ∃ cA, ArrOfT s cA ty ∧ va_RA s cA ty := by
  obtain ⟨cA, kA, comp, h1, h2, h3⟩ := Cond.arrayClass_spec h
  refine ⟨cA, fun n z => ⟨fun k h => (by cases h), kA, h2, comp, h3⟩, ?_⟩
  cases ty with
  | object C => exact absurd rfl (ht C)
  | _ => exact h1
theorem zarr_ofO {args : Array Value} {s : State} {C : String} (h : (Cond.arrayOver (.object C)).before args s = true) : ∃ cA, ArrOfT s cA (.object C) ∧ va_RA s cA (.object C) := by
  obtain ⟨comp, cA, kA, h1, -, h2, h3, h4⟩ := Cond.arrayOver_spec h
  exact ⟨cA, fun n z => ⟨fun k h => (by cases h), kA, h2, comp, h3⟩, kA, comp, h2, h3, h1, h4⟩
theorem zgiven {p : Program} {s : State} {m : MethodId} {meth : Method} {c : Code} {b L : Nat} {xs : Nat → Int32} (C0 : lw_At p s m meth c b L xs) : ∃ G : zG, zN s ∧ va_K G.1 vwCl (zT G) s ∧ zE (fun q => s.heap.size ≤ q) s s.heap := by
  obtain ⟨hx, hb, hr, hml, hown, hts, hX, hbl, hlocks, hgv⟩ := id C0
  have hfl := flat_of_before _ hgv
  have hly : ∀ w ∈ zLay, w.before #[Value.ref b] s = true := fun w h => hts w (zmem_lay w h)
  obtain ⟨c0, i0, hKn0⟩ := u_known (C := RX0) (T := TX0) (N := 4) (n := 4) hts inX0 (hly _ (List.mem_of_getElem? (i := 6) rfl))
  obtain ⟨c1, i1, hKn1⟩ := u_known (C := RX1) (T := TX1) (N := 9) (n := 9) hts inX1 (hly _ (List.mem_of_getElem? (i := 7) rfl))
  obtain ⟨c2, i2, hKn2⟩ := u_known (C := RX2) (T := TX2) (N := 10) (n := 10) hts inX2 (hly _ (List.mem_of_getElem? (i := 8) rfl))
  obtain ⟨c3, i3, hKn3⟩ := u_known (C := RX3) (T := TX3) (N := 5) (n := 5) hts inX3 (hly _ (List.mem_of_getElem? (i := 9) rfl))
  obtain ⟨c4, i4, hKn4⟩ := u_known (C := RX4) (T := TX4) (N := 5) (n := 5) hts inX4 (hly _ (List.mem_of_getElem? (i := 10) rfl))
  obtain ⟨a0, hA0, hB0⟩ := zarr_of (ty := .int) (hly _ (List.mem_of_getElem? (i := 4) rfl)) (fun C h => by cases h)
  obtain ⟨a1, hA1, hB1⟩ := zarr_of (ty := .long) (hly _ (List.mem_of_getElem? (i := 5) rfl)) (fun C h => by cases h)
  obtain ⟨a2, hA2, hB2⟩ := zarr_of (ty := .int) (hly _ (List.mem_of_getElem? (i := 4) rfl)) (fun C h => by cases h)
  obtain ⟨a3, hA3, hB3⟩ := zarr_ofO (hly _ (List.mem_of_getElem? (i := 3) rfl))
  refine ⟨((fun k => if k = 0 then c0 else if k = 1 then c1 else if k = 2 then c2 else if k = 3 then c3 else c4, fun k => if k = 0 then i0 else if k = 1 then i1 else if k = 2 then i2 else if k = 3 then i3 else i4), (a0, a1, a2, a3)), ?_, ⟨?_, ?_⟩, ?_⟩
  · exact fun w hw => va_Nw.of (zN_tab w hw) (hts w (zmem_nest w hw))
  · intro k q hq
    match k, hq with
    | 0, hq => cases hq; exact hKn0
    | 1, hq => cases hq; exact hKn1
    | 2, hq => cases hq; exact hKn2
    | 3, hq => cases hq; exact hKn3
    | 4, hq => cases hq; exact hKn4
    | k + 5, hq => simp [vwCl] at hq
  · intro k q hq
    match k, hq with
    | 0, hq => cases hq; exact ⟨hA0, hB0⟩
    | 1, hq => cases hq; exact ⟨hA1, hB1⟩
    | 2, hq => cases hq; exact ⟨hA2, hB2⟩
    | 3, hq => cases hq; exact ⟨hA3, hB3⟩
    | k + 4, hq => simp [zT] at hq
  · refine ⟨⟨vx_Zqof (hly _ (List.mem_of_getElem? (i := 0) rfl)) (hly _ (List.mem_of_getElem? (i := 2) rfl)) (hfl _ zmem_st.1) (fun a h => Nat.not_le.mpr h), vx_Zqof (hly _ (List.mem_of_getElem? (i := 1) rfl)) (hly _ (List.mem_of_getElem? (i := 2) rfl)) (hfl _ zmem_st.2) (fun a h => Nat.not_le.mpr h)⟩, fun w hw => va_Nw.of (zXw_tab w hw) (hts w (zmem_xw w hw)), fun q hq => ?_, va_AO.of (hly _ (List.mem_of_getElem? (i := 3) rfl)), va_Nc.of (hfl _ zmem_nc.1), va_Nc.of (hfl _ zmem_nc.2.1), va_Nc.of (hfl _ zmem_nc.2.2)⟩
    obtain ⟨a, c9, ce9, k9, h9, -⟩ := Cond.exactly_spec (hfl _ (zmem_strx q hq))
    exact ⟨a, vk_R.of (hts _ (zmem_str q hq)) h9⟩
