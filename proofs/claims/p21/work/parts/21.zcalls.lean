/-! a method from its beginning to its end, a call of it, in the words of 20.zrows -/
abbrev zG : Type := ((Nat → ClassId) × (Nat → Nat → Nat)) × (ClassId × ClassId × ClassId × ClassId)
/-- what the tables say of the arrays -/
abbrev zT (G : zG) : List (ClassId × FieldType) := [(G.2.1, .int), (G.2.2.1, .long), (G.2.2.2.1, .int), (G.2.2.2.2, .object "PointMill$Shape")]
/-- the world w behind a method -/
abbrev zW (G : zG) (A : Nat → Prop) (w : va_W) (t : State) : Prop := va_P G.1 vwCl w t.heap ∧ va_K G.1 vwCl (zT G) t ∧ va_D A w
/-- cells: an array of ints, of longs, of truth values, of shapes -/
abbrev zci (G : zG) (a n : Nat) (F : Nat → Int) : Nat × va_E := (a, .inl (G.2.1, n, .inl (zA F)))
abbrev zcl (G : zG) (a n : Nat) (F : Nat → Int) : Nat × va_E := (a, .inl (G.2.2.1, n, .inr (.inl (zB F))))
abbrev zcz (G : zG) (a n : Nat) (F : Nat → Int) : Nat × va_E := (a, .inl (G.2.2.2.1, n, .inl (zA F)))
abbrev zcq (G : zG) (a n : Nat) (F : Nat → Option Nat) : Nat × va_E := (a, .inl (G.2.2.2.2, n, .inr (.inr (.inr (.inr F)))))
/-- links of private members among the nest -/
def zNest : List Cond := [.fieldLinkNest "PointMill$Region" 28 "PointMill$Shape" "a" "[I" "PointMill", .fieldLinkNest "PointMill$Region" 31 "PointMill$Shape" "b" "[I" "PointMill", .fieldLinkNest "PointMill$Region" 34 "PointMill$Shape" "c" "[I" "PointMill", .fieldLinkNest "PointMill$Region" 37 "PointMill$Shape" "e" "[I" "PointMill", .fieldLinkNest "PointMill$Region" 21 "PointMill$Shape" "size" "I" "PointMill", .fieldLinkNest "PointMill" 89 "PointMill$Shape" "size" "I" "PointMill", .fieldLinkNest "PointMill" 127 "PointMill$Region" "bestX" "I" "PointMill", .fieldLinkNest "PointMill" 130 "PointMill$Region" "bestY" "I" "PointMill", .fieldLinkNest "PointMill" 137 "PointMill$Cone" "area" "I" "PointMill", .fieldLinkNest "PointMill" 220 "PointMill$Cone" "wantedX" "I" "PointMill", .fieldLinkNest "PointMill" 223 "PointMill$Cone" "wantedY" "I" "PointMill", .fieldLinkNest "PointMill" 182 "PointMill$Coins" "wantedGap" "I" "PointMill", .methodLinkNest "PointMill" 15 ⟨"PointMill$Shape", "<init>", "()V"⟩ "PointMill", .methodLinkNest "PointMill" 18 ⟨"PointMill$Region", "<init>", "()V"⟩ "PointMill", .methodLinkNest "PointMill" 25 ⟨"PointMill$Cone", "<init>", "()V"⟩ "PointMill", .methodLinkNest "PointMill" 32 ⟨"PointMill$Coins", "<init>", "()V"⟩ "PointMill", .methodLinkNest "PointMill$Cone" 15 ⟨"PointMill", "greatestDivisor", "(II)I"⟩ "PointMill", .methodLinkNest "PointMill$Coins" 33 ⟨"PointMill", "greatestDivisor", "(II)I"⟩ "PointMill"]
def zN (U : State) : Prop := ∀ w ∈ zNest, va_Nw w U
theorem zN_warm {s U : State} (hW : s.WarmedH U.vm) (h : zN s) : zN U := by
  show ∀ w ∈ [.fieldLinkNest "PointMill$Region" 28 "PointMill$Shape" "a" "[I" "PointMill", .fieldLinkNest "PointMill$Region" 31 "PointMill$Shape" "b" "[I" "PointMill", .fieldLinkNest "PointMill$Region" 34 "PointMill$Shape" "c" "[I" "PointMill", .fieldLinkNest "PointMill$Region" 37 "PointMill$Shape" "e" "[I" "PointMill", .fieldLinkNest "PointMill$Region" 21 "PointMill$Shape" "size" "I" "PointMill", .fieldLinkNest "PointMill" 89 "PointMill$Shape" "size" "I" "PointMill", .fieldLinkNest "PointMill" 127 "PointMill$Region" "bestX" "I" "PointMill", .fieldLinkNest "PointMill" 130 "PointMill$Region" "bestY" "I" "PointMill", .fieldLinkNest "PointMill" 137 "PointMill$Cone" "area" "I" "PointMill", .fieldLinkNest "PointMill" 220 "PointMill$Cone" "wantedX" "I" "PointMill", .fieldLinkNest "PointMill" 223 "PointMill$Cone" "wantedY" "I" "PointMill", .fieldLinkNest "PointMill" 182 "PointMill$Coins" "wantedGap" "I" "PointMill", .methodLinkNest "PointMill" 15 ⟨"PointMill$Shape", "<init>", "()V"⟩ "PointMill", .methodLinkNest "PointMill" 18 ⟨"PointMill$Region", "<init>", "()V"⟩ "PointMill", .methodLinkNest "PointMill" 25 ⟨"PointMill$Cone", "<init>", "()V"⟩ "PointMill", .methodLinkNest "PointMill" 32 ⟨"PointMill$Coins", "<init>", "()V"⟩ "PointMill", .methodLinkNest "PointMill$Cone" 15 ⟨"PointMill", "greatestDivisor", "(II)I"⟩ "PointMill", .methodLinkNest "PointMill$Coins" 33 ⟨"PointMill", "greatestDivisor", "(II)I"⟩ "PointMill"], va_Nw w U
  exact List.forall_mem_cons.mpr ⟨va_Nw.warmF hW (h _ (List.mem_of_getElem? (i := 0) rfl)), List.forall_mem_cons.mpr ⟨va_Nw.warmF hW (h _ (List.mem_of_getElem? (i := 1) rfl)), List.forall_mem_cons.mpr ⟨va_Nw.warmF hW (h _ (List.mem_of_getElem? (i := 2) rfl)), List.forall_mem_cons.mpr ⟨va_Nw.warmF hW (h _ (List.mem_of_getElem? (i := 3) rfl)), List.forall_mem_cons.mpr ⟨va_Nw.warmF hW (h _ (List.mem_of_getElem? (i := 4) rfl)), List.forall_mem_cons.mpr ⟨va_Nw.warmF hW (h _ (List.mem_of_getElem? (i := 5) rfl)), List.forall_mem_cons.mpr ⟨va_Nw.warmF hW (h _ (List.mem_of_getElem? (i := 6) rfl)), List.forall_mem_cons.mpr ⟨va_Nw.warmF hW (h _ (List.mem_of_getElem? (i := 7) rfl)), List.forall_mem_cons.mpr ⟨va_Nw.warmF hW (h _ (List.mem_of_getElem? (i := 8) rfl)), List.forall_mem_cons.mpr ⟨va_Nw.warmF hW (h _ (List.mem_of_getElem? (i := 9) rfl)), List.forall_mem_cons.mpr ⟨va_Nw.warmF hW (h _ (List.mem_of_getElem? (i := 10) rfl)), List.forall_mem_cons.mpr ⟨va_Nw.warmF hW (h _ (List.mem_of_getElem? (i := 11) rfl)), List.forall_mem_cons.mpr ⟨va_Nw.warmM hW (h _ (List.mem_of_getElem? (i := 12) rfl)), List.forall_mem_cons.mpr ⟨va_Nw.warmM hW (h _ (List.mem_of_getElem? (i := 13) rfl)), List.forall_mem_cons.mpr ⟨va_Nw.warmM hW (h _ (List.mem_of_getElem? (i := 14) rfl)), List.forall_mem_cons.mpr ⟨va_Nw.warmM hW (h _ (List.mem_of_getElem? (i := 15) rfl)), List.forall_mem_cons.mpr ⟨va_Nw.warmM hW (h _ (List.mem_of_getElem? (i := 16) rfl)), List.forall_mem_cons.mpr ⟨va_Nw.warmM hW (h _ (List.mem_of_getElem? (i := 17) rfl)), fun _ h => absurd h List.not_mem_nil⟩⟩⟩⟩⟩⟩⟩⟩⟩⟩⟩⟩⟩⟩⟩⟩⟩⟩
theorem zN_tab : ∀ w ∈ zNest, w.onTables = true := by decide +kernel
theorem zN_same {u U : State} (h : u.vm = U.vm) (hN : zN u) : zN U := fun w hw => va_Nw.same (zN_tab w hw) h (hN w hw)
def zPre (G : zG) (sz : Nat) (w : va_W) (U : State) : Prop := U.heap.size = sz ∧ va_P G.1 vwCl w U.heap ∧ va_K G.1 vwCl (zT G) U ∧ va_D (fun _ => True) w ∧ zN U
theorem zPre_blind {av : List Value} {G : zG} {sz : Nat} {w : va_W} : FrameBlind (va_Pc av (zPre G sz w)) := fun a U g mk q => ⟨q.1, q.2.1, q.2.2.1, va_K.moved (u := U) (U := U.calling g mk a) (Vm.Alike.refl U.vm) q.2.2.2.1, q.2.2.2.2.1, zN_same (u := U) (U := U.calling g mk a) rfl q.2.2.2.2.2⟩
theorem zP_at {ws w : va_W} {is : List Nat} (hs : is.map (fun i => ws[i]?) = w.map some) (k : Nat) (q : Nat × va_E) (hq : w[k]? = some q) : ∃ i, is[k]? = some i ∧ ws[i]? = some q := by
  have h1 : (is.map (fun i => ws[i]?))[k]? = some (some q) := by rw [hs, List.getElem?_map, hq]; rfl
  rw [List.getElem?_map] at h1
  cases hi : is[k]? with
  | none => rw [hi] at h1; cases h1
  | some i => rw [hi] at h1; exact ⟨i, rfl, Option.some.inj h1⟩
theorem zP_cut {D : va_G} {cl : List vw_C} {ws w : va_W} {H : Heap} {is : List Nat} (hP : va_P D cl ws H) (hs : is.map (fun i => ws[i]?) = w.map some) : va_P D cl w H := fun k q hq => by
  obtain ⟨i, -, h⟩ := zP_at hs k q hq
  exact hP i q h
/-- a body's law, also for a class some of whose other methods run by entries of their own -/
theorem zofW {l : Launch} {y : MethodName} {ws ws' : List Cond} {rm : Room} {Pc : Array Value → State → Prop} {Qc : Array Value → State → Outcome → State → Prop} {mc ms : Nat} {free : Addr → Prop} {cc : ByteArray} {maxL : Nat} {ret : Option FieldType}
    (hy : plainFor y = true) (hw : ws = Cond.code y cc maxL ret :: ws')
    (body : ∀ p e s m args below meth c s₁, BodyLoose p l y (headSpec ws rm) cc maxL ret e s m args below meth c s₁ → c.maxLocals = maxL → Pc args s →
      W p l e (headSpec ws rm).room s m args below meth c s.heap [] 0 0 (MQ below Qc args s mc ms free) (entryFrame m args maxL)) : Met l y ws rm Pc Qc mc ms free := by
  refine MetFree.of_bodySF (code := cc) (maxLocals := maxL) (ret := ret) hy ?_ ?_
  · intro args s m h hn
    obtain ⟨meth, c, h1, h2, h3, h4, h5, h6, -, -⟩ := Cond.code_spec hn (atoms_spec (ws := ws) h _ (by rw [hw]; exact List.mem_cons_self))
    exact ⟨meth, c, h1, h2, h3, h4, h5, h6⟩
  · intro p e s m args below meth c s₁ B hml hP _
    have hh0 : s₁.heap = s.heap := by rw [B.state]; rfl
    obtain ⟨t, a1, o, b1, b2, b3⟩ := body p e s m args below meth c s₁ B hml hP s₁ hh0 (Stand.of_body B)
    exact ⟨t, o, a1, b1, b2, ⟨b3.1, b3.2⟩⟩
theorem zM_i {l : Launch} {y : MethodName} {ws ws' : List Cond} {rm : Room} {G : zG} {sz : Nat} {w : va_W} {av : List Value} {St : Type} {post : Int32 → St → Prop} {w1 : St → va_W} {mc ms : Nat} {cc : ByteArray} {maxL : Nat} (hy : plainFor y = true) (hw : ws = Cond.code y cc maxL (some .int) :: ws') (hlv : (lg_sl av).length ≤ maxL)
    (body : ∀ (p : Program) (e : Env) (s : State) (m : MethodId) (below : List Frame) (meth : Method) (c : Code) (A : Nat → Prop) (Q : State → Prop), CallFix p m c cc maxL s av.toArray ws y.cls → zN s → va_K G.1 vwCl (zT G) s → va_P G.1 vwCl w s.heap → va_D A w → va_S A s.heap s.heap [] → (∀ q, s.heap.size ≤ q → A q) →
      (∀ (H : Heap) (locs : List Loc) (pc : Nat) (ls : Array Slot) (r : Int32) (u : St), decode cc pc = .ok (.ireturn, 1) → post r u → va_P G.1 vwCl (w1 u) H → va_D A (w1 u) → va_S A s.heap H locs → W p l e rm s m av.toArray below meth c H locs mc ms Q (F0 m pc ls [.int r])) →
      ∀ ls : Array Slot, lv_has ls maxL (lv_args 0 av) → W p l e rm s m av.toArray below meth c s.heap [] 0 0 Q (F0 m 0 ls [])) :
    Met l y ws rm (va_Pc av (zPre G sz w)) (va_Qi post (fun u => zW G (va_A w sz) (w1 u)) (va_A w sz)) mc ms (va_A w sz) := by
  refine zofW (cc := cc) (maxL := maxL) (ret := (some .int)) hy hw ?_
  intro p e s m args below meth c s₁ B hml hv
  obtain ⟨rfl, hsz, hP, hK, hD0, hN⟩ := hv
  subst hsz
  have hD := hD0.self (sz := s.heap.size)
  have hl := lv_entry av (n := maxL) hlv
  rw [lg_entry_eq]
  refine body p e s m below meth c _ _ ⟨B.exec, B.bytes, hml, findClass_of_methodNamed B.named, atoms_spec (ws := ws) B.pre⟩ hN hK hP hD va_S.rf (fun q h => Or.inr h) ?_ _ hl
  intro H locs pc ls r u hd hp hP1 hD1 hS
  exact W.iret B.exec B.bytes B.returns (fun t ht hW => ⟨⟨r, u, rfl, hp, by rw [ht]; exact hP1, va_K.moved hW.alike hK, hD1⟩, hS.F ht⟩) hS.2.2 hd B.notSynchronized
theorem zM_z {l : Launch} {y : MethodName} {ws ws' : List Cond} {rm : Room} {G : zG} {sz : Nat} {w : va_W} {av : List Value} {St : Type} {post : Int32 → St → Prop} {w1 : St → va_W} {mc ms : Nat} {cc : ByteArray} {maxL : Nat} (hy : plainFor y = true) (hw : ws = Cond.code y cc maxL (some .boolean) :: ws') (hlv : (lg_sl av).length ≤ maxL)
    (body : ∀ (p : Program) (e : Env) (s : State) (m : MethodId) (below : List Frame) (meth : Method) (c : Code) (A : Nat → Prop) (Q : State → Prop), CallFix p m c cc maxL s av.toArray ws y.cls → zN s → va_K G.1 vwCl (zT G) s → va_P G.1 vwCl w s.heap → va_D A w → va_S A s.heap s.heap [] → (∀ q, s.heap.size ≤ q → A q) →
      (∀ (H : Heap) (locs : List Loc) (pc : Nat) (ls : Array Slot) (r : Int32) (u : St), decode cc pc = .ok (.ireturn, 1) → r = zI 0 ∨ r = zI 1 → post r u → va_P G.1 vwCl (w1 u) H → va_D A (w1 u) → va_S A s.heap H locs → W p l e rm s m av.toArray below meth c H locs mc ms Q (F0 m pc ls [.int r])) →
      ∀ ls : Array Slot, lv_has ls maxL (lv_args 0 av) → W p l e rm s m av.toArray below meth c s.heap [] 0 0 Q (F0 m 0 ls [])) :
    Met l y ws rm (va_Pc av (zPre G sz w)) (va_Qi post (fun u => zW G (va_A w sz) (w1 u)) (va_A w sz)) mc ms (va_A w sz) := by
  refine zofW (cc := cc) (maxL := maxL) (ret := (some .boolean)) hy hw ?_
  intro p e s m args below meth c s₁ B hml hv
  obtain ⟨rfl, hsz, hP, hK, hD0, hN⟩ := hv
  subst hsz
  have hD := hD0.self (sz := s.heap.size)
  have hl := lv_entry av (n := maxL) hlv
  rw [lg_entry_eq]
  refine body p e s m below meth c _ _ ⟨B.exec, B.bytes, hml, findClass_of_methodNamed B.named, atoms_spec (ws := ws) B.pre⟩ hN hK hP hD va_S.rf (fun q h => Or.inr h) ?_ _ hl
  intro H locs pc ls r u hd hn hp hP1 hD1 hS
  exact W.zret B.exec B.bytes B.returns (by rcases hn with rfl | rfl <;> rfl) (fun t ht hW => ⟨⟨r, u, rfl, hp, by rw [ht]; exact hP1, va_K.moved hW.alike hK, hD1⟩, hS.F ht⟩) hS.2.2 hd B.notSynchronized
theorem zM_l {l : Launch} {y : MethodName} {ws ws' : List Cond} {rm : Room} {G : zG} {sz : Nat} {w : va_W} {av : List Value} {St : Type} {post : Int64 → St → Prop} {w1 : St → va_W} {mc ms : Nat} {cc : ByteArray} {maxL : Nat} (hy : plainFor y = true) (hw : ws = Cond.code y cc maxL (some .long) :: ws') (hlv : (lg_sl av).length ≤ maxL)
    (body : ∀ (p : Program) (e : Env) (s : State) (m : MethodId) (below : List Frame) (meth : Method) (c : Code) (A : Nat → Prop) (Q : State → Prop), CallFix p m c cc maxL s av.toArray ws y.cls → zN s → va_K G.1 vwCl (zT G) s → va_P G.1 vwCl w s.heap → va_D A w → va_S A s.heap s.heap [] → (∀ q, s.heap.size ≤ q → A q) →
      (∀ (H : Heap) (locs : List Loc) (pc : Nat) (ls : Array Slot) (r : Int64) (u : St), decode cc pc = .ok (.lreturn, 1) → post r u → va_P G.1 vwCl (w1 u) H → va_D A (w1 u) → va_S A s.heap H locs → W p l e rm s m av.toArray below meth c H locs mc ms Q (F0 m pc ls [.long r])) →
      ∀ ls : Array Slot, lv_has ls maxL (lv_args 0 av) → W p l e rm s m av.toArray below meth c s.heap [] 0 0 Q (F0 m 0 ls [])) :
    Met l y ws rm (va_Pc av (zPre G sz w)) (va_Ql post (fun u => zW G (va_A w sz) (w1 u)) (va_A w sz)) mc ms (va_A w sz) := by
  refine zofW (cc := cc) (maxL := maxL) (ret := (some .long)) hy hw ?_
  intro p e s m args below meth c s₁ B hml hv
  obtain ⟨rfl, hsz, hP, hK, hD0, hN⟩ := hv
  subst hsz
  have hD := hD0.self (sz := s.heap.size)
  have hl := lv_entry av (n := maxL) hlv
  rw [lg_entry_eq]
  refine body p e s m below meth c _ _ ⟨B.exec, B.bytes, hml, findClass_of_methodNamed B.named, atoms_spec (ws := ws) B.pre⟩ hN hK hP hD va_S.rf (fun q h => Or.inr h) ?_ _ hl
  intro H locs pc ls r u hd hp hP1 hD1 hS
  exact W.lret B.exec B.bytes B.returns (fun t ht hW => ⟨⟨r, u, rfl, hp, by rw [ht]; exact hP1, va_K.moved hW.alike hK, hD1⟩, hS.F ht⟩) hS.2.2 hd B.notSynchronized
theorem zM_v {l : Launch} {y : MethodName} {ws ws' : List Cond} {rm : Room} {G : zG} {sz : Nat} {w : va_W} {av : List Value} {St : Type} {post : St → Prop} {w1 : St → va_W} {mc ms : Nat} {cc : ByteArray} {maxL : Nat} (hy : plainFor y = true) (hw : ws = Cond.code y cc maxL none :: ws') (hlv : (lg_sl av).length ≤ maxL)
    (body : ∀ (p : Program) (e : Env) (s : State) (m : MethodId) (below : List Frame) (meth : Method) (c : Code) (A : Nat → Prop) (Q : State → Prop), CallFix p m c cc maxL s av.toArray ws y.cls → zN s → va_K G.1 vwCl (zT G) s → va_P G.1 vwCl w s.heap → va_D A w → va_S A s.heap s.heap [] → (∀ q, s.heap.size ≤ q → A q) →
      (∀ (H : Heap) (locs : List Loc) (pc : Nat) (ls : Array Slot) (u : St), decode cc pc = .ok (.return_, 1) → post u → va_P G.1 vwCl (w1 u) H → va_D A (w1 u) → va_S A s.heap H locs → W p l e rm s m av.toArray below meth c H locs mc ms Q (F0 m pc ls [])) →
      ∀ ls : Array Slot, lv_has ls maxL (lv_args 0 av) → W p l e rm s m av.toArray below meth c s.heap [] 0 0 Q (F0 m 0 ls [])) :
    Met l y ws rm (va_Pc av (zPre G sz w)) (va_Qv post (fun u => zW G (va_A w sz) (w1 u)) (va_A w sz)) mc ms (va_A w sz) := by
  refine zofW (cc := cc) (maxL := maxL) (ret := none) hy hw ?_
  intro p e s m args below meth c s₁ B hml hv
  obtain ⟨rfl, hsz, hP, hK, hD0, hN⟩ := hv
  subst hsz
  have hD := hD0.self (sz := s.heap.size)
  have hl := lv_entry av (n := maxL) hlv
  rw [lg_entry_eq]
  refine body p e s m below meth c _ _ ⟨B.exec, B.bytes, hml, findClass_of_methodNamed B.named, atoms_spec (ws := ws) B.pre⟩ hN hK hP hD va_S.rf (fun q h => Or.inr h) ?_ _ hl
  intro H locs pc ls u hd hp hP1 hD1 hS
  exact W.vret B.exec B.bytes B.returns (fun t ht hW => ⟨⟨u, rfl, hp, by rw [ht]; exact hP1, va_K.moved hW.alike hK, hD1⟩, hS.F ht⟩) hS.2.2 hd B.notSynchronized
theorem zM_v0 {l : Launch} {y : MethodName} {ws ws' : List Cond} {rm : Room} {G : zG} {sz : Nat} {w : va_W} {av : List Value} {St : Type} {post : St → Prop} {w1 : St → va_W} {mc ms : Nat} {cc : ByteArray} {maxL : Nat} (hy : plainFor y = true) (hw : ws = Cond.code y cc maxL none :: ws') (hlv : (lg_sl av).length ≤ maxL) (hyn : y.name = "<init>")
    (body : ∀ (p : Program) (e : Env) (s : State) (m : MethodId) (below : List Frame) (meth : Method) (c : Code) (A : Nat → Prop) (Q : State → Prop), meth.name = "<init>" → CallFix p m c cc maxL s av.toArray ws y.cls → zN s → va_K G.1 vwCl (zT G) s → va_P G.1 vwCl w s.heap → va_D A w → va_S A s.heap s.heap [] → (∀ q, s.heap.size ≤ q → A q) →
      (∀ (H : Heap) (locs : List Loc) (pc : Nat) (ls : Array Slot) (u : St), decode cc pc = .ok (.return_, 1) → post u → va_P G.1 vwCl (w1 u) H → va_D A (w1 u) → va_S A s.heap H locs → W p l e rm s m av.toArray below meth c H locs mc ms Q (F0 m pc ls [])) →
      ∀ ls : Array Slot, lv_has ls maxL (lv_args 0 av) → W p l e rm s m av.toArray below meth c s.heap [] 0 0 Q (F0 m 0 ls [])) :
    Met l y ws rm (va_Pc av (zPre G sz w)) (va_Qv post (fun u => zW G (va_A w sz) (w1 u)) (va_A w sz)) mc ms (va_A w sz) := by
  refine zofW (cc := cc) (maxL := maxL) (ret := none) hy hw ?_
  intro p e s m args below meth c s₁ B hml hv
  obtain ⟨rfl, hsz, hP, hK, hD0, hN⟩ := hv
  subst hsz
  have hD := hD0.self (sz := s.heap.size)
  have hl := lv_entry av (n := maxL) hlv
  rw [lg_entry_eq]
  refine body p e s m below meth c _ _ ((name_of_methodNamed B.named B.method).1.trans hyn) ⟨B.exec, B.bytes, hml, findClass_of_methodNamed B.named, atoms_spec (ws := ws) B.pre⟩ hN hK hP hD va_S.rf (fun q h => Or.inr h) ?_ _ hl
  intro H locs pc ls u hd hp hP1 hD1 hS
  exact W.vret B.exec B.bytes B.returns (fun t ht hW => ⟨⟨u, rfl, hp, by rw [ht]; exact hP1, va_K.moved hW.alike hK, hD1⟩, hS.F ht⟩) hS.2.2 hd B.notSynchronized
section ZC
variable {p : Program} {l : Launch} {e : Env} {R : Room} {s : State} {m : MethodId} {args : Array Value} {below : List Frame} {meth : Method} {c : Code} {H : Heap} {locs : List Loc} {cells slots : Nat} {Q : State → Prop}
variable {cc bytes : ByteArray} {nL pc maxL mc ms n index : Nat} {ls : Array Slot} {rest st As : List Value} {Ts ws ws' : List Cond} {own C host : String} {A : Nat → Prop} {H0 : Heap} {lv : List (Nat × Value)} {y : MethodName} {rm : Room} {G : zG} {w wr ww : va_W} {b : Nat} {St : Type} {w1 : St → va_W}
theorem zc_Vi {ret : Option FieldType} {post : Int32 → St → Prop} (S : CallFix p m c cc nL s args Ts own) (hN : zN s) (hK : va_K G.1 vwCl (zT G) s) (hP : va_P G.1 vwCl ww H) (hD : va_D A ww) (hS : va_S A H0 H locs) (hA : ∀ q, H0.size ≤ q → A q) (hl : lv_has ls nL lv)
    (hM : Met l y ws rm (va_Pc (.ref b :: As) (zPre G H.size w)) (va_Qi post (fun u => zW G (va_A w H.size) (w1 u)) (va_A w H.size)) mc ms (va_A w H.size))
    (hG : GoodIn Ts (wsV own index C y ws)) (hw : ws = Cond.code y bytes maxL ret :: ws') (hrm : rm.cells = mc ∧ rm.slots = ms) (hd : y.cls = C ∧ y.cls ≠ "java/lang/invoke/MethodHandle" ∧ y.cls ≠ "java/lang/invoke/VarHandle" ∧ (parseMethodDescriptor y.desc).map (fun d => d.parameters.length) = some n) (hn : As.length = n) (hR : rm.frames + 1 ≤ R.frames ∧ 8 + (maxL + 11) + rm.locals ≤ R.locals ∧ cells + mc ≤ R.cells ∧ slots + ms ≤ R.slots)
    (isC isR : List Nat) (hC : isC.map (fun i => ww[i]?) = w.map some) (hRr : isR.map (fun i => ww[i]?) = wr.map some) (hnC : va_nd isC = true) (hnR : va_nd isR = true) (hdis : ∀ i ∈ isR, i ∉ isC)
    {ci : Nat} {fs : List Value} {cq : vw_C} (hb0 : w[0]? = some (b, .inr (ci, fs))) (hci : vwCl[ci]? = some cq) (hCq : cq.1 = C) (hst : (rest.map fun v => v.category).sum ≤ 8) (hdg : decode cc pc = .ok (.invokevirtual index, 3)) (hstk : st = As.reverse ++ .ref b :: rest)
    (k : ∀ (r : Int32) (u : St) (H1 : Heap) (locs1 : List Loc), post r u → va_P G.1 vwCl (wr ++ w1 u) H1 → va_D A (wr ++ w1 u) → va_S A H0 H1 locs1 → H.size ≤ H1.size → W p l e R s m args below meth c H1 locs1 (cells + mc) (slots + ms) Q (F0 m (pc + 3) ls (.int r :: rest))) : W p l e R s m args below meth c H locs cells slots Q (F0 m pc ls st) := by
  subst hstk
  have hPc : va_P G.1 vwCl w H := zP_cut hP hC
  have hDc : va_D (fun _ => True) w := (hD.sub isC hnC hC).weaken (fun _ _ _ _ => trivial)
  have hFc := va_free (wc := w) hD hS hA isC hC
  refine va_calli (va_runV (As := As) (rest := rest) S hM (cwV n S.2.2.2.2 hG hw hrm.1 hrm.2 hd ⟨hR.1, hR.2.1⟩) ⟨zPre_blind, hCq ▸ va_recv hK hPc (ci := ci) (q0 := 0) hci hb0, fun U hU hW => ⟨rfl, by rw [hU], by rw [hU]; exact hPc, va_K.moved hW.alike hK, hDc, zN_warm hW hN⟩⟩ rfl hn hl.1 rfl (lv_room hst) hdg ⟨hR.2.2.1, hR.2.2.2⟩) hS (fun q _ h => hFc q h) hFc (fun r u t H1 locs1 ht hvm hw1 hB hz1 hk1 hS1 => ?_)
  obtain ⟨hP1, hK1, hD1⟩ := hB
  rw [ht] at hP1
  obtain ⟨hP2, hD2⟩ := va_join hP hD isC isR hC hRr hnR hdis hk1 hFc hP1 hD1
  exact k r u H1 locs1 hw1 hP2 hD2 hS1 hz1
theorem zc_Vl {ret : Option FieldType} {post : Int64 → St → Prop} (S : CallFix p m c cc nL s args Ts own) (hN : zN s) (hK : va_K G.1 vwCl (zT G) s) (hP : va_P G.1 vwCl ww H) (hD : va_D A ww) (hS : va_S A H0 H locs) (hA : ∀ q, H0.size ≤ q → A q) (hl : lv_has ls nL lv)
    (hM : Met l y ws rm (va_Pc (.ref b :: As) (zPre G H.size w)) (va_Ql post (fun u => zW G (va_A w H.size) (w1 u)) (va_A w H.size)) mc ms (va_A w H.size))
    (hG : GoodIn Ts (wsV own index C y ws)) (hw : ws = Cond.code y bytes maxL ret :: ws') (hrm : rm.cells = mc ∧ rm.slots = ms) (hd : y.cls = C ∧ y.cls ≠ "java/lang/invoke/MethodHandle" ∧ y.cls ≠ "java/lang/invoke/VarHandle" ∧ (parseMethodDescriptor y.desc).map (fun d => d.parameters.length) = some n) (hn : As.length = n) (hR : rm.frames + 1 ≤ R.frames ∧ 8 + (maxL + 11) + rm.locals ≤ R.locals ∧ cells + mc ≤ R.cells ∧ slots + ms ≤ R.slots)
    (isC isR : List Nat) (hC : isC.map (fun i => ww[i]?) = w.map some) (hRr : isR.map (fun i => ww[i]?) = wr.map some) (hnC : va_nd isC = true) (hnR : va_nd isR = true) (hdis : ∀ i ∈ isR, i ∉ isC)
    {ci : Nat} {fs : List Value} {cq : vw_C} (hb0 : w[0]? = some (b, .inr (ci, fs))) (hci : vwCl[ci]? = some cq) (hCq : cq.1 = C) (hst : (rest.map fun v => v.category).sum ≤ 8) (hdg : decode cc pc = .ok (.invokevirtual index, 3)) (hstk : st = As.reverse ++ .ref b :: rest)
    (k : ∀ (r : Int64) (u : St) (H1 : Heap) (locs1 : List Loc), post r u → va_P G.1 vwCl (wr ++ w1 u) H1 → va_D A (wr ++ w1 u) → va_S A H0 H1 locs1 → H.size ≤ H1.size → W p l e R s m args below meth c H1 locs1 (cells + mc) (slots + ms) Q (F0 m (pc + 3) ls (.long r :: rest))) : W p l e R s m args below meth c H locs cells slots Q (F0 m pc ls st) := by
  subst hstk
  have hPc : va_P G.1 vwCl w H := zP_cut hP hC
  have hDc : va_D (fun _ => True) w := (hD.sub isC hnC hC).weaken (fun _ _ _ _ => trivial)
  have hFc := va_free (wc := w) hD hS hA isC hC
  refine va_calll (va_runV (As := As) (rest := rest) S hM (cwV n S.2.2.2.2 hG hw hrm.1 hrm.2 hd ⟨hR.1, hR.2.1⟩) ⟨zPre_blind, hCq ▸ va_recv hK hPc (ci := ci) (q0 := 0) hci hb0, fun U hU hW => ⟨rfl, by rw [hU], by rw [hU]; exact hPc, va_K.moved hW.alike hK, hDc, zN_warm hW hN⟩⟩ rfl hn hl.1 rfl (lv_room hst) hdg ⟨hR.2.2.1, hR.2.2.2⟩) hS (fun q _ h => hFc q h) hFc (fun r u t H1 locs1 ht hvm hw1 hB hz1 hk1 hS1 => ?_)
  obtain ⟨hP1, hK1, hD1⟩ := hB
  rw [ht] at hP1
  obtain ⟨hP2, hD2⟩ := va_join hP hD isC isR hC hRr hnR hdis hk1 hFc hP1 hD1
  exact k r u H1 locs1 hw1 hP2 hD2 hS1 hz1
theorem zc_Vv {ret : Option FieldType} {post : St → Prop} (S : CallFix p m c cc nL s args Ts own) (hN : zN s) (hK : va_K G.1 vwCl (zT G) s) (hP : va_P G.1 vwCl ww H) (hD : va_D A ww) (hS : va_S A H0 H locs) (hA : ∀ q, H0.size ≤ q → A q) (hl : lv_has ls nL lv)
    (hM : Met l y ws rm (va_Pc (.ref b :: As) (zPre G H.size w)) (va_Qv post (fun u => zW G (va_A w H.size) (w1 u)) (va_A w H.size)) mc ms (va_A w H.size))
    (hG : GoodIn Ts (wsV own index C y ws)) (hw : ws = Cond.code y bytes maxL ret :: ws') (hrm : rm.cells = mc ∧ rm.slots = ms) (hd : y.cls = C ∧ y.cls ≠ "java/lang/invoke/MethodHandle" ∧ y.cls ≠ "java/lang/invoke/VarHandle" ∧ (parseMethodDescriptor y.desc).map (fun d => d.parameters.length) = some n) (hn : As.length = n) (hR : rm.frames + 1 ≤ R.frames ∧ 8 + (maxL + 11) + rm.locals ≤ R.locals ∧ cells + mc ≤ R.cells ∧ slots + ms ≤ R.slots)
    (isC isR : List Nat) (hC : isC.map (fun i => ww[i]?) = w.map some) (hRr : isR.map (fun i => ww[i]?) = wr.map some) (hnC : va_nd isC = true) (hnR : va_nd isR = true) (hdis : ∀ i ∈ isR, i ∉ isC)
    {ci : Nat} {fs : List Value} {cq : vw_C} (hb0 : w[0]? = some (b, .inr (ci, fs))) (hci : vwCl[ci]? = some cq) (hCq : cq.1 = C) (hst : (rest.map fun v => v.category).sum ≤ 8) (hdg : decode cc pc = .ok (.invokevirtual index, 3)) (hstk : st = As.reverse ++ .ref b :: rest)
    (k : ∀ (u : St) (H1 : Heap) (locs1 : List Loc), post u → va_P G.1 vwCl (wr ++ w1 u) H1 → va_D A (wr ++ w1 u) → va_S A H0 H1 locs1 → H.size ≤ H1.size → W p l e R s m args below meth c H1 locs1 (cells + mc) (slots + ms) Q (F0 m (pc + 3) ls (rest))) : W p l e R s m args below meth c H locs cells slots Q (F0 m pc ls st) := by
  subst hstk
  have hPc : va_P G.1 vwCl w H := zP_cut hP hC
  have hDc : va_D (fun _ => True) w := (hD.sub isC hnC hC).weaken (fun _ _ _ _ => trivial)
  have hFc := va_free (wc := w) hD hS hA isC hC
  refine va_callv (va_runV (As := As) (rest := rest) S hM (cwV n S.2.2.2.2 hG hw hrm.1 hrm.2 hd ⟨hR.1, hR.2.1⟩) ⟨zPre_blind, hCq ▸ va_recv hK hPc (ci := ci) (q0 := 0) hci hb0, fun U hU hW => ⟨rfl, by rw [hU], by rw [hU]; exact hPc, va_K.moved hW.alike hK, hDc, zN_warm hW hN⟩⟩ rfl hn hl.1 rfl (lv_room hst) hdg ⟨hR.2.2.1, hR.2.2.2⟩) hS (fun q _ h => hFc q h) hFc (fun u t H1 locs1 ht hvm hw1 hB hz1 hk1 hS1 => ?_)
  obtain ⟨hP1, hK1, hD1⟩ := hB
  rw [ht] at hP1
  obtain ⟨hP2, hD2⟩ := va_join hP hD isC isR hC hRr hnR hdis hk1 hFc hP1 hD1
  exact k u H1 locs1 hw1 hP2 hD2 hS1 hz1
theorem zc_Si {ret : Option FieldType} {post : Int32 → St → Prop} (S : CallFix p m c cc nL s args Ts own) (hN : zN s) (hK : va_K G.1 vwCl (zT G) s) (hP : va_P G.1 vwCl ww H) (hD : va_D A ww) (hS : va_S A H0 H locs) (hA : ∀ q, H0.size ≤ q → A q) (hl : lv_has ls nL lv)
    (hM : Met l y ws rm (va_Pc As (zPre G H.size w)) (va_Qi post (fun u => zW G (va_A w H.size) (w1 u)) (va_A w H.size)) mc ms (va_A w H.size))
    (hG : GoodIn Ts (va_wsS own index y ws)) (hw : ws = Cond.code y bytes maxL ret :: ws') (hrm : rm.cells = mc ∧ rm.slots = ms) (hd : y.cls ≠ "java/lang/invoke/MethodHandle" ∧ y.cls ≠ "java/lang/invoke/VarHandle" ∧ (parseMethodDescriptor y.desc).map (fun d => d.parameters.length) = some n) (hn : As.length = n) (hR : rm.frames + 1 ≤ R.frames ∧ 8 + (maxL + 11) + rm.locals ≤ R.locals ∧ cells + mc ≤ R.cells ∧ slots + ms ≤ R.slots)
    (isC isR : List Nat) (hC : isC.map (fun i => ww[i]?) = w.map some) (hRr : isR.map (fun i => ww[i]?) = wr.map some) (hnC : va_nd isC = true) (hnR : va_nd isR = true) (hdis : ∀ i ∈ isR, i ∉ isC)
    (hst : (rest.map fun v => v.category).sum ≤ 8) (hdg : decode cc pc = .ok (.invokestatic index, 3)) (hstk : st = As.reverse ++ rest)
    (k : ∀ (r : Int32) (u : St) (H1 : Heap) (locs1 : List Loc), post r u → va_P G.1 vwCl (wr ++ w1 u) H1 → va_D A (wr ++ w1 u) → va_S A H0 H1 locs1 → H.size ≤ H1.size → W p l e R s m args below meth c H1 locs1 (cells + mc) (slots + ms) Q (F0 m (pc + 3) ls (.int r :: rest))) : W p l e R s m args below meth c H locs cells slots Q (F0 m pc ls st) := by
  subst hstk
  have hPc : va_P G.1 vwCl w H := zP_cut hP hC
  have hDc : va_D (fun _ => True) w := (hD.sub isC hnC hC).weaken (fun _ _ _ _ => trivial)
  have hFc := va_free (wc := w) hD hS hA isC hC
  refine va_calli (va_runS (As := As) (rest := rest) S hM (va_cwS n S.2.2.2.2 hG hw hrm.1 hrm.2 hd ⟨hR.1, hR.2.1⟩) ⟨zPre_blind, fun U hU hW => ⟨rfl, by rw [hU], by rw [hU]; exact hPc, va_K.moved hW.alike hK, hDc, zN_warm hW hN⟩⟩ rfl hn hl.1 rfl (lv_room hst) hdg ⟨hR.2.2.1, hR.2.2.2⟩) hS (fun q _ h => hFc q h) hFc (fun r u t H1 locs1 ht hvm hw1 hB hz1 hk1 hS1 => ?_)
  obtain ⟨hP1, hK1, hD1⟩ := hB
  rw [ht] at hP1
  obtain ⟨hP2, hD2⟩ := va_join hP hD isC isR hC hRr hnR hdis hk1 hFc hP1 hD1
  exact k r u H1 locs1 hw1 hP2 hD2 hS1 hz1
theorem zc_Sl {ret : Option FieldType} {post : Int64 → St → Prop} (S : CallFix p m c cc nL s args Ts own) (hN : zN s) (hK : va_K G.1 vwCl (zT G) s) (hP : va_P G.1 vwCl ww H) (hD : va_D A ww) (hS : va_S A H0 H locs) (hA : ∀ q, H0.size ≤ q → A q) (hl : lv_has ls nL lv)
    (hM : Met l y ws rm (va_Pc As (zPre G H.size w)) (va_Ql post (fun u => zW G (va_A w H.size) (w1 u)) (va_A w H.size)) mc ms (va_A w H.size))
    (hG : GoodIn Ts (va_wsS own index y ws)) (hw : ws = Cond.code y bytes maxL ret :: ws') (hrm : rm.cells = mc ∧ rm.slots = ms) (hd : y.cls ≠ "java/lang/invoke/MethodHandle" ∧ y.cls ≠ "java/lang/invoke/VarHandle" ∧ (parseMethodDescriptor y.desc).map (fun d => d.parameters.length) = some n) (hn : As.length = n) (hR : rm.frames + 1 ≤ R.frames ∧ 8 + (maxL + 11) + rm.locals ≤ R.locals ∧ cells + mc ≤ R.cells ∧ slots + ms ≤ R.slots)
    (isC isR : List Nat) (hC : isC.map (fun i => ww[i]?) = w.map some) (hRr : isR.map (fun i => ww[i]?) = wr.map some) (hnC : va_nd isC = true) (hnR : va_nd isR = true) (hdis : ∀ i ∈ isR, i ∉ isC)
    (hst : (rest.map fun v => v.category).sum ≤ 8) (hdg : decode cc pc = .ok (.invokestatic index, 3)) (hstk : st = As.reverse ++ rest)
    (k : ∀ (r : Int64) (u : St) (H1 : Heap) (locs1 : List Loc), post r u → va_P G.1 vwCl (wr ++ w1 u) H1 → va_D A (wr ++ w1 u) → va_S A H0 H1 locs1 → H.size ≤ H1.size → W p l e R s m args below meth c H1 locs1 (cells + mc) (slots + ms) Q (F0 m (pc + 3) ls (.long r :: rest))) : W p l e R s m args below meth c H locs cells slots Q (F0 m pc ls st) := by
  subst hstk
  have hPc : va_P G.1 vwCl w H := zP_cut hP hC
  have hDc : va_D (fun _ => True) w := (hD.sub isC hnC hC).weaken (fun _ _ _ _ => trivial)
  have hFc := va_free (wc := w) hD hS hA isC hC
  refine va_calll (va_runS (As := As) (rest := rest) S hM (va_cwS n S.2.2.2.2 hG hw hrm.1 hrm.2 hd ⟨hR.1, hR.2.1⟩) ⟨zPre_blind, fun U hU hW => ⟨rfl, by rw [hU], by rw [hU]; exact hPc, va_K.moved hW.alike hK, hDc, zN_warm hW hN⟩⟩ rfl hn hl.1 rfl (lv_room hst) hdg ⟨hR.2.2.1, hR.2.2.2⟩) hS (fun q _ h => hFc q h) hFc (fun r u t H1 locs1 ht hvm hw1 hB hz1 hk1 hS1 => ?_)
  obtain ⟨hP1, hK1, hD1⟩ := hB
  rw [ht] at hP1
  obtain ⟨hP2, hD2⟩ := va_join hP hD isC isR hC hRr hnR hdis hk1 hFc hP1 hD1
  exact k r u H1 locs1 hw1 hP2 hD2 hS1 hz1
theorem zc_Sv {ret : Option FieldType} {post : St → Prop} (S : CallFix p m c cc nL s args Ts own) (hN : zN s) (hK : va_K G.1 vwCl (zT G) s) (hP : va_P G.1 vwCl ww H) (hD : va_D A ww) (hS : va_S A H0 H locs) (hA : ∀ q, H0.size ≤ q → A q) (hl : lv_has ls nL lv)
    (hM : Met l y ws rm (va_Pc As (zPre G H.size w)) (va_Qv post (fun u => zW G (va_A w H.size) (w1 u)) (va_A w H.size)) mc ms (va_A w H.size))
    (hG : GoodIn Ts (va_wsS own index y ws)) (hw : ws = Cond.code y bytes maxL ret :: ws') (hrm : rm.cells = mc ∧ rm.slots = ms) (hd : y.cls ≠ "java/lang/invoke/MethodHandle" ∧ y.cls ≠ "java/lang/invoke/VarHandle" ∧ (parseMethodDescriptor y.desc).map (fun d => d.parameters.length) = some n) (hn : As.length = n) (hR : rm.frames + 1 ≤ R.frames ∧ 8 + (maxL + 11) + rm.locals ≤ R.locals ∧ cells + mc ≤ R.cells ∧ slots + ms ≤ R.slots)
    (isC isR : List Nat) (hC : isC.map (fun i => ww[i]?) = w.map some) (hRr : isR.map (fun i => ww[i]?) = wr.map some) (hnC : va_nd isC = true) (hnR : va_nd isR = true) (hdis : ∀ i ∈ isR, i ∉ isC)
    (hst : (rest.map fun v => v.category).sum ≤ 8) (hdg : decode cc pc = .ok (.invokestatic index, 3)) (hstk : st = As.reverse ++ rest)
    (k : ∀ (u : St) (H1 : Heap) (locs1 : List Loc), post u → va_P G.1 vwCl (wr ++ w1 u) H1 → va_D A (wr ++ w1 u) → va_S A H0 H1 locs1 → H.size ≤ H1.size → W p l e R s m args below meth c H1 locs1 (cells + mc) (slots + ms) Q (F0 m (pc + 3) ls (rest))) : W p l e R s m args below meth c H locs cells slots Q (F0 m pc ls st) := by
  subst hstk
  have hPc : va_P G.1 vwCl w H := zP_cut hP hC
  have hDc : va_D (fun _ => True) w := (hD.sub isC hnC hC).weaken (fun _ _ _ _ => trivial)
  have hFc := va_free (wc := w) hD hS hA isC hC
  refine va_callv (va_runS (As := As) (rest := rest) S hM (va_cwS n S.2.2.2.2 hG hw hrm.1 hrm.2 hd ⟨hR.1, hR.2.1⟩) ⟨zPre_blind, fun U hU hW => ⟨rfl, by rw [hU], by rw [hU]; exact hPc, va_K.moved hW.alike hK, hDc, zN_warm hW hN⟩⟩ rfl hn hl.1 rfl (lv_room hst) hdg ⟨hR.2.2.1, hR.2.2.2⟩) hS (fun q _ h => hFc q h) hFc (fun u t H1 locs1 ht hvm hw1 hB hz1 hk1 hS1 => ?_)
  obtain ⟨hP1, hK1, hD1⟩ := hB
  rw [ht] at hP1
  obtain ⟨hP2, hD2⟩ := va_join hP hD isC isR hC hRr hnR hdis hk1 hFc hP1 hD1
  exact k u H1 locs1 hw1 hP2 hD2 hS1 hz1
theorem zc_Ni {ret : Option FieldType} {post : Int32 → St → Prop} (S : CallFix p m c cc nL s args Ts own) (hN : zN s) (hK : va_K G.1 vwCl (zT G) s) (hP : va_P G.1 vwCl ww H) (hD : va_D A ww) (hS : va_S A H0 H locs) (hA : ∀ q, H0.size ≤ q → A q) (hl : lv_has ls nL lv)
    (hM : Met l y ws rm (va_Pc As (zPre G H.size w)) (va_Qi post (fun u => zW G (va_A w H.size) (w1 u)) (va_A w H.size)) mc ms (va_A w H.size))
    (hG : GoodIn Ts ws) (hlk : Cond.methodLinkNest own index y host ∈ zNest) (hst1 : Cond.static y ∈ Ts) (hin1 : Cond.initialized y.cls ∈ Ts) (hw : ws = Cond.code y bytes maxL ret :: ws') (hrm : rm.cells = mc ∧ rm.slots = ms) (hd : y.cls ≠ "java/lang/invoke/MethodHandle" ∧ y.cls ≠ "java/lang/invoke/VarHandle" ∧ (parseMethodDescriptor y.desc).map (fun d => d.parameters.length) = some n) (hn : As.length = n) (hR : rm.frames + 1 ≤ R.frames ∧ 8 + (maxL + 11) + rm.locals ≤ R.locals ∧ cells + mc ≤ R.cells ∧ slots + ms ≤ R.slots)
    (isC isR : List Nat) (hC : isC.map (fun i => ww[i]?) = w.map some) (hRr : isR.map (fun i => ww[i]?) = wr.map some) (hnC : va_nd isC = true) (hnR : va_nd isR = true) (hdis : ∀ i ∈ isR, i ∉ isC)
    (hst : (rest.map fun v => v.category).sum ≤ 8) (hdg : decode cc pc = .ok (.invokestatic index, 3)) (hstk : st = As.reverse ++ rest)
    (k : ∀ (r : Int32) (u : St) (H1 : Heap) (locs1 : List Loc), post r u → va_P G.1 vwCl (wr ++ w1 u) H1 → va_D A (wr ++ w1 u) → va_S A H0 H1 locs1 → H.size ≤ H1.size → W p l e R s m args below meth c H1 locs1 (cells + mc) (slots + ms) Q (F0 m (pc + 3) ls (.int r :: rest))) : W p l e R s m args below meth c H locs cells slots Q (F0 m pc ls st) := by
  subst hstk
  have hPc : va_P G.1 vwCl w H := zP_cut hP hC
  have hDc : va_D (fun _ => True) w := (hD.sub isC hnC hC).weaken (fun _ _ _ _ => trivial)
  have hFc := va_free (wc := w) hD hS hA isC hC
  refine va_calli (va_runSN (As := As) (rest := rest) (host := host) S hM ⟨va_cnB n S.2.2.2.2 hG hw hrm.1 hrm.2 (hN _ hlk) (S.2.2.2.2 _ hin1) hd ⟨hR.1, hR.2.1⟩, S.2.2.2.2 _ hst1, trivial⟩ ⟨zPre_blind, fun U hU hW => ⟨rfl, by rw [hU], by rw [hU]; exact hPc, va_K.moved hW.alike hK, hDc, zN_warm hW hN⟩⟩ rfl hn hl.1 rfl (lv_room hst) hdg ⟨hR.2.2.1, hR.2.2.2⟩) hS (fun q _ h => hFc q h) hFc (fun r u t H1 locs1 ht hvm hw1 hB hz1 hk1 hS1 => ?_)
  obtain ⟨hP1, hK1, hD1⟩ := hB
  rw [ht] at hP1
  obtain ⟨hP2, hD2⟩ := va_join hP hD isC isR hC hRr hnR hdis hk1 hFc hP1 hD1
  exact k r u H1 locs1 hw1 hP2 hD2 hS1 hz1
theorem zc_I {post : St → Prop} (S : CallFix p m c cc nL s args Ts own) (hN : zN s) (hK : va_K G.1 vwCl (zT G) s) (hP : va_P G.1 vwCl ww H) (hD : va_D A ww) (hS : va_S A H0 H locs) (hA : ∀ q, H0.size ≤ q → A q) (hl : lv_has ls nL lv)
    (hM : Met l y ws rm (va_Pc (.ref b :: As) (zPre G H.size w)) (va_Qv post (fun u => zW G (va_A w H.size) (w1 u)) (va_A w H.size)) mc ms (va_A w H.size))
    (hG : GoodIn Ts ws) (hlk : Cond.methodLink own index y ∈ Ts) (him : Cond.instanceMethod y ∈ Ts) (hin1 : Cond.initialized y.cls ∈ Ts) (hy1 : y.name = "<init>") (hw : ws = Cond.code y bytes maxL none :: ws') (hrm : rm.cells = mc ∧ rm.slots = ms) (hd : y.cls ≠ "java/lang/invoke/MethodHandle" ∧ y.cls ≠ "java/lang/invoke/VarHandle" ∧ (parseMethodDescriptor y.desc).map (fun d => d.parameters.length) = some n) (hn : As.length = n) (hR : rm.frames + 1 ≤ R.frames ∧ 8 + (maxL + 11) + rm.locals ≤ R.locals ∧ cells + mc ≤ R.cells ∧ slots + ms ≤ R.slots)
    (isC isR : List Nat) (hC : isC.map (fun i => ww[i]?) = w.map some) (hRr : isR.map (fun i => ww[i]?) = wr.map some) (hnC : va_nd isC = true) (hnR : va_nd isR = true) (hdis : ∀ i ∈ isR, i ∉ isC)
    (hst : (rest.map fun v => v.category).sum ≤ 8) (hdg : decode cc pc = .ok (.invokespecial index, 3)) (hstk : st = As.reverse ++ .ref b :: rest)
    (k : ∀ (u : St) (H1 : Heap) (locs1 : List Loc), post u → va_P G.1 vwCl (wr ++ w1 u) H1 → va_D A (wr ++ w1 u) → va_S A H0 H1 locs1 → H.size ≤ H1.size → W p l e R s m args below meth c H1 locs1 (cells + mc) (slots + ms) Q (F0 m (pc + 3) ls (rest))) : W p l e R s m args below meth c H locs cells slots Q (F0 m pc ls st) := by
  subst hstk
  have hPc : va_P G.1 vwCl w H := zP_cut hP hC
  have hDc : va_D (fun _ => True) w := (hD.sub isC hnC hC).weaken (fun _ _ _ _ => trivial)
  have hFc := va_free (wc := w) hD hS hA isC hC
  refine va_callv (va_runI (As := As) (rest := rest) S hM (cwI n S.2.2.2.2 hG hw hrm.1 hrm.2 (S.2.2.2.2 _ hin1) (S.2.2.2.2 _ hlk) (S.2.2.2.2 _ him) hy1 hd ⟨hR.1, hR.2.1⟩) ⟨zPre_blind, fun U hU hW => ⟨rfl, by rw [hU], by rw [hU]; exact hPc, va_K.moved hW.alike hK, hDc, zN_warm hW hN⟩⟩ rfl hn hl.1 rfl (lv_room hst) hdg ⟨hR.2.2.1, hR.2.2.2⟩) hS (fun q _ h => hFc q h) hFc (fun u t H1 locs1 ht hvm hw1 hB hz1 hk1 hS1 => ?_)
  obtain ⟨hP1, hK1, hD1⟩ := hB
  rw [ht] at hP1
  obtain ⟨hP2, hD2⟩ := va_join hP hD isC isR hC hRr hnR hdis hk1 hFc hP1 hD1
  exact k u H1 locs1 hw1 hP2 hD2 hS1 hz1
theorem zc_J {post : St → Prop} (S : CallFix p m c cc nL s args Ts own) (hN : zN s) (hK : va_K G.1 vwCl (zT G) s) (hP : va_P G.1 vwCl ww H) (hD : va_D A ww) (hS : va_S A H0 H locs) (hA : ∀ q, H0.size ≤ q → A q) (hl : lv_has ls nL lv)
    (hM : Met l y ws rm (va_Pc (.ref b :: As) (zPre G H.size w)) (va_Qv post (fun u => zW G (va_A w H.size) (w1 u)) (va_A w H.size)) mc ms (va_A w H.size))
    (hG : GoodIn Ts ws) (hlk : Cond.methodLinkNest own index y host ∈ zNest) (him : Cond.instanceMethod y ∈ Ts) (hin1 : Cond.initialized y.cls ∈ Ts) (hy1 : y.name = "<init>") (hw : ws = Cond.code y bytes maxL none :: ws') (hrm : rm.cells = mc ∧ rm.slots = ms) (hd : y.cls ≠ "java/lang/invoke/MethodHandle" ∧ y.cls ≠ "java/lang/invoke/VarHandle" ∧ (parseMethodDescriptor y.desc).map (fun d => d.parameters.length) = some n) (hn : As.length = n) (hR : rm.frames + 1 ≤ R.frames ∧ 8 + (maxL + 11) + rm.locals ≤ R.locals ∧ cells + mc ≤ R.cells ∧ slots + ms ≤ R.slots)
    (isC isR : List Nat) (hC : isC.map (fun i => ww[i]?) = w.map some) (hRr : isR.map (fun i => ww[i]?) = wr.map some) (hnC : va_nd isC = true) (hnR : va_nd isR = true) (hdis : ∀ i ∈ isR, i ∉ isC)
    (hst : (rest.map fun v => v.category).sum ≤ 8) (hdg : decode cc pc = .ok (.invokespecial index, 3)) (hstk : st = As.reverse ++ .ref b :: rest)
    (k : ∀ (u : St) (H1 : Heap) (locs1 : List Loc), post u → va_P G.1 vwCl (wr ++ w1 u) H1 → va_D A (wr ++ w1 u) → va_S A H0 H1 locs1 → H.size ≤ H1.size → W p l e R s m args below meth c H1 locs1 (cells + mc) (slots + ms) Q (F0 m (pc + 3) ls (rest))) : W p l e R s m args below meth c H locs cells slots Q (F0 m pc ls st) := by
  subst hstk
  have hPc : va_P G.1 vwCl w H := zP_cut hP hC
  have hDc : va_D (fun _ => True) w := (hD.sub isC hnC hC).weaken (fun _ _ _ _ => trivial)
  have hFc := va_free (wc := w) hD hS hA isC hC
  refine va_callv (va_runIN (As := As) (rest := rest) (host := host) S hM ⟨va_cnB n S.2.2.2.2 hG hw hrm.1 hrm.2 (hN _ hlk) (S.2.2.2.2 _ hin1) hd ⟨hR.1, hR.2.1⟩, hy1, S.2.2.2.2 _ him⟩ ⟨zPre_blind, fun U hU hW => ⟨rfl, by rw [hU], by rw [hU]; exact hPc, va_K.moved hW.alike hK, hDc, zN_warm hW hN⟩⟩ rfl hn hl.1 rfl (lv_room hst) hdg ⟨hR.2.2.1, hR.2.2.2⟩) hS (fun q _ h => hFc q h) hFc (fun u t H1 locs1 ht hvm hw1 hB hz1 hk1 hS1 => ?_)
  obtain ⟨hP1, hK1, hD1⟩ := hB
  rw [ht] at hP1
  obtain ⟨hP2, hD2⟩ := va_join hP hD isC isR hC hRr hnR hdis hk1 hFc hP1 hD1
  exact k u H1 locs1 hw1 hP2 hD2 hS1 hz1
end ZC
