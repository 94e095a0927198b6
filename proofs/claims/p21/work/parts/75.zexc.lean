/-! methods that may throw -/
abbrev zIO : String := "java/lang/IndexOutOfBoundsException"
abbrev zIA : String := "java/lang/IllegalArgumentException"
abbrev zIS : String := "java/lang/IllegalStateException"
abbrev zNN : List String := ["java/lang/RuntimeException", "java/lang/Exception"]
def zXw : List Cond := [.declares ⟨"java/lang/RuntimeException", "<init>", "(Ljava/lang/String;)V"⟩, .declares ⟨"java/lang/Exception", "<init>", "(Ljava/lang/String;)V"⟩, .declares ⟨"java/lang/Throwable", "<init>", "(Ljava/lang/String;)V"⟩, .castable "java/lang/IllegalStateException" "java/lang/IllegalStateException", .castable "java/lang/IllegalArgumentException" "java/lang/IllegalArgumentException", .castable "java/lang/IndexOutOfBoundsException" "java/lang/IndexOutOfBoundsException"]
def zStr : List (Nat × String) := [(43, "there are 8 shapes"), (58, "a and b are both 0"), (65, "there are 10 inequalities"), (75, "there is no such cut, or no room for it"), (87, "some b would be out of its range"), (125, "the shape has no points"), (162, "there are 6 coins"), (179, "there is no such gap"), (196, "there is no such shape"), (199, "there is no such inequality"), (201, "an argument is out of its range"), (203, "the shape is no place"), (205, "the place is below NONE"), (210, "there are gaps without an end"), (216, "one vector is a multiple of the other one"), (218, "there is no such generator")]
/-- what a throw stands on, beside the words -/
def zE (A : Nat → Prop) (U : State) (H : Heap) : Prop := (vx_Zq Bundle.tN "UNASSIGNED_STACK" Bundle.steD A U H ∧ vx_Zq Bundle.tN "SUPPRESSED_SENTINEL" Bundle.listD A U H) ∧ (∀ w ∈ zXw, va_Nw w U) ∧ (∀ q ∈ zStr, ∃ a, vk_R RX4 q.1 q.2 a U) ∧ va_AO "PointMill$Shape" U ∧ va_Nc zIA zIS U ∧ va_Nc zIO zIS U ∧ va_Nc zIO zIS U
theorem zXw_warm {s U : State} (hW : s.WarmedH U.vm) (h : ∀ w ∈ zXw, va_Nw w s) : ∀ w ∈ zXw, va_Nw w U := by
  show ∀ w ∈ [.declares ⟨"java/lang/RuntimeException", "<init>", "(Ljava/lang/String;)V"⟩, .declares ⟨"java/lang/Exception", "<init>", "(Ljava/lang/String;)V"⟩, .declares ⟨"java/lang/Throwable", "<init>", "(Ljava/lang/String;)V"⟩, .castable "java/lang/IllegalStateException" "java/lang/IllegalStateException", .castable "java/lang/IllegalArgumentException" "java/lang/IllegalArgumentException", .castable "java/lang/IndexOutOfBoundsException" "java/lang/IndexOutOfBoundsException"], va_Nw w U
  exact List.forall_mem_cons.mpr ⟨va_Nw.warmD hW (h _ (List.mem_of_getElem? (i := 0) rfl)), List.forall_mem_cons.mpr ⟨va_Nw.warmD hW (h _ (List.mem_of_getElem? (i := 1) rfl)), List.forall_mem_cons.mpr ⟨va_Nw.warmD hW (h _ (List.mem_of_getElem? (i := 2) rfl)), List.forall_mem_cons.mpr ⟨va_Nw.warmC hW (h _ (List.mem_of_getElem? (i := 3) rfl)), List.forall_mem_cons.mpr ⟨va_Nw.warmC hW (h _ (List.mem_of_getElem? (i := 4) rfl)), List.forall_mem_cons.mpr ⟨va_Nw.warmC hW (h _ (List.mem_of_getElem? (i := 5) rfl)), fun _ h => absurd h List.not_mem_nil⟩⟩⟩⟩⟩⟩
theorem zE.warm {A : Nat → Prop} {s U : State} {H : Heap} (hW : s.WarmedH U.vm) (h : zE A s H) : zE A U H :=
  ⟨⟨vx_Zq.moved hW.alike h.1.1, vx_Zq.moved hW.alike h.1.2⟩, zXw_warm hW h.2.1, fun q hq => (h.2.2.1 q hq).imp fun a k => vk_R.warm hW k, va_AO.moved hW.alike h.2.2.2.1, va_Nc.moved hW.alike h.2.2.2.2.1, va_Nc.moved hW.alike h.2.2.2.2.2.1, va_Nc.moved hW.alike h.2.2.2.2.2.2⟩
theorem zE.kept {A : Nat → Prop} {U : State} {H H1 : Heap} (h : zE A U H) (hq : ∀ a : Nat, a < H.size → ¬ A a → H1[a]? = H[a]?) : zE A U H1 := ⟨⟨vx_Zq.kept h.1.1 hq, vx_Zq.kept h.1.2 hq⟩, h.2⟩
theorem zE.narrow {A B : Nat → Prop} {U : State} {H : Heap} (h : zE A U H) (hAB : ∀ q, B q → A q) : zE B U H := ⟨⟨vx_Zq.narrow h.1.1 hAB, vx_Zq.narrow h.1.2 hAB⟩, h.2⟩
def zPx (G : zG) (sz : Nat) (w : va_W) (U : State) : Prop := zPre G sz w U ∧ zE (va_A w sz) U U.heap
theorem zPx_blind {av : List Value} {G : zG} {sz : Nat} {w : va_W} : FrameBlind (va_Pc av (zPx G sz w)) := fun a U g mk q => ⟨q.1, (zPre_blind (av := av) a U g mk ⟨q.1, q.2.1⟩).2, zE.warm (s := U) (U := U.calling g mk a) (State.WarmedH.refl U) q.2.2⟩
/-- which exception, by its indices -/
def zXc (cls : String) (ik ic : Nat) : Prop := cls = zIS ∧ ik = 41 ∧ ic = 45 ∨ cls = zIA ∧ ik = 56 ∧ ic = 60 ∨ cls = zIO ∧ ik = 177 ∧ ic = 181
theorem zXc_ot {cls : String} {ik ic : Nat} (h : zXc cls ik ic) : (∀ w ∈ Cond.classLink RX4 ik cls :: Cond.initialized cls :: vx_atS RX4 ic cls zNN, vx_ot w = true) ∧ (∀ w ∈ (vx_atS RX4 ic cls zNN).filter (fun w => !goodWord w), w ∈ zXw) ∧ Bundle.fit cls = true := by
  rcases h with ⟨rfl, rfl, rfl⟩ | ⟨rfl, rfl, rfl⟩ | ⟨rfl, rfl, rfl⟩
  · exact ⟨by decide +kernel, by decide +kernel, by decide +kernel⟩
  · exact ⟨by decide +kernel, by decide +kernel, by decide +kernel⟩
  · exact ⟨by decide +kernel, by decide +kernel, by decide +kernel⟩
theorem zXw_tab : ∀ w ∈ zXw, w.onTables = true := by decide +kernel
theorem zNN_fit : ∀ n ∈ zNN, Bundle.fit n = true := by decide +kernel
theorem zMx_i {l : Launch} (hl0 : l.stackTraces = false) {y : MethodName} {ws ws' : List Cond} {rm : Room} {G : zG} {sz : Nat} {w : va_W} {av : List Value} {St SX : Type} {post : Int32 → St → Prop} {w1 : St → va_W} {cx : String → SX → Prop} {w1x : SX → va_W} {mc ms : Nat} {cc : ByteArray} {maxL : Nat} (hy : plainName y.cls = true) (hy4 : y.cls = RX4) (hw : ws = Cond.code y cc maxL (some .int) :: ws') (hlv : (lg_sl av).length ≤ maxL) (hrf : 5 < rm.frames ∧ 90 ≤ rm.locals ∧ rm.cells = mc ∧ rm.slots = ms)
    (body : ∀ (p : Program) (e : Env) (s : State) (m : MethodId) (below : List Frame) (meth : Method) (c : Code) (A : Nat → Prop) (Q : State → Prop), CallFix p m c cc maxL s av.toArray ws y.cls → zN s → va_K G.1 vwCl (zT G) s → va_P G.1 vwCl w s.heap → va_D A w → va_S A s.heap s.heap [] → (∀ q, s.heap.size ≤ q → A q) → zE A s s.heap →
      (∀ (H : Heap) (locs : List Loc) (pc : Nat) (ls : Array Slot) (r : Int32) (u : St), decode cc pc = .ok (.ireturn, 1) → post r u → va_P G.1 vwCl (w1 u) H → va_D A (w1 u) → va_S A s.heap H locs → W p l e rm s m av.toArray below meth c H locs mc ms Q (F0 m pc ls [.int r])) →
      (∀ (H : Heap) (locs : List Loc) (cells slots pc : Nat) (ls : Array Slot) (rest : List Value) (E : String) (ce : Cell) (q : Addr) (u : SX), cx E u → va_P G.1 vwCl (w1x u) H → va_D A (w1x u) → va_S A s.heap H locs → H[q]? = some ce → ce.vm = .none → s.vm.findClass E = some ce.cls → cells ≤ mc → slots ≤ ms → vx_W p l e rm s m av.toArray below meth c H locs cells slots Q (F0 m pc ls rest) q) →
      (∀ (H : Heap) (locs : List Loc) (cells slots pc : Nat) (ls : Array Slot) (rest : List Value) (cls text : String) (ik is ic : Nat) (u : SX), zXc cls ik ic → (is, text) ∈ zStr → (∀ w ∈ Cond.classLink RX4 ik cls :: Cond.initialized cls :: (vx_atS RX4 ic cls zNN).filter goodWord, w ∈ ws) → decode cc pc = .ok (.new ik, 3) → decode cc (pc + 3) = .ok (.dup, 1) → decode cc (pc + 4) = .ok (.ldc is, 2) → decode cc (pc + 6) = .ok (.invokespecial ic, 3) → decode cc (pc + 9) = .ok (.athrow, 1) → (rest.map fun v => v.category).sum ≤ 8 → cx cls u → va_P G.1 vwCl (w1x u) H → va_D A (w1x u) → va_S A s.heap H locs → ls.size = maxL → cells + 1 ≤ mc → slots + 6 ≤ ms → W p l e rm s m av.toArray below meth c H locs cells slots Q (F0 m pc ls rest)) →
      ∀ ls : Array Slot, lv_has ls maxL (lv_args 0 av) → W p l e rm s m av.toArray below meth c s.heap [] 0 0 Q (F0 m 0 ls [])) :
    vx_Met l y ws rm (va_Pc av (zPx G sz w)) (va_Qi post (fun u => zW G (va_A w sz) (w1 u)) (va_A w sz)) (vx_X (fun _ => True) (fun (E : String) (u : SX) (t : State) => cx E u ∧ zW G (va_A w sz) (w1x u) t) (va_A w sz)) mc ms (va_A w sz) := by
  refine vx_ofW (cc := cc) (maxL := maxL) (ret := (some .int)) hy hw ?_
  intro p e s m args below meth c s₁ B hml htab hv
  obtain ⟨rfl, ⟨hsz, hP, hK, hD0, hN⟩, hE⟩ := hv
  subst hsz
  have hD := hD0.self (sz := s.heap.size)
  have hl := lv_entry av (n := maxL) hlv
  rw [lg_entry_eq]
  have hown : s.vm.findClass RX4 = some m.cls := by rw [← hy4]; exact findClass_of_methodNamed B.named
  have hts := atoms_spec (ws := ws) B.pre
  have hX : ∀ (H : Heap) (locs : List Loc) (E : String) (u : SX), cx E u → va_P G.1 vwCl (w1x u) H → va_D (va_A w s.heap.size) (w1x u) → va_S (va_A w s.heap.size) s.heap H locs → ∀ t : State, s.vm.Alike t.vm → H.size ≤ t.heap.size → (∀ q : Nat, q < H.size → t.heap[q]? = H[q]?) → (vx_X (fun _ => True) (fun (E : String) (u : SX) (t : State) => cx E u ∧ zW G (va_A w s.heap.size) (w1x u) t) (va_A w s.heap.size)) E s t := by
    intro H locs E u hc1 hP1 hD1 hS1 t hvm hz hq
    exact ⟨u, trivial, ⟨hc1, hP1.kept (fun k x hx => hq _ (hP1 k x hx).lt), va_K.moved hvm hK, hD1⟩, Nat.le_trans hS1.1 hz, fun q h1 h2 => (hq q (Nat.lt_of_lt_of_le h1 hS1.1)).trans (hS1.2.1 q h1 h2)⟩
  refine body p e s m below meth c (va_A w s.heap.size) _ ⟨B.exec, B.bytes, hml, findClass_of_methodNamed B.named, hts⟩ hN hK hP hD va_S.rf (fun q h => Or.inr h) hE ?_ ?_ ?_ _ hl
  · intro H locs pc ls r u hd hp hP1 hD1 hS
    exact vx_ret (W.iret B.exec B.bytes B.returns (fun t ht hW => ⟨⟨r, u, rfl, hp, by rw [ht]; exact hP1, va_K.moved hW.alike hK, hD1⟩, hS.F ht⟩) hS.2.2 hd B.notSynchronized)
  · intro H locs cells slots pc ls rest E ce q u hc1 hP1 hD1 hS1 hce hcv hcl h1 h2
    exact vx_out (fun x hx => absurd hx (fun z => htab x z)) B.notSynchronized hce hcv hcl (fun t ht hvm => hX H locs E u hc1 hP1 hD1 hS1 t hvm (by rw [ht]; exact Nat.le_refl _) (fun q _ => by rw [ht])) hS1.2.2 h1 h2
  · intro H locs cells slots pc ls rest cls text ik is ic u hx hst hm d0 d3 d4 d6 d9 hr hc1 hP1 hD1 hS1 hsz1 h1 h2
    obtain ⟨sa, hsa⟩ := hE.2.2.1 _ hst
    obtain ⟨g1, g2, g3⟩ := zXc_ot hx
    exact vx_throwS (A := va_A w s.heap.size) (names := zNN) B.exec B.bytes hl0 hown g3 zNN_fit (hts _ (hm _ List.mem_cons_self)) (hts _ (hm _ (List.mem_cons_of_mem _ List.mem_cons_self))) hsa
      (vx_hat (B := zXw) (fun w9 h9 => hts w9 (hm w9 (List.mem_cons_of_mem _ (List.mem_cons_of_mem _ h9)))) g2 (fun w9 h9 => va_Nw.use (zXw_tab w9 h9) (hE.2.1 w9 h9))) g1 hE.1.1 hE.1.2 hS1 (hsz1.trans hml.symm) d0 d3 d4 d6 d9
      (fun x h9 => absurd h9 (fun z => htab x z)) (show 5 < rm.frames from hrf.1) (Nat.le_trans (Nat.add_le_add_right hr 82) hrf.2.1) (by show cells + 1 ≤ rm.cells; rw [hrf.2.2.1]; exact h1) (by show slots + 6 ≤ rm.slots; rw [hrf.2.2.2]; exact h2) B.notSynchronized
      (fun t hvm hz hq => hX H locs cls u hc1 hP1 hD1 hS1 t hvm hz hq) hS1.2.2 h1 h2
theorem zMx_z {l : Launch} (hl0 : l.stackTraces = false) {y : MethodName} {ws ws' : List Cond} {rm : Room} {G : zG} {sz : Nat} {w : va_W} {av : List Value} {St SX : Type} {post : Int32 → St → Prop} {w1 : St → va_W} {cx : String → SX → Prop} {w1x : SX → va_W} {mc ms : Nat} {cc : ByteArray} {maxL : Nat} (hy : plainName y.cls = true) (hy4 : y.cls = RX4) (hw : ws = Cond.code y cc maxL (some .boolean) :: ws') (hlv : (lg_sl av).length ≤ maxL) (hrf : 5 < rm.frames ∧ 90 ≤ rm.locals ∧ rm.cells = mc ∧ rm.slots = ms)
    (body : ∀ (p : Program) (e : Env) (s : State) (m : MethodId) (below : List Frame) (meth : Method) (c : Code) (A : Nat → Prop) (Q : State → Prop), CallFix p m c cc maxL s av.toArray ws y.cls → zN s → va_K G.1 vwCl (zT G) s → va_P G.1 vwCl w s.heap → va_D A w → va_S A s.heap s.heap [] → (∀ q, s.heap.size ≤ q → A q) → zE A s s.heap →
      (∀ (H : Heap) (locs : List Loc) (pc : Nat) (ls : Array Slot) (r : Int32) (u : St), decode cc pc = .ok (.ireturn, 1) → r = zI 0 ∨ r = zI 1 → post r u → va_P G.1 vwCl (w1 u) H → va_D A (w1 u) → va_S A s.heap H locs → W p l e rm s m av.toArray below meth c H locs mc ms Q (F0 m pc ls [.int r])) →
      (∀ (H : Heap) (locs : List Loc) (cells slots pc : Nat) (ls : Array Slot) (rest : List Value) (E : String) (ce : Cell) (q : Addr) (u : SX), cx E u → va_P G.1 vwCl (w1x u) H → va_D A (w1x u) → va_S A s.heap H locs → H[q]? = some ce → ce.vm = .none → s.vm.findClass E = some ce.cls → cells ≤ mc → slots ≤ ms → vx_W p l e rm s m av.toArray below meth c H locs cells slots Q (F0 m pc ls rest) q) →
      (∀ (H : Heap) (locs : List Loc) (cells slots pc : Nat) (ls : Array Slot) (rest : List Value) (cls text : String) (ik is ic : Nat) (u : SX), zXc cls ik ic → (is, text) ∈ zStr → (∀ w ∈ Cond.classLink RX4 ik cls :: Cond.initialized cls :: (vx_atS RX4 ic cls zNN).filter goodWord, w ∈ ws) → decode cc pc = .ok (.new ik, 3) → decode cc (pc + 3) = .ok (.dup, 1) → decode cc (pc + 4) = .ok (.ldc is, 2) → decode cc (pc + 6) = .ok (.invokespecial ic, 3) → decode cc (pc + 9) = .ok (.athrow, 1) → (rest.map fun v => v.category).sum ≤ 8 → cx cls u → va_P G.1 vwCl (w1x u) H → va_D A (w1x u) → va_S A s.heap H locs → ls.size = maxL → cells + 1 ≤ mc → slots + 6 ≤ ms → W p l e rm s m av.toArray below meth c H locs cells slots Q (F0 m pc ls rest)) →
      ∀ ls : Array Slot, lv_has ls maxL (lv_args 0 av) → W p l e rm s m av.toArray below meth c s.heap [] 0 0 Q (F0 m 0 ls [])) :
    vx_Met l y ws rm (va_Pc av (zPx G sz w)) (va_Qi post (fun u => zW G (va_A w sz) (w1 u)) (va_A w sz)) (vx_X (fun _ => True) (fun (E : String) (u : SX) (t : State) => cx E u ∧ zW G (va_A w sz) (w1x u) t) (va_A w sz)) mc ms (va_A w sz) := by
  refine vx_ofW (cc := cc) (maxL := maxL) (ret := (some .boolean)) hy hw ?_
  intro p e s m args below meth c s₁ B hml htab hv
  obtain ⟨rfl, ⟨hsz, hP, hK, hD0, hN⟩, hE⟩ := hv
  subst hsz
  have hD := hD0.self (sz := s.heap.size)
  have hl := lv_entry av (n := maxL) hlv
  rw [lg_entry_eq]
  have hown : s.vm.findClass RX4 = some m.cls := by rw [← hy4]; exact findClass_of_methodNamed B.named
  have hts := atoms_spec (ws := ws) B.pre
  have hX : ∀ (H : Heap) (locs : List Loc) (E : String) (u : SX), cx E u → va_P G.1 vwCl (w1x u) H → va_D (va_A w s.heap.size) (w1x u) → va_S (va_A w s.heap.size) s.heap H locs → ∀ t : State, s.vm.Alike t.vm → H.size ≤ t.heap.size → (∀ q : Nat, q < H.size → t.heap[q]? = H[q]?) → (vx_X (fun _ => True) (fun (E : String) (u : SX) (t : State) => cx E u ∧ zW G (va_A w s.heap.size) (w1x u) t) (va_A w s.heap.size)) E s t := by
    intro H locs E u hc1 hP1 hD1 hS1 t hvm hz hq
    exact ⟨u, trivial, ⟨hc1, hP1.kept (fun k x hx => hq _ (hP1 k x hx).lt), va_K.moved hvm hK, hD1⟩, Nat.le_trans hS1.1 hz, fun q h1 h2 => (hq q (Nat.lt_of_lt_of_le h1 hS1.1)).trans (hS1.2.1 q h1 h2)⟩
  refine body p e s m below meth c (va_A w s.heap.size) _ ⟨B.exec, B.bytes, hml, findClass_of_methodNamed B.named, hts⟩ hN hK hP hD va_S.rf (fun q h => Or.inr h) hE ?_ ?_ ?_ _ hl
  · intro H locs pc ls r u hd hn hp hP1 hD1 hS
    exact vx_ret (W.zret B.exec B.bytes B.returns (by rcases hn with rfl | rfl <;> rfl) (fun t ht hW => ⟨⟨r, u, rfl, hp, by rw [ht]; exact hP1, va_K.moved hW.alike hK, hD1⟩, hS.F ht⟩) hS.2.2 hd B.notSynchronized)
  · intro H locs cells slots pc ls rest E ce q u hc1 hP1 hD1 hS1 hce hcv hcl h1 h2
    exact vx_out (fun x hx => absurd hx (fun z => htab x z)) B.notSynchronized hce hcv hcl (fun t ht hvm => hX H locs E u hc1 hP1 hD1 hS1 t hvm (by rw [ht]; exact Nat.le_refl _) (fun q _ => by rw [ht])) hS1.2.2 h1 h2
  · intro H locs cells slots pc ls rest cls text ik is ic u hx hst hm d0 d3 d4 d6 d9 hr hc1 hP1 hD1 hS1 hsz1 h1 h2
    obtain ⟨sa, hsa⟩ := hE.2.2.1 _ hst
    obtain ⟨g1, g2, g3⟩ := zXc_ot hx
    exact vx_throwS (A := va_A w s.heap.size) (names := zNN) B.exec B.bytes hl0 hown g3 zNN_fit (hts _ (hm _ List.mem_cons_self)) (hts _ (hm _ (List.mem_cons_of_mem _ List.mem_cons_self))) hsa
      (vx_hat (B := zXw) (fun w9 h9 => hts w9 (hm w9 (List.mem_cons_of_mem _ (List.mem_cons_of_mem _ h9)))) g2 (fun w9 h9 => va_Nw.use (zXw_tab w9 h9) (hE.2.1 w9 h9))) g1 hE.1.1 hE.1.2 hS1 (hsz1.trans hml.symm) d0 d3 d4 d6 d9
      (fun x h9 => absurd h9 (fun z => htab x z)) (show 5 < rm.frames from hrf.1) (Nat.le_trans (Nat.add_le_add_right hr 82) hrf.2.1) (by show cells + 1 ≤ rm.cells; rw [hrf.2.2.1]; exact h1) (by show slots + 6 ≤ rm.slots; rw [hrf.2.2.2]; exact h2) B.notSynchronized
      (fun t hvm hz hq => hX H locs cls u hc1 hP1 hD1 hS1 t hvm hz hq) hS1.2.2 h1 h2
theorem zMx_l {l : Launch} (hl0 : l.stackTraces = false) {y : MethodName} {ws ws' : List Cond} {rm : Room} {G : zG} {sz : Nat} {w : va_W} {av : List Value} {St SX : Type} {post : Int64 → St → Prop} {w1 : St → va_W} {cx : String → SX → Prop} {w1x : SX → va_W} {mc ms : Nat} {cc : ByteArray} {maxL : Nat} (hy : plainName y.cls = true) (hy4 : y.cls = RX4) (hw : ws = Cond.code y cc maxL (some .long) :: ws') (hlv : (lg_sl av).length ≤ maxL) (hrf : 5 < rm.frames ∧ 90 ≤ rm.locals ∧ rm.cells = mc ∧ rm.slots = ms)
    (body : ∀ (p : Program) (e : Env) (s : State) (m : MethodId) (below : List Frame) (meth : Method) (c : Code) (A : Nat → Prop) (Q : State → Prop), CallFix p m c cc maxL s av.toArray ws y.cls → zN s → va_K G.1 vwCl (zT G) s → va_P G.1 vwCl w s.heap → va_D A w → va_S A s.heap s.heap [] → (∀ q, s.heap.size ≤ q → A q) → zE A s s.heap →
      (∀ (H : Heap) (locs : List Loc) (pc : Nat) (ls : Array Slot) (r : Int64) (u : St), decode cc pc = .ok (.lreturn, 1) → post r u → va_P G.1 vwCl (w1 u) H → va_D A (w1 u) → va_S A s.heap H locs → W p l e rm s m av.toArray below meth c H locs mc ms Q (F0 m pc ls [.long r])) →
      (∀ (H : Heap) (locs : List Loc) (cells slots pc : Nat) (ls : Array Slot) (rest : List Value) (E : String) (ce : Cell) (q : Addr) (u : SX), cx E u → va_P G.1 vwCl (w1x u) H → va_D A (w1x u) → va_S A s.heap H locs → H[q]? = some ce → ce.vm = .none → s.vm.findClass E = some ce.cls → cells ≤ mc → slots ≤ ms → vx_W p l e rm s m av.toArray below meth c H locs cells slots Q (F0 m pc ls rest) q) →
      (∀ (H : Heap) (locs : List Loc) (cells slots pc : Nat) (ls : Array Slot) (rest : List Value) (cls text : String) (ik is ic : Nat) (u : SX), zXc cls ik ic → (is, text) ∈ zStr → (∀ w ∈ Cond.classLink RX4 ik cls :: Cond.initialized cls :: (vx_atS RX4 ic cls zNN).filter goodWord, w ∈ ws) → decode cc pc = .ok (.new ik, 3) → decode cc (pc + 3) = .ok (.dup, 1) → decode cc (pc + 4) = .ok (.ldc is, 2) → decode cc (pc + 6) = .ok (.invokespecial ic, 3) → decode cc (pc + 9) = .ok (.athrow, 1) → (rest.map fun v => v.category).sum ≤ 8 → cx cls u → va_P G.1 vwCl (w1x u) H → va_D A (w1x u) → va_S A s.heap H locs → ls.size = maxL → cells + 1 ≤ mc → slots + 6 ≤ ms → W p l e rm s m av.toArray below meth c H locs cells slots Q (F0 m pc ls rest)) →
      ∀ ls : Array Slot, lv_has ls maxL (lv_args 0 av) → W p l e rm s m av.toArray below meth c s.heap [] 0 0 Q (F0 m 0 ls [])) :
    vx_Met l y ws rm (va_Pc av (zPx G sz w)) (va_Ql post (fun u => zW G (va_A w sz) (w1 u)) (va_A w sz)) (vx_X (fun _ => True) (fun (E : String) (u : SX) (t : State) => cx E u ∧ zW G (va_A w sz) (w1x u) t) (va_A w sz)) mc ms (va_A w sz) := by
  refine vx_ofW (cc := cc) (maxL := maxL) (ret := (some .long)) hy hw ?_
  intro p e s m args below meth c s₁ B hml htab hv
  obtain ⟨rfl, ⟨hsz, hP, hK, hD0, hN⟩, hE⟩ := hv
  subst hsz
  have hD := hD0.self (sz := s.heap.size)
  have hl := lv_entry av (n := maxL) hlv
  rw [lg_entry_eq]
  have hown : s.vm.findClass RX4 = some m.cls := by rw [← hy4]; exact findClass_of_methodNamed B.named
  have hts := atoms_spec (ws := ws) B.pre
  have hX : ∀ (H : Heap) (locs : List Loc) (E : String) (u : SX), cx E u → va_P G.1 vwCl (w1x u) H → va_D (va_A w s.heap.size) (w1x u) → va_S (va_A w s.heap.size) s.heap H locs → ∀ t : State, s.vm.Alike t.vm → H.size ≤ t.heap.size → (∀ q : Nat, q < H.size → t.heap[q]? = H[q]?) → (vx_X (fun _ => True) (fun (E : String) (u : SX) (t : State) => cx E u ∧ zW G (va_A w s.heap.size) (w1x u) t) (va_A w s.heap.size)) E s t := by
    intro H locs E u hc1 hP1 hD1 hS1 t hvm hz hq
    exact ⟨u, trivial, ⟨hc1, hP1.kept (fun k x hx => hq _ (hP1 k x hx).lt), va_K.moved hvm hK, hD1⟩, Nat.le_trans hS1.1 hz, fun q h1 h2 => (hq q (Nat.lt_of_lt_of_le h1 hS1.1)).trans (hS1.2.1 q h1 h2)⟩
  refine body p e s m below meth c (va_A w s.heap.size) _ ⟨B.exec, B.bytes, hml, findClass_of_methodNamed B.named, hts⟩ hN hK hP hD va_S.rf (fun q h => Or.inr h) hE ?_ ?_ ?_ _ hl
  · intro H locs pc ls r u hd hp hP1 hD1 hS
    exact vx_ret (W.lret B.exec B.bytes B.returns (fun t ht hW => ⟨⟨r, u, rfl, hp, by rw [ht]; exact hP1, va_K.moved hW.alike hK, hD1⟩, hS.F ht⟩) hS.2.2 hd B.notSynchronized)
  · intro H locs cells slots pc ls rest E ce q u hc1 hP1 hD1 hS1 hce hcv hcl h1 h2
    exact vx_out (fun x hx => absurd hx (fun z => htab x z)) B.notSynchronized hce hcv hcl (fun t ht hvm => hX H locs E u hc1 hP1 hD1 hS1 t hvm (by rw [ht]; exact Nat.le_refl _) (fun q _ => by rw [ht])) hS1.2.2 h1 h2
  · intro H locs cells slots pc ls rest cls text ik is ic u hx hst hm d0 d3 d4 d6 d9 hr hc1 hP1 hD1 hS1 hsz1 h1 h2
    obtain ⟨sa, hsa⟩ := hE.2.2.1 _ hst
    obtain ⟨g1, g2, g3⟩ := zXc_ot hx
    exact vx_throwS (A := va_A w s.heap.size) (names := zNN) B.exec B.bytes hl0 hown g3 zNN_fit (hts _ (hm _ List.mem_cons_self)) (hts _ (hm _ (List.mem_cons_of_mem _ List.mem_cons_self))) hsa
      (vx_hat (B := zXw) (fun w9 h9 => hts w9 (hm w9 (List.mem_cons_of_mem _ (List.mem_cons_of_mem _ h9)))) g2 (fun w9 h9 => va_Nw.use (zXw_tab w9 h9) (hE.2.1 w9 h9))) g1 hE.1.1 hE.1.2 hS1 (hsz1.trans hml.symm) d0 d3 d4 d6 d9
      (fun x h9 => absurd h9 (fun z => htab x z)) (show 5 < rm.frames from hrf.1) (Nat.le_trans (Nat.add_le_add_right hr 82) hrf.2.1) (by show cells + 1 ≤ rm.cells; rw [hrf.2.2.1]; exact h1) (by show slots + 6 ≤ rm.slots; rw [hrf.2.2.2]; exact h2) B.notSynchronized
      (fun t hvm hz hq => hX H locs cls u hc1 hP1 hD1 hS1 t hvm hz hq) hS1.2.2 h1 h2
theorem zMx_v {l : Launch} (hl0 : l.stackTraces = false) {y : MethodName} {ws ws' : List Cond} {rm : Room} {G : zG} {sz : Nat} {w : va_W} {av : List Value} {St SX : Type} {post : St → Prop} {w1 : St → va_W} {cx : String → SX → Prop} {w1x : SX → va_W} {mc ms : Nat} {cc : ByteArray} {maxL : Nat} (hy : plainName y.cls = true) (hy4 : y.cls = RX4) (hw : ws = Cond.code y cc maxL none :: ws') (hlv : (lg_sl av).length ≤ maxL) (hrf : 5 < rm.frames ∧ 90 ≤ rm.locals ∧ rm.cells = mc ∧ rm.slots = ms)
    (body : ∀ (p : Program) (e : Env) (s : State) (m : MethodId) (below : List Frame) (meth : Method) (c : Code) (A : Nat → Prop) (Q : State → Prop), CallFix p m c cc maxL s av.toArray ws y.cls → zN s → va_K G.1 vwCl (zT G) s → va_P G.1 vwCl w s.heap → va_D A w → va_S A s.heap s.heap [] → (∀ q, s.heap.size ≤ q → A q) → zE A s s.heap →
      (∀ (H : Heap) (locs : List Loc) (pc : Nat) (ls : Array Slot) (u : St), decode cc pc = .ok (.return_, 1) → post u → va_P G.1 vwCl (w1 u) H → va_D A (w1 u) → va_S A s.heap H locs → W p l e rm s m av.toArray below meth c H locs mc ms Q (F0 m pc ls [])) →
      (∀ (H : Heap) (locs : List Loc) (cells slots pc : Nat) (ls : Array Slot) (rest : List Value) (E : String) (ce : Cell) (q : Addr) (u : SX), cx E u → va_P G.1 vwCl (w1x u) H → va_D A (w1x u) → va_S A s.heap H locs → H[q]? = some ce → ce.vm = .none → s.vm.findClass E = some ce.cls → cells ≤ mc → slots ≤ ms → vx_W p l e rm s m av.toArray below meth c H locs cells slots Q (F0 m pc ls rest) q) →
      (∀ (H : Heap) (locs : List Loc) (cells slots pc : Nat) (ls : Array Slot) (rest : List Value) (cls text : String) (ik is ic : Nat) (u : SX), zXc cls ik ic → (is, text) ∈ zStr → (∀ w ∈ Cond.classLink RX4 ik cls :: Cond.initialized cls :: (vx_atS RX4 ic cls zNN).filter goodWord, w ∈ ws) → decode cc pc = .ok (.new ik, 3) → decode cc (pc + 3) = .ok (.dup, 1) → decode cc (pc + 4) = .ok (.ldc is, 2) → decode cc (pc + 6) = .ok (.invokespecial ic, 3) → decode cc (pc + 9) = .ok (.athrow, 1) → (rest.map fun v => v.category).sum ≤ 8 → cx cls u → va_P G.1 vwCl (w1x u) H → va_D A (w1x u) → va_S A s.heap H locs → ls.size = maxL → cells + 1 ≤ mc → slots + 6 ≤ ms → W p l e rm s m av.toArray below meth c H locs cells slots Q (F0 m pc ls rest)) →
      ∀ ls : Array Slot, lv_has ls maxL (lv_args 0 av) → W p l e rm s m av.toArray below meth c s.heap [] 0 0 Q (F0 m 0 ls [])) :
    vx_Met l y ws rm (va_Pc av (zPx G sz w)) (va_Qv post (fun u => zW G (va_A w sz) (w1 u)) (va_A w sz)) (vx_X (fun _ => True) (fun (E : String) (u : SX) (t : State) => cx E u ∧ zW G (va_A w sz) (w1x u) t) (va_A w sz)) mc ms (va_A w sz) := by
  refine vx_ofW (cc := cc) (maxL := maxL) (ret := none) hy hw ?_
  intro p e s m args below meth c s₁ B hml htab hv
  obtain ⟨rfl, ⟨hsz, hP, hK, hD0, hN⟩, hE⟩ := hv
  subst hsz
  have hD := hD0.self (sz := s.heap.size)
  have hl := lv_entry av (n := maxL) hlv
  rw [lg_entry_eq]
  have hown : s.vm.findClass RX4 = some m.cls := by rw [← hy4]; exact findClass_of_methodNamed B.named
  have hts := atoms_spec (ws := ws) B.pre
  have hX : ∀ (H : Heap) (locs : List Loc) (E : String) (u : SX), cx E u → va_P G.1 vwCl (w1x u) H → va_D (va_A w s.heap.size) (w1x u) → va_S (va_A w s.heap.size) s.heap H locs → ∀ t : State, s.vm.Alike t.vm → H.size ≤ t.heap.size → (∀ q : Nat, q < H.size → t.heap[q]? = H[q]?) → (vx_X (fun _ => True) (fun (E : String) (u : SX) (t : State) => cx E u ∧ zW G (va_A w s.heap.size) (w1x u) t) (va_A w s.heap.size)) E s t := by
    intro H locs E u hc1 hP1 hD1 hS1 t hvm hz hq
    exact ⟨u, trivial, ⟨hc1, hP1.kept (fun k x hx => hq _ (hP1 k x hx).lt), va_K.moved hvm hK, hD1⟩, Nat.le_trans hS1.1 hz, fun q h1 h2 => (hq q (Nat.lt_of_lt_of_le h1 hS1.1)).trans (hS1.2.1 q h1 h2)⟩
  refine body p e s m below meth c (va_A w s.heap.size) _ ⟨B.exec, B.bytes, hml, findClass_of_methodNamed B.named, hts⟩ hN hK hP hD va_S.rf (fun q h => Or.inr h) hE ?_ ?_ ?_ _ hl
  · intro H locs pc ls u hd hp hP1 hD1 hS
    exact vx_ret (W.vret B.exec B.bytes B.returns (fun t ht hW => ⟨⟨u, rfl, hp, by rw [ht]; exact hP1, va_K.moved hW.alike hK, hD1⟩, hS.F ht⟩) hS.2.2 hd B.notSynchronized)
  · intro H locs cells slots pc ls rest E ce q u hc1 hP1 hD1 hS1 hce hcv hcl h1 h2
    exact vx_out (fun x hx => absurd hx (fun z => htab x z)) B.notSynchronized hce hcv hcl (fun t ht hvm => hX H locs E u hc1 hP1 hD1 hS1 t hvm (by rw [ht]; exact Nat.le_refl _) (fun q _ => by rw [ht])) hS1.2.2 h1 h2
  · intro H locs cells slots pc ls rest cls text ik is ic u hx hst hm d0 d3 d4 d6 d9 hr hc1 hP1 hD1 hS1 hsz1 h1 h2
    obtain ⟨sa, hsa⟩ := hE.2.2.1 _ hst
    obtain ⟨g1, g2, g3⟩ := zXc_ot hx
    exact vx_throwS (A := va_A w s.heap.size) (names := zNN) B.exec B.bytes hl0 hown g3 zNN_fit (hts _ (hm _ List.mem_cons_self)) (hts _ (hm _ (List.mem_cons_of_mem _ List.mem_cons_self))) hsa
      (vx_hat (B := zXw) (fun w9 h9 => hts w9 (hm w9 (List.mem_cons_of_mem _ (List.mem_cons_of_mem _ h9)))) g2 (fun w9 h9 => va_Nw.use (zXw_tab w9 h9) (hE.2.1 w9 h9))) g1 hE.1.1 hE.1.2 hS1 (hsz1.trans hml.symm) d0 d3 d4 d6 d9
      (fun x h9 => absurd h9 (fun z => htab x z)) (show 5 < rm.frames from hrf.1) (Nat.le_trans (Nat.add_le_add_right hr 82) hrf.2.1) (by show cells + 1 ≤ rm.cells; rw [hrf.2.2.1]; exact h1) (by show slots + 6 ≤ rm.slots; rw [hrf.2.2.2]; exact h2) B.notSynchronized
      (fun t hvm hz hq => hX H locs cls u hc1 hP1 hD1 hS1 t hvm hz hq) hS1.2.2 h1 h2
theorem zMx_r {l : Launch} (hl0 : l.stackTraces = false) {y : MethodName} {ws ws' : List Cond} {rm : Room} {G : zG} {sz : Nat} {w : va_W} {av : List Value} {St SX : Type} {post : St → Prop} {w1 : St → va_W} {cx : String → SX → Prop} {w1x : SX → va_W} {mc ms : Nat} {cc : ByteArray} {maxL : Nat} {C9 : String} {rs : St → Nat} (hy : plainName y.cls = true) (hy4 : y.cls = RX4) (hw : ws = Cond.code y cc maxL (some (.object C9)) :: ws') (hlv : (lg_sl av).length ≤ maxL) (hrf : 5 < rm.frames ∧ 90 ≤ rm.locals ∧ rm.cells = mc ∧ rm.slots = ms)
    (body : ∀ (p : Program) (e : Env) (s : State) (m : MethodId) (below : List Frame) (meth : Method) (c : Code) (A : Nat → Prop) (Q : State → Prop), CallFix p m c cc maxL s av.toArray ws y.cls → zN s → va_K G.1 vwCl (zT G) s → va_P G.1 vwCl w s.heap → va_D A w → va_S A s.heap s.heap [] → (∀ q, s.heap.size ≤ q → A q) → zE A s s.heap →
      (∀ (H : Heap) (locs : List Loc) (pc : Nat) (ls : Array Slot) (u : St), decode cc pc = .ok (.areturn, 1) → post u → va_P G.1 vwCl (w1 u) H → va_D A (w1 u) → va_S A s.heap H locs → W p l e rm s m av.toArray below meth c H locs mc ms Q (F0 m pc ls [.ref (rs u)])) →
      (∀ (H : Heap) (locs : List Loc) (cells slots pc : Nat) (ls : Array Slot) (rest : List Value) (E : String) (ce : Cell) (q : Addr) (u : SX), cx E u → va_P G.1 vwCl (w1x u) H → va_D A (w1x u) → va_S A s.heap H locs → H[q]? = some ce → ce.vm = .none → s.vm.findClass E = some ce.cls → cells ≤ mc → slots ≤ ms → vx_W p l e rm s m av.toArray below meth c H locs cells slots Q (F0 m pc ls rest) q) →
      (∀ (H : Heap) (locs : List Loc) (cells slots pc : Nat) (ls : Array Slot) (rest : List Value) (cls text : String) (ik is ic : Nat) (u : SX), zXc cls ik ic → (is, text) ∈ zStr → (∀ w ∈ Cond.classLink RX4 ik cls :: Cond.initialized cls :: (vx_atS RX4 ic cls zNN).filter goodWord, w ∈ ws) → decode cc pc = .ok (.new ik, 3) → decode cc (pc + 3) = .ok (.dup, 1) → decode cc (pc + 4) = .ok (.ldc is, 2) → decode cc (pc + 6) = .ok (.invokespecial ic, 3) → decode cc (pc + 9) = .ok (.athrow, 1) → (rest.map fun v => v.category).sum ≤ 8 → cx cls u → va_P G.1 vwCl (w1x u) H → va_D A (w1x u) → va_S A s.heap H locs → ls.size = maxL → cells + 1 ≤ mc → slots + 6 ≤ ms → W p l e rm s m av.toArray below meth c H locs cells slots Q (F0 m pc ls rest)) →
      ∀ ls : Array Slot, lv_has ls maxL (lv_args 0 av) → W p l e rm s m av.toArray below meth c s.heap [] 0 0 Q (F0 m 0 ls [])) :
    vx_Met l y ws rm (va_Pc av (zPx G sz w)) (va_Qr post (fun u a t => a = rs u ∧ zW G (va_A w sz) (w1 u) t) (va_A w sz)) (vx_X (fun _ => True) (fun (E : String) (u : SX) (t : State) => cx E u ∧ zW G (va_A w sz) (w1x u) t) (va_A w sz)) mc ms (va_A w sz) := by
  refine vx_ofW (cc := cc) (maxL := maxL) (ret := (some (.object C9))) hy hw ?_
  intro p e s m args below meth c s₁ B hml htab hv
  obtain ⟨rfl, ⟨hsz, hP, hK, hD0, hN⟩, hE⟩ := hv
  subst hsz
  have hD := hD0.self (sz := s.heap.size)
  have hl := lv_entry av (n := maxL) hlv
  rw [lg_entry_eq]
  have hown : s.vm.findClass RX4 = some m.cls := by rw [← hy4]; exact findClass_of_methodNamed B.named
  have hts := atoms_spec (ws := ws) B.pre
  have hX : ∀ (H : Heap) (locs : List Loc) (E : String) (u : SX), cx E u → va_P G.1 vwCl (w1x u) H → va_D (va_A w s.heap.size) (w1x u) → va_S (va_A w s.heap.size) s.heap H locs → ∀ t : State, s.vm.Alike t.vm → H.size ≤ t.heap.size → (∀ q : Nat, q < H.size → t.heap[q]? = H[q]?) → (vx_X (fun _ => True) (fun (E : String) (u : SX) (t : State) => cx E u ∧ zW G (va_A w s.heap.size) (w1x u) t) (va_A w s.heap.size)) E s t := by
    intro H locs E u hc1 hP1 hD1 hS1 t hvm hz hq
    exact ⟨u, trivial, ⟨hc1, hP1.kept (fun k x hx => hq _ (hP1 k x hx).lt), va_K.moved hvm hK, hD1⟩, Nat.le_trans hS1.1 hz, fun q h1 h2 => (hq q (Nat.lt_of_lt_of_le h1 hS1.1)).trans (hS1.2.1 q h1 h2)⟩
  refine body p e s m below meth c (va_A w s.heap.size) _ ⟨B.exec, B.bytes, hml, findClass_of_methodNamed B.named, hts⟩ hN hK hP hD va_S.rf (fun q h => Or.inr h) hE ?_ ?_ ?_ _ hl
  · intro H locs pc ls u hd hp hP1 hD1 hS
    exact vx_ret (W.aret B.exec B.bytes B.returns (Or.inl ⟨_, rfl⟩) (Or.inr ⟨_, rfl⟩) (fun t ht hW => ⟨⟨u, rs u, rfl, hp, rfl, by rw [ht]; exact hP1, va_K.moved hW.alike hK, hD1⟩, hS.F ht⟩) hS.2.2 hd B.notSynchronized)
  · intro H locs cells slots pc ls rest E ce q u hc1 hP1 hD1 hS1 hce hcv hcl h1 h2
    exact vx_out (fun x hx => absurd hx (fun z => htab x z)) B.notSynchronized hce hcv hcl (fun t ht hvm => hX H locs E u hc1 hP1 hD1 hS1 t hvm (by rw [ht]; exact Nat.le_refl _) (fun q _ => by rw [ht])) hS1.2.2 h1 h2
  · intro H locs cells slots pc ls rest cls text ik is ic u hx hst hm d0 d3 d4 d6 d9 hr hc1 hP1 hD1 hS1 hsz1 h1 h2
    obtain ⟨sa, hsa⟩ := hE.2.2.1 _ hst
    obtain ⟨g1, g2, g3⟩ := zXc_ot hx
    exact vx_throwS (A := va_A w s.heap.size) (names := zNN) B.exec B.bytes hl0 hown g3 zNN_fit (hts _ (hm _ List.mem_cons_self)) (hts _ (hm _ (List.mem_cons_of_mem _ List.mem_cons_self))) hsa
      (vx_hat (B := zXw) (fun w9 h9 => hts w9 (hm w9 (List.mem_cons_of_mem _ (List.mem_cons_of_mem _ h9)))) g2 (fun w9 h9 => va_Nw.use (zXw_tab w9 h9) (hE.2.1 w9 h9))) g1 hE.1.1 hE.1.2 hS1 (hsz1.trans hml.symm) d0 d3 d4 d6 d9
      (fun x h9 => absurd h9 (fun z => htab x z)) (show 5 < rm.frames from hrf.1) (Nat.le_trans (Nat.add_le_add_right hr 82) hrf.2.1) (by show cells + 1 ≤ rm.cells; rw [hrf.2.2.1]; exact h1) (by show slots + 6 ≤ rm.slots; rw [hrf.2.2.2]; exact h2) B.notSynchronized
      (fun t hvm hz hq => hX H locs cls u hc1 hP1 hD1 hS1 t hvm hz hq) hS1.2.2 h1 h2
theorem zMx_v0 {l : Launch} (hl0 : l.stackTraces = false) {y : MethodName} {ws ws' : List Cond} {rm : Room} {G : zG} {sz : Nat} {w : va_W} {av : List Value} {St SX : Type} {post : St → Prop} {w1 : St → va_W} {cx : String → SX → Prop} {w1x : SX → va_W} {mc ms : Nat} {cc : ByteArray} {maxL : Nat} (hy : plainName y.cls = true) (hy4 : y.cls = RX4) (hw : ws = Cond.code y cc maxL none :: ws') (hlv : (lg_sl av).length ≤ maxL) (hyn : y.name = "<init>") (hrf : 5 < rm.frames ∧ 90 ≤ rm.locals ∧ rm.cells = mc ∧ rm.slots = ms)
    (body : ∀ (p : Program) (e : Env) (s : State) (m : MethodId) (below : List Frame) (meth : Method) (c : Code) (A : Nat → Prop) (Q : State → Prop), meth.name = "<init>" → CallFix p m c cc maxL s av.toArray ws y.cls → zN s → va_K G.1 vwCl (zT G) s → va_P G.1 vwCl w s.heap → va_D A w → va_S A s.heap s.heap [] → (∀ q, s.heap.size ≤ q → A q) → zE A s s.heap →
      (∀ (H : Heap) (locs : List Loc) (pc : Nat) (ls : Array Slot) (u : St), decode cc pc = .ok (.return_, 1) → post u → va_P G.1 vwCl (w1 u) H → va_D A (w1 u) → va_S A s.heap H locs → W p l e rm s m av.toArray below meth c H locs mc ms Q (F0 m pc ls [])) →
      (∀ (H : Heap) (locs : List Loc) (cells slots pc : Nat) (ls : Array Slot) (rest : List Value) (E : String) (ce : Cell) (q : Addr) (u : SX), cx E u → va_P G.1 vwCl (w1x u) H → va_D A (w1x u) → va_S A s.heap H locs → H[q]? = some ce → ce.vm = .none → s.vm.findClass E = some ce.cls → cells ≤ mc → slots ≤ ms → vx_W p l e rm s m av.toArray below meth c H locs cells slots Q (F0 m pc ls rest) q) →
      (∀ (H : Heap) (locs : List Loc) (cells slots pc : Nat) (ls : Array Slot) (rest : List Value) (cls text : String) (ik is ic : Nat) (u : SX), zXc cls ik ic → (is, text) ∈ zStr → (∀ w ∈ Cond.classLink RX4 ik cls :: Cond.initialized cls :: (vx_atS RX4 ic cls zNN).filter goodWord, w ∈ ws) → decode cc pc = .ok (.new ik, 3) → decode cc (pc + 3) = .ok (.dup, 1) → decode cc (pc + 4) = .ok (.ldc is, 2) → decode cc (pc + 6) = .ok (.invokespecial ic, 3) → decode cc (pc + 9) = .ok (.athrow, 1) → (rest.map fun v => v.category).sum ≤ 8 → cx cls u → va_P G.1 vwCl (w1x u) H → va_D A (w1x u) → va_S A s.heap H locs → ls.size = maxL → cells + 1 ≤ mc → slots + 6 ≤ ms → W p l e rm s m av.toArray below meth c H locs cells slots Q (F0 m pc ls rest)) →
      ∀ ls : Array Slot, lv_has ls maxL (lv_args 0 av) → W p l e rm s m av.toArray below meth c s.heap [] 0 0 Q (F0 m 0 ls [])) :
    vx_Met l y ws rm (va_Pc av (zPx G sz w)) (va_Qv post (fun u => zW G (va_A w sz) (w1 u)) (va_A w sz)) (vx_X (fun _ => True) (fun (E : String) (u : SX) (t : State) => cx E u ∧ zW G (va_A w sz) (w1x u) t) (va_A w sz)) mc ms (va_A w sz) := by
  refine vx_ofW (cc := cc) (maxL := maxL) (ret := none) hy hw ?_
  intro p e s m args below meth c s₁ B hml htab hv
  obtain ⟨rfl, ⟨hsz, hP, hK, hD0, hN⟩, hE⟩ := hv
  subst hsz
  have hD := hD0.self (sz := s.heap.size)
  have hl := lv_entry av (n := maxL) hlv
  rw [lg_entry_eq]
  have hown : s.vm.findClass RX4 = some m.cls := by rw [← hy4]; exact findClass_of_methodNamed B.named
  have hts := atoms_spec (ws := ws) B.pre
  have hX : ∀ (H : Heap) (locs : List Loc) (E : String) (u : SX), cx E u → va_P G.1 vwCl (w1x u) H → va_D (va_A w s.heap.size) (w1x u) → va_S (va_A w s.heap.size) s.heap H locs → ∀ t : State, s.vm.Alike t.vm → H.size ≤ t.heap.size → (∀ q : Nat, q < H.size → t.heap[q]? = H[q]?) → (vx_X (fun _ => True) (fun (E : String) (u : SX) (t : State) => cx E u ∧ zW G (va_A w s.heap.size) (w1x u) t) (va_A w s.heap.size)) E s t := by
    intro H locs E u hc1 hP1 hD1 hS1 t hvm hz hq
    exact ⟨u, trivial, ⟨hc1, hP1.kept (fun k x hx => hq _ (hP1 k x hx).lt), va_K.moved hvm hK, hD1⟩, Nat.le_trans hS1.1 hz, fun q h1 h2 => (hq q (Nat.lt_of_lt_of_le h1 hS1.1)).trans (hS1.2.1 q h1 h2)⟩
  refine body p e s m below meth c (va_A w s.heap.size) _ ((name_of_methodNamed B.named B.method).1.trans hyn) ⟨B.exec, B.bytes, hml, findClass_of_methodNamed B.named, hts⟩ hN hK hP hD va_S.rf (fun q h => Or.inr h) hE ?_ ?_ ?_ _ hl
  · intro H locs pc ls u hd hp hP1 hD1 hS
    exact vx_ret (W.vret B.exec B.bytes B.returns (fun t ht hW => ⟨⟨u, rfl, hp, by rw [ht]; exact hP1, va_K.moved hW.alike hK, hD1⟩, hS.F ht⟩) hS.2.2 hd B.notSynchronized)
  · intro H locs cells slots pc ls rest E ce q u hc1 hP1 hD1 hS1 hce hcv hcl h1 h2
    exact vx_out (fun x hx => absurd hx (fun z => htab x z)) B.notSynchronized hce hcv hcl (fun t ht hvm => hX H locs E u hc1 hP1 hD1 hS1 t hvm (by rw [ht]; exact Nat.le_refl _) (fun q _ => by rw [ht])) hS1.2.2 h1 h2
  · intro H locs cells slots pc ls rest cls text ik is ic u hx hst hm d0 d3 d4 d6 d9 hr hc1 hP1 hD1 hS1 hsz1 h1 h2
    obtain ⟨sa, hsa⟩ := hE.2.2.1 _ hst
    obtain ⟨g1, g2, g3⟩ := zXc_ot hx
    exact vx_throwS (A := va_A w s.heap.size) (names := zNN) B.exec B.bytes hl0 hown g3 zNN_fit (hts _ (hm _ List.mem_cons_self)) (hts _ (hm _ (List.mem_cons_of_mem _ List.mem_cons_self))) hsa
      (vx_hat (B := zXw) (fun w9 h9 => hts w9 (hm w9 (List.mem_cons_of_mem _ (List.mem_cons_of_mem _ h9)))) g2 (fun w9 h9 => va_Nw.use (zXw_tab w9 h9) (hE.2.1 w9 h9))) g1 hE.1.1 hE.1.2 hS1 (hsz1.trans hml.symm) d0 d3 d4 d6 d9
      (fun x h9 => absurd h9 (fun z => htab x z)) (show 5 < rm.frames from hrf.1) (Nat.le_trans (Nat.add_le_add_right hr 82) hrf.2.1) (by show cells + 1 ≤ rm.cells; rw [hrf.2.2.1]; exact h1) (by show slots + 6 ≤ rm.slots; rw [hrf.2.2.2]; exact h2) B.notSynchronized
      (fun t hvm hz hq => hX H locs cls u hc1 hP1 hD1 hS1 t hvm hz hq) hS1.2.2 h1 h2
section ZCX
variable {p : Program} {l : Launch} {e : Env} {R : Room} {s : State} {m : MethodId} {args : Array Value} {below : List Frame} {meth : Method} {c : Code} {H : Heap} {locs : List Loc} {cells slots : Nat} {Q : State → Prop}
variable {cc bytes : ByteArray} {nL pc maxL mc ms n index : Nat} {ls : Array Slot} {rest st As : List Value} {Ts ws ws' : List Cond} {own C host : String} {A : Nat → Prop} {H0 : Heap} {lv : List (Nat × Value)} {y : MethodName} {rm : Room} {G : zG} {w wr ww : va_W} {b : Nat} {St SX : Type} {w1 : St → va_W} {cx : String → SX → Prop} {w1x : SX → va_W}
theorem zx_callr {S SX : Type} {post : S → Prop} {px : SX → Prop} {B : S → Nat → State → Prop} {BX : String → SX → State → Prop} {AX A0 A1 : Nat → Prop} {a : Array Value} {free : Addr → Prop} {st0 : List Value} (hr : vx_Run p l e R s m args below meth c H locs cells slots mc ms (F0 m pc ls st0) rest (va_Qr post B A1 a) (vx_X px BX AX) free) (hS : va_S A0 H0 H locs) (hA : ∀ q, q < H.size → A1 q → A0 q) (hf : ∀ q, free q → A0 q) (hAX : ∀ q, q < H.size → AX q → A0 q)
    (kx : ∀ (E : String) (ce : Cell) (q9 : Addr) (u : SX) (t : State) (H1 : Heap) (locs1 : List Loc), t.heap = H1 → s.vm.Alike t.vm → px u → BX E u t → H.size ≤ H1.size → (∀ q : Nat, q < H.size → ¬ AX q → H1[q]? = H[q]?) → va_S A0 H0 H1 locs1 → H1[q9]? = some ce → ce.vm = .none → s.vm.findClass E = some ce.cls → vx_W p l e R s m args below meth c H1 locs1 (cells + mc) (slots + ms) Q (F0 m pc ls rest) q9)
    (kk : ∀ (u : S) (ra : Nat) (t : State) (H1 : Heap) (locs1 : List Loc), t.heap = H1 → s.vm.Alike t.vm → post u → B u ra t → H.size ≤ H1.size → (∀ q : Nat, q < H.size → ¬ A1 q → H1[q]? = H[q]?) → va_S A0 H0 H1 locs1 → W p l e R s m args below meth c H1 locs1 (cells + mc) (slots + ms) Q (F0 m (pc + 3) ls (.ref ra :: rest))) : W p l e R s m args below meth c H locs cells slots Q (F0 m pc ls st0) := by
  intro T hT X
  rcases hr T hT X with ⟨v, st₀, t, T', L, h0, X', hL, e1, e2, ⟨⟨u, ra, hv, hp, hb⟩, hF⟩, st⟩ | ⟨q, st₀, t, T', L, E, ce, h0, X', hL, e1, e2, ⟨u, hp, hb, hF⟩, hce, hcv, hcl, st⟩
  · cases hv
    obtain ⟨k1, k2, k3⟩ := vx_keep h0 e1 hS hA hf hL hF
    obtain ⟨t2, a1, b1⟩ := kk u ra t T'.heap (locs ++ L) e1.symm (by rw [← e2]; exact X'.warmed.alike) hp hb k1 k2 k3 T' rfl X'
    exact ⟨t2, st t2 a1, b1⟩
  · obtain ⟨k1, k2, k3⟩ := vx_keep h0 e1 hS hAX hf hL hF
    obtain ⟨t2, a1, b1⟩ := kx E ce q u t T'.heap (locs ++ L) e1.symm (by rw [← e2]; exact X'.warmed.alike) hp hb k1 k2 k3 (by rw [e1]; exact hce) hcv hcl T' rfl X'
    exact ⟨t2, st.trans a1, b1⟩
theorem zcx_Vi {ret : Option FieldType} {post : Int32 → St → Prop} (S : CallFix p m c cc nL s args Ts own) (hN : zN s) (hK : va_K G.1 vwCl (zT G) s) (hE : zE A s H) (hP : va_P G.1 vwCl ww H) (hD : va_D A ww) (hS : va_S A H0 H locs) (hA : ∀ q, H0.size ≤ q → A q) (hl : lv_has ls nL lv)
    (hM : vx_Met l y ws rm (va_Pc (.ref b :: As) (zPx G H.size w)) (va_Qi post (fun u => zW G (va_A w H.size) (w1 u)) (va_A w H.size)) (vx_X (fun _ => True) (fun (E : String) (u : SX) (t : State) => cx E u ∧ zW G (va_A w H.size) (w1x u) t) (va_A w H.size)) mc ms (va_A w H.size))
    (hG : GoodIn Ts (wsV own index C y ws)) (hw : ws = Cond.code y bytes maxL ret :: ws') (hrm : rm.cells = mc ∧ rm.slots = ms) (hd : y.cls = C ∧ y.cls ≠ "java/lang/invoke/MethodHandle" ∧ y.cls ≠ "java/lang/invoke/VarHandle" ∧ (parseMethodDescriptor y.desc).map (fun d => d.parameters.length) = some n) (hn : As.length = n) (hR : rm.frames + 1 ≤ R.frames ∧ 8 + (maxL + 11) + rm.locals ≤ R.locals ∧ cells + mc ≤ R.cells ∧ slots + ms ≤ R.slots)
    (isC isR : List Nat) (hC : isC.map (fun i => ww[i]?) = w.map some) (hRr : isR.map (fun i => ww[i]?) = wr.map some) (hnC : va_nd isC = true) (hnR : va_nd isR = true) (hdis : ∀ i ∈ isR, i ∉ isC)
    {ci : Nat} {fs : List Value} {cq : vw_C} (hb0 : w[0]? = some (b, .inr (ci, fs))) (hci : vwCl[ci]? = some cq) (hCq : cq.1 = C)
    (hst : (rest.map fun v => v.category).sum ≤ 8) (hdg : decode cc pc = .ok (.invokevirtual index, 3)) (hstk : st = As.reverse ++ .ref b :: rest)
    (kx : ∀ (E : String) (ce : Cell) (q9 : Addr) (u : SX) (H1 : Heap) (locs1 : List Loc), cx E u → va_P G.1 vwCl (wr ++ w1x u) H1 → va_D A (wr ++ w1x u) → va_S A H0 H1 locs1 → H.size ≤ H1.size → H1[q9]? = some ce → ce.vm = .none → s.vm.findClass E = some ce.cls → vx_W p l e R s m args below meth c H1 locs1 (cells + mc) (slots + ms) Q (F0 m pc ls rest) q9)
    (k : ∀ (r : Int32) (u : St) (H1 : Heap) (locs1 : List Loc), post r u → va_P G.1 vwCl (wr ++ w1 u) H1 → va_D A (wr ++ w1 u) → va_S A H0 H1 locs1 → H.size ≤ H1.size → W p l e R s m args below meth c H1 locs1 (cells + mc) (slots + ms) Q (F0 m (pc + 3) ls (.int r :: rest))) : W p l e R s m args below meth c H locs cells slots Q (F0 m pc ls st) := by
  subst hstk
  have hPc : va_P G.1 vwCl w H := zP_cut hP hC
  have hDc : va_D (fun _ => True) w := (hD.sub isC hnC hC).weaken (fun _ _ _ _ => trivial)
  have hFc := va_free (wc := w) hD hS hA isC hC
  refine vx_calli (vx_runV (As := As) (rest := rest) S hM (cwV n S.2.2.2.2 hG hw hrm.1 hrm.2 hd ⟨hR.1, hR.2.1⟩) ⟨zPx_blind, hCq ▸ va_recv hK hPc (ci := ci) (q0 := 0) hci hb0, fun U hU hW => ⟨rfl, ⟨by rw [hU], by rw [hU]; exact hPc, va_K.moved hW.alike hK, hDc, zN_warm hW hN⟩, by rw [hU]; exact (hE.narrow hFc).warm hW⟩⟩ rfl hn hl.1 rfl (lv_room hst) hdg ⟨hR.2.2.1, hR.2.2.2⟩) hS (fun q _ h => hFc q h) hFc (fun q _ h => hFc q h) (fun E ce q9 u t H1 locs1 ht hvm _ hB hz1 hk1 hS1 hce hcv hcl => ?_) (fun r u t H1 locs1 ht hvm hw1 hB hz1 hk1 hS1 => ?_)
  · obtain ⟨hc1, hP1, hK1, hD1⟩ := hB
    rw [ht] at hP1
    obtain ⟨hP2, hD2⟩ := va_join hP hD isC isR hC hRr hnR hdis hk1 hFc hP1 hD1
    exact kx E ce q9 u H1 locs1 hc1 hP2 hD2 hS1 hz1 hce hcv hcl
  · obtain ⟨hP1, hK1, hD1⟩ := hB
    rw [ht] at hP1
    obtain ⟨hP2, hD2⟩ := va_join hP hD isC isR hC hRr hnR hdis hk1 hFc hP1 hD1
    exact k r u H1 locs1 hw1 hP2 hD2 hS1 hz1
theorem zcx_Vl {ret : Option FieldType} {post : Int64 → St → Prop} (S : CallFix p m c cc nL s args Ts own) (hN : zN s) (hK : va_K G.1 vwCl (zT G) s) (hE : zE A s H) (hP : va_P G.1 vwCl ww H) (hD : va_D A ww) (hS : va_S A H0 H locs) (hA : ∀ q, H0.size ≤ q → A q) (hl : lv_has ls nL lv)
    (hM : vx_Met l y ws rm (va_Pc (.ref b :: As) (zPx G H.size w)) (va_Ql post (fun u => zW G (va_A w H.size) (w1 u)) (va_A w H.size)) (vx_X (fun _ => True) (fun (E : String) (u : SX) (t : State) => cx E u ∧ zW G (va_A w H.size) (w1x u) t) (va_A w H.size)) mc ms (va_A w H.size))
    (hG : GoodIn Ts (wsV own index C y ws)) (hw : ws = Cond.code y bytes maxL ret :: ws') (hrm : rm.cells = mc ∧ rm.slots = ms) (hd : y.cls = C ∧ y.cls ≠ "java/lang/invoke/MethodHandle" ∧ y.cls ≠ "java/lang/invoke/VarHandle" ∧ (parseMethodDescriptor y.desc).map (fun d => d.parameters.length) = some n) (hn : As.length = n) (hR : rm.frames + 1 ≤ R.frames ∧ 8 + (maxL + 11) + rm.locals ≤ R.locals ∧ cells + mc ≤ R.cells ∧ slots + ms ≤ R.slots)
    (isC isR : List Nat) (hC : isC.map (fun i => ww[i]?) = w.map some) (hRr : isR.map (fun i => ww[i]?) = wr.map some) (hnC : va_nd isC = true) (hnR : va_nd isR = true) (hdis : ∀ i ∈ isR, i ∉ isC)
    {ci : Nat} {fs : List Value} {cq : vw_C} (hb0 : w[0]? = some (b, .inr (ci, fs))) (hci : vwCl[ci]? = some cq) (hCq : cq.1 = C)
    (hst : (rest.map fun v => v.category).sum ≤ 8) (hdg : decode cc pc = .ok (.invokevirtual index, 3)) (hstk : st = As.reverse ++ .ref b :: rest)
    (kx : ∀ (E : String) (ce : Cell) (q9 : Addr) (u : SX) (H1 : Heap) (locs1 : List Loc), cx E u → va_P G.1 vwCl (wr ++ w1x u) H1 → va_D A (wr ++ w1x u) → va_S A H0 H1 locs1 → H.size ≤ H1.size → H1[q9]? = some ce → ce.vm = .none → s.vm.findClass E = some ce.cls → vx_W p l e R s m args below meth c H1 locs1 (cells + mc) (slots + ms) Q (F0 m pc ls rest) q9)
    (k : ∀ (r : Int64) (u : St) (H1 : Heap) (locs1 : List Loc), post r u → va_P G.1 vwCl (wr ++ w1 u) H1 → va_D A (wr ++ w1 u) → va_S A H0 H1 locs1 → H.size ≤ H1.size → W p l e R s m args below meth c H1 locs1 (cells + mc) (slots + ms) Q (F0 m (pc + 3) ls (.long r :: rest))) : W p l e R s m args below meth c H locs cells slots Q (F0 m pc ls st) := by
  subst hstk
  have hPc : va_P G.1 vwCl w H := zP_cut hP hC
  have hDc : va_D (fun _ => True) w := (hD.sub isC hnC hC).weaken (fun _ _ _ _ => trivial)
  have hFc := va_free (wc := w) hD hS hA isC hC
  refine vx_calll (vx_runV (As := As) (rest := rest) S hM (cwV n S.2.2.2.2 hG hw hrm.1 hrm.2 hd ⟨hR.1, hR.2.1⟩) ⟨zPx_blind, hCq ▸ va_recv hK hPc (ci := ci) (q0 := 0) hci hb0, fun U hU hW => ⟨rfl, ⟨by rw [hU], by rw [hU]; exact hPc, va_K.moved hW.alike hK, hDc, zN_warm hW hN⟩, by rw [hU]; exact (hE.narrow hFc).warm hW⟩⟩ rfl hn hl.1 rfl (lv_room hst) hdg ⟨hR.2.2.1, hR.2.2.2⟩) hS (fun q _ h => hFc q h) hFc (fun q _ h => hFc q h) (fun E ce q9 u t H1 locs1 ht hvm _ hB hz1 hk1 hS1 hce hcv hcl => ?_) (fun r u t H1 locs1 ht hvm hw1 hB hz1 hk1 hS1 => ?_)
  · obtain ⟨hc1, hP1, hK1, hD1⟩ := hB
    rw [ht] at hP1
    obtain ⟨hP2, hD2⟩ := va_join hP hD isC isR hC hRr hnR hdis hk1 hFc hP1 hD1
    exact kx E ce q9 u H1 locs1 hc1 hP2 hD2 hS1 hz1 hce hcv hcl
  · obtain ⟨hP1, hK1, hD1⟩ := hB
    rw [ht] at hP1
    obtain ⟨hP2, hD2⟩ := va_join hP hD isC isR hC hRr hnR hdis hk1 hFc hP1 hD1
    exact k r u H1 locs1 hw1 hP2 hD2 hS1 hz1
theorem zcx_Vv {ret : Option FieldType} {post : St → Prop} (S : CallFix p m c cc nL s args Ts own) (hN : zN s) (hK : va_K G.1 vwCl (zT G) s) (hE : zE A s H) (hP : va_P G.1 vwCl ww H) (hD : va_D A ww) (hS : va_S A H0 H locs) (hA : ∀ q, H0.size ≤ q → A q) (hl : lv_has ls nL lv)
    (hM : vx_Met l y ws rm (va_Pc (.ref b :: As) (zPx G H.size w)) (va_Qv post (fun u => zW G (va_A w H.size) (w1 u)) (va_A w H.size)) (vx_X (fun _ => True) (fun (E : String) (u : SX) (t : State) => cx E u ∧ zW G (va_A w H.size) (w1x u) t) (va_A w H.size)) mc ms (va_A w H.size))
    (hG : GoodIn Ts (wsV own index C y ws)) (hw : ws = Cond.code y bytes maxL ret :: ws') (hrm : rm.cells = mc ∧ rm.slots = ms) (hd : y.cls = C ∧ y.cls ≠ "java/lang/invoke/MethodHandle" ∧ y.cls ≠ "java/lang/invoke/VarHandle" ∧ (parseMethodDescriptor y.desc).map (fun d => d.parameters.length) = some n) (hn : As.length = n) (hR : rm.frames + 1 ≤ R.frames ∧ 8 + (maxL + 11) + rm.locals ≤ R.locals ∧ cells + mc ≤ R.cells ∧ slots + ms ≤ R.slots)
    (isC isR : List Nat) (hC : isC.map (fun i => ww[i]?) = w.map some) (hRr : isR.map (fun i => ww[i]?) = wr.map some) (hnC : va_nd isC = true) (hnR : va_nd isR = true) (hdis : ∀ i ∈ isR, i ∉ isC)
    {ci : Nat} {fs : List Value} {cq : vw_C} (hb0 : w[0]? = some (b, .inr (ci, fs))) (hci : vwCl[ci]? = some cq) (hCq : cq.1 = C)
    (hst : (rest.map fun v => v.category).sum ≤ 8) (hdg : decode cc pc = .ok (.invokevirtual index, 3)) (hstk : st = As.reverse ++ .ref b :: rest)
    (kx : ∀ (E : String) (ce : Cell) (q9 : Addr) (u : SX) (H1 : Heap) (locs1 : List Loc), cx E u → va_P G.1 vwCl (wr ++ w1x u) H1 → va_D A (wr ++ w1x u) → va_S A H0 H1 locs1 → H.size ≤ H1.size → H1[q9]? = some ce → ce.vm = .none → s.vm.findClass E = some ce.cls → vx_W p l e R s m args below meth c H1 locs1 (cells + mc) (slots + ms) Q (F0 m pc ls rest) q9)
    (k : ∀ (u : St) (H1 : Heap) (locs1 : List Loc), post u → va_P G.1 vwCl (wr ++ w1 u) H1 → va_D A (wr ++ w1 u) → va_S A H0 H1 locs1 → H.size ≤ H1.size → W p l e R s m args below meth c H1 locs1 (cells + mc) (slots + ms) Q (F0 m (pc + 3) ls rest)) : W p l e R s m args below meth c H locs cells slots Q (F0 m pc ls st) := by
  subst hstk
  have hPc : va_P G.1 vwCl w H := zP_cut hP hC
  have hDc : va_D (fun _ => True) w := (hD.sub isC hnC hC).weaken (fun _ _ _ _ => trivial)
  have hFc := va_free (wc := w) hD hS hA isC hC
  refine vx_callv (vx_runV (As := As) (rest := rest) S hM (cwV n S.2.2.2.2 hG hw hrm.1 hrm.2 hd ⟨hR.1, hR.2.1⟩) ⟨zPx_blind, hCq ▸ va_recv hK hPc (ci := ci) (q0 := 0) hci hb0, fun U hU hW => ⟨rfl, ⟨by rw [hU], by rw [hU]; exact hPc, va_K.moved hW.alike hK, hDc, zN_warm hW hN⟩, by rw [hU]; exact (hE.narrow hFc).warm hW⟩⟩ rfl hn hl.1 rfl (lv_room hst) hdg ⟨hR.2.2.1, hR.2.2.2⟩) hS (fun q _ h => hFc q h) hFc (fun q _ h => hFc q h) (fun E ce q9 u t H1 locs1 ht hvm _ hB hz1 hk1 hS1 hce hcv hcl => ?_) (fun u t H1 locs1 ht hvm hw1 hB hz1 hk1 hS1 => ?_)
  · obtain ⟨hc1, hP1, hK1, hD1⟩ := hB
    rw [ht] at hP1
    obtain ⟨hP2, hD2⟩ := va_join hP hD isC isR hC hRr hnR hdis hk1 hFc hP1 hD1
    exact kx E ce q9 u H1 locs1 hc1 hP2 hD2 hS1 hz1 hce hcv hcl
  · obtain ⟨hP1, hK1, hD1⟩ := hB
    rw [ht] at hP1
    obtain ⟨hP2, hD2⟩ := va_join hP hD isC isR hC hRr hnR hdis hk1 hFc hP1 hD1
    exact k u H1 locs1 hw1 hP2 hD2 hS1 hz1
theorem zcx_Vr {ret : Option FieldType} {post : St → Prop} {rs : St → Nat} (S : CallFix p m c cc nL s args Ts own) (hN : zN s) (hK : va_K G.1 vwCl (zT G) s) (hE : zE A s H) (hP : va_P G.1 vwCl ww H) (hD : va_D A ww) (hS : va_S A H0 H locs) (hA : ∀ q, H0.size ≤ q → A q) (hl : lv_has ls nL lv)
    (hM : vx_Met l y ws rm (va_Pc (.ref b :: As) (zPx G H.size w)) (va_Qr post (fun u a t => a = rs u ∧ zW G (va_A w H.size) (w1 u) t) (va_A w H.size)) (vx_X (fun _ => True) (fun (E : String) (u : SX) (t : State) => cx E u ∧ zW G (va_A w H.size) (w1x u) t) (va_A w H.size)) mc ms (va_A w H.size))
    (hG : GoodIn Ts (wsV own index C y ws)) (hw : ws = Cond.code y bytes maxL ret :: ws') (hrm : rm.cells = mc ∧ rm.slots = ms) (hd : y.cls = C ∧ y.cls ≠ "java/lang/invoke/MethodHandle" ∧ y.cls ≠ "java/lang/invoke/VarHandle" ∧ (parseMethodDescriptor y.desc).map (fun d => d.parameters.length) = some n) (hn : As.length = n) (hR : rm.frames + 1 ≤ R.frames ∧ 8 + (maxL + 11) + rm.locals ≤ R.locals ∧ cells + mc ≤ R.cells ∧ slots + ms ≤ R.slots)
    (isC isR : List Nat) (hC : isC.map (fun i => ww[i]?) = w.map some) (hRr : isR.map (fun i => ww[i]?) = wr.map some) (hnC : va_nd isC = true) (hnR : va_nd isR = true) (hdis : ∀ i ∈ isR, i ∉ isC)
    {ci : Nat} {fs : List Value} {cq : vw_C} (hb0 : w[0]? = some (b, .inr (ci, fs))) (hci : vwCl[ci]? = some cq) (hCq : cq.1 = C)
    (hst : (rest.map fun v => v.category).sum ≤ 8) (hdg : decode cc pc = .ok (.invokevirtual index, 3)) (hstk : st = As.reverse ++ .ref b :: rest)
    (kx : ∀ (E : String) (ce : Cell) (q9 : Addr) (u : SX) (H1 : Heap) (locs1 : List Loc), cx E u → va_P G.1 vwCl (wr ++ w1x u) H1 → va_D A (wr ++ w1x u) → va_S A H0 H1 locs1 → H.size ≤ H1.size → H1[q9]? = some ce → ce.vm = .none → s.vm.findClass E = some ce.cls → vx_W p l e R s m args below meth c H1 locs1 (cells + mc) (slots + ms) Q (F0 m pc ls rest) q9)
    (k : ∀ (u : St) (H1 : Heap) (locs1 : List Loc), post u → va_P G.1 vwCl (wr ++ w1 u) H1 → va_D A (wr ++ w1 u) → va_S A H0 H1 locs1 → H.size ≤ H1.size → W p l e R s m args below meth c H1 locs1 (cells + mc) (slots + ms) Q (F0 m (pc + 3) ls (.ref (rs u) :: rest))) : W p l e R s m args below meth c H locs cells slots Q (F0 m pc ls st) := by
  subst hstk
  have hPc : va_P G.1 vwCl w H := zP_cut hP hC
  have hDc : va_D (fun _ => True) w := (hD.sub isC hnC hC).weaken (fun _ _ _ _ => trivial)
  have hFc := va_free (wc := w) hD hS hA isC hC
  refine zx_callr (vx_runV (As := As) (rest := rest) S hM (cwV n S.2.2.2.2 hG hw hrm.1 hrm.2 hd ⟨hR.1, hR.2.1⟩) ⟨zPx_blind, hCq ▸ va_recv hK hPc (ci := ci) (q0 := 0) hci hb0, fun U hU hW => ⟨rfl, ⟨by rw [hU], by rw [hU]; exact hPc, va_K.moved hW.alike hK, hDc, zN_warm hW hN⟩, by rw [hU]; exact (hE.narrow hFc).warm hW⟩⟩ rfl hn hl.1 rfl (lv_room hst) hdg ⟨hR.2.2.1, hR.2.2.2⟩) hS (fun q _ h => hFc q h) hFc (fun q _ h => hFc q h) (fun E ce q9 u t H1 locs1 ht hvm _ hB hz1 hk1 hS1 hce hcv hcl => ?_) (fun u ra t H1 locs1 ht hvm hw1 hB hz1 hk1 hS1 => ?_)
  · obtain ⟨hc1, hP1, hK1, hD1⟩ := hB
    rw [ht] at hP1
    obtain ⟨hP2, hD2⟩ := va_join hP hD isC isR hC hRr hnR hdis hk1 hFc hP1 hD1
    exact kx E ce q9 u H1 locs1 hc1 hP2 hD2 hS1 hz1 hce hcv hcl
  · obtain ⟨rfl, hP1, hK1, hD1⟩ := hB
    rw [ht] at hP1
    obtain ⟨hP2, hD2⟩ := va_join hP hD isC isR hC hRr hnR hdis hk1 hFc hP1 hD1
    exact k u H1 locs1 hw1 hP2 hD2 hS1 hz1
theorem zcx_Sv {ret : Option FieldType} {post : St → Prop} (S : CallFix p m c cc nL s args Ts own) (hN : zN s) (hK : va_K G.1 vwCl (zT G) s) (hE : zE A s H) (hP : va_P G.1 vwCl ww H) (hD : va_D A ww) (hS : va_S A H0 H locs) (hA : ∀ q, H0.size ≤ q → A q) (hl : lv_has ls nL lv)
    (hM : vx_Met l y ws rm (va_Pc As (zPx G H.size w)) (va_Qv post (fun u => zW G (va_A w H.size) (w1 u)) (va_A w H.size)) (vx_X (fun _ => True) (fun (E : String) (u : SX) (t : State) => cx E u ∧ zW G (va_A w H.size) (w1x u) t) (va_A w H.size)) mc ms (va_A w H.size))
    (hG : GoodIn Ts (va_wsS own index y ws)) (hw : ws = Cond.code y bytes maxL ret :: ws') (hrm : rm.cells = mc ∧ rm.slots = ms) (hd : y.cls ≠ "java/lang/invoke/MethodHandle" ∧ y.cls ≠ "java/lang/invoke/VarHandle" ∧ (parseMethodDescriptor y.desc).map (fun d => d.parameters.length) = some n) (hn : As.length = n) (hR : rm.frames + 1 ≤ R.frames ∧ 8 + (maxL + 11) + rm.locals ≤ R.locals ∧ cells + mc ≤ R.cells ∧ slots + ms ≤ R.slots)
    (isC isR : List Nat) (hC : isC.map (fun i => ww[i]?) = w.map some) (hRr : isR.map (fun i => ww[i]?) = wr.map some) (hnC : va_nd isC = true) (hnR : va_nd isR = true) (hdis : ∀ i ∈ isR, i ∉ isC)
    
    (hst : (rest.map fun v => v.category).sum ≤ 8) (hdg : decode cc pc = .ok (.invokestatic index, 3)) (hstk : st = As.reverse ++ rest)
    (kx : ∀ (E : String) (ce : Cell) (q9 : Addr) (u : SX) (H1 : Heap) (locs1 : List Loc), cx E u → va_P G.1 vwCl (wr ++ w1x u) H1 → va_D A (wr ++ w1x u) → va_S A H0 H1 locs1 → H.size ≤ H1.size → H1[q9]? = some ce → ce.vm = .none → s.vm.findClass E = some ce.cls → vx_W p l e R s m args below meth c H1 locs1 (cells + mc) (slots + ms) Q (F0 m pc ls rest) q9)
    (k : ∀ (u : St) (H1 : Heap) (locs1 : List Loc), post u → va_P G.1 vwCl (wr ++ w1 u) H1 → va_D A (wr ++ w1 u) → va_S A H0 H1 locs1 → H.size ≤ H1.size → W p l e R s m args below meth c H1 locs1 (cells + mc) (slots + ms) Q (F0 m (pc + 3) ls rest)) : W p l e R s m args below meth c H locs cells slots Q (F0 m pc ls st) := by
  subst hstk
  have hPc : va_P G.1 vwCl w H := zP_cut hP hC
  have hDc : va_D (fun _ => True) w := (hD.sub isC hnC hC).weaken (fun _ _ _ _ => trivial)
  have hFc := va_free (wc := w) hD hS hA isC hC
  refine vx_callv (vx_runS (As := As) (rest := rest) S hM (va_cwS n S.2.2.2.2 hG hw hrm.1 hrm.2 hd ⟨hR.1, hR.2.1⟩) ⟨zPx_blind, fun U hU hW => ⟨rfl, ⟨by rw [hU], by rw [hU]; exact hPc, va_K.moved hW.alike hK, hDc, zN_warm hW hN⟩, by rw [hU]; exact (hE.narrow hFc).warm hW⟩⟩ rfl hn hl.1 rfl (lv_room hst) hdg ⟨hR.2.2.1, hR.2.2.2⟩) hS (fun q _ h => hFc q h) hFc (fun q _ h => hFc q h) (fun E ce q9 u t H1 locs1 ht hvm _ hB hz1 hk1 hS1 hce hcv hcl => ?_) (fun u t H1 locs1 ht hvm hw1 hB hz1 hk1 hS1 => ?_)
  · obtain ⟨hc1, hP1, hK1, hD1⟩ := hB
    rw [ht] at hP1
    obtain ⟨hP2, hD2⟩ := va_join hP hD isC isR hC hRr hnR hdis hk1 hFc hP1 hD1
    exact kx E ce q9 u H1 locs1 hc1 hP2 hD2 hS1 hz1 hce hcv hcl
  · obtain ⟨hP1, hK1, hD1⟩ := hB
    rw [ht] at hP1
    obtain ⟨hP2, hD2⟩ := va_join hP hD isC isR hC hRr hnR hdis hk1 hFc hP1 hD1
    exact k u H1 locs1 hw1 hP2 hD2 hS1 hz1
end ZCX
