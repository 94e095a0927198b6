/-! the law's helpers: methods with handlers; a call of them; a method that never throws, as one that may not -/
section ZLAW
variable {p : Program} {l : Launch} {e : Env} {R : Room} {s : State} {m : MethodId} {args : Array Value} {below : List Frame} {meth : Method} {c : Code} {H : Heap} {locs : List Loc} {cells slots : Nat} {Q : State → Prop}
variable {cc bytes : ByteArray} {nL pc maxL mc ms n index : Nat} {ls : Array Slot} {rest st As : List Value} {Ts ws ws' : List Cond} {own : String} {G : zG} {A : Nat → Prop} {H0 : Heap} {y : MethodName} {rm : Room} {w wr ww : va_W} {lv : List (Nat × Value)} {b : Nat} {St : Type} {w1 : St → va_W}
theorem zMet_of {Pc : Array Value → State → Prop} {Qc : Array Value → State → Outcome → State → Prop} {XC : String → State → State → Prop} {free : Addr → Prop} (h : vx_Met l y ws rm Pc Qc XC mc ms free) (hx : ∀ E s t, ¬ XC E s t) : Met l y ws rm Pc Qc mc ms free := by
  intro p e ha hc hk s m args below hf happ hP hK
  obtain ⟨n, o, h1, h2, h3, hQ⟩ := h p e ha hc hk s m args below hf happ hP hK
  refine ⟨n, o, h1, h2, h3, ?_⟩
  rcases hQ with hQ | ⟨q, rfl, hT⟩
  · exact hQ
  · obtain ⟨E, ce, L, h1, -⟩ := hT
    exact absurd h1 (hx _ _ _)
theorem zMh_i {hh : List (Nat × Nat × Nat × Nat)} {sz : Nat} {av : List Value} {post : Int32 → St → Prop} (hy : plainName y.cls = true) (hw : ws = Cond.codeWith y cc maxL (some .int) hh :: ws') (hlv : (lg_sl av).length ≤ maxL)
    (body : ∀ (p : Program) (e : Env) (s : State) (m : MethodId) (below : List Frame) (meth : Method) (c : Code) (A : Nat → Prop) (Q : State → Prop), CallFix p m c cc maxL s av.toArray ws y.cls → zN s → va_K G.1 vwCl (zT G) s → va_P G.1 vwCl w s.heap → va_D A w → va_S A s.heap s.heap [] → (∀ q, s.heap.size ≤ q → A q) → zE A s s.heap → c.exceptionTable.toList = tableOf hh →
      (∀ (H : Heap) (locs : List Loc) (pc : Nat) (ls : Array Slot) (r : Int32) (u : St), decode cc pc = .ok (.ireturn, 1) → post r u → va_P G.1 vwCl (w1 u) H → va_D A (w1 u) → va_S A s.heap H locs → W p l e rm s m av.toArray below meth c H locs mc ms Q (F0 m pc ls [.int r])) →
      ∀ ls : Array Slot, lv_has ls maxL (lv_args 0 av) → W p l e rm s m av.toArray below meth c s.heap [] 0 0 Q (F0 m 0 ls [])) :
    Met l y ws rm (va_Pc av (zPx G sz w)) (va_Qi post (fun u => zW G (va_A w sz) (w1 u)) (va_A w sz)) mc ms (va_A w sz) := by
  refine va_MetW (cc := cc) (maxL := maxL) (ret := (some .int)) hy hw ?_
  intro p e s m args below meth c s₁ B hml hv
  obtain ⟨rfl, ⟨hsz, hP, hK, hD0, hN⟩, hE⟩ := hv
  subst hsz
  have hD := hD0.self (sz := s.heap.size)
  have hl := lv_entry av (n := maxL) hlv
  rw [lg_entry_eq]
  have hts := atoms_spec (ws := ws) B.pre
  refine body p e s m below meth c _ _ ⟨B.exec, B.bytes, hml, findClass_of_methodNamed B.named, hts⟩ hN hK hP hD va_S.rf (fun q h => Or.inr h) hE (vx_table (x := y) B (hts _ (by rw [hw]; exact List.mem_cons_self))) ?_ _ hl
  intro H locs pc ls r u hd hp hP1 hD1 hS
  exact W.iret B.exec B.bytes B.returns (fun t ht hW => ⟨⟨r, u, rfl, hp, by rw [ht]; exact hP1, va_K.moved hW.alike hK, hD1⟩, hS.F ht⟩) hS.2.2 hd B.notSynchronized
/-- which of our three don't go as which -/
def zNo (E nm : String) : Prop := E = zIA ∧ nm = zIS ∨ E = zIO ∧ nm = zIS ∨ E = zIO ∧ nm = zIS
theorem zcatch (S : CallFix p m c cc nL s args Ts own) {hh : List (Nat × Nat × Nat × Nat)} (htab : c.exceptionTable.toList = tableOf hh) (hE : zE A s s.heap) {E : String} {ce : Cell} {q : Addr} (pre suf : List (Nat × Nat × Nat × Nat)) {x0 x1 hp ct : Nat} (hs : hh = pre ++ (x0, x1, hp, ct) :: suf)
    (hcov : x0 ≤ pc ∧ pc < x1) (h0 : ct ≠ 0) (hw : Cond.classLink own ct E ∈ Ts) (hEi : E = zIO ∨ E = zIA ∨ E = zIS) (hpass : ∀ z ∈ pre, z.2.2.2 ≠ 0 ∧ ∃ nm : String, Cond.classLink own z.2.2.2 nm ∈ Ts ∧ zNo E nm)
    (hcell : H[q]? = some ce) (hv : ce.vm = .none) (hcl : s.vm.findClass E = some ce.cls)
    (kk : W p l e R s m args below meth c H locs cells slots Q (F0 m hp ls [.ref q])) : vx_W p l e R s m args below meth c H locs cells slots Q (F0 m pc ls rest) q := by
  refine vx_catch (name := E) S.2.2.2.1 (tableOf pre) ⟨x0, x1, hp, ct⟩ (tableOf suf) (by rw [htab, hs]; simp [tableOf]) ?_ (by simp only [covers, Bool.and_eq_true, decide_eq_true_eq]; exact hcov) h0 (S.2.2.2.2 _ hw) ?_ hcell hv hcl kk
  · intro z hz
    obtain ⟨z0, hz0, rfl⟩ := List.mem_map.mp hz
    obtain ⟨k1, nm, k2, k3⟩ := hpass z0 hz0
    refine Or.inr ⟨k1, nm, S.2.2.2.2 _ k2, ?_⟩
    rcases k3 with ⟨rfl, rfl⟩ | ⟨rfl, rfl⟩ | ⟨rfl, rfl⟩
    · exact hE.2.2.2.2.1
    · exact hE.2.2.2.2.2.1
    · exact hE.2.2.2.2.2.2
  · have k : Cond.castable E E ∈ zXw := by rcases hEi with rfl | rfl | rfl <;> decide +kernel
    exact va_Nw.use (zXw_tab _ k) (hE.2.1 _ k)
theorem zch_Si {hh : List (Nat × Nat × Nat × Nat)} {ret : Option FieldType} {post : Int32 → St → Prop} (S : CallFix p m c cc nL s args Ts own) (hN : zN s) (hK : va_K G.1 vwCl (zT G) s) (hE : zE A s H) (hP : va_P G.1 vwCl ww H) (hD : va_D A ww) (hS : va_S A H0 H locs) (hA : ∀ q, H0.size ≤ q → A q) (hl : lv_has ls nL lv)
    (hM : Met l y ws rm (va_Pc As (zPx G H.size w)) (va_Qi post (fun u => zW G (va_A w H.size) (w1 u)) (va_A w H.size)) mc ms (va_A w H.size))
    (hG : GoodIn Ts (va_wsS own index y ws)) (hw : ws = Cond.codeWith y bytes maxL ret hh :: ws') (hrm : rm.cells = mc ∧ rm.slots = ms) (hd : y.cls ≠ "java/lang/invoke/MethodHandle" ∧ y.cls ≠ "java/lang/invoke/VarHandle" ∧ (parseMethodDescriptor y.desc).map (fun d => d.parameters.length) = some n) (hn : As.length = n) (hR : rm.frames + 1 ≤ R.frames ∧ 8 + (maxL + 11) + rm.locals ≤ R.locals ∧ cells + mc ≤ R.cells ∧ slots + ms ≤ R.slots)
    (isC isR : List Nat) (hC : isC.map (fun i => ww[i]?) = w.map some) (hRr : isR.map (fun i => ww[i]?) = wr.map some) (hnC : va_nd isC = true) (hnR : va_nd isR = true) (hdis : ∀ i ∈ isR, i ∉ isC)
    (hst : (rest.map fun v => v.category).sum ≤ 8) (hdg : decode cc pc = .ok (.invokestatic index, 3)) (hstk : st = As.reverse ++ rest)
    (k : ∀ (r : Int32) (u : St) (H1 : Heap) (locs1 : List Loc), post r u → va_P G.1 vwCl (wr ++ w1 u) H1 → va_D A (wr ++ w1 u) → va_S A H0 H1 locs1 → H.size ≤ H1.size → W p l e R s m args below meth c H1 locs1 (cells + mc) (slots + ms) Q (F0 m (pc + 3) ls (.int r :: rest))) : W p l e R s m args below meth c H locs cells slots Q (F0 m pc ls st) := by
  subst hstk
  have hPc : va_P G.1 vwCl w H := zP_cut hP hC
  have hDc : va_D (fun _ => True) w := (hD.sub isC hnC hC).weaken (fun _ _ _ _ => trivial)
  have hFc := va_free (wc := w) hD hS hA isC hC
  refine va_calli (vx_runSW (As := As) (rest := rest) S hM (vx_cwSW n S.2.2.2.2 hG hw hrm.1 hrm.2 hd ⟨hR.1, hR.2.1⟩) ⟨zPx_blind, fun U hU hW => ⟨rfl, ⟨by rw [hU], by rw [hU]; exact hPc, va_K.moved hW.alike hK, hDc, zN_warm hW hN⟩, by rw [hU]; exact (hE.narrow hFc).warm hW⟩⟩ rfl hn hl.1 rfl (lv_room hst) hdg ⟨hR.2.2.1, hR.2.2.2⟩) hS (fun q _ h => hFc q h) hFc (fun r u t H1 locs1 ht hvm hw1 hB hz1 hk1 hS1 => ?_)
  obtain ⟨hP1, hK1, hD1⟩ := hB
  rw [ht] at hP1
  obtain ⟨hP2, hD2⟩ := va_join hP hD isC isR hC hRr hnR hdis hk1 hFc hP1 hD1
  exact k r u H1 locs1 hw1 hP2 hD2 hS1 hz1
theorem zch_I {post : St → Prop} (S : CallFix p m c cc nL s args Ts own) (hN : zN s) (hK : va_K G.1 vwCl (zT G) s) (hE : zE A s H) (hP : va_P G.1 vwCl ww H) (hD : va_D A ww) (hS : va_S A H0 H locs) (hA : ∀ q, H0.size ≤ q → A q) (hl : lv_has ls nL lv)
    (hM : Met l y ws rm (va_Pc (.ref b :: As) (zPx G H.size w)) (va_Qv post (fun u => zW G (va_A w H.size) (w1 u)) (va_A w H.size)) mc ms (va_A w H.size))
    (hG : GoodIn Ts ws) (hlk : Cond.methodLink own index y ∈ Ts) (him : Cond.instanceMethod y ∈ Ts) (hin1 : Cond.initialized y.cls ∈ Ts) (hy1 : y.name = "<init>") (hw : ws = Cond.code y bytes maxL none :: ws') (hrm : rm.cells = mc ∧ rm.slots = ms) (hd : y.cls ≠ "java/lang/invoke/MethodHandle" ∧ y.cls ≠ "java/lang/invoke/VarHandle" ∧ (parseMethodDescriptor y.desc).map (fun d => d.parameters.length) = some n) (hn : As.length = n) (hR : rm.frames + 1 ≤ R.frames ∧ 8 + (maxL + 11) + rm.locals ≤ R.locals ∧ cells + mc ≤ R.cells ∧ slots + ms ≤ R.slots)
    (isC isR : List Nat) (hC : isC.map (fun i => ww[i]?) = w.map some) (hRr : isR.map (fun i => ww[i]?) = wr.map some) (hnC : va_nd isC = true) (hnR : va_nd isR = true) (hdis : ∀ i ∈ isR, i ∉ isC)
    (hst : (rest.map fun v => v.category).sum ≤ 8) (hdg : decode cc pc = .ok (.invokespecial index, 3)) (hstk : st = As.reverse ++ .ref b :: rest)
    (k : ∀ (u : St) (H1 : Heap) (locs1 : List Loc), post u → va_P G.1 vwCl (wr ++ w1 u) H1 → va_D A (wr ++ w1 u) → va_S A H0 H1 locs1 → H.size ≤ H1.size → W p l e R s m args below meth c H1 locs1 (cells + mc) (slots + ms) Q (F0 m (pc + 3) ls (rest))) : W p l e R s m args below meth c H locs cells slots Q (F0 m pc ls st) := by
  subst hstk
  have hPc : va_P G.1 vwCl w H := zP_cut hP hC
  have hDc : va_D (fun _ => True) w := (hD.sub isC hnC hC).weaken (fun _ _ _ _ => trivial)
  have hFc := va_free (wc := w) hD hS hA isC hC
  refine va_callv (va_runI (As := As) (rest := rest) S hM (cwI n S.2.2.2.2 hG hw hrm.1 hrm.2 (S.2.2.2.2 _ hin1) (S.2.2.2.2 _ hlk) (S.2.2.2.2 _ him) hy1 hd ⟨hR.1, hR.2.1⟩) ⟨zPx_blind, fun U hU hW => ⟨rfl, ⟨by rw [hU], by rw [hU]; exact hPc, va_K.moved hW.alike hK, hDc, zN_warm hW hN⟩, by rw [hU]; exact (hE.narrow hFc).warm hW⟩⟩ rfl hn hl.1 rfl (lv_room hst) hdg ⟨hR.2.2.1, hR.2.2.2⟩) hS (fun q _ h => hFc q h) hFc (fun u t H1 locs1 ht hvm hw1 hB hz1 hk1 hS1 => ?_)
  obtain ⟨hP1, hK1, hD1⟩ := hB
  rw [ht] at hP1
  obtain ⟨hP2, hD2⟩ := va_join hP hD isC isR hC hRr hnR hdis hk1 hFc hP1 hD1
  exact k u H1 locs1 hw1 hP2 hD2 hS1 hz1
theorem zMp_i {l : Launch} {y : MethodName} {ws ws' : List Cond} {rm : Room} {G : zG} {sz : Nat} {w : va_W} {av : List Value} {St : Type} {post : Int32 → St → Prop} {w1 : St → va_W} {mc ms : Nat} {cc : ByteArray} {maxL : Nat} (hy : plainFor y = true) (hw : ws = Cond.code y cc maxL (some .int) :: ws') (hlv : (lg_sl av).length ≤ maxL)
    (body : ∀ (p : Program) (e : Env) (s : State) (m : MethodId) (below : List Frame) (meth : Method) (c : Code) (A : Nat → Prop) (Q : State → Prop), CallFix p m c cc maxL s av.toArray ws y.cls → zN s → va_K G.1 vwCl (zT G) s → va_P G.1 vwCl w s.heap → va_D A w → va_S A s.heap s.heap [] → (∀ q, s.heap.size ≤ q → A q) → zE A s s.heap →
      (∀ (H : Heap) (locs : List Loc) (pc : Nat) (ls : Array Slot) (r : Int32) (u : St), decode cc pc = .ok (.ireturn, 1) → post r u → va_P G.1 vwCl (w1 u) H → va_D A (w1 u) → va_S A s.heap H locs → W p l e rm s m av.toArray below meth c H locs mc ms Q (F0 m pc ls [.int r])) →
      ∀ ls : Array Slot, lv_has ls maxL (lv_args 0 av) → W p l e rm s m av.toArray below meth c s.heap [] 0 0 Q (F0 m 0 ls [])) :
    Met l y ws rm (va_Pc av (zPx G sz w)) (va_Qi post (fun u => zW G (va_A w sz) (w1 u)) (va_A w sz)) mc ms (va_A w sz) := by
  refine zofW (cc := cc) (maxL := maxL) (ret := (some .int)) hy hw ?_
  intro p e s m args below meth c s₁ B hml hv
  obtain ⟨rfl, ⟨hsz, hP, hK, hD0, hN⟩, hE⟩ := hv
  subst hsz
  have hD := hD0.self (sz := s.heap.size)
  have hl := lv_entry av (n := maxL) hlv
  rw [lg_entry_eq]
  refine body p e s m below meth c _ _ ⟨B.exec, B.bytes, hml, findClass_of_methodNamed B.named, atoms_spec (ws := ws) B.pre⟩ hN hK hP hD va_S.rf (fun q h => Or.inr h) hE ?_ _ hl
  intro H locs pc ls r u hd hp hP1 hD1 hS
  exact W.iret B.exec B.bytes B.returns (fun t ht hW => ⟨⟨r, u, rfl, hp, by rw [ht]; exact hP1, va_K.moved hW.alike hK, hD1⟩, hS.F ht⟩) hS.2.2 hd B.notSynchronized
theorem zMp_z {l : Launch} {y : MethodName} {ws ws' : List Cond} {rm : Room} {G : zG} {sz : Nat} {w : va_W} {av : List Value} {St : Type} {post : Int32 → St → Prop} {w1 : St → va_W} {mc ms : Nat} {cc : ByteArray} {maxL : Nat} (hy : plainFor y = true) (hw : ws = Cond.code y cc maxL (some .boolean) :: ws') (hlv : (lg_sl av).length ≤ maxL)
    (body : ∀ (p : Program) (e : Env) (s : State) (m : MethodId) (below : List Frame) (meth : Method) (c : Code) (A : Nat → Prop) (Q : State → Prop), CallFix p m c cc maxL s av.toArray ws y.cls → zN s → va_K G.1 vwCl (zT G) s → va_P G.1 vwCl w s.heap → va_D A w → va_S A s.heap s.heap [] → (∀ q, s.heap.size ≤ q → A q) → zE A s s.heap →
      (∀ (H : Heap) (locs : List Loc) (pc : Nat) (ls : Array Slot) (r : Int32) (u : St), decode cc pc = .ok (.ireturn, 1) → r = zI 0 ∨ r = zI 1 → post r u → va_P G.1 vwCl (w1 u) H → va_D A (w1 u) → va_S A s.heap H locs → W p l e rm s m av.toArray below meth c H locs mc ms Q (F0 m pc ls [.int r])) →
      ∀ ls : Array Slot, lv_has ls maxL (lv_args 0 av) → W p l e rm s m av.toArray below meth c s.heap [] 0 0 Q (F0 m 0 ls [])) :
    Met l y ws rm (va_Pc av (zPx G sz w)) (va_Qi post (fun u => zW G (va_A w sz) (w1 u)) (va_A w sz)) mc ms (va_A w sz) := by
  refine zofW (cc := cc) (maxL := maxL) (ret := (some .boolean)) hy hw ?_
  intro p e s m args below meth c s₁ B hml hv
  obtain ⟨rfl, ⟨hsz, hP, hK, hD0, hN⟩, hE⟩ := hv
  subst hsz
  have hD := hD0.self (sz := s.heap.size)
  have hl := lv_entry av (n := maxL) hlv
  rw [lg_entry_eq]
  refine body p e s m below meth c _ _ ⟨B.exec, B.bytes, hml, findClass_of_methodNamed B.named, atoms_spec (ws := ws) B.pre⟩ hN hK hP hD va_S.rf (fun q h => Or.inr h) hE ?_ _ hl
  intro H locs pc ls r u hd hn hp hP1 hD1 hS
  exact W.zret B.exec B.bytes B.returns (by rcases hn with rfl | rfl <;> rfl) (fun t ht hW => ⟨⟨r, u, rfl, hp, by rw [ht]; exact hP1, va_K.moved hW.alike hK, hD1⟩, hS.F ht⟩) hS.2.2 hd B.notSynchronized
/-- the world w, and a tape that is none of it -/
def zPt (G : zG) (sz b L : Nat) (sx : Nat → Int) (w : va_W) (U : State) : Prop := zPx G sz w U ∧ va_X b L (fun j => zI (sx j)) U U.heap ∧ b < sz ∧ ¬ va_A w sz b
theorem zPt_blind {av : List Value} {G : zG} {sz b L : Nat} {sx : Nat → Int} {w : va_W} : FrameBlind (va_Pc av (zPt G sz b L sx w)) := fun a U g mk q => ⟨q.1, (zPx_blind (av := av) a U g mk ⟨q.1, q.2.1⟩).2, va_X.moved (u := U) (U := U.calling g mk a) (Vm.Alike.refl U.vm) q.2.2.1, q.2.2.2⟩
theorem zMt_i {l : Launch} {y : MethodName} {ws ws' : List Cond} {rm : Room} {G : zG} {sz b L : Nat} {sx : Nat → Int} {w : va_W} {av : List Value} {St : Type} {post : Int32 → St → Prop} {w1 : St → va_W} {mc ms : Nat} {cc : ByteArray} {maxL : Nat} (hy : plainFor y = true) (hw : ws = Cond.code y cc maxL (some .int) :: ws') (hlv : (lg_sl av).length ≤ maxL)
    (body : ∀ (p : Program) (e : Env) (s : State) (m : MethodId) (below : List Frame) (meth : Method) (c : Code) (A : Nat → Prop) (Q : State → Prop), CallFix p m c cc maxL s av.toArray ws y.cls → zN s → va_K G.1 vwCl (zT G) s → va_P G.1 vwCl w s.heap → va_D A w → va_S A s.heap s.heap [] → (∀ q, s.heap.size ≤ q → A q) → zE A s s.heap → va_X b L (fun j => zI (sx j)) s s.heap → b < s.heap.size → ¬ A b →
      (∀ (H : Heap) (locs : List Loc) (pc : Nat) (ls : Array Slot) (r : Int32) (u : St), decode cc pc = .ok (.ireturn, 1) → post r u → va_P G.1 vwCl (w1 u) H → va_D A (w1 u) → va_S A s.heap H locs → W p l e rm s m av.toArray below meth c H locs mc ms Q (F0 m pc ls [.int r])) →
      ∀ ls : Array Slot, lv_has ls maxL (lv_args 0 av) → W p l e rm s m av.toArray below meth c s.heap [] 0 0 Q (F0 m 0 ls [])) :
    Met l y ws rm (va_Pc av (zPt G sz b L sx w)) (va_Qi post (fun u => zW G (va_A w sz) (w1 u)) (va_A w sz)) mc ms (va_A w sz) := by
  refine zofW (cc := cc) (maxL := maxL) (ret := (some .int)) hy hw ?_
  intro p e s m args below meth c s₁ B hml hv
  obtain ⟨rfl, ⟨⟨hsz, hP, hK, hD0, hN⟩, hE⟩, hX, hbl, hbA⟩ := hv
  subst hsz
  have hD := hD0.self (sz := s.heap.size)
  have hl := lv_entry av (n := maxL) hlv
  rw [lg_entry_eq]
  refine body p e s m below meth c _ _ ⟨B.exec, B.bytes, hml, findClass_of_methodNamed B.named, atoms_spec (ws := ws) B.pre⟩ hN hK hP hD va_S.rf (fun q h => Or.inr h) hE hX hbl hbA ?_ _ hl
  intro H locs pc ls r u hd hp hP1 hD1 hS
  exact W.iret B.exec B.bytes B.returns (fun t ht hW => ⟨⟨r, u, rfl, hp, by rw [ht]; exact hP1, va_K.moved hW.alike hK, hD1⟩, hS.F ht⟩) hS.2.2 hd B.notSynchronized
theorem zMt_z {l : Launch} {y : MethodName} {ws ws' : List Cond} {rm : Room} {G : zG} {sz b L : Nat} {sx : Nat → Int} {w : va_W} {av : List Value} {St : Type} {post : Int32 → St → Prop} {w1 : St → va_W} {mc ms : Nat} {cc : ByteArray} {maxL : Nat} (hy : plainFor y = true) (hw : ws = Cond.code y cc maxL (some .boolean) :: ws') (hlv : (lg_sl av).length ≤ maxL)
    (body : ∀ (p : Program) (e : Env) (s : State) (m : MethodId) (below : List Frame) (meth : Method) (c : Code) (A : Nat → Prop) (Q : State → Prop), CallFix p m c cc maxL s av.toArray ws y.cls → zN s → va_K G.1 vwCl (zT G) s → va_P G.1 vwCl w s.heap → va_D A w → va_S A s.heap s.heap [] → (∀ q, s.heap.size ≤ q → A q) → zE A s s.heap → va_X b L (fun j => zI (sx j)) s s.heap → b < s.heap.size → ¬ A b →
      (∀ (H : Heap) (locs : List Loc) (pc : Nat) (ls : Array Slot) (r : Int32) (u : St), decode cc pc = .ok (.ireturn, 1) → r = zI 0 ∨ r = zI 1 → post r u → va_P G.1 vwCl (w1 u) H → va_D A (w1 u) → va_S A s.heap H locs → W p l e rm s m av.toArray below meth c H locs mc ms Q (F0 m pc ls [.int r])) →
      ∀ ls : Array Slot, lv_has ls maxL (lv_args 0 av) → W p l e rm s m av.toArray below meth c s.heap [] 0 0 Q (F0 m 0 ls [])) :
    Met l y ws rm (va_Pc av (zPt G sz b L sx w)) (va_Qi post (fun u => zW G (va_A w sz) (w1 u)) (va_A w sz)) mc ms (va_A w sz) := by
  refine zofW (cc := cc) (maxL := maxL) (ret := (some .boolean)) hy hw ?_
  intro p e s m args below meth c s₁ B hml hv
  obtain ⟨rfl, ⟨⟨hsz, hP, hK, hD0, hN⟩, hE⟩, hX, hbl, hbA⟩ := hv
  subst hsz
  have hD := hD0.self (sz := s.heap.size)
  have hl := lv_entry av (n := maxL) hlv
  rw [lg_entry_eq]
  refine body p e s m below meth c _ _ ⟨B.exec, B.bytes, hml, findClass_of_methodNamed B.named, atoms_spec (ws := ws) B.pre⟩ hN hK hP hD va_S.rf (fun q h => Or.inr h) hE hX hbl hbA ?_ _ hl
  intro H locs pc ls r u hd hn hp hP1 hD1 hS
  exact W.zret B.exec B.bytes B.returns (by rcases hn with rfl | rfl <;> rfl) (fun t ht hW => ⟨⟨r, u, rfl, hp, by rw [ht]; exact hP1, va_K.moved hW.alike hK, hD1⟩, hS.F ht⟩) hS.2.2 hd B.notSynchronized
variable {C : String} {k0 : Nat}
theorem zcp_Vi {ret : Option FieldType} {post : Int32 → St → Prop} (S : CallFix p m c cc nL s args Ts own) (hN : zN s) (hK : va_K G.1 vwCl (zT G) s) (hE : zE A s H) (hP : va_P G.1 vwCl ww H) (hD : va_D A ww) (hS : va_S A H0 H locs) (hA : ∀ q, H0.size ≤ q → A q) (hl : lv_has ls nL lv)
    (hM : Met l y ws rm (va_Pc (.ref b :: As) (zPx G H.size w)) (va_Qi post (fun u => zW G (va_A w H.size) (w1 u)) (va_A w H.size)) mc ms (va_A w H.size))
    (hG : GoodIn Ts (wsV own index C y ws)) (hw : ws = Cond.code y bytes maxL ret :: ws') (hrm : rm.cells = mc ∧ rm.slots = ms) (hd : y.cls = C ∧ y.cls ≠ "java/lang/invoke/MethodHandle" ∧ y.cls ≠ "java/lang/invoke/VarHandle" ∧ (parseMethodDescriptor y.desc).map (fun d => d.parameters.length) = some n) (hn : As.length = n) (hR : rm.frames + 1 ≤ R.frames ∧ 8 + (maxL + 11) + rm.locals ≤ R.locals ∧ cells + mc ≤ R.cells ∧ slots + ms ≤ R.slots)
    (isC isR : List Nat) (hC : isC.map (fun i => ww[i]?) = w.map some) (hRr : isR.map (fun i => ww[i]?) = wr.map some) (hnC : va_nd isC = true) (hnR : va_nd isR = true) (hdis : ∀ i ∈ isR, i ∉ isC)
    {ci : Nat} {fs : List Value} {cq : vw_C} (hb0 : w[0]? = some (b, .inr (ci, fs))) (hci : vwCl[ci]? = some cq) (hCq : cq.1 = C) (hst : (rest.map fun v => v.category).sum ≤ 8) (hdg : decode cc pc = .ok (.invokevirtual index, 3)) (hstk : st = As.reverse ++ .ref b :: rest)
    (k : ∀ (r : Int32) (u : St) (H1 : Heap) (locs1 : List Loc), post r u → va_P G.1 vwCl (wr ++ w1 u) H1 → va_D A (wr ++ w1 u) → va_S A H0 H1 locs1 → H.size ≤ H1.size → W p l e R s m args below meth c H1 locs1 (cells + mc) (slots + ms) Q (F0 m (pc + 3) ls (.int r :: rest))) : W p l e R s m args below meth c H locs cells slots Q (F0 m pc ls st) := by
  subst hstk
  have hPc : va_P G.1 vwCl w H := zP_cut hP hC
  have hDc : va_D (fun _ => True) w := (hD.sub isC hnC hC).weaken (fun _ _ _ _ => trivial)
  have hFc := va_free (wc := w) hD hS hA isC hC
  refine va_calli (va_runV (As := As) (rest := rest) S hM (cwV n S.2.2.2.2 hG hw hrm.1 hrm.2 hd ⟨hR.1, hR.2.1⟩) ⟨zPx_blind, hCq ▸ va_recv hK hPc (ci := ci) (q0 := 0) hci hb0, fun U hU hW => ⟨rfl, ⟨by rw [hU], by rw [hU]; exact hPc, va_K.moved hW.alike hK, hDc, zN_warm hW hN⟩, by rw [hU]; exact (hE.narrow hFc).warm hW⟩⟩ rfl hn hl.1 rfl (lv_room hst) hdg ⟨hR.2.2.1, hR.2.2.2⟩) hS (fun q _ h => hFc q h) hFc (fun r u t H1 locs1 ht hvm hw1 hB hz1 hk1 hS1 => ?_)
  obtain ⟨hP1, hK1, hD1⟩ := hB
  rw [ht] at hP1
  obtain ⟨hP2, hD2⟩ := va_join hP hD isC isR hC hRr hnR hdis hk1 hFc hP1 hD1
  exact k r u H1 locs1 hw1 hP2 hD2 hS1 hz1
theorem zcp_Vl {ret : Option FieldType} {post : Int64 → St → Prop} (S : CallFix p m c cc nL s args Ts own) (hN : zN s) (hK : va_K G.1 vwCl (zT G) s) (hE : zE A s H) (hP : va_P G.1 vwCl ww H) (hD : va_D A ww) (hS : va_S A H0 H locs) (hA : ∀ q, H0.size ≤ q → A q) (hl : lv_has ls nL lv)
    (hM : Met l y ws rm (va_Pc (.ref b :: As) (zPx G H.size w)) (va_Ql post (fun u => zW G (va_A w H.size) (w1 u)) (va_A w H.size)) mc ms (va_A w H.size))
    (hG : GoodIn Ts (wsV own index C y ws)) (hw : ws = Cond.code y bytes maxL ret :: ws') (hrm : rm.cells = mc ∧ rm.slots = ms) (hd : y.cls = C ∧ y.cls ≠ "java/lang/invoke/MethodHandle" ∧ y.cls ≠ "java/lang/invoke/VarHandle" ∧ (parseMethodDescriptor y.desc).map (fun d => d.parameters.length) = some n) (hn : As.length = n) (hR : rm.frames + 1 ≤ R.frames ∧ 8 + (maxL + 11) + rm.locals ≤ R.locals ∧ cells + mc ≤ R.cells ∧ slots + ms ≤ R.slots)
    (isC isR : List Nat) (hC : isC.map (fun i => ww[i]?) = w.map some) (hRr : isR.map (fun i => ww[i]?) = wr.map some) (hnC : va_nd isC = true) (hnR : va_nd isR = true) (hdis : ∀ i ∈ isR, i ∉ isC)
    {ci : Nat} {fs : List Value} {cq : vw_C} (hb0 : w[0]? = some (b, .inr (ci, fs))) (hci : vwCl[ci]? = some cq) (hCq : cq.1 = C) (hst : (rest.map fun v => v.category).sum ≤ 8) (hdg : decode cc pc = .ok (.invokevirtual index, 3)) (hstk : st = As.reverse ++ .ref b :: rest)
    (k : ∀ (r : Int64) (u : St) (H1 : Heap) (locs1 : List Loc), post r u → va_P G.1 vwCl (wr ++ w1 u) H1 → va_D A (wr ++ w1 u) → va_S A H0 H1 locs1 → H.size ≤ H1.size → W p l e R s m args below meth c H1 locs1 (cells + mc) (slots + ms) Q (F0 m (pc + 3) ls (.long r :: rest))) : W p l e R s m args below meth c H locs cells slots Q (F0 m pc ls st) := by
  subst hstk
  have hPc : va_P G.1 vwCl w H := zP_cut hP hC
  have hDc : va_D (fun _ => True) w := (hD.sub isC hnC hC).weaken (fun _ _ _ _ => trivial)
  have hFc := va_free (wc := w) hD hS hA isC hC
  refine va_calll (va_runV (As := As) (rest := rest) S hM (cwV n S.2.2.2.2 hG hw hrm.1 hrm.2 hd ⟨hR.1, hR.2.1⟩) ⟨zPx_blind, hCq ▸ va_recv hK hPc (ci := ci) (q0 := 0) hci hb0, fun U hU hW => ⟨rfl, ⟨by rw [hU], by rw [hU]; exact hPc, va_K.moved hW.alike hK, hDc, zN_warm hW hN⟩, by rw [hU]; exact (hE.narrow hFc).warm hW⟩⟩ rfl hn hl.1 rfl (lv_room hst) hdg ⟨hR.2.2.1, hR.2.2.2⟩) hS (fun q _ h => hFc q h) hFc (fun r u t H1 locs1 ht hvm hw1 hB hz1 hk1 hS1 => ?_)
  obtain ⟨hP1, hK1, hD1⟩ := hB
  rw [ht] at hP1
  obtain ⟨hP2, hD2⟩ := va_join hP hD isC isR hC hRr hnR hdis hk1 hFc hP1 hD1
  exact k r u H1 locs1 hw1 hP2 hD2 hS1 hz1
theorem zcp_Si {ret : Option FieldType} {post : Int32 → St → Prop} (S : CallFix p m c cc nL s args Ts own) (hN : zN s) (hK : va_K G.1 vwCl (zT G) s) (hE : zE A s H) (hP : va_P G.1 vwCl ww H) (hD : va_D A ww) (hS : va_S A H0 H locs) (hA : ∀ q, H0.size ≤ q → A q) (hl : lv_has ls nL lv)
    (hM : Met l y ws rm (va_Pc As (zPx G H.size w)) (va_Qi post (fun u => zW G (va_A w H.size) (w1 u)) (va_A w H.size)) mc ms (va_A w H.size))
    (hG : GoodIn Ts (va_wsS own index y ws)) (hw : ws = Cond.code y bytes maxL ret :: ws') (hrm : rm.cells = mc ∧ rm.slots = ms) (hd : y.cls ≠ "java/lang/invoke/MethodHandle" ∧ y.cls ≠ "java/lang/invoke/VarHandle" ∧ (parseMethodDescriptor y.desc).map (fun d => d.parameters.length) = some n) (hn : As.length = n) (hR : rm.frames + 1 ≤ R.frames ∧ 8 + (maxL + 11) + rm.locals ≤ R.locals ∧ cells + mc ≤ R.cells ∧ slots + ms ≤ R.slots)
    (isC isR : List Nat) (hC : isC.map (fun i => ww[i]?) = w.map some) (hRr : isR.map (fun i => ww[i]?) = wr.map some) (hnC : va_nd isC = true) (hnR : va_nd isR = true) (hdis : ∀ i ∈ isR, i ∉ isC)
    (hst : (rest.map fun v => v.category).sum ≤ 8) (hdg : decode cc pc = .ok (.invokestatic index, 3)) (hstk : st = As.reverse ++ rest)
    (k : ∀ (r : Int32) (u : St) (H1 : Heap) (locs1 : List Loc), post r u → va_P G.1 vwCl (wr ++ w1 u) H1 → va_D A (wr ++ w1 u) → va_S A H0 H1 locs1 → H.size ≤ H1.size → W p l e R s m args below meth c H1 locs1 (cells + mc) (slots + ms) Q (F0 m (pc + 3) ls (.int r :: rest))) : W p l e R s m args below meth c H locs cells slots Q (F0 m pc ls st) := by
  subst hstk
  have hPc : va_P G.1 vwCl w H := zP_cut hP hC
  have hDc : va_D (fun _ => True) w := (hD.sub isC hnC hC).weaken (fun _ _ _ _ => trivial)
  have hFc := va_free (wc := w) hD hS hA isC hC
  refine va_calli (va_runS (As := As) (rest := rest) S hM (va_cwS n S.2.2.2.2 hG hw hrm.1 hrm.2 hd ⟨hR.1, hR.2.1⟩) ⟨zPx_blind, fun U hU hW => ⟨rfl, ⟨by rw [hU], by rw [hU]; exact hPc, va_K.moved hW.alike hK, hDc, zN_warm hW hN⟩, by rw [hU]; exact (hE.narrow hFc).warm hW⟩⟩ rfl hn hl.1 rfl (lv_room hst) hdg ⟨hR.2.2.1, hR.2.2.2⟩) hS (fun q _ h => hFc q h) hFc (fun r u t H1 locs1 ht hvm hw1 hB hz1 hk1 hS1 => ?_)
  obtain ⟨hP1, hK1, hD1⟩ := hB
  rw [ht] at hP1
  obtain ⟨hP2, hD2⟩ := va_join hP hD isC isR hC hRr hnR hdis hk1 hFc hP1 hD1
  exact k r u H1 locs1 hw1 hP2 hD2 hS1 hz1
theorem zct_Si {bt L : Nat} {sx : Nat → Int} {ret : Option FieldType} {post : Int32 → St → Prop} (S : CallFix p m c cc nL s args Ts own) (hN : zN s) (hK : va_K G.1 vwCl (zT G) s) (hE : zE A s H) (hX : va_X bt L (fun j => zI (sx j)) s H0) (hbl : bt < H0.size) (hbA : ¬ A bt) (hP : va_P G.1 vwCl ww H) (hD : va_D A ww) (hS : va_S A H0 H locs) (hA : ∀ q, H0.size ≤ q → A q) (hl : lv_has ls nL lv)
    (hM : Met l y ws rm (va_Pc As (zPt G H.size bt L sx w)) (va_Qi post (fun u => zW G (va_A w H.size) (w1 u)) (va_A w H.size)) mc ms (va_A w H.size))
    (hG : GoodIn Ts (va_wsS own index y ws)) (hw : ws = Cond.code y bytes maxL ret :: ws') (hrm : rm.cells = mc ∧ rm.slots = ms) (hd : y.cls ≠ "java/lang/invoke/MethodHandle" ∧ y.cls ≠ "java/lang/invoke/VarHandle" ∧ (parseMethodDescriptor y.desc).map (fun d => d.parameters.length) = some n) (hn : As.length = n) (hR : rm.frames + 1 ≤ R.frames ∧ 8 + (maxL + 11) + rm.locals ≤ R.locals ∧ cells + mc ≤ R.cells ∧ slots + ms ≤ R.slots)
    (isC isR : List Nat) (hC : isC.map (fun i => ww[i]?) = w.map some) (hRr : isR.map (fun i => ww[i]?) = wr.map some) (hnC : va_nd isC = true) (hnR : va_nd isR = true) (hdis : ∀ i ∈ isR, i ∉ isC)
    (hst : (rest.map fun v => v.category).sum ≤ 8) (hdg : decode cc pc = .ok (.invokestatic index, 3)) (hstk : st = As.reverse ++ rest)
    (k : ∀ (r : Int32) (u : St) (H1 : Heap) (locs1 : List Loc), post r u → va_P G.1 vwCl (wr ++ w1 u) H1 → va_D A (wr ++ w1 u) → va_S A H0 H1 locs1 → H.size ≤ H1.size → W p l e R s m args below meth c H1 locs1 (cells + mc) (slots + ms) Q (F0 m (pc + 3) ls (.int r :: rest))) : W p l e R s m args below meth c H locs cells slots Q (F0 m pc ls st) := by
  subst hstk
  have hPc : va_P G.1 vwCl w H := zP_cut hP hC
  have hDc : va_D (fun _ => True) w := (hD.sub isC hnC hC).weaken (fun _ _ _ _ => trivial)
  have hFc := va_free (wc := w) hD hS hA isC hC
  refine va_calli (va_runS (As := As) (rest := rest) S hM (va_cwS n S.2.2.2.2 hG hw hrm.1 hrm.2 hd ⟨hR.1, hR.2.1⟩) ⟨zPt_blind, fun U hU hW => ⟨rfl, ⟨⟨by rw [hU], by rw [hU]; exact hPc, va_K.moved hW.alike hK, hDc, zN_warm hW hN⟩, by rw [hU]; exact (hE.narrow hFc).warm hW⟩, by rw [hU]; exact (hX.kept (hS.2.1 bt hbl hbA)).moved hW.alike, Nat.lt_of_lt_of_le hbl hS.1, fun z => hbA (hFc _ z)⟩⟩ rfl hn hl.1 rfl (lv_room hst) hdg ⟨hR.2.2.1, hR.2.2.2⟩) hS (fun q _ h => hFc q h) hFc (fun r u t H1 locs1 ht hvm hw1 hB hz1 hk1 hS1 => ?_)
  obtain ⟨hP1, hK1, hD1⟩ := hB
  rw [ht] at hP1
  obtain ⟨hP2, hD2⟩ := va_join hP hD isC isR hC hRr hnR hdis hk1 hFc hP1 hD1
  exact k r u H1 locs1 hw1 hP2 hD2 hS1 hz1
theorem zv_sld (S : CallFix p m c cc nL s args Ts own) {b L : Nat} {sx : Nat → Int} (hX : va_X b L (fun j => zI (sx j)) s H0) (hbl : b < H0.size) (hbA : ¬ A b) (hS : va_S A H0 H locs) {i : Int} (j : Nat) (hj : i = (j : Int)) (hn : j < L) (hN : L < 2147483648) (hdg : decode cc pc = .ok (.iaload, 1))
    (kk : W p l e R s m args below meth c H locs cells slots Q (F0 m (pc + 1) ls (.int (zI (sx j)) :: rest))) : W p l e R s m args below meth c H locs cells slots Q (F0 m pc ls (.int (zI i) :: .ref b :: rest)) := by
  refine va_sld S.1 S.2.1 hX hbl hbA hS (zI_in hj hn hN) hdg ?_
  rw [zI_clamp hj (Nat.lt_trans hn hN)]
  exact kk
theorem zv_slen (S : CallFix p m c cc nL s args Ts own) {b L : Nat} {xs : Nat → Int32} (hX : va_X b L xs s H0) (hbl : b < H0.size) (hbA : ¬ A b) (hS : va_S A H0 H locs) (hdg : decode cc pc = .ok (.arraylength, 1))
    (kk : W p l e R s m args below meth c H locs cells slots Q (F0 m (pc + 1) ls (.int (zI (L : Int)) :: rest))) : W p l e R s m args below meth c H locs cells slots Q (F0 m pc ls (.ref b :: rest)) := by
  refine va_slen S.1 S.2.1 hX hbl hbA hS hdg ?_
  rw [show Int32.ofNat L = zI (L : Int) from zI_nI L]
  exact kk
theorem zush (u : UInt32) : 0 ≤ ((u >>> 1).toInt32).toInt := by
  have h : (u >>> 1).toNat = u.toNat >>> 1 := by
    rw [UInt32.toNat_shiftRight]
    rfl
  have h2 := UInt32.toNat_lt u
  rw [Nat.shiftRight_eq_div_pow] at h
  have h3 : 2 * ((u >>> 1).toBitVec).toNat < 2 ^ 32 := by
    show 2 * (u >>> 1).toNat < 2 ^ 32
    omega
  have e : ((u >>> 1).toInt32).toInt = ((u >>> 1).toBitVec).toInt := rfl
  rw [e, BitVec.toInt_eq_toNat_of_lt h3]
  exact Int.natCast_nonneg _
theorem zv_iushr1 (S : CallFix p m c cc nL s args Ts own) {x : Int} (hdg : decode cc pc = .ok (.iushr, 1)) (k : ∀ v : Int, 0 ≤ v → v < 2147483648 → W p l e R s m args below meth c H locs cells slots Q (F0 m (pc + 1) ls (.int (zI v) :: rest))) : W p l e R s m args below meth c H locs cells slots Q (F0 m pc ls (.int (zI 1) :: .int (zI x) :: rest)) := by
  refine lv_iushr (v := ((zI x).toUInt32 >>> 1).toInt32) S.1 S.2.1 hdg (by rw [show (zI 1).toUInt32 &&& Int32.toUInt32 31 = 1 from by decide +kernel]) ?_
  have h := k (((zI x).toUInt32 >>> 1).toInt32.toInt) (zush _) (zR_of ((zI x).toUInt32 >>> 1).toInt32).2
  rw [zI_self] at h
  exact h
end ZLAW
