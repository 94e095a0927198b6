set_option maxRecDepth 20000 in
set_option maxHeartbeats 8000000 in
/-- the law: a round that calls cut -/
theorem zcase_cut {p : Program} {l : Launch} {e : Env} {s : State} {m : MethodId} {below : List Frame} {meth : Method} {c : Code} {G : zG} {b o L : Nat} {g h : Nat → Nat} {sx : Nat → Int} {Q : State → Prop} (C : zCtx p l s m c G b L sx) {i : Int} {k : Nat} (hi : i = ((7 * k : Nat) : Int)) (hk : 7 * k + 7 ≤ L) {cells slots : Nat} (hc : cells + 10 ≤ 601024) (hs : slots + 100 ≤ 7293034) (kk : zAt p l e s m below meth c G b o g h Q i (cells + 10) (slots + 100) 1601) : zAt p l e s m below meth c G b o g h Q i cells slots 276 := by
  intro x I H locs hP hD hS ls hl
  obtain ⟨S, hN, hK, hE0, hX, hbl, hl0, hL, hR⟩ := C
  have hA : ∀ q : Nat, s.heap.size ≤ q → (fun q : Nat => s.heap.size ≤ q) q := fun _ h => h
  have hbA : ¬ (fun q : Nat => s.heap.size ≤ q) b := Nat.not_le.mpr hbl
  refine zv_aload_n S dL_law_276 rfl (lv_at hl 3 rfl) ?_
  refine zv_aload_n S dL_law_277 rfl (lv_at hl 4 rfl) ?_
  refine zv_iload S dL_law_278 (lv_at hl 0 rfl) ?_
  refine zv_iconst S dL_law_280 ?_
  refine zv_iadd S dL_law_281 ?_
  refine zv_sld S hX hbl hbA hS (7 * k + 1) (by omega) (by omega) (by omega) dL_law_282 ?_
  refine zv_aload_n S dL_law_283 rfl (lv_at hl 4 rfl) ?_
  refine zv_iload S dL_law_284 (lv_at hl 0 rfl) ?_
  refine zv_iconst S dL_law_286 ?_
  refine zv_iadd S dL_law_287 ?_
  refine zv_sld S hX hbl hbA hS (7 * k + 2) (by omega) (by omega) (by omega) dL_law_288 ?_
  refine zv_aload_n S dL_law_289 rfl (lv_at hl 4 rfl) ?_
  refine zv_iload S dL_law_290 (lv_at hl 0 rfl) ?_
  refine zv_iconst S dL_law_292 ?_
  refine zv_iadd S dL_law_293 ?_
  refine zv_sld S hX hbl hbA hS (7 * k + 3) (by omega) (by omega) (by omega) dL_law_294 ?_
  refine zv_aload_n S dL_law_295 rfl (lv_at hl 4 rfl) ?_
  refine zv_iload S dL_law_296 (lv_at hl 0 rfl) ?_
  refine zv_iconst S dL_law_298 ?_
  refine zv_iadd S dL_law_299 ?_
  refine zv_sld S hX hbl hbA hS (7 * k + 4) (by omega) (by omega) (by omega) dL_law_300 ?_
  refine zv_aload_n S dL_law_301 rfl (lv_at hl 4 rfl) ?_
  refine zv_iload S dL_law_302 (lv_at hl 0 rfl) ?_
  refine zv_iconst S dL_law_304 ?_
  refine zv_iadd S dL_law_305 ?_
  refine zv_sld S hX hbl hbA hS (7 * k + 5) (by omega) (by omega) (by omega) dL_law_306 ?_
  refine zv_aload_n S dL_law_307 rfl (lv_at hl 4 rfl) ?_
  refine zv_iload S dL_law_308 (lv_at hl 0 rfl) ?_
  refine zv_bipush (v := 6) S dL_law_310 (by decide) ?_
  refine zv_iadd S dL_law_312 ?_
  refine zv_sld S hX hbl hbA hS (7 * k + 6) (by omega) (by omega) (by omega) dL_law_313 ?_
  refine zv_aload_n S dL_law_314 rfl (lv_at hl 1 rfl) ?_
  obtain ⟨t, ht, hvt⟩ := zi_t I (sx (7 * k + 1))
  obtain ⟨isR, wr, hC, hnC, hRr, hnR, hdis, hback⟩ := zpk_A G o g h x ht
  refine zch_Si (As := [.ref (g 0), .int (zI (sx (7 * k + 1))), .int (zI (sx (7 * k + 2))), .int (zI (sx (7 * k + 3))), .int (zI (sx (7 * k + 4))), .int (zI (sx (7 * k + 5))), .int (zI (sx (7 * k + 6))), .ref o]) (rest := []) (wr := wr) (n := 8) S hN hK (hE0.kept hS.2.1) hP hD hS hA hl (c_L_cut l hl0 G H.size o x.OF (g 0) (g 1) x.sc (g 42) (g 46) (g 48) (zSF g) (g (2 + 5 * t)) (g (3 + 5 * t)) (g (4 + 5 * t)) (g (5 + 5 * t)) (g (6 + 5 * t)) (x.FA t) (x.FB t) (x.FC t) (x.FE t) (x.K t) (sx (7 * k + 1)) (sx (7 * k + 2)) (sx (7 * k + 3)) (sx (7 * k + 4)) (sx (7 * k + 5)) (sx (7 * k + 6)) I.1 (zi_sf I ht hvt) (I.2.2.1 t ht).1 (zi_a I ht) (zi_b I ht) (zi_c I ht) (zi_e I ht) (hR _) (hR _) (hR _) (hR _) (hR _) (hR _)) gL_law_L_cut rfl ⟨rfl, rfl⟩ (by decide +kernel) rfl ⟨Nat.le_of_ble_eq_true rfl, Nat.le_of_ble_eq_true rfl, (by show cells + 7 ≤ 601024; omega), (by show slots + 42 ≤ 7293034; omega)⟩ (zCA t) isR hC hRr hnC hnR hdis (by decide) dL_law_315 rfl (fun r_ u H1 locs1 hp hP1 hD1 hS1 hz1 => ?_)
  obtain ⟨u_kr, u_O1, u_z1, u_z2, u_z3, u_z4, u_z5⟩ := u
  try dsimp only at hp hP1
  obtain ⟨rfl, hh⟩ := hp
  have hP := hback u_O1 u_z1 u_z2 u_z3 u_z4 u_z5 H1 hP1
  have hD := zWd_D ((zMk x.sc (zupn x.K t u_z1) (zupf x.FA t u_z2) (zupf x.FB t u_z3) (zupf x.FC t u_z4) (zupf x.FE t u_z5) u_O1 x.P x.Qu x.M x.kk x.f0 x.l0 x.b0 x.t0 x.x0 x.y0 x.fx x.fy x.lx x.ly x.tn x.ar x.wx x.wy x.L0 x.n x.wg x.W0 x.Ls x.th x.sh x.MN x.MA x.MB x.MC x.ME x.Yp x.Yq x.Yo x.ro x.fi x.la x.lo x.hi x.co x.Kc x.Wt x.Ip x.ge x.GX x.GY x.ir)) hD
  have hS := hS1
  clear hP1 hD1 hS1
  generalize H1 = H at hP hS hz1 ⊢
  generalize locs1 = locs at hS ⊢
  refine zv_istore (lv' := [(5, .int (zI u_kr)), (4, .int (zI i)), (3, .ref o), (2, .ref (h 0)), (1, .ref (g 0)), (0, .ref b)]) S dL_law_318 hl (by decide) rfl (fun ls hl => ?_)
  refine zv_aload_n S dL_law_320 rfl (lv_at hl 3 rfl) ?_
  refine zv_aload_n S dL_law_321 rfl (lv_at hl 5 rfl) ?_
  refine zv_iload S dL_law_322 (lv_at hl 1 rfl) ?_
  refine zv_iconst S dL_law_324 ?_
  refine zv_iadd S dL_law_325 ?_
  refine zv_sld S hX hbl hbA hS (7 * k + 1) (by omega) (by omega) (by omega) dL_law_326 ?_
  refine zv_aload_n S dL_law_327 rfl (lv_at hl 5 rfl) ?_
  refine zv_iload S dL_law_328 (lv_at hl 1 rfl) ?_
  refine zv_iconst S dL_law_330 ?_
  refine zv_iadd S dL_law_331 ?_
  refine zv_sld S hX hbl hbA hS (7 * k + 2) (by omega) (by omega) (by omega) dL_law_332 ?_
  refine zv_aload_n S dL_law_333 rfl (lv_at hl 5 rfl) ?_
  refine zv_iload S dL_law_334 (lv_at hl 1 rfl) ?_
  refine zv_iconst S dL_law_336 ?_
  refine zv_iadd S dL_law_337 ?_
  refine zv_sld S hX hbl hbA hS (7 * k + 3) (by omega) (by omega) (by omega) dL_law_338 ?_
  refine zv_aload_n S dL_law_339 rfl (lv_at hl 5 rfl) ?_
  refine zv_iload S dL_law_340 (lv_at hl 1 rfl) ?_
  refine zv_iconst S dL_law_342 ?_
  refine zv_iadd S dL_law_343 ?_
  refine zv_sld S hX hbl hbA hS (7 * k + 4) (by omega) (by omega) (by omega) dL_law_344 ?_
  refine zv_aload_n S dL_law_345 rfl (lv_at hl 5 rfl) ?_
  refine zv_iload S dL_law_346 (lv_at hl 1 rfl) ?_
  refine zv_iconst S dL_law_348 ?_
  refine zv_iadd S dL_law_349 ?_
  refine zv_sld S hX hbl hbA hS (7 * k + 5) (by omega) (by omega) (by omega) dL_law_350 ?_
  refine zv_aload_n S dL_law_351 rfl (lv_at hl 5 rfl) ?_
  refine zv_iload S dL_law_352 (lv_at hl 1 rfl) ?_
  refine zv_bipush (v := 6) S dL_law_354 (by decide) ?_
  refine zv_iadd S dL_law_356 ?_
  refine zv_sld S hX hbl hbA hS (7 * k + 6) (by omega) (by omega) (by omega) dL_law_357 ?_
  obtain ⟨isR2, wr2, hC2, hnC2, hRr2, hnR2, hdis2, hback2⟩ := zpk_add G o g h ((zMk x.sc (zupn x.K t u_z1) (zupf x.FA t u_z2) (zupf x.FB t u_z3) (zupf x.FC t u_z4) (zupf x.FE t u_z5) u_O1 x.P x.Qu x.M x.kk x.f0 x.l0 x.b0 x.t0 x.x0 x.y0 x.fx x.fy x.lx x.ly x.tn x.ar x.wx x.wy x.L0 x.n x.wg x.W0 x.Ls x.th x.sh x.MN x.MA x.MB x.MC x.ME x.Yp x.Yq x.Yo x.ro x.fi x.la x.lo x.hi x.co x.Kc x.Wt x.Ip x.ge x.GX x.GY x.ir))
  refine zc_Vi (As := [.int (zI (sx (7 * k + 1))), .int (zI (sx (7 * k + 2))), .int (zI (sx (7 * k + 3))), .int (zI (sx (7 * k + 4))), .int (zI (sx (7 * k + 5))), .int (zI (sx (7 * k + 6)))]) (rest := []) (wr := wr2) (n := 6) S hN hK hP hD hS hA hl (c_X5_cut l G H.size (h 0) x.th x.sh (h 1) (h 2) (h 3) (h 4) (h 5) (h 6) (h 7) (h 8) x.ro x.fi x.la x.lo x.hi x.co (h 9) (h 10) (h 11) x.ge (h 12) (h 13) x.ir x.MN x.MA x.MB x.MC x.ME (sx (7 * k + 1)) (sx (7 * k + 2)) (sx (7 * k + 3)) (sx (7 * k + 4)) (sx (7 * k + 5)) (sx (7 * k + 6)) (zi_sh I) (zi_N I) (zi_A I) (zi_B I) (zi_C I) (zi_E I) (hR _) (hR _) (hR _) (hR _) (hR _) (hR _)) gL_law_X5_cut rfl ⟨rfl, rfl⟩ (by decide +kernel) rfl ⟨Nat.le_of_ble_eq_true rfl, Nat.le_of_ble_eq_true rfl, (by show cells + 7 + 0 ≤ 601024; omega), (by show slots + 42 + 0 ≤ 7293034; omega)⟩ zCadd isR2 hC2 hRr2 hnC2 hnR2 hdis2 (ci := 5) rfl rfl rfl (by decide) dL_law_358 rfl (fun r_ u2 H1 locs1 hp2 hP1 hD1 hS1 hz1 => ?_)
  obtain ⟨m_rr, m_t1, m_N1, m_A1, m_B1, m_C1, m_E1⟩ := u2
  try dsimp only at hp2 hP1
  obtain ⟨rfl, hcu⟩ := hp2
  have hP : va_P G.1 vwCl (zWd G o g h ((zMk x.sc (zupn x.K t u_z1) (zupf x.FA t u_z2) (zupf x.FB t u_z3) (zupf x.FC t u_z4) (zupf x.FE t u_z5) u_O1 x.P x.Qu x.M x.kk x.f0 x.l0 x.b0 x.t0 x.x0 x.y0 x.fx x.fy x.lx x.ly x.tn x.ar x.wx x.wy x.L0 x.n x.wg x.W0 x.Ls m_t1 x.sh m_N1 m_A1 m_B1 m_C1 m_E1 x.Yp x.Yq x.Yo x.ro x.fi x.la x.lo x.hi x.co x.Kc x.Wt x.Ip x.ge x.GX x.GY x.ir))) H1 := hback2 x.OF m_t1 m_N1 m_A1 m_B1 m_C1 m_E1 H1 hP1
  have hD := zWd_D ((zMk x.sc (zupn x.K t u_z1) (zupf x.FA t u_z2) (zupf x.FB t u_z3) (zupf x.FC t u_z4) (zupf x.FE t u_z5) u_O1 x.P x.Qu x.M x.kk x.f0 x.l0 x.b0 x.t0 x.x0 x.y0 x.fx x.fy x.lx x.ly x.tn x.ar x.wx x.wy x.L0 x.n x.wg x.W0 x.Ls m_t1 x.sh m_N1 m_A1 m_B1 m_C1 m_E1 x.Yp x.Yq x.Yo x.ro x.fi x.la x.lo x.hi x.co x.Kc x.Wt x.Ip x.ge x.GX x.GY x.ir)) hD
  obtain ⟨e1, e2, e3, I2⟩ := zl_cut (u_kr := u_kr) (u_O1 := u_O1) (u_z1 := u_z1) (u_z2 := u_z2) (u_z3 := u_z3) (u_z4 := u_z4) (u_z5 := u_z5) (m_rr := m_rr) (m_t1 := m_t1) (m_N1 := m_N1) (m_A1 := m_A1) (m_B1 := m_B1) (m_C1 := m_C1) (m_E1 := m_E1) I ht hvt hh hcu
  have hS := hS1
  clear hP1 hD1 hS1
  generalize H1 = H at hP hS hz1 ⊢
  generalize locs1 = locs at hS ⊢
  refine zv_istore (lv' := [(6, .int (zI m_rr)), (5, .int (zI u_kr)), (4, .int (zI i)), (3, .ref o), (2, .ref (h 0)), (1, .ref (g 0)), (0, .ref b)]) S dL_law_361 hl (by decide) rfl (fun ls hl => ?_)
  refine zv_aload_n S dL_law_363 rfl (lv_at hl 4 rfl) ?_
  obtain ⟨isR2, wr2, hC2, hnC2, hRr2, hnR2, hdis2, hback2⟩ := zpk_one G o g h ((zMk x.sc (zupn x.K t u_z1) (zupf x.FA t u_z2) (zupf x.FB t u_z3) (zupf x.FC t u_z4) (zupf x.FE t u_z5) u_O1 x.P x.Qu x.M x.kk x.f0 x.l0 x.b0 x.t0 x.x0 x.y0 x.fx x.fy x.lx x.ly x.tn x.ar x.wx x.wy x.L0 x.n x.wg x.W0 x.Ls m_t1 x.sh m_N1 m_A1 m_B1 m_C1 m_E1 x.Yp x.Yq x.Yo x.ro x.fi x.la x.lo x.hi x.co x.Kc x.Wt x.Ip x.ge x.GX x.GY x.ir))
  refine zc_Vi (As := []) (rest := []) (wr := wr2) (n := 0) S hN hK hP hD hS hA hl (c_X5_thrown l G H.size (h 0) (zSt.th (zMk x.sc (zupn x.K t u_z1) (zupf x.FA t u_z2) (zupf x.FB t u_z3) (zupf x.FC t u_z4) (zupf x.FE t u_z5) u_O1 x.P x.Qu x.M x.kk x.f0 x.l0 x.b0 x.t0 x.x0 x.y0 x.fx x.fy x.lx x.ly x.tn x.ar x.wx x.wy x.L0 x.n x.wg x.W0 x.Ls m_t1 x.sh m_N1 m_A1 m_B1 m_C1 m_E1 x.Yp x.Yq x.Yo x.ro x.fi x.la x.lo x.hi x.co x.Kc x.Wt x.Ip x.ge x.GX x.GY x.ir)) (zSt.sh (zMk x.sc (zupn x.K t u_z1) (zupf x.FA t u_z2) (zupf x.FB t u_z3) (zupf x.FC t u_z4) (zupf x.FE t u_z5) u_O1 x.P x.Qu x.M x.kk x.f0 x.l0 x.b0 x.t0 x.x0 x.y0 x.fx x.fy x.lx x.ly x.tn x.ar x.wx x.wy x.L0 x.n x.wg x.W0 x.Ls m_t1 x.sh m_N1 m_A1 m_B1 m_C1 m_E1 x.Yp x.Yq x.Yo x.ro x.fi x.la x.lo x.hi x.co x.Kc x.Wt x.Ip x.ge x.GX x.GY x.ir)) (h 1) (h 2) (h 3) (h 4) (h 5) (h 6) (h 7) (h 8) (zSt.ro (zMk x.sc (zupn x.K t u_z1) (zupf x.FA t u_z2) (zupf x.FB t u_z3) (zupf x.FC t u_z4) (zupf x.FE t u_z5) u_O1 x.P x.Qu x.M x.kk x.f0 x.l0 x.b0 x.t0 x.x0 x.y0 x.fx x.fy x.lx x.ly x.tn x.ar x.wx x.wy x.L0 x.n x.wg x.W0 x.Ls m_t1 x.sh m_N1 m_A1 m_B1 m_C1 m_E1 x.Yp x.Yq x.Yo x.ro x.fi x.la x.lo x.hi x.co x.Kc x.Wt x.Ip x.ge x.GX x.GY x.ir)) (zSt.fi (zMk x.sc (zupn x.K t u_z1) (zupf x.FA t u_z2) (zupf x.FB t u_z3) (zupf x.FC t u_z4) (zupf x.FE t u_z5) u_O1 x.P x.Qu x.M x.kk x.f0 x.l0 x.b0 x.t0 x.x0 x.y0 x.fx x.fy x.lx x.ly x.tn x.ar x.wx x.wy x.L0 x.n x.wg x.W0 x.Ls m_t1 x.sh m_N1 m_A1 m_B1 m_C1 m_E1 x.Yp x.Yq x.Yo x.ro x.fi x.la x.lo x.hi x.co x.Kc x.Wt x.Ip x.ge x.GX x.GY x.ir)) (zSt.la (zMk x.sc (zupn x.K t u_z1) (zupf x.FA t u_z2) (zupf x.FB t u_z3) (zupf x.FC t u_z4) (zupf x.FE t u_z5) u_O1 x.P x.Qu x.M x.kk x.f0 x.l0 x.b0 x.t0 x.x0 x.y0 x.fx x.fy x.lx x.ly x.tn x.ar x.wx x.wy x.L0 x.n x.wg x.W0 x.Ls m_t1 x.sh m_N1 m_A1 m_B1 m_C1 m_E1 x.Yp x.Yq x.Yo x.ro x.fi x.la x.lo x.hi x.co x.Kc x.Wt x.Ip x.ge x.GX x.GY x.ir)) (zSt.lo (zMk x.sc (zupn x.K t u_z1) (zupf x.FA t u_z2) (zupf x.FB t u_z3) (zupf x.FC t u_z4) (zupf x.FE t u_z5) u_O1 x.P x.Qu x.M x.kk x.f0 x.l0 x.b0 x.t0 x.x0 x.y0 x.fx x.fy x.lx x.ly x.tn x.ar x.wx x.wy x.L0 x.n x.wg x.W0 x.Ls m_t1 x.sh m_N1 m_A1 m_B1 m_C1 m_E1 x.Yp x.Yq x.Yo x.ro x.fi x.la x.lo x.hi x.co x.Kc x.Wt x.Ip x.ge x.GX x.GY x.ir)) (zSt.hi (zMk x.sc (zupn x.K t u_z1) (zupf x.FA t u_z2) (zupf x.FB t u_z3) (zupf x.FC t u_z4) (zupf x.FE t u_z5) u_O1 x.P x.Qu x.M x.kk x.f0 x.l0 x.b0 x.t0 x.x0 x.y0 x.fx x.fy x.lx x.ly x.tn x.ar x.wx x.wy x.L0 x.n x.wg x.W0 x.Ls m_t1 x.sh m_N1 m_A1 m_B1 m_C1 m_E1 x.Yp x.Yq x.Yo x.ro x.fi x.la x.lo x.hi x.co x.Kc x.Wt x.Ip x.ge x.GX x.GY x.ir)) (zSt.co (zMk x.sc (zupn x.K t u_z1) (zupf x.FA t u_z2) (zupf x.FB t u_z3) (zupf x.FC t u_z4) (zupf x.FE t u_z5) u_O1 x.P x.Qu x.M x.kk x.f0 x.l0 x.b0 x.t0 x.x0 x.y0 x.fx x.fy x.lx x.ly x.tn x.ar x.wx x.wy x.L0 x.n x.wg x.W0 x.Ls m_t1 x.sh m_N1 m_A1 m_B1 m_C1 m_E1 x.Yp x.Yq x.Yo x.ro x.fi x.la x.lo x.hi x.co x.Kc x.Wt x.Ip x.ge x.GX x.GY x.ir)) (h 9) (h 10) (h 11) (zSt.ge (zMk x.sc (zupn x.K t u_z1) (zupf x.FA t u_z2) (zupf x.FB t u_z3) (zupf x.FC t u_z4) (zupf x.FE t u_z5) u_O1 x.P x.Qu x.M x.kk x.f0 x.l0 x.b0 x.t0 x.x0 x.y0 x.fx x.fy x.lx x.ly x.tn x.ar x.wx x.wy x.L0 x.n x.wg x.W0 x.Ls m_t1 x.sh m_N1 m_A1 m_B1 m_C1 m_E1 x.Yp x.Yq x.Yo x.ro x.fi x.la x.lo x.hi x.co x.Kc x.Wt x.Ip x.ge x.GX x.GY x.ir)) (h 12) (h 13) (zSt.ir (zMk x.sc (zupn x.K t u_z1) (zupf x.FA t u_z2) (zupf x.FB t u_z3) (zupf x.FC t u_z4) (zupf x.FE t u_z5) u_O1 x.P x.Qu x.M x.kk x.f0 x.l0 x.b0 x.t0 x.x0 x.y0 x.fx x.fy x.lx x.ly x.tn x.ar x.wx x.wy x.L0 x.n x.wg x.W0 x.Ls m_t1 x.sh m_N1 m_A1 m_B1 m_C1 m_E1 x.Yp x.Yq x.Yo x.ro x.fi x.la x.lo x.hi x.co x.Kc x.Wt x.Ip x.ge x.GX x.GY x.ir)) ) gL_law_X5_thrown rfl ⟨rfl, rfl⟩ (by decide +kernel) rfl ⟨Nat.le_of_ble_eq_true rfl, Nat.le_of_ble_eq_true rfl, (by show cells + 7 + 0 + 0 ≤ 601024; omega), (by show slots + 42 + 0 + 0 ≤ 7293034; omega)⟩ zCone isR2 hC2 hRr2 hnC2 hnR2 hdis2 (ci := 5) rfl rfl rfl (by decide) dL_law_364 rfl (fun r_ u2 H1 locs1 hp2 hP1 hD1 hS1 hz1 => ?_)
  try dsimp only at hp2 hP1
  subst hp2
  have hP : va_P G.1 vwCl (zWd G o g h ((zMk x.sc (zupn x.K t u_z1) (zupf x.FA t u_z2) (zupf x.FB t u_z3) (zupf x.FC t u_z4) (zupf x.FE t u_z5) u_O1 x.P x.Qu x.M x.kk x.f0 x.l0 x.b0 x.t0 x.x0 x.y0 x.fx x.fy x.lx x.ly x.tn x.ar x.wx x.wy x.L0 x.n x.wg x.W0 x.Ls m_t1 x.sh m_N1 m_A1 m_B1 m_C1 m_E1 x.Yp x.Yq x.Yo x.ro x.fi x.la x.lo x.hi x.co x.Kc x.Wt x.Ip x.ge x.GX x.GY x.ir))) H1 := hback2 x.OF _ _ H1 hP1
  have hS := hS1
  clear hP1 hD1 hS1
  generalize H1 = H at hP hS hz1 ⊢
  generalize locs1 = locs at hS ⊢
  refine zv_iload S dL_law_367 (lv_at hl 1 rfl) ?_
  refine zv_icmp_eq (tgt := 374) (x := m_t1) (y := u_kr) S (by unfold zR; omega) (by unfold zR; omega) dL_law_369 (by decide) (fun _ => ?_) (fun z => absurd e1 z)
  refine zv_iload S dL_law_374 (lv_at hl 1 rfl) ?_
  refine zv_if_ne (tgt := 391) S (by unfold zR; omega) dL_law_376 (by decide) (fun cz => ?_) (fun cz => ?_)
  · refine zv_goto (tgt := 1601) S dL_law_391 (by decide) ?_
    refine W.widen (k := cells + 10) (n := slots + 100) (by omega) (by omega) ?_
    exact kk _ I2 _ _ hP hD hS _ (lv_sub hl [2, 3, 4, 5, 6] rfl)
  · refine zv_aload_n S dL_law_379 rfl (lv_at hl 3 rfl) ?_
    refine zv_iconst S dL_law_380 ?_
    refine zv_lald S hK hP 0 1 rfl rfl 0 rfl (by decide) (by decide) dL_law_381 ?_
    refine zv_iload S dL_law_382 (lv_at hl 0 rfl) ?_
    refine zv_i2lw S dL_law_384 ?_
    refine zv_lif_same (tgt := 391) S (e3 (by omega)) dL_law_385 dL_law_386 (by decide) ?_
    refine zv_goto (tgt := 1601) S dL_law_391 (by decide) ?_
    refine W.widen (k := cells + 10) (n := slots + 100) (by omega) (by omega) ?_
    exact kk _ I2 _ _ hP hD hS _ (lv_sub hl [2, 3, 4, 5, 6] rfl)
