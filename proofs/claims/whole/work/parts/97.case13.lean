set_option maxRecDepth 20000 in
set_option maxHeartbeats 8000000 in
/-- the law: a round that calls coin -/
theorem zcase_coin {p : Program} {l : Launch} {e : Env} {s : State} {m : MethodId} {below : List Frame} {meth : Method} {c : Code} {G : zG} {b o L : Nat} {g h : Nat → Nat} {sx : Nat → Int} {Q : State → Prop} (C : zCtx p l s m c G b L sx) {i : Int} {k : Nat} (hi : i = ((7 * k : Nat) : Int)) (hk : 7 * k + 7 ≤ L) {cells slots : Nat} (hc : cells + 10 ≤ 601024) (hs : slots + 100 ≤ 7293034) (kk : zAt p l e s m below meth c G b o g h Q i (cells + 10) (slots + 100) 1601) : zAt p l e s m below meth c G b o g h Q i cells slots 1298 := by
  intro x I H locs hP hD hS ls hl
  obtain ⟨S, hN, hK, hE0, hX, hbl, hl0, hL, hR⟩ := C
  have hA : ∀ q : Nat, s.heap.size ≤ q → (fun q : Nat => s.heap.size ≤ q) q := fun _ h => h
  have hbA : ¬ (fun q : Nat => s.heap.size ≤ q) b := Nat.not_le.mpr hbl
  refine zv_aload_n S dL_law_1298 rfl (lv_at hl 3 rfl) ?_
  refine zv_aload_n S dL_law_1299 rfl (lv_at hl 4 rfl) ?_
  refine zv_iload S dL_law_1300 (lv_at hl 0 rfl) ?_
  refine zv_iconst S dL_law_1302 ?_
  refine zv_iadd S dL_law_1303 ?_
  refine zv_sld S hX hbl hbA hS (7 * k + 1) (by omega) (by omega) (by omega) dL_law_1304 ?_
  refine zv_aload_n S dL_law_1305 rfl (lv_at hl 1 rfl) ?_
  obtain ⟨isR, wr, hC, hnC, hRr, hnR, hdis, hback⟩ := zpk_N G o g h x
  refine zch_Si (As := [.ref (g 0), .int (zI (sx (7 * k + 1))), .ref o]) (rest := []) (wr := wr) (n := 3) S hN hK (hE0.kept hS.2.1) hP hD hS hA hl (c_L_coin l hl0 G H.size o x.OF (g 0) (g 1) x.sc (g 42) (g 46) (g 48) (g 49) (g 50) x.n x.wg (sx (7 * k + 1)) I.2.2.2.2.2.1 (hR _)) gL_law_L_coin rfl ⟨rfl, rfl⟩ (by decide +kernel) rfl ⟨Nat.le_of_ble_eq_true rfl, Nat.le_of_ble_eq_true rfl, (by show cells + 2 ≤ 601024; omega), (by show slots + 12 ≤ 7293034; omega)⟩ (zCN) isR hC hRr hnC hnR hdis (by decide) dL_law_1306 rfl (fun r_ u H1 locs1 hp hP1 hD1 hS1 hz1 => ?_)
  obtain ⟨u_kr, u_O1, u_z1⟩ := u
  try dsimp only at hp hP1
  obtain ⟨rfl, hh⟩ := hp
  have hP := hback u_O1 u_z1 x.wg H1 hP1
  have hD := zWd_D ((zMk x.sc x.K x.FA x.FB x.FC x.FE u_O1 x.P x.Qu x.M x.kk x.f0 x.l0 x.b0 x.t0 x.x0 x.y0 x.fx x.fy x.lx x.ly x.tn x.ar x.wx x.wy x.L0 u_z1 x.wg x.W0 x.Ls x.th x.sh x.MN x.MA x.MB x.MC x.ME x.Yp x.Yq x.Yo x.ro x.fi x.la x.lo x.hi x.co x.Kc x.Wt x.Ip x.ge x.GX x.GY x.ir)) hD
  have hS := hS1
  clear hP1 hD1 hS1
  generalize H1 = H at hP hS hz1 ⊢
  generalize locs1 = locs at hS ⊢
  refine zv_istore (lv' := [(5, .int (zI u_kr)), (4, .int (zI i)), (3, .ref o), (2, .ref (h 0)), (1, .ref (g 0)), (0, .ref b)]) S dL_law_1309 hl (by decide) rfl (fun ls hl => ?_)
  refine zv_aload_n S dL_law_1311 rfl (lv_at hl 3 rfl) ?_
  refine zv_aload_n S dL_law_1312 rfl (lv_at hl 5 rfl) ?_
  refine zv_iload S dL_law_1313 (lv_at hl 1 rfl) ?_
  refine zv_iconst S dL_law_1315 ?_
  refine zv_iadd S dL_law_1316 ?_
  refine zv_sld S hX hbl hbA hS (7 * k + 1) (by omega) (by omega) (by omega) dL_law_1317 ?_
  obtain ⟨isR2, wr2, hC2, hnC2, hRr2, hnR2, hdis2, hback2⟩ := zpk_coin G o g h ((zMk x.sc x.K x.FA x.FB x.FC x.FE u_O1 x.P x.Qu x.M x.kk x.f0 x.l0 x.b0 x.t0 x.x0 x.y0 x.fx x.fy x.lx x.ly x.tn x.ar x.wx x.wy x.L0 u_z1 x.wg x.W0 x.Ls x.th x.sh x.MN x.MA x.MB x.MC x.ME x.Yp x.Yq x.Yo x.ro x.fi x.la x.lo x.hi x.co x.Kc x.Wt x.Ip x.ge x.GX x.GY x.ir))
  refine zc_Vi (As := [.int (zI (sx (7 * k + 1)))]) (rest := []) (wr := wr2) (n := 1) S hN hK hP hD hS hA hl (c_X5_coin l G H.size (h 0) x.th x.sh (h 1) (h 2) (h 3) (h 4) (h 5) (h 6) (h 7) (h 8) x.ro x.fi x.la x.lo x.hi x.co (h 9) (h 10) (h 11) x.ge (h 12) (h 13) x.ir x.Kc (sx (7 * k + 1)) I.2.2.2.2.2.2.2.1 (zi_co I) (hR _)) gL_law_X5_coin rfl ⟨rfl, rfl⟩ (by decide +kernel) rfl ⟨Nat.le_of_ble_eq_true rfl, Nat.le_of_ble_eq_true rfl, (by show cells + 2 + 0 ≤ 601024; omega), (by show slots + 12 + 0 ≤ 7293034; omega)⟩ zCcoin isR2 hC2 hRr2 hnC2 hnR2 hdis2 (ci := 5) rfl rfl rfl (by decide) dL_law_1318 rfl (fun r_ u2 H1 locs1 hp2 hP1 hD1 hS1 hz1 => ?_)
  obtain ⟨m_rr, m_t1, m_co1, m_K1⟩ := u2
  try dsimp only at hp2 hP1
  obtain ⟨rfl, hcr⟩ := hp2
  have hP : va_P G.1 vwCl (zWd G o g h ((zMk x.sc x.K x.FA x.FB x.FC x.FE u_O1 x.P x.Qu x.M x.kk x.f0 x.l0 x.b0 x.t0 x.x0 x.y0 x.fx x.fy x.lx x.ly x.tn x.ar x.wx x.wy x.L0 u_z1 x.wg x.W0 x.Ls m_t1 x.sh x.MN x.MA x.MB x.MC x.ME x.Yp x.Yq x.Yo x.ro x.fi x.la x.lo x.hi m_co1 m_K1 x.Wt x.Ip x.ge x.GX x.GY x.ir))) H1 := hback2 x.OF m_t1 m_co1 m_K1 H1 hP1
  have hD := zWd_D ((zMk x.sc x.K x.FA x.FB x.FC x.FE u_O1 x.P x.Qu x.M x.kk x.f0 x.l0 x.b0 x.t0 x.x0 x.y0 x.fx x.fy x.lx x.ly x.tn x.ar x.wx x.wy x.L0 u_z1 x.wg x.W0 x.Ls m_t1 x.sh x.MN x.MA x.MB x.MC x.ME x.Yp x.Yq x.Yo x.ro x.fi x.la x.lo x.hi m_co1 m_K1 x.Wt x.Ip x.ge x.GX x.GY x.ir)) hD
  obtain ⟨e1, e2, e3, I2⟩ := zl_coin (u_kr := u_kr) (u_O1 := u_O1) (u_z1 := u_z1) (m_rr := m_rr) (m_t1 := m_t1) (m_co1 := m_co1) (m_K1 := m_K1) I hh hcr
  have hS := hS1
  clear hP1 hD1 hS1
  generalize H1 = H at hP hS hz1 ⊢
  generalize locs1 = locs at hS ⊢
  refine zv_istore (lv' := [(6, .int (zI m_rr)), (5, .int (zI u_kr)), (4, .int (zI i)), (3, .ref o), (2, .ref (h 0)), (1, .ref (g 0)), (0, .ref b)]) S dL_law_1321 hl (by decide) rfl (fun ls hl => ?_)
  refine zv_aload_n S dL_law_1323 rfl (lv_at hl 4 rfl) ?_
  obtain ⟨isR2, wr2, hC2, hnC2, hRr2, hnR2, hdis2, hback2⟩ := zpk_one G o g h ((zMk x.sc x.K x.FA x.FB x.FC x.FE u_O1 x.P x.Qu x.M x.kk x.f0 x.l0 x.b0 x.t0 x.x0 x.y0 x.fx x.fy x.lx x.ly x.tn x.ar x.wx x.wy x.L0 u_z1 x.wg x.W0 x.Ls m_t1 x.sh x.MN x.MA x.MB x.MC x.ME x.Yp x.Yq x.Yo x.ro x.fi x.la x.lo x.hi m_co1 m_K1 x.Wt x.Ip x.ge x.GX x.GY x.ir))
  refine zc_Vi (As := []) (rest := []) (wr := wr2) (n := 0) S hN hK hP hD hS hA hl (c_X5_thrown l G H.size (h 0) (zSt.th (zMk x.sc x.K x.FA x.FB x.FC x.FE u_O1 x.P x.Qu x.M x.kk x.f0 x.l0 x.b0 x.t0 x.x0 x.y0 x.fx x.fy x.lx x.ly x.tn x.ar x.wx x.wy x.L0 u_z1 x.wg x.W0 x.Ls m_t1 x.sh x.MN x.MA x.MB x.MC x.ME x.Yp x.Yq x.Yo x.ro x.fi x.la x.lo x.hi m_co1 m_K1 x.Wt x.Ip x.ge x.GX x.GY x.ir)) (zSt.sh (zMk x.sc x.K x.FA x.FB x.FC x.FE u_O1 x.P x.Qu x.M x.kk x.f0 x.l0 x.b0 x.t0 x.x0 x.y0 x.fx x.fy x.lx x.ly x.tn x.ar x.wx x.wy x.L0 u_z1 x.wg x.W0 x.Ls m_t1 x.sh x.MN x.MA x.MB x.MC x.ME x.Yp x.Yq x.Yo x.ro x.fi x.la x.lo x.hi m_co1 m_K1 x.Wt x.Ip x.ge x.GX x.GY x.ir)) (h 1) (h 2) (h 3) (h 4) (h 5) (h 6) (h 7) (h 8) (zSt.ro (zMk x.sc x.K x.FA x.FB x.FC x.FE u_O1 x.P x.Qu x.M x.kk x.f0 x.l0 x.b0 x.t0 x.x0 x.y0 x.fx x.fy x.lx x.ly x.tn x.ar x.wx x.wy x.L0 u_z1 x.wg x.W0 x.Ls m_t1 x.sh x.MN x.MA x.MB x.MC x.ME x.Yp x.Yq x.Yo x.ro x.fi x.la x.lo x.hi m_co1 m_K1 x.Wt x.Ip x.ge x.GX x.GY x.ir)) (zSt.fi (zMk x.sc x.K x.FA x.FB x.FC x.FE u_O1 x.P x.Qu x.M x.kk x.f0 x.l0 x.b0 x.t0 x.x0 x.y0 x.fx x.fy x.lx x.ly x.tn x.ar x.wx x.wy x.L0 u_z1 x.wg x.W0 x.Ls m_t1 x.sh x.MN x.MA x.MB x.MC x.ME x.Yp x.Yq x.Yo x.ro x.fi x.la x.lo x.hi m_co1 m_K1 x.Wt x.Ip x.ge x.GX x.GY x.ir)) (zSt.la (zMk x.sc x.K x.FA x.FB x.FC x.FE u_O1 x.P x.Qu x.M x.kk x.f0 x.l0 x.b0 x.t0 x.x0 x.y0 x.fx x.fy x.lx x.ly x.tn x.ar x.wx x.wy x.L0 u_z1 x.wg x.W0 x.Ls m_t1 x.sh x.MN x.MA x.MB x.MC x.ME x.Yp x.Yq x.Yo x.ro x.fi x.la x.lo x.hi m_co1 m_K1 x.Wt x.Ip x.ge x.GX x.GY x.ir)) (zSt.lo (zMk x.sc x.K x.FA x.FB x.FC x.FE u_O1 x.P x.Qu x.M x.kk x.f0 x.l0 x.b0 x.t0 x.x0 x.y0 x.fx x.fy x.lx x.ly x.tn x.ar x.wx x.wy x.L0 u_z1 x.wg x.W0 x.Ls m_t1 x.sh x.MN x.MA x.MB x.MC x.ME x.Yp x.Yq x.Yo x.ro x.fi x.la x.lo x.hi m_co1 m_K1 x.Wt x.Ip x.ge x.GX x.GY x.ir)) (zSt.hi (zMk x.sc x.K x.FA x.FB x.FC x.FE u_O1 x.P x.Qu x.M x.kk x.f0 x.l0 x.b0 x.t0 x.x0 x.y0 x.fx x.fy x.lx x.ly x.tn x.ar x.wx x.wy x.L0 u_z1 x.wg x.W0 x.Ls m_t1 x.sh x.MN x.MA x.MB x.MC x.ME x.Yp x.Yq x.Yo x.ro x.fi x.la x.lo x.hi m_co1 m_K1 x.Wt x.Ip x.ge x.GX x.GY x.ir)) (zSt.co (zMk x.sc x.K x.FA x.FB x.FC x.FE u_O1 x.P x.Qu x.M x.kk x.f0 x.l0 x.b0 x.t0 x.x0 x.y0 x.fx x.fy x.lx x.ly x.tn x.ar x.wx x.wy x.L0 u_z1 x.wg x.W0 x.Ls m_t1 x.sh x.MN x.MA x.MB x.MC x.ME x.Yp x.Yq x.Yo x.ro x.fi x.la x.lo x.hi m_co1 m_K1 x.Wt x.Ip x.ge x.GX x.GY x.ir)) (h 9) (h 10) (h 11) (zSt.ge (zMk x.sc x.K x.FA x.FB x.FC x.FE u_O1 x.P x.Qu x.M x.kk x.f0 x.l0 x.b0 x.t0 x.x0 x.y0 x.fx x.fy x.lx x.ly x.tn x.ar x.wx x.wy x.L0 u_z1 x.wg x.W0 x.Ls m_t1 x.sh x.MN x.MA x.MB x.MC x.ME x.Yp x.Yq x.Yo x.ro x.fi x.la x.lo x.hi m_co1 m_K1 x.Wt x.Ip x.ge x.GX x.GY x.ir)) (h 12) (h 13) (zSt.ir (zMk x.sc x.K x.FA x.FB x.FC x.FE u_O1 x.P x.Qu x.M x.kk x.f0 x.l0 x.b0 x.t0 x.x0 x.y0 x.fx x.fy x.lx x.ly x.tn x.ar x.wx x.wy x.L0 u_z1 x.wg x.W0 x.Ls m_t1 x.sh x.MN x.MA x.MB x.MC x.ME x.Yp x.Yq x.Yo x.ro x.fi x.la x.lo x.hi m_co1 m_K1 x.Wt x.Ip x.ge x.GX x.GY x.ir)) ) gL_law_X5_thrown rfl ⟨rfl, rfl⟩ (by decide +kernel) rfl ⟨Nat.le_of_ble_eq_true rfl, Nat.le_of_ble_eq_true rfl, (by show cells + 2 + 0 + 0 ≤ 601024; omega), (by show slots + 12 + 0 + 0 ≤ 7293034; omega)⟩ zCone isR2 hC2 hRr2 hnC2 hnR2 hdis2 (ci := 5) rfl rfl rfl (by decide) dL_law_1324 rfl (fun r_ u2 H1 locs1 hp2 hP1 hD1 hS1 hz1 => ?_)
  try dsimp only at hp2 hP1
  subst hp2
  have hP : va_P G.1 vwCl (zWd G o g h ((zMk x.sc x.K x.FA x.FB x.FC x.FE u_O1 x.P x.Qu x.M x.kk x.f0 x.l0 x.b0 x.t0 x.x0 x.y0 x.fx x.fy x.lx x.ly x.tn x.ar x.wx x.wy x.L0 u_z1 x.wg x.W0 x.Ls m_t1 x.sh x.MN x.MA x.MB x.MC x.ME x.Yp x.Yq x.Yo x.ro x.fi x.la x.lo x.hi m_co1 m_K1 x.Wt x.Ip x.ge x.GX x.GY x.ir))) H1 := hback2 x.OF _ _ H1 hP1
  have hS := hS1
  clear hP1 hD1 hS1
  generalize H1 = H at hP hS hz1 ⊢
  generalize locs1 = locs at hS ⊢
  refine zv_iload S dL_law_1327 (lv_at hl 1 rfl) ?_
  refine zv_icmp_eq (tgt := 1334) (x := m_t1) (y := u_kr) S (by unfold zR; omega) (by unfold zR; omega) dL_law_1329 (by decide) (fun _ => ?_) (fun z => absurd e1 z)
  refine zv_iload S dL_law_1334 (lv_at hl 1 rfl) ?_
  refine zv_if_ne (tgt := 1351) S (by unfold zR; omega) dL_law_1336 (by decide) (fun cz => ?_) (fun cz => ?_)
  · refine zv_goto (tgt := 1601) S dL_law_1351 (by decide) ?_
    refine W.widen (k := cells + 10) (n := slots + 100) (by omega) (by omega) ?_
    exact kk _ I2 _ _ hP hD hS _ (lv_sub hl [2, 3, 4, 5, 6] rfl)
  · refine zv_aload_n S dL_law_1339 rfl (lv_at hl 3 rfl) ?_
    refine zv_iconst S dL_law_1340 ?_
    refine zv_lald S hK hP 0 1 rfl rfl 0 rfl (by decide) (by decide) dL_law_1341 ?_
    refine zv_iload S dL_law_1342 (lv_at hl 0 rfl) ?_
    refine zv_i2lw S dL_law_1344 ?_
    refine zv_lif_same (tgt := 1351) S (e3 (by omega)) dL_law_1345 dL_law_1346 (by decide) ?_
    refine zv_goto (tgt := 1601) S dL_law_1351 (by decide) ?_
    refine W.widen (k := cells + 10) (n := slots + 100) (by omega) (by omega) ?_
    exact kk _ I2 _ _ hP hD hS _ (lv_sub hl [2, 3, 4, 5, 6] rfl)
