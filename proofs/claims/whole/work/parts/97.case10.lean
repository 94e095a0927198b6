set_option maxRecDepth 20000 in
set_option maxHeartbeats 8000000 in
/-- the law: a round that calls index -/
theorem zcase_index {p : Program} {l : Launch} {e : Env} {s : State} {m : MethodId} {below : List Frame} {meth : Method} {c : Code} {G : zG} {b o L : Nat} {g h : Nat → Nat} {sx : Nat → Int} {Q : State → Prop} (C : zCtx p l s m c G b L sx) {i : Int} {k : Nat} (hi : i = ((7 * k : Nat) : Int)) (hk : 7 * k + 7 ≤ L) {cells slots : Nat} (hc : cells + 10 ≤ 601024) (hs : slots + 100 ≤ 7293034) (kk : zAt p l e s m below meth c G b o g h Q i (cells + 10) (slots + 100) 1601) : zAt p l e s m below meth c G b o g h Q i cells slots 938 := by
  intro x I H locs hP hD hS ls hl
  obtain ⟨S, hN, hK, hE0, hX, hbl, hl0, hL, hR⟩ := C
  have hA : ∀ q : Nat, s.heap.size ≤ q → (fun q : Nat => s.heap.size ≤ q) q := fun _ h => h
  have hbA : ¬ (fun q : Nat => s.heap.size ≤ q) b := Nat.not_le.mpr hbl
  refine zv_aload_n S dL_law_938 rfl (lv_at hl 3 rfl) ?_
  refine zv_aload_n S dL_law_939 rfl (lv_at hl 4 rfl) ?_
  refine zv_iload S dL_law_940 (lv_at hl 0 rfl) ?_
  refine zv_iconst S dL_law_942 ?_
  refine zv_iadd S dL_law_943 ?_
  refine zv_sld S hX hbl hbA hS (7 * k + 1) (by omega) (by omega) (by omega) dL_law_944 ?_
  refine zv_aload_n S dL_law_945 rfl (lv_at hl 4 rfl) ?_
  refine zv_iload S dL_law_946 (lv_at hl 0 rfl) ?_
  refine zv_iconst S dL_law_948 ?_
  refine zv_iadd S dL_law_949 ?_
  refine zv_sld S hX hbl hbA hS (7 * k + 2) (by omega) (by omega) (by omega) dL_law_950 ?_
  refine zv_aload_n S dL_law_951 rfl (lv_at hl 4 rfl) ?_
  refine zv_iload S dL_law_952 (lv_at hl 0 rfl) ?_
  refine zv_iconst S dL_law_954 ?_
  refine zv_iadd S dL_law_955 ?_
  refine zv_sld S hX hbl hbA hS (7 * k + 3) (by omega) (by omega) (by omega) dL_law_956 ?_
  refine zv_aload_n S dL_law_957 rfl (lv_at hl 4 rfl) ?_
  refine zv_iload S dL_law_958 (lv_at hl 0 rfl) ?_
  refine zv_iconst S dL_law_960 ?_
  refine zv_iadd S dL_law_961 ?_
  refine zv_sld S hX hbl hbA hS (7 * k + 4) (by omega) (by omega) (by omega) dL_law_962 ?_
  refine zv_aload_n S dL_law_963 rfl (lv_at hl 1 rfl) ?_
  obtain ⟨isR, wr, hC, hnC, hRr, hnR, hdis, hback⟩ := zpk_I G o g h x
  refine zch_Si (As := [.ref (g 0), .int (zI (sx (7 * k + 1))), .int (zI (sx (7 * k + 2))), .int (zI (sx (7 * k + 3))), .int (zI (sx (7 * k + 4))), .ref o]) (rest := []) (wr := wr) (n := 6) S hN hK (hE0.kept hS.2.1) hP hD hS hA hl (c_L_index l hl0 G H.size o x.OF (g 0) (g 1) x.sc (g 42) (g 46) (g 48) (g 47) x.fx x.fy x.lx x.ly x.tn x.ar x.wx x.wy (sx (7 * k + 1)) (sx (7 * k + 2)) (sx (7 * k + 3)) (sx (7 * k + 4)) (hR _) (hR _) (hR _) (hR _)) gL_law_L_index rfl ⟨rfl, rfl⟩ (by decide +kernel) rfl ⟨Nat.le_of_ble_eq_true rfl, Nat.le_of_ble_eq_true rfl, (by show cells + 5 ≤ 601024; omega), (by show slots + 30 ≤ 7293034; omega)⟩ (zCI) isR hC hRr hnC hnR hdis (by decide) dL_law_964 rfl (fun r_ u H1 locs1 hp hP1 hD1 hS1 hz1 => ?_)
  obtain ⟨u_kr, u_O1, u_n1, u_n2, u_n3, u_n4, u_n5, u_n6⟩ := u
  try dsimp only at hp hP1
  obtain ⟨rfl, hh⟩ := hp
  have hP := hback u_O1 u_n1 u_n2 u_n3 u_n4 u_n5 u_n6 x.wx x.wy H1 hP1
  have hD := zWd_D ((zMk x.sc x.K x.FA x.FB x.FC x.FE u_O1 x.P x.Qu x.M x.kk x.f0 x.l0 x.b0 x.t0 x.x0 x.y0 u_n1 u_n2 u_n3 u_n4 u_n5 u_n6 x.wx x.wy x.L0 x.n x.wg x.W0 x.Ls x.th x.sh x.MN x.MA x.MB x.MC x.ME x.Yp x.Yq x.Yo x.ro x.fi x.la x.lo x.hi x.co x.Kc x.Wt x.Ip x.ge x.GX x.GY x.ir)) hD
  have hS := hS1
  clear hP1 hD1 hS1
  generalize H1 = H at hP hS hz1 ⊢
  generalize locs1 = locs at hS ⊢
  refine zv_istore (lv' := [(5, .int (zI u_kr)), (4, .int (zI i)), (3, .ref o), (2, .ref (h 0)), (1, .ref (g 0)), (0, .ref b)]) S dL_law_967 hl (by decide) rfl (fun ls hl => ?_)
  refine zv_aload_n S dL_law_969 rfl (lv_at hl 3 rfl) ?_
  refine zv_aload_n S dL_law_970 rfl (lv_at hl 5 rfl) ?_
  refine zv_iload S dL_law_971 (lv_at hl 1 rfl) ?_
  refine zv_iconst S dL_law_973 ?_
  refine zv_iadd S dL_law_974 ?_
  refine zv_sld S hX hbl hbA hS (7 * k + 1) (by omega) (by omega) (by omega) dL_law_975 ?_
  refine zv_aload_n S dL_law_976 rfl (lv_at hl 5 rfl) ?_
  refine zv_iload S dL_law_977 (lv_at hl 1 rfl) ?_
  refine zv_iconst S dL_law_979 ?_
  refine zv_iadd S dL_law_980 ?_
  refine zv_sld S hX hbl hbA hS (7 * k + 2) (by omega) (by omega) (by omega) dL_law_981 ?_
  refine zv_aload_n S dL_law_982 rfl (lv_at hl 5 rfl) ?_
  refine zv_iload S dL_law_983 (lv_at hl 1 rfl) ?_
  refine zv_iconst S dL_law_985 ?_
  refine zv_iadd S dL_law_986 ?_
  refine zv_sld S hX hbl hbA hS (7 * k + 3) (by omega) (by omega) (by omega) dL_law_987 ?_
  refine zv_aload_n S dL_law_988 rfl (lv_at hl 5 rfl) ?_
  refine zv_iload S dL_law_989 (lv_at hl 1 rfl) ?_
  refine zv_iconst S dL_law_991 ?_
  refine zv_iadd S dL_law_992 ?_
  refine zv_sld S hX hbl hbA hS (7 * k + 4) (by omega) (by omega) (by omega) dL_law_993 ?_
  obtain ⟨isR2, wr2, hC2, hnC2, hRr2, hnR2, hdis2, hback2⟩ := zpk_one G o g h ((zMk x.sc x.K x.FA x.FB x.FC x.FE u_O1 x.P x.Qu x.M x.kk x.f0 x.l0 x.b0 x.t0 x.x0 x.y0 u_n1 u_n2 u_n3 u_n4 u_n5 u_n6 x.wx x.wy x.L0 x.n x.wg x.W0 x.Ls x.th x.sh x.MN x.MA x.MB x.MC x.ME x.Yp x.Yq x.Yo x.ro x.fi x.la x.lo x.hi x.co x.Kc x.Wt x.Ip x.ge x.GX x.GY x.ir))
  refine zc_Vi (As := [.int (zI (sx (7 * k + 1))), .int (zI (sx (7 * k + 2))), .int (zI (sx (7 * k + 3))), .int (zI (sx (7 * k + 4)))]) (rest := []) (wr := wr2) (n := 4) S hN hK hP hD hS hA hl (c_X5_index l G H.size (h 0) x.th x.sh (h 1) (h 2) (h 3) (h 4) (h 5) (h 6) (h 7) (h 8) x.ro x.fi x.la x.lo x.hi x.co (h 9) (h 10) (h 11) x.ge (h 12) (h 13) x.ir (sx (7 * k + 1)) (sx (7 * k + 2)) (sx (7 * k + 3)) (sx (7 * k + 4)) (hR _) (hR _) (hR _) (hR _)) gL_law_X5_index rfl ⟨rfl, rfl⟩ (by decide +kernel) rfl ⟨Nat.le_of_ble_eq_true rfl, Nat.le_of_ble_eq_true rfl, (by show cells + 5 + 0 ≤ 601024; omega), (by show slots + 30 + 0 ≤ 7293034; omega)⟩ zCone isR2 hC2 hRr2 hnC2 hnR2 hdis2 (ci := 5) rfl rfl rfl (by decide) dL_law_994 rfl (fun r_ u2 H1 locs1 hp2 hP1 hD1 hS1 hz1 => ?_)
  obtain ⟨m_rr, m_t1⟩ := u2
  try dsimp only at hp2 hP1
  obtain ⟨rfl, hix⟩ := hp2
  have hP : va_P G.1 vwCl (zWd G o g h ((zMk x.sc x.K x.FA x.FB x.FC x.FE u_O1 x.P x.Qu x.M x.kk x.f0 x.l0 x.b0 x.t0 x.x0 x.y0 u_n1 u_n2 u_n3 u_n4 u_n5 u_n6 x.wx x.wy x.L0 x.n x.wg x.W0 x.Ls m_t1 x.sh x.MN x.MA x.MB x.MC x.ME x.Yp x.Yq x.Yo x.ro x.fi x.la x.lo x.hi x.co x.Kc x.Wt x.Ip x.ge x.GX x.GY x.ir))) H1 := hback2 x.OF m_t1 x.sh H1 hP1
  have hD := zWd_D ((zMk x.sc x.K x.FA x.FB x.FC x.FE u_O1 x.P x.Qu x.M x.kk x.f0 x.l0 x.b0 x.t0 x.x0 x.y0 u_n1 u_n2 u_n3 u_n4 u_n5 u_n6 x.wx x.wy x.L0 x.n x.wg x.W0 x.Ls m_t1 x.sh x.MN x.MA x.MB x.MC x.ME x.Yp x.Yq x.Yo x.ro x.fi x.la x.lo x.hi x.co x.Kc x.Wt x.Ip x.ge x.GX x.GY x.ir)) hD
  obtain ⟨e1, e2, e3, I2⟩ := zl_index (u_kr := u_kr) (u_O1 := u_O1) (u_n1 := u_n1) (u_n2 := u_n2) (u_n3 := u_n3) (u_n4 := u_n4) (u_n5 := u_n5) (u_n6 := u_n6) (m_rr := m_rr) (m_t1 := m_t1) I hh hix
  have hS := hS1
  clear hP1 hD1 hS1
  generalize H1 = H at hP hS hz1 ⊢
  generalize locs1 = locs at hS ⊢
  refine zv_istore (lv' := [(6, .int (zI m_rr)), (5, .int (zI u_kr)), (4, .int (zI i)), (3, .ref o), (2, .ref (h 0)), (1, .ref (g 0)), (0, .ref b)]) S dL_law_997 hl (by decide) rfl (fun ls hl => ?_)
  refine zv_aload_n S dL_law_999 rfl (lv_at hl 4 rfl) ?_
  obtain ⟨isR2, wr2, hC2, hnC2, hRr2, hnR2, hdis2, hback2⟩ := zpk_one G o g h ((zMk x.sc x.K x.FA x.FB x.FC x.FE u_O1 x.P x.Qu x.M x.kk x.f0 x.l0 x.b0 x.t0 x.x0 x.y0 u_n1 u_n2 u_n3 u_n4 u_n5 u_n6 x.wx x.wy x.L0 x.n x.wg x.W0 x.Ls m_t1 x.sh x.MN x.MA x.MB x.MC x.ME x.Yp x.Yq x.Yo x.ro x.fi x.la x.lo x.hi x.co x.Kc x.Wt x.Ip x.ge x.GX x.GY x.ir))
  refine zc_Vi (As := []) (rest := []) (wr := wr2) (n := 0) S hN hK hP hD hS hA hl (c_X5_thrown l G H.size (h 0) (zSt.th (zMk x.sc x.K x.FA x.FB x.FC x.FE u_O1 x.P x.Qu x.M x.kk x.f0 x.l0 x.b0 x.t0 x.x0 x.y0 u_n1 u_n2 u_n3 u_n4 u_n5 u_n6 x.wx x.wy x.L0 x.n x.wg x.W0 x.Ls m_t1 x.sh x.MN x.MA x.MB x.MC x.ME x.Yp x.Yq x.Yo x.ro x.fi x.la x.lo x.hi x.co x.Kc x.Wt x.Ip x.ge x.GX x.GY x.ir)) (zSt.sh (zMk x.sc x.K x.FA x.FB x.FC x.FE u_O1 x.P x.Qu x.M x.kk x.f0 x.l0 x.b0 x.t0 x.x0 x.y0 u_n1 u_n2 u_n3 u_n4 u_n5 u_n6 x.wx x.wy x.L0 x.n x.wg x.W0 x.Ls m_t1 x.sh x.MN x.MA x.MB x.MC x.ME x.Yp x.Yq x.Yo x.ro x.fi x.la x.lo x.hi x.co x.Kc x.Wt x.Ip x.ge x.GX x.GY x.ir)) (h 1) (h 2) (h 3) (h 4) (h 5) (h 6) (h 7) (h 8) (zSt.ro (zMk x.sc x.K x.FA x.FB x.FC x.FE u_O1 x.P x.Qu x.M x.kk x.f0 x.l0 x.b0 x.t0 x.x0 x.y0 u_n1 u_n2 u_n3 u_n4 u_n5 u_n6 x.wx x.wy x.L0 x.n x.wg x.W0 x.Ls m_t1 x.sh x.MN x.MA x.MB x.MC x.ME x.Yp x.Yq x.Yo x.ro x.fi x.la x.lo x.hi x.co x.Kc x.Wt x.Ip x.ge x.GX x.GY x.ir)) (zSt.fi (zMk x.sc x.K x.FA x.FB x.FC x.FE u_O1 x.P x.Qu x.M x.kk x.f0 x.l0 x.b0 x.t0 x.x0 x.y0 u_n1 u_n2 u_n3 u_n4 u_n5 u_n6 x.wx x.wy x.L0 x.n x.wg x.W0 x.Ls m_t1 x.sh x.MN x.MA x.MB x.MC x.ME x.Yp x.Yq x.Yo x.ro x.fi x.la x.lo x.hi x.co x.Kc x.Wt x.Ip x.ge x.GX x.GY x.ir)) (zSt.la (zMk x.sc x.K x.FA x.FB x.FC x.FE u_O1 x.P x.Qu x.M x.kk x.f0 x.l0 x.b0 x.t0 x.x0 x.y0 u_n1 u_n2 u_n3 u_n4 u_n5 u_n6 x.wx x.wy x.L0 x.n x.wg x.W0 x.Ls m_t1 x.sh x.MN x.MA x.MB x.MC x.ME x.Yp x.Yq x.Yo x.ro x.fi x.la x.lo x.hi x.co x.Kc x.Wt x.Ip x.ge x.GX x.GY x.ir)) (zSt.lo (zMk x.sc x.K x.FA x.FB x.FC x.FE u_O1 x.P x.Qu x.M x.kk x.f0 x.l0 x.b0 x.t0 x.x0 x.y0 u_n1 u_n2 u_n3 u_n4 u_n5 u_n6 x.wx x.wy x.L0 x.n x.wg x.W0 x.Ls m_t1 x.sh x.MN x.MA x.MB x.MC x.ME x.Yp x.Yq x.Yo x.ro x.fi x.la x.lo x.hi x.co x.Kc x.Wt x.Ip x.ge x.GX x.GY x.ir)) (zSt.hi (zMk x.sc x.K x.FA x.FB x.FC x.FE u_O1 x.P x.Qu x.M x.kk x.f0 x.l0 x.b0 x.t0 x.x0 x.y0 u_n1 u_n2 u_n3 u_n4 u_n5 u_n6 x.wx x.wy x.L0 x.n x.wg x.W0 x.Ls m_t1 x.sh x.MN x.MA x.MB x.MC x.ME x.Yp x.Yq x.Yo x.ro x.fi x.la x.lo x.hi x.co x.Kc x.Wt x.Ip x.ge x.GX x.GY x.ir)) (zSt.co (zMk x.sc x.K x.FA x.FB x.FC x.FE u_O1 x.P x.Qu x.M x.kk x.f0 x.l0 x.b0 x.t0 x.x0 x.y0 u_n1 u_n2 u_n3 u_n4 u_n5 u_n6 x.wx x.wy x.L0 x.n x.wg x.W0 x.Ls m_t1 x.sh x.MN x.MA x.MB x.MC x.ME x.Yp x.Yq x.Yo x.ro x.fi x.la x.lo x.hi x.co x.Kc x.Wt x.Ip x.ge x.GX x.GY x.ir)) (h 9) (h 10) (h 11) (zSt.ge (zMk x.sc x.K x.FA x.FB x.FC x.FE u_O1 x.P x.Qu x.M x.kk x.f0 x.l0 x.b0 x.t0 x.x0 x.y0 u_n1 u_n2 u_n3 u_n4 u_n5 u_n6 x.wx x.wy x.L0 x.n x.wg x.W0 x.Ls m_t1 x.sh x.MN x.MA x.MB x.MC x.ME x.Yp x.Yq x.Yo x.ro x.fi x.la x.lo x.hi x.co x.Kc x.Wt x.Ip x.ge x.GX x.GY x.ir)) (h 12) (h 13) (zSt.ir (zMk x.sc x.K x.FA x.FB x.FC x.FE u_O1 x.P x.Qu x.M x.kk x.f0 x.l0 x.b0 x.t0 x.x0 x.y0 u_n1 u_n2 u_n3 u_n4 u_n5 u_n6 x.wx x.wy x.L0 x.n x.wg x.W0 x.Ls m_t1 x.sh x.MN x.MA x.MB x.MC x.ME x.Yp x.Yq x.Yo x.ro x.fi x.la x.lo x.hi x.co x.Kc x.Wt x.Ip x.ge x.GX x.GY x.ir)) ) gL_law_X5_thrown rfl ⟨rfl, rfl⟩ (by decide +kernel) rfl ⟨Nat.le_of_ble_eq_true rfl, Nat.le_of_ble_eq_true rfl, (by show cells + 5 + 0 + 0 ≤ 601024; omega), (by show slots + 30 + 0 + 0 ≤ 7293034; omega)⟩ zCone isR2 hC2 hRr2 hnC2 hnR2 hdis2 (ci := 5) rfl rfl rfl (by decide) dL_law_1000 rfl (fun r_ u2 H1 locs1 hp2 hP1 hD1 hS1 hz1 => ?_)
  try dsimp only at hp2 hP1
  subst hp2
  have hP : va_P G.1 vwCl (zWd G o g h ((zMk x.sc x.K x.FA x.FB x.FC x.FE u_O1 x.P x.Qu x.M x.kk x.f0 x.l0 x.b0 x.t0 x.x0 x.y0 u_n1 u_n2 u_n3 u_n4 u_n5 u_n6 x.wx x.wy x.L0 x.n x.wg x.W0 x.Ls m_t1 x.sh x.MN x.MA x.MB x.MC x.ME x.Yp x.Yq x.Yo x.ro x.fi x.la x.lo x.hi x.co x.Kc x.Wt x.Ip x.ge x.GX x.GY x.ir))) H1 := hback2 x.OF _ _ H1 hP1
  have hS := hS1
  clear hP1 hD1 hS1
  generalize H1 = H at hP hS hz1 ⊢
  generalize locs1 = locs at hS ⊢
  refine zv_iload S dL_law_1003 (lv_at hl 1 rfl) ?_
  refine zv_icmp_eq (tgt := 1010) (x := m_t1) (y := u_kr) S (by unfold zR; omega) (by unfold zR; omega) dL_law_1005 (by decide) (fun _ => ?_) (fun z => absurd e1 z)
  refine zv_iload S dL_law_1010 (lv_at hl 1 rfl) ?_
  refine zv_if_ne (tgt := 1027) S (by unfold zR; omega) dL_law_1012 (by decide) (fun cz => ?_) (fun cz => ?_)
  · refine zv_goto (tgt := 1601) S dL_law_1027 (by decide) ?_
    refine W.widen (k := cells + 10) (n := slots + 100) (by omega) (by omega) ?_
    exact kk _ I2 _ _ hP hD hS _ (lv_sub hl [2, 3, 4, 5, 6] rfl)
  · refine zv_aload_n S dL_law_1015 rfl (lv_at hl 3 rfl) ?_
    refine zv_iconst S dL_law_1016 ?_
    refine zv_lald S hK hP 0 1 rfl rfl 0 rfl (by decide) (by decide) dL_law_1017 ?_
    refine zv_iload S dL_law_1018 (lv_at hl 0 rfl) ?_
    refine zv_i2lw S dL_law_1020 ?_
    refine zv_lif_same (tgt := 1027) S (e3 (by omega)) dL_law_1021 dL_law_1022 (by decide) ?_
    refine zv_goto (tgt := 1601) S dL_law_1027 (by decide) ?_
    refine W.widen (k := cells + 10) (n := slots + 100) (by omega) (by omega) ?_
    exact kk _ I2 _ _ hP hD hS _ (lv_sub hl [2, 3, 4, 5, 6] rfl)
