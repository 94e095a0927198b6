set_option maxRecDepth 20000 in
set_option maxHeartbeats 8000000 in
/-- the law: a round that calls generatorAnew -/
theorem zcase_generatorAnew {p : Program} {l : Launch} {e : Env} {s : State} {m : MethodId} {below : List Frame} {meth : Method} {c : Code} {G : zG} {b o L : Nat} {g h : Nat → Nat} {sx : Nat → Int} {Q : State → Prop} (C : zCtx p l s m c G b L sx) {i : Int} {k : Nat} (hi : i = ((7 * k : Nat) : Int)) (hk : 7 * k + 7 ≤ L) {cells slots : Nat} (hc : cells + 10 ≤ 601024) (hs : slots + 100 ≤ 7293034) (kk : zAt p l e s m below meth c G b o g h Q i (cells + 10) (slots + 100) 1601) : zAt p l e s m below meth c G b o g h Q i cells slots 1164 := by
  intro x I H locs hP hD hS ls hl
  obtain ⟨S, hN, hK, hE0, hX, hbl, hl0, hL, hR⟩ := C
  have hA : ∀ q : Nat, s.heap.size ≤ q → (fun q : Nat => s.heap.size ≤ q) q := fun _ h => h
  have hbA : ¬ (fun q : Nat => s.heap.size ≤ q) b := Nat.not_le.mpr hbl
  refine zv_aload_n S dL_law_1164 rfl (lv_at hl 3 rfl) ?_
  refine zv_aload_n S dL_law_1165 rfl (lv_at hl 4 rfl) ?_
  refine zv_iload S dL_law_1166 (lv_at hl 0 rfl) ?_
  refine zv_iconst S dL_law_1168 ?_
  refine zv_iadd S dL_law_1169 ?_
  refine zv_sld S hX hbl hbA hS (7 * k + 1) (by omega) (by omega) (by omega) dL_law_1170 ?_
  refine zv_aload_n S dL_law_1171 rfl (lv_at hl 4 rfl) ?_
  refine zv_iload S dL_law_1172 (lv_at hl 0 rfl) ?_
  refine zv_iconst S dL_law_1174 ?_
  refine zv_iadd S dL_law_1175 ?_
  refine zv_sld S hX hbl hbA hS (7 * k + 2) (by omega) (by omega) (by omega) dL_law_1176 ?_
  refine zv_aload_n S dL_law_1177 rfl (lv_at hl 4 rfl) ?_
  refine zv_iload S dL_law_1178 (lv_at hl 0 rfl) ?_
  refine zv_iconst S dL_law_1180 ?_
  refine zv_iadd S dL_law_1181 ?_
  refine zv_sld S hX hbl hbA hS (7 * k + 3) (by omega) (by omega) (by omega) dL_law_1182 ?_
  refine zv_aload_n S dL_law_1183 rfl (lv_at hl 4 rfl) ?_
  refine zv_iload S dL_law_1184 (lv_at hl 0 rfl) ?_
  refine zv_iconst S dL_law_1186 ?_
  refine zv_iadd S dL_law_1187 ?_
  refine zv_sld S hX hbl hbA hS (7 * k + 4) (by omega) (by omega) (by omega) dL_law_1188 ?_
  refine zv_aload_n S dL_law_1189 rfl (lv_at hl 4 rfl) ?_
  refine zv_iload S dL_law_1190 (lv_at hl 0 rfl) ?_
  refine zv_iconst S dL_law_1192 ?_
  refine zv_iadd S dL_law_1193 ?_
  refine zv_sld S hX hbl hbA hS (7 * k + 5) (by omega) (by omega) (by omega) dL_law_1194 ?_
  refine zv_aload_n S dL_law_1195 rfl (lv_at hl 4 rfl) ?_
  refine zv_iload S dL_law_1196 (lv_at hl 0 rfl) ?_
  refine zv_bipush (v := 6) S dL_law_1198 (by decide) ?_
  refine zv_iadd S dL_law_1200 ?_
  refine zv_sld S hX hbl hbA hS (7 * k + 6) (by omega) (by omega) (by omega) dL_law_1201 ?_
  refine zv_bool S (hR _) dL_law_1202 dL_law_1205 dL_law_1206 dL_law_1209 ?_
  refine zv_aload_n S dL_law_1210 rfl (lv_at hl 1 rfl) ?_
  obtain ⟨isR, wr, hC, hnC, hRr, hnR, hdis, hback⟩ := zpk_I G o g h x
  refine zch_Si (As := [.ref (g 0), .int (zI (sx (7 * k + 1))), .int (zI (sx (7 * k + 2))), .int (zI (sx (7 * k + 3))), .int (zI (sx (7 * k + 4))), .int (zI (sx (7 * k + 5))), .int (zI (zb (sx (7 * k + 6) ≠ 0))), .ref o]) (rest := []) (wr := wr) (n := 8) S hN hK (hE0.kept hS.2.1) hP hD hS hA hl (c_L_generatorAnew l hl0 G H.size o x.OF (g 0) (g 1) x.sc (g 42) (g 46) (g 48) (g 47) x.fx x.fy x.lx x.ly x.tn x.ar x.wx x.wy (sx (7 * k + 1)) (sx (7 * k + 2)) (sx (7 * k + 3)) (sx (7 * k + 4)) (sx (7 * k + 5)) (zb (sx (7 * k + 6) ≠ 0)) (hR _) (hR _) (hR _) (hR _) (hR _) (zb_01 _)) gL_law_L_generatorAnew rfl ⟨rfl, rfl⟩ (by decide +kernel) rfl ⟨Nat.le_of_ble_eq_true rfl, Nat.le_of_ble_eq_true rfl, (by show cells + 7 ≤ 601024; omega), (by show slots + 42 ≤ 7293034; omega)⟩ (zCI) isR hC hRr hnC hnR hdis (by decide) dL_law_1211 rfl (fun r_ u H1 locs1 hp hP1 hD1 hS1 hz1 => ?_)
  obtain ⟨u_kr, u_O1, u_rr, u_n1, u_n2, u_n3, u_n4, u_n5, u_n6, u_n7, u_n8, u_X, u_T, u_N⟩ := u
  try dsimp only at hp hP1
  obtain ⟨rfl, hh⟩ := hp
  have hP := hback u_O1 u_n1 u_n2 u_n3 u_n4 u_n5 u_n6 u_n7 u_n8 H1 hP1
  have hD := zWd_D ((zMk x.sc x.K x.FA x.FB x.FC x.FE u_O1 x.P x.Qu x.M x.kk x.f0 x.l0 x.b0 x.t0 x.x0 x.y0 u_n1 u_n2 u_n3 u_n4 u_n5 u_n6 u_n7 u_n8 x.L0 x.n x.wg x.W0 x.Ls x.th x.sh x.MN x.MA x.MB x.MC x.ME x.Yp x.Yq x.Yo x.ro x.fi x.la x.lo x.hi x.co x.Kc x.Wt x.Ip x.ge x.GX x.GY x.ir)) hD
  have hS := hS1
  clear hP1 hD1 hS1
  generalize H1 = H at hP hS hz1 ⊢
  generalize locs1 = locs at hS ⊢
  refine zv_istore (lv' := [(5, .int (zI u_kr)), (4, .int (zI i)), (3, .ref o), (2, .ref (h 0)), (1, .ref (g 0)), (0, .ref b)]) S dL_law_1214 hl (by decide) rfl (fun ls hl => ?_)
  refine zv_aload_n S dL_law_1216 rfl (lv_at hl 3 rfl) ?_
  refine zv_aload_n S dL_law_1217 rfl (lv_at hl 5 rfl) ?_
  refine zv_iload S dL_law_1218 (lv_at hl 1 rfl) ?_
  refine zv_iconst S dL_law_1220 ?_
  refine zv_iadd S dL_law_1221 ?_
  refine zv_sld S hX hbl hbA hS (7 * k + 1) (by omega) (by omega) (by omega) dL_law_1222 ?_
  refine zv_aload_n S dL_law_1223 rfl (lv_at hl 5 rfl) ?_
  refine zv_iload S dL_law_1224 (lv_at hl 1 rfl) ?_
  refine zv_iconst S dL_law_1226 ?_
  refine zv_iadd S dL_law_1227 ?_
  refine zv_sld S hX hbl hbA hS (7 * k + 2) (by omega) (by omega) (by omega) dL_law_1228 ?_
  refine zv_aload_n S dL_law_1229 rfl (lv_at hl 5 rfl) ?_
  refine zv_iload S dL_law_1230 (lv_at hl 1 rfl) ?_
  refine zv_iconst S dL_law_1232 ?_
  refine zv_iadd S dL_law_1233 ?_
  refine zv_sld S hX hbl hbA hS (7 * k + 3) (by omega) (by omega) (by omega) dL_law_1234 ?_
  refine zv_aload_n S dL_law_1235 rfl (lv_at hl 5 rfl) ?_
  refine zv_iload S dL_law_1236 (lv_at hl 1 rfl) ?_
  refine zv_iconst S dL_law_1238 ?_
  refine zv_iadd S dL_law_1239 ?_
  refine zv_sld S hX hbl hbA hS (7 * k + 4) (by omega) (by omega) (by omega) dL_law_1240 ?_
  refine zv_aload_n S dL_law_1241 rfl (lv_at hl 5 rfl) ?_
  refine zv_iload S dL_law_1242 (lv_at hl 1 rfl) ?_
  refine zv_iconst S dL_law_1244 ?_
  refine zv_iadd S dL_law_1245 ?_
  refine zv_sld S hX hbl hbA hS (7 * k + 5) (by omega) (by omega) (by omega) dL_law_1246 ?_
  refine zv_aload_n S dL_law_1247 rfl (lv_at hl 5 rfl) ?_
  refine zv_iload S dL_law_1248 (lv_at hl 1 rfl) ?_
  refine zv_bipush (v := 6) S dL_law_1250 (by decide) ?_
  refine zv_iadd S dL_law_1252 ?_
  refine zv_sld S hX hbl hbA hS (7 * k + 6) (by omega) (by omega) (by omega) dL_law_1253 ?_
  refine zv_bool S (hR _) dL_law_1254 dL_law_1257 dL_law_1258 dL_law_1261 ?_
  obtain ⟨isR2, wr2, hC2, hnC2, hRr2, hnR2, hdis2, hback2⟩ := zpk_gen G o g h ((zMk x.sc x.K x.FA x.FB x.FC x.FE u_O1 x.P x.Qu x.M x.kk x.f0 x.l0 x.b0 x.t0 x.x0 x.y0 u_n1 u_n2 u_n3 u_n4 u_n5 u_n6 u_n7 u_n8 x.L0 x.n x.wg x.W0 x.Ls x.th x.sh x.MN x.MA x.MB x.MC x.ME x.Yp x.Yq x.Yo x.ro x.fi x.la x.lo x.hi x.co x.Kc x.Wt x.Ip x.ge x.GX x.GY x.ir))
  refine zc_Vi (As := [.int (zI (sx (7 * k + 1))), .int (zI (sx (7 * k + 2))), .int (zI (sx (7 * k + 3))), .int (zI (sx (7 * k + 4))), .int (zI (sx (7 * k + 5))), .int (zI (zb (sx (7 * k + 6) ≠ 0)))]) (rest := []) (wr := wr2) (n := 6) S hN hK hP hD hS hA hl (c_X5_generatorAnew l G H.size (h 0) x.th x.sh (h 1) (h 2) (h 3) (h 4) (h 5) (h 6) (h 7) (h 8) x.ro x.fi x.la x.lo x.hi x.co (h 9) (h 10) (h 11) x.ge (h 12) (h 13) x.ir x.GX x.GY (sx (7 * k + 1)) (sx (7 * k + 2)) (sx (7 * k + 3)) (sx (7 * k + 4)) (sx (7 * k + 5)) (zb (sx (7 * k + 6) ≠ 0)) (hR _) (hR _) (hR _) (hR _) (hR _) (zb_01 _)) gL_law_X5_generatorAnew rfl ⟨rfl, rfl⟩ (by decide +kernel) rfl ⟨Nat.le_of_ble_eq_true rfl, Nat.le_of_ble_eq_true rfl, (by show cells + 7 + 0 ≤ 601024; omega), (by show slots + 42 + 0 ≤ 7293034; omega)⟩ zCgen isR2 hC2 hRr2 hnC2 hnR2 hdis2 (ci := 5) rfl rfl rfl (by decide) dL_law_1262 rfl (fun r_ u2 H1 locs1 hp2 hP1 hD1 hS1 hz1 => ?_)
  obtain ⟨m_rr, m_t1, m_g1, m_X1, m_Y1⟩ := u2
  try dsimp only at hp2 hP1
  obtain ⟨rfl, hgn⟩ := hp2
  have hP : va_P G.1 vwCl (zWd G o g h ((zMk x.sc x.K x.FA x.FB x.FC x.FE u_O1 x.P x.Qu x.M x.kk x.f0 x.l0 x.b0 x.t0 x.x0 x.y0 u_n1 u_n2 u_n3 u_n4 u_n5 u_n6 u_n7 u_n8 x.L0 x.n x.wg x.W0 x.Ls m_t1 x.sh x.MN x.MA x.MB x.MC x.ME x.Yp x.Yq x.Yo x.ro x.fi x.la x.lo x.hi x.co x.Kc x.Wt x.Ip m_g1 m_X1 m_Y1 x.ir))) H1 := hback2 x.OF m_t1 m_g1 m_X1 m_Y1 H1 hP1
  have hD := zWd_D ((zMk x.sc x.K x.FA x.FB x.FC x.FE u_O1 x.P x.Qu x.M x.kk x.f0 x.l0 x.b0 x.t0 x.x0 x.y0 u_n1 u_n2 u_n3 u_n4 u_n5 u_n6 u_n7 u_n8 x.L0 x.n x.wg x.W0 x.Ls m_t1 x.sh x.MN x.MA x.MB x.MC x.ME x.Yp x.Yq x.Yo x.ro x.fi x.la x.lo x.hi x.co x.Kc x.Wt x.Ip m_g1 m_X1 m_Y1 x.ir)) hD
  obtain ⟨e1, e2, e3, I2⟩ := zl_generatorAnew (u_kr := u_kr) (u_O1 := u_O1) (u_rr := u_rr) (u_n1 := u_n1) (u_n2 := u_n2) (u_n3 := u_n3) (u_n4 := u_n4) (u_n5 := u_n5) (u_n6 := u_n6) (u_n7 := u_n7) (u_n8 := u_n8) (u_X := u_X) (u_T := u_T) (u_N := u_N) (m_rr := m_rr) (m_t1 := m_t1) (m_g1 := m_g1) (m_X1 := m_X1) (m_Y1 := m_Y1) I hh hgn
  have hS := hS1
  clear hP1 hD1 hS1
  generalize H1 = H at hP hS hz1 ⊢
  generalize locs1 = locs at hS ⊢
  refine zv_istore (lv' := [(6, .int (zI m_rr)), (5, .int (zI u_kr)), (4, .int (zI i)), (3, .ref o), (2, .ref (h 0)), (1, .ref (g 0)), (0, .ref b)]) S dL_law_1265 hl (by decide) rfl (fun ls hl => ?_)
  refine zv_aload_n S dL_law_1267 rfl (lv_at hl 4 rfl) ?_
  obtain ⟨isR2, wr2, hC2, hnC2, hRr2, hnR2, hdis2, hback2⟩ := zpk_one G o g h ((zMk x.sc x.K x.FA x.FB x.FC x.FE u_O1 x.P x.Qu x.M x.kk x.f0 x.l0 x.b0 x.t0 x.x0 x.y0 u_n1 u_n2 u_n3 u_n4 u_n5 u_n6 u_n7 u_n8 x.L0 x.n x.wg x.W0 x.Ls m_t1 x.sh x.MN x.MA x.MB x.MC x.ME x.Yp x.Yq x.Yo x.ro x.fi x.la x.lo x.hi x.co x.Kc x.Wt x.Ip m_g1 m_X1 m_Y1 x.ir))
  refine zc_Vi (As := []) (rest := []) (wr := wr2) (n := 0) S hN hK hP hD hS hA hl (c_X5_thrown l G H.size (h 0) (zSt.th (zMk x.sc x.K x.FA x.FB x.FC x.FE u_O1 x.P x.Qu x.M x.kk x.f0 x.l0 x.b0 x.t0 x.x0 x.y0 u_n1 u_n2 u_n3 u_n4 u_n5 u_n6 u_n7 u_n8 x.L0 x.n x.wg x.W0 x.Ls m_t1 x.sh x.MN x.MA x.MB x.MC x.ME x.Yp x.Yq x.Yo x.ro x.fi x.la x.lo x.hi x.co x.Kc x.Wt x.Ip m_g1 m_X1 m_Y1 x.ir)) (zSt.sh (zMk x.sc x.K x.FA x.FB x.FC x.FE u_O1 x.P x.Qu x.M x.kk x.f0 x.l0 x.b0 x.t0 x.x0 x.y0 u_n1 u_n2 u_n3 u_n4 u_n5 u_n6 u_n7 u_n8 x.L0 x.n x.wg x.W0 x.Ls m_t1 x.sh x.MN x.MA x.MB x.MC x.ME x.Yp x.Yq x.Yo x.ro x.fi x.la x.lo x.hi x.co x.Kc x.Wt x.Ip m_g1 m_X1 m_Y1 x.ir)) (h 1) (h 2) (h 3) (h 4) (h 5) (h 6) (h 7) (h 8) (zSt.ro (zMk x.sc x.K x.FA x.FB x.FC x.FE u_O1 x.P x.Qu x.M x.kk x.f0 x.l0 x.b0 x.t0 x.x0 x.y0 u_n1 u_n2 u_n3 u_n4 u_n5 u_n6 u_n7 u_n8 x.L0 x.n x.wg x.W0 x.Ls m_t1 x.sh x.MN x.MA x.MB x.MC x.ME x.Yp x.Yq x.Yo x.ro x.fi x.la x.lo x.hi x.co x.Kc x.Wt x.Ip m_g1 m_X1 m_Y1 x.ir)) (zSt.fi (zMk x.sc x.K x.FA x.FB x.FC x.FE u_O1 x.P x.Qu x.M x.kk x.f0 x.l0 x.b0 x.t0 x.x0 x.y0 u_n1 u_n2 u_n3 u_n4 u_n5 u_n6 u_n7 u_n8 x.L0 x.n x.wg x.W0 x.Ls m_t1 x.sh x.MN x.MA x.MB x.MC x.ME x.Yp x.Yq x.Yo x.ro x.fi x.la x.lo x.hi x.co x.Kc x.Wt x.Ip m_g1 m_X1 m_Y1 x.ir)) (zSt.la (zMk x.sc x.K x.FA x.FB x.FC x.FE u_O1 x.P x.Qu x.M x.kk x.f0 x.l0 x.b0 x.t0 x.x0 x.y0 u_n1 u_n2 u_n3 u_n4 u_n5 u_n6 u_n7 u_n8 x.L0 x.n x.wg x.W0 x.Ls m_t1 x.sh x.MN x.MA x.MB x.MC x.ME x.Yp x.Yq x.Yo x.ro x.fi x.la x.lo x.hi x.co x.Kc x.Wt x.Ip m_g1 m_X1 m_Y1 x.ir)) (zSt.lo (zMk x.sc x.K x.FA x.FB x.FC x.FE u_O1 x.P x.Qu x.M x.kk x.f0 x.l0 x.b0 x.t0 x.x0 x.y0 u_n1 u_n2 u_n3 u_n4 u_n5 u_n6 u_n7 u_n8 x.L0 x.n x.wg x.W0 x.Ls m_t1 x.sh x.MN x.MA x.MB x.MC x.ME x.Yp x.Yq x.Yo x.ro x.fi x.la x.lo x.hi x.co x.Kc x.Wt x.Ip m_g1 m_X1 m_Y1 x.ir)) (zSt.hi (zMk x.sc x.K x.FA x.FB x.FC x.FE u_O1 x.P x.Qu x.M x.kk x.f0 x.l0 x.b0 x.t0 x.x0 x.y0 u_n1 u_n2 u_n3 u_n4 u_n5 u_n6 u_n7 u_n8 x.L0 x.n x.wg x.W0 x.Ls m_t1 x.sh x.MN x.MA x.MB x.MC x.ME x.Yp x.Yq x.Yo x.ro x.fi x.la x.lo x.hi x.co x.Kc x.Wt x.Ip m_g1 m_X1 m_Y1 x.ir)) (zSt.co (zMk x.sc x.K x.FA x.FB x.FC x.FE u_O1 x.P x.Qu x.M x.kk x.f0 x.l0 x.b0 x.t0 x.x0 x.y0 u_n1 u_n2 u_n3 u_n4 u_n5 u_n6 u_n7 u_n8 x.L0 x.n x.wg x.W0 x.Ls m_t1 x.sh x.MN x.MA x.MB x.MC x.ME x.Yp x.Yq x.Yo x.ro x.fi x.la x.lo x.hi x.co x.Kc x.Wt x.Ip m_g1 m_X1 m_Y1 x.ir)) (h 9) (h 10) (h 11) (zSt.ge (zMk x.sc x.K x.FA x.FB x.FC x.FE u_O1 x.P x.Qu x.M x.kk x.f0 x.l0 x.b0 x.t0 x.x0 x.y0 u_n1 u_n2 u_n3 u_n4 u_n5 u_n6 u_n7 u_n8 x.L0 x.n x.wg x.W0 x.Ls m_t1 x.sh x.MN x.MA x.MB x.MC x.ME x.Yp x.Yq x.Yo x.ro x.fi x.la x.lo x.hi x.co x.Kc x.Wt x.Ip m_g1 m_X1 m_Y1 x.ir)) (h 12) (h 13) (zSt.ir (zMk x.sc x.K x.FA x.FB x.FC x.FE u_O1 x.P x.Qu x.M x.kk x.f0 x.l0 x.b0 x.t0 x.x0 x.y0 u_n1 u_n2 u_n3 u_n4 u_n5 u_n6 u_n7 u_n8 x.L0 x.n x.wg x.W0 x.Ls m_t1 x.sh x.MN x.MA x.MB x.MC x.ME x.Yp x.Yq x.Yo x.ro x.fi x.la x.lo x.hi x.co x.Kc x.Wt x.Ip m_g1 m_X1 m_Y1 x.ir)) ) gL_law_X5_thrown rfl ⟨rfl, rfl⟩ (by decide +kernel) rfl ⟨Nat.le_of_ble_eq_true rfl, Nat.le_of_ble_eq_true rfl, (by show cells + 7 + 0 + 0 ≤ 601024; omega), (by show slots + 42 + 0 + 0 ≤ 7293034; omega)⟩ zCone isR2 hC2 hRr2 hnC2 hnR2 hdis2 (ci := 5) rfl rfl rfl (by decide) dL_law_1268 rfl (fun r_ u2 H1 locs1 hp2 hP1 hD1 hS1 hz1 => ?_)
  try dsimp only at hp2 hP1
  subst hp2
  have hP : va_P G.1 vwCl (zWd G o g h ((zMk x.sc x.K x.FA x.FB x.FC x.FE u_O1 x.P x.Qu x.M x.kk x.f0 x.l0 x.b0 x.t0 x.x0 x.y0 u_n1 u_n2 u_n3 u_n4 u_n5 u_n6 u_n7 u_n8 x.L0 x.n x.wg x.W0 x.Ls m_t1 x.sh x.MN x.MA x.MB x.MC x.ME x.Yp x.Yq x.Yo x.ro x.fi x.la x.lo x.hi x.co x.Kc x.Wt x.Ip m_g1 m_X1 m_Y1 x.ir))) H1 := hback2 x.OF _ _ H1 hP1
  have hS := hS1
  clear hP1 hD1 hS1
  generalize H1 = H at hP hS hz1 ⊢
  generalize locs1 = locs at hS ⊢
  refine zv_iload S dL_law_1271 (lv_at hl 1 rfl) ?_
  refine zv_icmp_eq (tgt := 1278) (x := m_t1) (y := u_kr) S (by unfold zR; omega) (by unfold zR; omega) dL_law_1273 (by decide) (fun _ => ?_) (fun z => absurd e1 z)
  refine zv_iload S dL_law_1278 (lv_at hl 1 rfl) ?_
  refine zv_if_ne (tgt := 1295) S (by unfold zR; omega) dL_law_1280 (by decide) (fun cz => ?_) (fun cz => ?_)
  · refine zv_goto (tgt := 1601) S dL_law_1295 (by decide) ?_
    refine W.widen (k := cells + 10) (n := slots + 100) (by omega) (by omega) ?_
    exact kk _ I2 _ _ hP hD hS _ (lv_sub hl [2, 3, 4, 5, 6] rfl)
  · refine zv_aload_n S dL_law_1283 rfl (lv_at hl 3 rfl) ?_
    refine zv_iconst S dL_law_1284 ?_
    refine zv_lald S hK hP 0 1 rfl rfl 0 rfl (by decide) (by decide) dL_law_1285 ?_
    refine zv_iload S dL_law_1286 (lv_at hl 0 rfl) ?_
    refine zv_i2lw S dL_law_1288 ?_
    refine zv_lif_same (tgt := 1295) S (e3 (by omega)) dL_law_1289 dL_law_1290 (by decide) ?_
    refine zv_goto (tgt := 1601) S dL_law_1295 (by decide) ?_
    refine W.widen (k := cells + 10) (n := slots + 100) (by omega) (by omega) ?_
    exact kk _ I2 _ _ hP hD hS _ (lv_sub hl [2, 3, 4, 5, 6] rfl)
