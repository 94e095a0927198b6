set_option maxRecDepth 20000 in
set_option maxHeartbeats 8000000 in
/-- the law: a round that calls add -/
theorem zcase_add {p : Program} {l : Launch} {e : Env} {s : State} {m : MethodId} {below : List Frame} {meth : Method} {c : Code} {G : zG} {b o L : Nat} {g h : Nat → Nat} {sx : Nat → Int} {Q : State → Prop} (C : zCtx p l s m c G b L sx) {i : Int} {k : Nat} (hi : i = ((7 * k : Nat) : Int)) (hk : 7 * k + 7 ≤ L) {cells slots : Nat} (hc : cells + 10 ≤ 601024) (hs : slots + 100 ≤ 7293034) (kk : zAt p l e s m below meth c G b o g h Q i (cells + 10) (slots + 100) 1601) : zAt p l e s m below meth c G b o g h Q i cells slots 172 := by
  intro x I H locs hP hD hS ls hl
  obtain ⟨S, hN, hK, hE0, hX, hbl, hl0, hL, hR⟩ := C
  have hA : ∀ q : Nat, s.heap.size ≤ q → (fun q : Nat => s.heap.size ≤ q) q := fun _ h => h
  have hbA : ¬ (fun q : Nat => s.heap.size ≤ q) b := Nat.not_le.mpr hbl
  refine zv_aload_n S dL_law_172 rfl (lv_at hl 3 rfl) ?_
  refine zv_aload_n S dL_law_173 rfl (lv_at hl 4 rfl) ?_
  refine zv_iload S dL_law_174 (lv_at hl 0 rfl) ?_
  refine zv_iconst S dL_law_176 ?_
  refine zv_iadd S dL_law_177 ?_
  refine zv_sld S hX hbl hbA hS (7 * k + 1) (by omega) (by omega) (by omega) dL_law_178 ?_
  refine zv_aload_n S dL_law_179 rfl (lv_at hl 4 rfl) ?_
  refine zv_iload S dL_law_180 (lv_at hl 0 rfl) ?_
  refine zv_iconst S dL_law_182 ?_
  refine zv_iadd S dL_law_183 ?_
  refine zv_sld S hX hbl hbA hS (7 * k + 2) (by omega) (by omega) (by omega) dL_law_184 ?_
  refine zv_aload_n S dL_law_185 rfl (lv_at hl 4 rfl) ?_
  refine zv_iload S dL_law_186 (lv_at hl 0 rfl) ?_
  refine zv_iconst S dL_law_188 ?_
  refine zv_iadd S dL_law_189 ?_
  refine zv_sld S hX hbl hbA hS (7 * k + 3) (by omega) (by omega) (by omega) dL_law_190 ?_
  refine zv_aload_n S dL_law_191 rfl (lv_at hl 4 rfl) ?_
  refine zv_iload S dL_law_192 (lv_at hl 0 rfl) ?_
  refine zv_iconst S dL_law_194 ?_
  refine zv_iadd S dL_law_195 ?_
  refine zv_sld S hX hbl hbA hS (7 * k + 4) (by omega) (by omega) (by omega) dL_law_196 ?_
  refine zv_aload_n S dL_law_197 rfl (lv_at hl 4 rfl) ?_
  refine zv_iload S dL_law_198 (lv_at hl 0 rfl) ?_
  refine zv_iconst S dL_law_200 ?_
  refine zv_iadd S dL_law_201 ?_
  refine zv_sld S hX hbl hbA hS (7 * k + 5) (by omega) (by omega) (by omega) dL_law_202 ?_
  refine zv_aload_n S dL_law_203 rfl (lv_at hl 1 rfl) ?_
  obtain ⟨t, ht, hvt⟩ := zi_t I (sx (7 * k + 1))
  obtain ⟨isR, wr, hC, hnC, hRr, hnR, hdis, hback⟩ := zpk_A G o g h x ht
  refine zch_Si (As := [.ref (g 0), .int (zI (sx (7 * k + 1))), .int (zI (sx (7 * k + 2))), .int (zI (sx (7 * k + 3))), .int (zI (sx (7 * k + 4))), .int (zI (sx (7 * k + 5))), .ref o]) (rest := []) (wr := wr) (n := 7) S hN hK (hE0.kept hS.2.1) hP hD hS hA hl (c_L_add l hl0 G H.size o x.OF (g 0) (g 1) x.sc (g 42) (g 46) (g 48) (zSF g) (g (2 + 5 * t)) (g (3 + 5 * t)) (g (4 + 5 * t)) (g (5 + 5 * t)) (g (6 + 5 * t)) (x.FA t) (x.FB t) (x.FC t) (x.FE t) (x.K t) (sx (7 * k + 1)) (sx (7 * k + 2)) (sx (7 * k + 3)) (sx (7 * k + 4)) (sx (7 * k + 5)) I.1 (zi_sf I ht hvt) (I.2.2.1 t ht).1 (hR _) (hR _) (hR _) (hR _) (hR _)) gL_law_L_add rfl ⟨rfl, rfl⟩ (by decide +kernel) rfl ⟨Nat.le_of_ble_eq_true rfl, Nat.le_of_ble_eq_true rfl, (by show cells + 6 ≤ 601024; omega), (by show slots + 36 ≤ 7293034; omega)⟩ (zCA t) isR hC hRr hnC hnR hdis (by decide) dL_law_204 rfl (fun r_ u H1 locs1 hp hP1 hD1 hS1 hz1 => ?_)
  obtain ⟨u_kr, u_O1, u_z1, u_z2, u_z3, u_z4, u_z5⟩ := u
  try dsimp only at hp hP1
  obtain ⟨rfl, hh⟩ := hp
  have hP := hback u_O1 u_z1 u_z2 u_z3 u_z4 u_z5 H1 hP1
  have hD := zWd_D ((zMk x.sc (zupn x.K t u_z1) (zupf x.FA t u_z2) (zupf x.FB t u_z3) (zupf x.FC t u_z4) (zupf x.FE t u_z5) u_O1 x.P x.Qu x.M x.kk x.f0 x.l0 x.b0 x.t0 x.x0 x.y0 x.fx x.fy x.lx x.ly x.tn x.ar x.wx x.wy x.L0 x.n x.wg x.W0 x.Ls x.th x.sh x.MN x.MA x.MB x.MC x.ME x.Yp x.Yq x.Yo x.ro x.fi x.la x.lo x.hi x.co x.Kc x.Wt x.Ip x.ge x.GX x.GY x.ir)) hD
  have hS := hS1
  clear hP1 hD1 hS1
  generalize H1 = H at hP hS hz1 ⊢
  generalize locs1 = locs at hS ⊢
  refine zv_istore (lv' := [(5, .int (zI u_kr)), (4, .int (zI i)), (3, .ref o), (2, .ref (h 0)), (1, .ref (g 0)), (0, .ref b)]) S dL_law_207 hl (by decide) rfl (fun ls hl => ?_)
  refine zv_aload_n S dL_law_209 rfl (lv_at hl 3 rfl) ?_
  refine zv_aload_n S dL_law_210 rfl (lv_at hl 5 rfl) ?_
  refine zv_iload S dL_law_211 (lv_at hl 1 rfl) ?_
  refine zv_iconst S dL_law_213 ?_
  refine zv_iadd S dL_law_214 ?_
  refine zv_sld S hX hbl hbA hS (7 * k + 1) (by omega) (by omega) (by omega) dL_law_215 ?_
  refine zv_aload_n S dL_law_216 rfl (lv_at hl 5 rfl) ?_
  refine zv_iload S dL_law_217 (lv_at hl 1 rfl) ?_
  refine zv_iconst S dL_law_219 ?_
  refine zv_iadd S dL_law_220 ?_
  refine zv_sld S hX hbl hbA hS (7 * k + 2) (by omega) (by omega) (by omega) dL_law_221 ?_
  refine zv_aload_n S dL_law_222 rfl (lv_at hl 5 rfl) ?_
  refine zv_iload S dL_law_223 (lv_at hl 1 rfl) ?_
  refine zv_iconst S dL_law_225 ?_
  refine zv_iadd S dL_law_226 ?_
  refine zv_sld S hX hbl hbA hS (7 * k + 3) (by omega) (by omega) (by omega) dL_law_227 ?_
  refine zv_aload_n S dL_law_228 rfl (lv_at hl 5 rfl) ?_
  refine zv_iload S dL_law_229 (lv_at hl 1 rfl) ?_
  refine zv_iconst S dL_law_231 ?_
  refine zv_iadd S dL_law_232 ?_
  refine zv_sld S hX hbl hbA hS (7 * k + 4) (by omega) (by omega) (by omega) dL_law_233 ?_
  refine zv_aload_n S dL_law_234 rfl (lv_at hl 5 rfl) ?_
  refine zv_iload S dL_law_235 (lv_at hl 1 rfl) ?_
  refine zv_iconst S dL_law_237 ?_
  refine zv_iadd S dL_law_238 ?_
  refine zv_sld S hX hbl hbA hS (7 * k + 5) (by omega) (by omega) (by omega) dL_law_239 ?_
  obtain ⟨isR2, wr2, hC2, hnC2, hRr2, hnR2, hdis2, hback2⟩ := zpk_add G o g h ((zMk x.sc (zupn x.K t u_z1) (zupf x.FA t u_z2) (zupf x.FB t u_z3) (zupf x.FC t u_z4) (zupf x.FE t u_z5) u_O1 x.P x.Qu x.M x.kk x.f0 x.l0 x.b0 x.t0 x.x0 x.y0 x.fx x.fy x.lx x.ly x.tn x.ar x.wx x.wy x.L0 x.n x.wg x.W0 x.Ls x.th x.sh x.MN x.MA x.MB x.MC x.ME x.Yp x.Yq x.Yo x.ro x.fi x.la x.lo x.hi x.co x.Kc x.Wt x.Ip x.ge x.GX x.GY x.ir))
  refine zc_Vi (As := [.int (zI (sx (7 * k + 1))), .int (zI (sx (7 * k + 2))), .int (zI (sx (7 * k + 3))), .int (zI (sx (7 * k + 4))), .int (zI (sx (7 * k + 5)))]) (rest := []) (wr := wr2) (n := 5) S hN hK hP hD hS hA hl (c_X5_add l G H.size (h 0) x.th x.sh (h 1) (h 2) (h 3) (h 4) (h 5) (h 6) (h 7) (h 8) x.ro x.fi x.la x.lo x.hi x.co (h 9) (h 10) (h 11) x.ge (h 12) (h 13) x.ir x.MN x.MA x.MB x.MC x.ME (sx (7 * k + 1)) (sx (7 * k + 2)) (sx (7 * k + 3)) (sx (7 * k + 4)) (sx (7 * k + 5)) (zi_sh I) (zi_N I) (hR _) (hR _) (hR _) (hR _) (hR _)) gL_law_X5_add rfl ⟨rfl, rfl⟩ (by decide +kernel) rfl ⟨Nat.le_of_ble_eq_true rfl, Nat.le_of_ble_eq_true rfl, (by show cells + 6 + 0 ≤ 601024; omega), (by show slots + 36 + 0 ≤ 7293034; omega)⟩ zCadd isR2 hC2 hRr2 hnC2 hnR2 hdis2 (ci := 5) rfl rfl rfl (by decide) dL_law_240 rfl (fun r_ u2 H1 locs1 hp2 hP1 hD1 hS1 hz1 => ?_)
  obtain ⟨m_rr, m_t1, m_N1, m_A1, m_B1, m_C1, m_E1⟩ := u2
  try dsimp only at hp2 hP1
  obtain ⟨rfl, had⟩ := hp2
  have hP : va_P G.1 vwCl (zWd G o g h ((zMk x.sc (zupn x.K t u_z1) (zupf x.FA t u_z2) (zupf x.FB t u_z3) (zupf x.FC t u_z4) (zupf x.FE t u_z5) u_O1 x.P x.Qu x.M x.kk x.f0 x.l0 x.b0 x.t0 x.x0 x.y0 x.fx x.fy x.lx x.ly x.tn x.ar x.wx x.wy x.L0 x.n x.wg x.W0 x.Ls m_t1 x.sh m_N1 m_A1 m_B1 m_C1 m_E1 x.Yp x.Yq x.Yo x.ro x.fi x.la x.lo x.hi x.co x.Kc x.Wt x.Ip x.ge x.GX x.GY x.ir))) H1 := hback2 x.OF m_t1 m_N1 m_A1 m_B1 m_C1 m_E1 H1 hP1
  have hD := zWd_D ((zMk x.sc (zupn x.K t u_z1) (zupf x.FA t u_z2) (zupf x.FB t u_z3) (zupf x.FC t u_z4) (zupf x.FE t u_z5) u_O1 x.P x.Qu x.M x.kk x.f0 x.l0 x.b0 x.t0 x.x0 x.y0 x.fx x.fy x.lx x.ly x.tn x.ar x.wx x.wy x.L0 x.n x.wg x.W0 x.Ls m_t1 x.sh m_N1 m_A1 m_B1 m_C1 m_E1 x.Yp x.Yq x.Yo x.ro x.fi x.la x.lo x.hi x.co x.Kc x.Wt x.Ip x.ge x.GX x.GY x.ir)) hD
  obtain ⟨e1, e2, e3, I2⟩ := zl_add (u_kr := u_kr) (u_O1 := u_O1) (u_z1 := u_z1) (u_z2 := u_z2) (u_z3 := u_z3) (u_z4 := u_z4) (u_z5 := u_z5) (m_rr := m_rr) (m_t1 := m_t1) (m_N1 := m_N1) (m_A1 := m_A1) (m_B1 := m_B1) (m_C1 := m_C1) (m_E1 := m_E1) I ht hvt hh had
  have hS := hS1
  clear hP1 hD1 hS1
  generalize H1 = H at hP hS hz1 ⊢
  generalize locs1 = locs at hS ⊢
  refine zv_istore (lv' := [(6, .int (zI m_rr)), (5, .int (zI u_kr)), (4, .int (zI i)), (3, .ref o), (2, .ref (h 0)), (1, .ref (g 0)), (0, .ref b)]) S dL_law_243 hl (by decide) rfl (fun ls hl => ?_)
  refine zv_aload_n S dL_law_245 rfl (lv_at hl 4 rfl) ?_
  obtain ⟨isR2, wr2, hC2, hnC2, hRr2, hnR2, hdis2, hback2⟩ := zpk_one G o g h ((zMk x.sc (zupn x.K t u_z1) (zupf x.FA t u_z2) (zupf x.FB t u_z3) (zupf x.FC t u_z4) (zupf x.FE t u_z5) u_O1 x.P x.Qu x.M x.kk x.f0 x.l0 x.b0 x.t0 x.x0 x.y0 x.fx x.fy x.lx x.ly x.tn x.ar x.wx x.wy x.L0 x.n x.wg x.W0 x.Ls m_t1 x.sh m_N1 m_A1 m_B1 m_C1 m_E1 x.Yp x.Yq x.Yo x.ro x.fi x.la x.lo x.hi x.co x.Kc x.Wt x.Ip x.ge x.GX x.GY x.ir))
  refine zc_Vi (As := []) (rest := []) (wr := wr2) (n := 0) S hN hK hP hD hS hA hl (c_X5_thrown l G H.size (h 0) (zSt.th (zMk x.sc (zupn x.K t u_z1) (zupf x.FA t u_z2) (zupf x.FB t u_z3) (zupf x.FC t u_z4) (zupf x.FE t u_z5) u_O1 x.P x.Qu x.M x.kk x.f0 x.l0 x.b0 x.t0 x.x0 x.y0 x.fx x.fy x.lx x.ly x.tn x.ar x.wx x.wy x.L0 x.n x.wg x.W0 x.Ls m_t1 x.sh m_N1 m_A1 m_B1 m_C1 m_E1 x.Yp x.Yq x.Yo x.ro x.fi x.la x.lo x.hi x.co x.Kc x.Wt x.Ip x.ge x.GX x.GY x.ir)) (zSt.sh (zMk x.sc (zupn x.K t u_z1) (zupf x.FA t u_z2) (zupf x.FB t u_z3) (zupf x.FC t u_z4) (zupf x.FE t u_z5) u_O1 x.P x.Qu x.M x.kk x.f0 x.l0 x.b0 x.t0 x.x0 x.y0 x.fx x.fy x.lx x.ly x.tn x.ar x.wx x.wy x.L0 x.n x.wg x.W0 x.Ls m_t1 x.sh m_N1 m_A1 m_B1 m_C1 m_E1 x.Yp x.Yq x.Yo x.ro x.fi x.la x.lo x.hi x.co x.Kc x.Wt x.Ip x.ge x.GX x.GY x.ir)) (h 1) (h 2) (h 3) (h 4) (h 5) (h 6) (h 7) (h 8) (zSt.ro (zMk x.sc (zupn x.K t u_z1) (zupf x.FA t u_z2) (zupf x.FB t u_z3) (zupf x.FC t u_z4) (zupf x.FE t u_z5) u_O1 x.P x.Qu x.M x.kk x.f0 x.l0 x.b0 x.t0 x.x0 x.y0 x.fx x.fy x.lx x.ly x.tn x.ar x.wx x.wy x.L0 x.n x.wg x.W0 x.Ls m_t1 x.sh m_N1 m_A1 m_B1 m_C1 m_E1 x.Yp x.Yq x.Yo x.ro x.fi x.la x.lo x.hi x.co x.Kc x.Wt x.Ip x.ge x.GX x.GY x.ir)) (zSt.fi (zMk x.sc (zupn x.K t u_z1) (zupf x.FA t u_z2) (zupf x.FB t u_z3) (zupf x.FC t u_z4) (zupf x.FE t u_z5) u_O1 x.P x.Qu x.M x.kk x.f0 x.l0 x.b0 x.t0 x.x0 x.y0 x.fx x.fy x.lx x.ly x.tn x.ar x.wx x.wy x.L0 x.n x.wg x.W0 x.Ls m_t1 x.sh m_N1 m_A1 m_B1 m_C1 m_E1 x.Yp x.Yq x.Yo x.ro x.fi x.la x.lo x.hi x.co x.Kc x.Wt x.Ip x.ge x.GX x.GY x.ir)) (zSt.la (zMk x.sc (zupn x.K t u_z1) (zupf x.FA t u_z2) (zupf x.FB t u_z3) (zupf x.FC t u_z4) (zupf x.FE t u_z5) u_O1 x.P x.Qu x.M x.kk x.f0 x.l0 x.b0 x.t0 x.x0 x.y0 x.fx x.fy x.lx x.ly x.tn x.ar x.wx x.wy x.L0 x.n x.wg x.W0 x.Ls m_t1 x.sh m_N1 m_A1 m_B1 m_C1 m_E1 x.Yp x.Yq x.Yo x.ro x.fi x.la x.lo x.hi x.co x.Kc x.Wt x.Ip x.ge x.GX x.GY x.ir)) (zSt.lo (zMk x.sc (zupn x.K t u_z1) (zupf x.FA t u_z2) (zupf x.FB t u_z3) (zupf x.FC t u_z4) (zupf x.FE t u_z5) u_O1 x.P x.Qu x.M x.kk x.f0 x.l0 x.b0 x.t0 x.x0 x.y0 x.fx x.fy x.lx x.ly x.tn x.ar x.wx x.wy x.L0 x.n x.wg x.W0 x.Ls m_t1 x.sh m_N1 m_A1 m_B1 m_C1 m_E1 x.Yp x.Yq x.Yo x.ro x.fi x.la x.lo x.hi x.co x.Kc x.Wt x.Ip x.ge x.GX x.GY x.ir)) (zSt.hi (zMk x.sc (zupn x.K t u_z1) (zupf x.FA t u_z2) (zupf x.FB t u_z3) (zupf x.FC t u_z4) (zupf x.FE t u_z5) u_O1 x.P x.Qu x.M x.kk x.f0 x.l0 x.b0 x.t0 x.x0 x.y0 x.fx x.fy x.lx x.ly x.tn x.ar x.wx x.wy x.L0 x.n x.wg x.W0 x.Ls m_t1 x.sh m_N1 m_A1 m_B1 m_C1 m_E1 x.Yp x.Yq x.Yo x.ro x.fi x.la x.lo x.hi x.co x.Kc x.Wt x.Ip x.ge x.GX x.GY x.ir)) (zSt.co (zMk x.sc (zupn x.K t u_z1) (zupf x.FA t u_z2) (zupf x.FB t u_z3) (zupf x.FC t u_z4) (zupf x.FE t u_z5) u_O1 x.P x.Qu x.M x.kk x.f0 x.l0 x.b0 x.t0 x.x0 x.y0 x.fx x.fy x.lx x.ly x.tn x.ar x.wx x.wy x.L0 x.n x.wg x.W0 x.Ls m_t1 x.sh m_N1 m_A1 m_B1 m_C1 m_E1 x.Yp x.Yq x.Yo x.ro x.fi x.la x.lo x.hi x.co x.Kc x.Wt x.Ip x.ge x.GX x.GY x.ir)) (h 9) (h 10) (h 11) (zSt.ge (zMk x.sc (zupn x.K t u_z1) (zupf x.FA t u_z2) (zupf x.FB t u_z3) (zupf x.FC t u_z4) (zupf x.FE t u_z5) u_O1 x.P x.Qu x.M x.kk x.f0 x.l0 x.b0 x.t0 x.x0 x.y0 x.fx x.fy x.lx x.ly x.tn x.ar x.wx x.wy x.L0 x.n x.wg x.W0 x.Ls m_t1 x.sh m_N1 m_A1 m_B1 m_C1 m_E1 x.Yp x.Yq x.Yo x.ro x.fi x.la x.lo x.hi x.co x.Kc x.Wt x.Ip x.ge x.GX x.GY x.ir)) (h 12) (h 13) (zSt.ir (zMk x.sc (zupn x.K t u_z1) (zupf x.FA t u_z2) (zupf x.FB t u_z3) (zupf x.FC t u_z4) (zupf x.FE t u_z5) u_O1 x.P x.Qu x.M x.kk x.f0 x.l0 x.b0 x.t0 x.x0 x.y0 x.fx x.fy x.lx x.ly x.tn x.ar x.wx x.wy x.L0 x.n x.wg x.W0 x.Ls m_t1 x.sh m_N1 m_A1 m_B1 m_C1 m_E1 x.Yp x.Yq x.Yo x.ro x.fi x.la x.lo x.hi x.co x.Kc x.Wt x.Ip x.ge x.GX x.GY x.ir)) ) gL_law_X5_thrown rfl ⟨rfl, rfl⟩ (by decide +kernel) rfl ⟨Nat.le_of_ble_eq_true rfl, Nat.le_of_ble_eq_true rfl, (by show cells + 6 + 0 + 0 ≤ 601024; omega), (by show slots + 36 + 0 + 0 ≤ 7293034; omega)⟩ zCone isR2 hC2 hRr2 hnC2 hnR2 hdis2 (ci := 5) rfl rfl rfl (by decide) dL_law_246 rfl (fun r_ u2 H1 locs1 hp2 hP1 hD1 hS1 hz1 => ?_)
  try dsimp only at hp2 hP1
  subst hp2
  have hP : va_P G.1 vwCl (zWd G o g h ((zMk x.sc (zupn x.K t u_z1) (zupf x.FA t u_z2) (zupf x.FB t u_z3) (zupf x.FC t u_z4) (zupf x.FE t u_z5) u_O1 x.P x.Qu x.M x.kk x.f0 x.l0 x.b0 x.t0 x.x0 x.y0 x.fx x.fy x.lx x.ly x.tn x.ar x.wx x.wy x.L0 x.n x.wg x.W0 x.Ls m_t1 x.sh m_N1 m_A1 m_B1 m_C1 m_E1 x.Yp x.Yq x.Yo x.ro x.fi x.la x.lo x.hi x.co x.Kc x.Wt x.Ip x.ge x.GX x.GY x.ir))) H1 := hback2 x.OF _ _ H1 hP1
  have hS := hS1
  clear hP1 hD1 hS1
  generalize H1 = H at hP hS hz1 ⊢
  generalize locs1 = locs at hS ⊢
  refine zv_iload S dL_law_249 (lv_at hl 1 rfl) ?_
  refine zv_icmp_eq (tgt := 256) (x := m_t1) (y := u_kr) S (by unfold zR; omega) (by unfold zR; omega) dL_law_251 (by decide) (fun _ => ?_) (fun z => absurd e1 z)
  refine zv_iload S dL_law_256 (lv_at hl 1 rfl) ?_
  refine zv_if_ne (tgt := 273) S (by unfold zR; omega) dL_law_258 (by decide) (fun cz => ?_) (fun cz => ?_)
  · refine zv_goto (tgt := 1601) S dL_law_273 (by decide) ?_
    refine W.widen (k := cells + 10) (n := slots + 100) (by omega) (by omega) ?_
    exact kk _ I2 _ _ hP hD hS _ (lv_sub hl [2, 3, 4, 5, 6] rfl)
  · refine zv_aload_n S dL_law_261 rfl (lv_at hl 3 rfl) ?_
    refine zv_iconst S dL_law_262 ?_
    refine zv_lald S hK hP 0 1 rfl rfl 0 rfl (by decide) (by decide) dL_law_263 ?_
    refine zv_iload S dL_law_264 (lv_at hl 0 rfl) ?_
    refine zv_i2lw S dL_law_266 ?_
    refine zv_lif_same (tgt := 273) S (e3 (by omega)) dL_law_267 dL_law_268 (by decide) ?_
    refine zv_goto (tgt := 1601) S dL_law_273 (by decide) ?_
    refine W.widen (k := cells + 10) (n := slots + 100) (by omega) (by omega) ?_
    exact kk _ I2 _ _ hP hD hS _ (lv_sub hl [2, 3, 4, 5, 6] rfl)
