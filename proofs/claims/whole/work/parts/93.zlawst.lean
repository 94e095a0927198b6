/-! the law: its state, its world, places in it -/
/-- all that the world holds -/
def zSt : Type := (Int × (Nat → Nat) × (Nat → Nat → Int) × (Nat → Nat → Int) × (Nat → Nat → Int) × (Nat → Nat → Int) × (Nat → Int)) × ((Nat → Int) × (Nat → Int) × (Nat → Int) × Int × Int × Int × Int × Int × Int × Int) × (Int × Int × Int × Int × Int × Int × Int × Int × (Nat → Int)) × (Nat × Int × (Nat → Int) × (Nat → Int)) × (Int × Int × (Nat → Int) × (Nat → Int) × (Nat → Int) × (Nat → Int) × (Nat → Int) × (Nat → Int) × (Nat → Int) × (Nat → Int)) × (Int × Int × Int × Int × Int × Int × (Nat → Int) × (Nat → Int) × (Nat → Int) × Int × (Nat → Int) × (Nat → Int) × Int)
def zSt.sc (x : zSt) : Int := (Prod.fst (Prod.fst (x : zSt)))
def zSt.K (x : zSt) : Nat → Nat := (Prod.fst (Prod.snd (Prod.fst (x : zSt))))
def zSt.FA (x : zSt) : Nat → Nat → Int := (Prod.fst (Prod.snd (Prod.snd (Prod.fst (x : zSt)))))
def zSt.FB (x : zSt) : Nat → Nat → Int := (Prod.fst (Prod.snd (Prod.snd (Prod.snd (Prod.fst (x : zSt))))))
def zSt.FC (x : zSt) : Nat → Nat → Int := (Prod.fst (Prod.snd (Prod.snd (Prod.snd (Prod.snd (Prod.fst (x : zSt)))))))
def zSt.FE (x : zSt) : Nat → Nat → Int := (Prod.fst (Prod.snd (Prod.snd (Prod.snd (Prod.snd (Prod.snd (Prod.fst (x : zSt))))))))
def zSt.OF (x : zSt) : Nat → Int := (Prod.snd (Prod.snd (Prod.snd (Prod.snd (Prod.snd (Prod.snd (Prod.fst (x : zSt))))))))
def zSt.P (x : zSt) : Nat → Int := (Prod.fst (Prod.fst (Prod.snd (x : zSt))))
def zSt.Qu (x : zSt) : Nat → Int := (Prod.fst (Prod.snd (Prod.fst (Prod.snd (x : zSt)))))
def zSt.M (x : zSt) : Nat → Int := (Prod.fst (Prod.snd (Prod.snd (Prod.fst (Prod.snd (x : zSt))))))
def zSt.kk (x : zSt) : Int := (Prod.fst (Prod.snd (Prod.snd (Prod.snd (Prod.fst (Prod.snd (x : zSt)))))))
def zSt.f0 (x : zSt) : Int := (Prod.fst (Prod.snd (Prod.snd (Prod.snd (Prod.snd (Prod.fst (Prod.snd (x : zSt))))))))
def zSt.l0 (x : zSt) : Int := (Prod.fst (Prod.snd (Prod.snd (Prod.snd (Prod.snd (Prod.snd (Prod.fst (Prod.snd (x : zSt)))))))))
def zSt.b0 (x : zSt) : Int := (Prod.fst (Prod.snd (Prod.snd (Prod.snd (Prod.snd (Prod.snd (Prod.snd (Prod.fst (Prod.snd (x : zSt))))))))))
def zSt.t0 (x : zSt) : Int := (Prod.fst (Prod.snd (Prod.snd (Prod.snd (Prod.snd (Prod.snd (Prod.snd (Prod.snd (Prod.fst (Prod.snd (x : zSt)))))))))))
def zSt.x0 (x : zSt) : Int := (Prod.fst (Prod.snd (Prod.snd (Prod.snd (Prod.snd (Prod.snd (Prod.snd (Prod.snd (Prod.snd (Prod.fst (Prod.snd (x : zSt))))))))))))
def zSt.y0 (x : zSt) : Int := (Prod.snd (Prod.snd (Prod.snd (Prod.snd (Prod.snd (Prod.snd (Prod.snd (Prod.snd (Prod.snd (Prod.fst (Prod.snd (x : zSt))))))))))))
def zSt.fx (x : zSt) : Int := (Prod.fst (Prod.fst (Prod.snd (Prod.snd (x : zSt)))))
def zSt.fy (x : zSt) : Int := (Prod.fst (Prod.snd (Prod.fst (Prod.snd (Prod.snd (x : zSt))))))
def zSt.lx (x : zSt) : Int := (Prod.fst (Prod.snd (Prod.snd (Prod.fst (Prod.snd (Prod.snd (x : zSt)))))))
def zSt.ly (x : zSt) : Int := (Prod.fst (Prod.snd (Prod.snd (Prod.snd (Prod.fst (Prod.snd (Prod.snd (x : zSt))))))))
def zSt.tn (x : zSt) : Int := (Prod.fst (Prod.snd (Prod.snd (Prod.snd (Prod.snd (Prod.fst (Prod.snd (Prod.snd (x : zSt)))))))))
def zSt.ar (x : zSt) : Int := (Prod.fst (Prod.snd (Prod.snd (Prod.snd (Prod.snd (Prod.snd (Prod.fst (Prod.snd (Prod.snd (x : zSt))))))))))
def zSt.wx (x : zSt) : Int := (Prod.fst (Prod.snd (Prod.snd (Prod.snd (Prod.snd (Prod.snd (Prod.snd (Prod.fst (Prod.snd (Prod.snd (x : zSt)))))))))))
def zSt.wy (x : zSt) : Int := (Prod.fst (Prod.snd (Prod.snd (Prod.snd (Prod.snd (Prod.snd (Prod.snd (Prod.snd (Prod.fst (Prod.snd (Prod.snd (x : zSt))))))))))))
def zSt.L0 (x : zSt) : Nat → Int := (Prod.snd (Prod.snd (Prod.snd (Prod.snd (Prod.snd (Prod.snd (Prod.snd (Prod.snd (Prod.fst (Prod.snd (Prod.snd (x : zSt))))))))))))
def zSt.n (x : zSt) : Nat := (Prod.fst (Prod.fst (Prod.snd (Prod.snd (Prod.snd (x : zSt))))))
def zSt.wg (x : zSt) : Int := (Prod.fst (Prod.snd (Prod.fst (Prod.snd (Prod.snd (Prod.snd (x : zSt)))))))
def zSt.W0 (x : zSt) : Nat → Int := (Prod.fst (Prod.snd (Prod.snd (Prod.fst (Prod.snd (Prod.snd (Prod.snd (x : zSt))))))))
def zSt.Ls (x : zSt) : Nat → Int := (Prod.snd (Prod.snd (Prod.snd (Prod.fst (Prod.snd (Prod.snd (Prod.snd (x : zSt))))))))
def zSt.th (x : zSt) : Int := (Prod.fst (Prod.fst (Prod.snd (Prod.snd (Prod.snd (Prod.snd (x : zSt)))))))
def zSt.sh (x : zSt) : Int := (Prod.fst (Prod.snd (Prod.fst (Prod.snd (Prod.snd (Prod.snd (Prod.snd (x : zSt))))))))
def zSt.MN (x : zSt) : Nat → Int := (Prod.fst (Prod.snd (Prod.snd (Prod.fst (Prod.snd (Prod.snd (Prod.snd (Prod.snd (x : zSt)))))))))
def zSt.MA (x : zSt) : Nat → Int := (Prod.fst (Prod.snd (Prod.snd (Prod.snd (Prod.fst (Prod.snd (Prod.snd (Prod.snd (Prod.snd (x : zSt))))))))))
def zSt.MB (x : zSt) : Nat → Int := (Prod.fst (Prod.snd (Prod.snd (Prod.snd (Prod.snd (Prod.fst (Prod.snd (Prod.snd (Prod.snd (Prod.snd (x : zSt)))))))))))
def zSt.MC (x : zSt) : Nat → Int := (Prod.fst (Prod.snd (Prod.snd (Prod.snd (Prod.snd (Prod.snd (Prod.fst (Prod.snd (Prod.snd (Prod.snd (Prod.snd (x : zSt))))))))))))
def zSt.ME (x : zSt) : Nat → Int := (Prod.fst (Prod.snd (Prod.snd (Prod.snd (Prod.snd (Prod.snd (Prod.snd (Prod.fst (Prod.snd (Prod.snd (Prod.snd (Prod.snd (x : zSt)))))))))))))
def zSt.Yp (x : zSt) : Nat → Int := (Prod.fst (Prod.snd (Prod.snd (Prod.snd (Prod.snd (Prod.snd (Prod.snd (Prod.snd (Prod.fst (Prod.snd (Prod.snd (Prod.snd (Prod.snd (x : zSt))))))))))))))
def zSt.Yq (x : zSt) : Nat → Int := (Prod.fst (Prod.snd (Prod.snd (Prod.snd (Prod.snd (Prod.snd (Prod.snd (Prod.snd (Prod.snd (Prod.fst (Prod.snd (Prod.snd (Prod.snd (Prod.snd (x : zSt)))))))))))))))
def zSt.Yo (x : zSt) : Nat → Int := (Prod.snd (Prod.snd (Prod.snd (Prod.snd (Prod.snd (Prod.snd (Prod.snd (Prod.snd (Prod.snd (Prod.fst (Prod.snd (Prod.snd (Prod.snd (Prod.snd (x : zSt)))))))))))))))
def zSt.ro (x : zSt) : Int := (Prod.fst (Prod.snd (Prod.snd (Prod.snd (Prod.snd (Prod.snd (x : zSt)))))))
def zSt.fi (x : zSt) : Int := (Prod.fst (Prod.snd (Prod.snd (Prod.snd (Prod.snd (Prod.snd (Prod.snd (x : zSt))))))))
def zSt.la (x : zSt) : Int := (Prod.fst (Prod.snd (Prod.snd (Prod.snd (Prod.snd (Prod.snd (Prod.snd (Prod.snd (x : zSt)))))))))
def zSt.lo (x : zSt) : Int := (Prod.fst (Prod.snd (Prod.snd (Prod.snd (Prod.snd (Prod.snd (Prod.snd (Prod.snd (Prod.snd (x : zSt))))))))))
def zSt.hi (x : zSt) : Int := (Prod.fst (Prod.snd (Prod.snd (Prod.snd (Prod.snd (Prod.snd (Prod.snd (Prod.snd (Prod.snd (Prod.snd (x : zSt)))))))))))
def zSt.co (x : zSt) : Int := (Prod.fst (Prod.snd (Prod.snd (Prod.snd (Prod.snd (Prod.snd (Prod.snd (Prod.snd (Prod.snd (Prod.snd (Prod.snd (x : zSt))))))))))))
def zSt.Kc (x : zSt) : Nat → Int := (Prod.fst (Prod.snd (Prod.snd (Prod.snd (Prod.snd (Prod.snd (Prod.snd (Prod.snd (Prod.snd (Prod.snd (Prod.snd (Prod.snd (x : zSt)))))))))))))
def zSt.Wt (x : zSt) : Nat → Int := (Prod.fst (Prod.snd (Prod.snd (Prod.snd (Prod.snd (Prod.snd (Prod.snd (Prod.snd (Prod.snd (Prod.snd (Prod.snd (Prod.snd (Prod.snd (x : zSt))))))))))))))
def zSt.Ip (x : zSt) : Nat → Int := (Prod.fst (Prod.snd (Prod.snd (Prod.snd (Prod.snd (Prod.snd (Prod.snd (Prod.snd (Prod.snd (Prod.snd (Prod.snd (Prod.snd (Prod.snd (Prod.snd (x : zSt)))))))))))))))
def zSt.ge (x : zSt) : Int := (Prod.fst (Prod.snd (Prod.snd (Prod.snd (Prod.snd (Prod.snd (Prod.snd (Prod.snd (Prod.snd (Prod.snd (Prod.snd (Prod.snd (Prod.snd (Prod.snd (Prod.snd (x : zSt))))))))))))))))
def zSt.GX (x : zSt) : Nat → Int := (Prod.fst (Prod.snd (Prod.snd (Prod.snd (Prod.snd (Prod.snd (Prod.snd (Prod.snd (Prod.snd (Prod.snd (Prod.snd (Prod.snd (Prod.snd (Prod.snd (Prod.snd (Prod.snd (x : zSt)))))))))))))))))
def zSt.GY (x : zSt) : Nat → Int := (Prod.fst (Prod.snd (Prod.snd (Prod.snd (Prod.snd (Prod.snd (Prod.snd (Prod.snd (Prod.snd (Prod.snd (Prod.snd (Prod.snd (Prod.snd (Prod.snd (Prod.snd (Prod.snd (Prod.snd (x : zSt))))))))))))))))))
def zSt.ir (x : zSt) : Int := (Prod.snd (Prod.snd (Prod.snd (Prod.snd (Prod.snd (Prod.snd (Prod.snd (Prod.snd (Prod.snd (Prod.snd (Prod.snd (Prod.snd (Prod.snd (Prod.snd (Prod.snd (Prod.snd (Prod.snd (x : zSt))))))))))))))))))
def zMk (sc : Int) (K : Nat → Nat) (FA : Nat → Nat → Int) (FB : Nat → Nat → Int) (FC : Nat → Nat → Int) (FE : Nat → Nat → Int) (OF : Nat → Int) (P : Nat → Int) (Qu : Nat → Int) (M : Nat → Int) (kk : Int) (f0 : Int) (l0 : Int) (b0 : Int) (t0 : Int) (x0 : Int) (y0 : Int) (fx : Int) (fy : Int) (lx : Int) (ly : Int) (tn : Int) (ar : Int) (wx : Int) (wy : Int) (L0 : Nat → Int) (n : Nat) (wg : Int) (W0 : Nat → Int) (Ls : Nat → Int) (th : Int) (sh : Int) (MN : Nat → Int) (MA : Nat → Int) (MB : Nat → Int) (MC : Nat → Int) (ME : Nat → Int) (Yp : Nat → Int) (Yq : Nat → Int) (Yo : Nat → Int) (ro : Int) (fi : Int) (la : Int) (lo : Int) (hi : Int) (co : Int) (Kc : Nat → Int) (Wt : Nat → Int) (Ip : Nat → Int) (ge : Int) (GX : Nat → Int) (GY : Nat → Int) (ir : Int) : zSt := ((sc, K, FA, FB, FC, FE, OF), (P, Qu, M, kk, f0, l0, b0, t0, x0, y0), (fx, fy, lx, ly, tn, ar, wx, wy, L0), (n, wg, W0, Ls), (th, sh, MN, MA, MB, MC, ME, Yp, Yq, Yo), (ro, fi, la, lo, hi, co, Kc, Wt, Ip, ge, GX, GY, ir))
/-- out, the model, the mill -/
def zWd (G : zG) (o : Nat) (g h : Nat → Nat) (x : zSt) : va_W := [zcl G o 1 x.OF, ((h 0), .inr (5, [.int (zI x.th), .int (zI x.sh), .ref (h 1), .ref (h 2), .ref (h 3), .ref (h 4), .ref (h 5), .ref (h 6), .ref (h 7), .ref (h 8), .int (zI x.ro), .long (zL x.fi), .long (zL x.la), .long (zL x.lo), .long (zL x.hi), .int (zI x.co), .ref (h 9), .ref (h 10), .ref (h 11), .int (zI x.ge), .ref (h 12), .ref (h 13), .int (zI x.ir)])), zci G (h 1) 8 x.MN, zci G (h 2) 80 x.MA, zci G (h 3) 80 x.MB, zci G (h 4) 80 x.MC, zci G (h 5) 80 x.ME, zcl G (h 6) 10 x.Yp, zcl G (h 7) 10 x.Yq, zcl G (h 8) 10 x.Yo, zcz G (h 9) 61 x.Kc, zcl G (h 10) 1001 x.Wt, zcz G (h 11) 3601 x.Ip, zci G (h 12) 900 x.GX, zci G (h 13) 900 x.GY, ((g 0), .inr (4, [.ref (g 1), .int (zI x.sc), .ref (g 42), .ref (g 46), .ref (g 48)])), zcq G (g 1) 8 (zSF g), ((g 2), .inr (3, [.ref (g 3), .ref (g 4), .ref (g 5), .ref (g 6), .int (zI (x.K 0 : Int))])), zci G (g 3) 10 (x.FA 0), zci G (g 4) 10 (x.FB 0), zci G (g 5) 10 (x.FC 0), zci G (g 6) 10 (x.FE 0), ((g 7), .inr (3, [.ref (g 8), .ref (g 9), .ref (g 10), .ref (g 11), .int (zI (x.K 1 : Int))])), zci G (g 8) 10 (x.FA 1), zci G (g 9) 10 (x.FB 1), zci G (g 10) 10 (x.FC 1), zci G (g 11) 10 (x.FE 1), ((g 12), .inr (3, [.ref (g 13), .ref (g 14), .ref (g 15), .ref (g 16), .int (zI (x.K 2 : Int))])), zci G (g 13) 10 (x.FA 2), zci G (g 14) 10 (x.FB 2), zci G (g 15) 10 (x.FC 2), zci G (g 16) 10 (x.FE 2), ((g 17), .inr (3, [.ref (g 18), .ref (g 19), .ref (g 20), .ref (g 21), .int (zI (x.K 3 : Int))])), zci G (g 18) 10 (x.FA 3), zci G (g 19) 10 (x.FB 3), zci G (g 20) 10 (x.FC 3), zci G (g 21) 10 (x.FE 3), ((g 22), .inr (3, [.ref (g 23), .ref (g 24), .ref (g 25), .ref (g 26), .int (zI (x.K 4 : Int))])), zci G (g 23) 10 (x.FA 4), zci G (g 24) 10 (x.FB 4), zci G (g 25) 10 (x.FC 4), zci G (g 26) 10 (x.FE 4), ((g 27), .inr (3, [.ref (g 28), .ref (g 29), .ref (g 30), .ref (g 31), .int (zI (x.K 5 : Int))])), zci G (g 28) 10 (x.FA 5), zci G (g 29) 10 (x.FB 5), zci G (g 30) 10 (x.FC 5), zci G (g 31) 10 (x.FE 5), ((g 32), .inr (3, [.ref (g 33), .ref (g 34), .ref (g 35), .ref (g 36), .int (zI (x.K 6 : Int))])), zci G (g 33) 10 (x.FA 6), zci G (g 34) 10 (x.FB 6), zci G (g 35) 10 (x.FC 6), zci G (g 36) 10 (x.FE 6), ((g 37), .inr (3, [.ref (g 38), .ref (g 39), .ref (g 40), .ref (g 41), .int (zI (x.K 7 : Int))])), zci G (g 38) 10 (x.FA 7), zci G (g 39) 10 (x.FB 7), zci G (g 40) 10 (x.FC 7), zci G (g 41) 10 (x.FE 7), ((g 42), .inr (2, [.ref (g 43), .ref (g 44), .ref (g 45), .int (zI x.kk), .int (zI x.f0), .int (zI x.l0), .int (zI x.b0), .int (zI x.t0), .int (zI x.x0), .int (zI x.y0)])), zci G (g 43) 10 x.P, zci G (g 44) 10 x.Qu, zci G (g 45) 10 x.M, ((g 46), .inr (1, [.ref (g 47), .int (zI x.fx), .int (zI x.fy), .int (zI x.lx), .int (zI x.ly), .int (zI x.tn), .int (zI x.ar), .int (zI x.wx), .int (zI x.wy)])), zci G (g 47) 801 x.L0, ((g 48), .inr (0, [.ref (g 49), .ref (g 50), .long (zL (x.n : Int)), .int (zI x.wg)])), zcl G (g 49) 1001 x.W0, zci G (g 50) 60 x.Ls]
def zupn (F : Nat → Nat) (t v : Nat) : Nat → Nat := fun j => if j = t then v else F j
def zupf (F : Nat → Nat → Int) (t : Nat) (v : Nat → Int) : Nat → Nat → Int := fun j => if j = t then v else F j
theorem zD_fst {A : Nat → Prop} {ws ws2 : va_W} (h : va_D A ws) (e : ws2.map Prod.fst = ws.map Prod.fst) : va_D A ws2 := by
  have k : ∀ (i : Nat) (q : Nat × va_E), ws2[i]? = some q → ∃ q2 : Nat × va_E, ws[i]? = some q2 ∧ q2.1 = q.1 := fun i q hq => by
    have h1 : (ws2.map Prod.fst)[i]? = some q.1 := by rw [List.getElem?_map, hq]; rfl
    rw [e, List.getElem?_map] at h1
    cases hw : ws[i]? with
    | none => rw [hw] at h1; cases h1
    | some q2 => rw [hw] at h1; exact ⟨q2, rfl, Option.some.inj h1⟩
  refine ⟨fun i j p q hp hq hpq => ?_, fun i q hq => ?_⟩
  · obtain ⟨p2, a1, a2⟩ := k i p hp
    obtain ⟨q2, b1, b2⟩ := k j q hq
    exact h.1 i j p2 q2 a1 b1 (a2.trans (hpq.trans b2.symm))
  · obtain ⟨q2, b1, b2⟩ := k i q hq
    rw [← b2]; exact h.2 i q2 b1
set_option maxRecDepth 20000 in
theorem zWd_D {A : Nat → Prop} {G : zG} {o : Nat} {g h : Nat → Nat} {x : zSt} (y : zSt) (hD : va_D A (zWd G o g h x)) : va_D A (zWd G o g h y) := zD_fst hD rfl
