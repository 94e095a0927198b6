/-! what the law's rounds keep: shapes -/
theorem zupn_same {F : Nat → Nat} {t v : Nat} : zupn F t v t = v := if_pos rfl
theorem zupn_ne {F : Nat → Nat} {t v j : Nat} (h : j ≠ t) : zupn F t v j = F j := if_neg h
theorem zupf_same {F : Nat → Nat → Int} {t : Nat} {v : Nat → Int} : zupf F t v t = v := if_pos rfl
theorem zupf_ne {F : Nat → Nat → Int} {t j : Nat} {v : Nat → Int} (h : j ≠ t) : zupf F t v j = F j := if_neg h
theorem zupn_id {F : Nat → Nat} {t : Nat} : zupn F t (F t) = F := by funext j; unfold zupn; split <;> simp_all
theorem zupf_id {F : Nat → Nat → Int} {t : Nat} : zupf F t (F t) = F := by funext j; unfold zupf; split <;> simp_all
def zQ3 (K : Nat → Nat) (MN : Nat → Int) : Prop := ∀ j, j < 8 → K j ≤ 10 ∧ MN j = (K j : Int)
def zQ4 (K : Nat → Nat) (FA FB FC FE : Nat → Nat → Int) (MA MB MC ME : Nat → Int) : Prop := ∀ j i, j < 8 → i < K j → FA j i = MA (10 * j + i) ∧ FB j i = MB (10 * j + i) ∧ FC j i = MC (10 * j + i) ∧ FE j i = ME (10 * j + i) ∧ ¬ (FA j i = 0 ∧ FB j i = 0)
def zQ5 (MA MB MC ME : Nat → Int) : Prop := ∀ j, j < 80 → (-60 ≤ MA j ∧ MA j ≤ 60) ∧ (-60 ≤ MB j ∧ MB j ≤ 60) ∧ (-999 ≤ MC j ∧ MC j ≤ 999) ∧ (-9 ≤ ME j ∧ ME j ≤ 9)
theorem zq_put {K : Nat → Nat} {FA FB FC FE : Nat → Nat → Int} {MN MA MB MC ME : Nat → Int} (h3 : zQ3 K MN) (h4 : zQ4 K FA FB FC FE MA MB MC ME) (h5 : zQ5 MA MB MC ME) {t : Nat} (ht : t < 8) (hk : K t < 10) {a b c e : Int}
    (ha : -60 ≤ a ∧ a ≤ 60) (hb : -60 ≤ b ∧ b ≤ 60) (hc : -999 ≤ c ∧ c ≤ 999) (he : -9 ≤ e ∧ e ≤ 9) (hz : ¬ (a = 0 ∧ b = 0)) :
    zQ3 (zupn K t (K t + 1)) (zU MN t (MN t + 1)) ∧ zQ4 (zupn K t (K t + 1)) (zupf FA t (zU (FA t) (K t) a)) (zupf FB t (zU (FB t) (K t) b)) (zupf FC t (zU (FC t) (K t) c)) (zupf FE t (zU (FE t) (K t) e)) (zU MA (10 * t + K t) a) (zU MB (10 * t + K t) b) (zU MC (10 * t + K t) c) (zU ME (10 * t + K t) e) ∧
    zQ5 (zU MA (10 * t + K t) a) (zU MB (10 * t + K t) b) (zU MC (10 * t + K t) c) (zU ME (10 * t + K t) e) := by
  refine ⟨fun j hj => ?_, fun j i hj hi => ?_, fun j hj => ?_⟩
  · by_cases q : j = t
    · subst q
      have := (h3 j hj).2
      rw [zupn_same, zU_same]
      omega
    · rw [zupn_ne q, zU_ne q]; exact h3 j hj
  · by_cases q : j = t
    · subst q
      rw [zupn_same] at hi
      rw [zupf_same, zupf_same, zupf_same, zupf_same]
      by_cases r : i = K j
      · subst r
        rw [zU_same, zU_same, zU_same, zU_same, zU_same, zU_same, zU_same, zU_same]
        exact ⟨rfl, rfl, rfl, rfl, hz⟩
      · rw [zU_ne r, zU_ne r, zU_ne r, zU_ne r, zU_ne (by omega), zU_ne (by omega), zU_ne (by omega), zU_ne (by omega)]
        exact h4 j i hj (by omega)
    · rw [zupn_ne q] at hi
      have := (h3 j hj).1
      rw [zupf_ne q, zupf_ne q, zupf_ne q, zupf_ne q, zU_ne (by omega), zU_ne (by omega), zU_ne (by omega), zU_ne (by omega)]
      exact h4 j i hj hi
  · by_cases q : j = 10 * t + K t
    · subst q
      rw [zU_same, zU_same, zU_same, zU_same]
      exact ⟨ha, hb, hc, he⟩
    · rw [zU_ne q, zU_ne q, zU_ne q, zU_ne q]; exact h5 j hj
theorem zcs_cg {f g : Nat → Int} {o t : Nat} {sm mr : Int} (h1 : f o = g o) (h2 : f t = g t) : zcs f o t sm mr = zcs g o t sm mr := by unfold zcs; rw [h1, h2]
theorem zcut_cg {fa fb fc fe ga gb gc ge : Nat → Int} {k o t : Nat} {sm mr dv : Int} (ho : o < k) (ht : t < k) (h : ∀ i, i < k → fa i = ga i ∧ fb i = gb i ∧ fc i = gc i ∧ fe i = ge i) : zcut fa fb fc fe k o t sm mr dv ↔ zcut ga gb gc ge k o t sm mr dv := by
  unfold zcut
  rw [zcs_cg (h o ho).1 (h t ht).1, zcs_cg (h o ho).2.1 (h t ht).2.1, zcs_cg (h o ho).2.2.1 (h t ht).2.2.1, (h o ho).2.2.2, (h t ht).2.2.2]
theorem zsl_cg {fa fb ga gb : Nat → Int} {k : Nat} (h : ∀ i, i < k → fa i = ga i ∧ fb i = gb i) : zsl fa fb k ↔ zsl ga gb k := by
  constructor
  · intro z i hi; have := z i hi; rw [(h i hi).1, (h i hi).2] at this; exact this
  · intro z i hi; have := z i hi; rw [← (h i hi).1, ← (h i hi).2] at this; exact this
theorem zst_cg {fa fb ga gb : Nat → Int} {k : Nat} {x y : Int} (h : ∀ i, i < k → fa i = ga i ∧ fb i = gb i) : zst fa fb k x y ↔ zst ga gb k x y := by
  constructor
  · intro z i hi; have := z i hi; rw [(h i hi).1, (h i hi).2] at this; exact this
  · intro z i hi; have := z i hi; rw [← (h i hi).1, ← (h i hi).2] at this; exact this
theorem zpl_cg {fa fb ga gb : Nat → Int} {k : Nat} (h : ∀ i, i < k → fa i = ga i ∧ fb i = gb i) : zpl fa fb k ↔ zpl ga gb k := by
  unfold zpl
  constructor
  · rintro ⟨a, z⟩
    refine ⟨a, fun j hj => ?_⟩
    have := z j hj
    rw [(h j hj).1, (h j hj).2, zst_cg h, zst_cg h] at this; exact this
  · rintro ⟨a, z⟩
    refine ⟨a, fun j hj => ?_⟩
    have := z j hj
    rw [← (h j hj).1, ← (h j hj).2, ← zst_cg h, ← zst_cg h] at this; exact this
/-- a shape's rows in both -/
theorem zrow_cg {x : zSt} (I : zInv x) {t : Nat} (ht : t < 8) : ∀ i, i < x.K t → x.FA t i = zrow x.MA t i ∧ x.FB t i = zrow x.MB t i ∧ x.FC t i = zrow x.MC t i ∧ x.FE t i = zrow x.ME t i := fun i hi => by
  have h := I.2.2.2.1 t i ht hi
  exact ⟨h.1, h.2.1, h.2.2.1, h.2.2.2.1⟩
theorem zrow_cg2 {x : zSt} (I : zInv x) {t : Nat} (ht : t < 8) : ∀ i, i < x.K t → x.FA t i = zrow x.MA t i ∧ x.FB t i = zrow x.MB t i := fun i hi => ⟨(zrow_cg I ht i hi).1, (zrow_cg I ht i hi).2.1⟩
theorem zkN {x : zSt} (I : zInv x) {t : Nat} (ht : t < 8) : x.MN t = (x.K t : Int) ∧ (x.MN t).toNat = x.K t := by have h := (I.2.2.1 t ht).2; omega
theorem zpl_01 {sh : Int} {N A B : Nat → Int} {v r t1 : Int} (h : zplaceR sh N A B v r t1) (ht : t1 ≠ 1) : r = 0 ∨ r = 1 := by
  rcases h with h | ⟨-, -, rfl⟩
  · exact absurd h.1 ht
  · exact zb_01 _
theorem zpl_b {sh : Int} {N A B : Nat → Int} {v r t1 : Int} (h : zplaceR sh N A B v r t1) (ht : t1 ≠ 1) : zb (r ≠ 0) = r := by
  rcases zpl_01 h ht with rfl | rfl
  · exact zb_f (fun z => z rfl)
  · exact zb_t (by decide)
theorem zpl_R {sh : Int} {N A B : Nat → Int} {v r t1 : Int} (h : zplaceR sh N A B v r t1) (ht : t1 ≠ 1) : zR r := by
  unfold zR
  rcases zpl_01 h ht with rfl | rfl <;> omega
set_option maxHeartbeats 2000000 in
theorem zl_shape {x : zSt} (I : zInv x) {u_kr : Int} {u_O1 : Nat → Int} {u_z1 : Int} (hh : (u_kr = 0 ∧ u_O1 = zU x.OF 0 (zT32 x.sc) ∧ u_z1 = x.sc + 1 ∧ (x.sc < 8)) ∨ (u_kr = 1 ∧ u_O1 = x.OF ∧ u_z1 = x.sc ∧ (¬ x.sc < 8))) {m_rr : Int} {m_t1 : Int} {m_s1 : Int} (ho1 : x.sh < 8 → m_rr = x.sh ∧ m_t1 = 0 ∧ m_s1 = x.sh + 1) (ho2 : ¬ x.sh < 8 → m_rr = 0 ∧ m_t1 = 1 ∧ m_s1 = x.sh) : m_t1 = u_kr ∧ (0 ≤ u_kr ∧ u_kr ≤ 3) ∧ (u_kr = 0 → u_O1 0 = zT32 m_rr) ∧ zInv (zMk u_z1 x.K x.FA x.FB x.FC x.FE u_O1 x.P x.Qu x.M x.kk x.f0 x.l0 x.b0 x.t0 x.x0 x.y0 x.fx x.fy x.lx x.ly x.tn x.ar x.wx x.wy x.L0 x.n x.wg x.W0 x.Ls m_t1 m_s1 x.MN x.MA x.MB x.MC x.ME x.Yp x.Yq x.Yo x.ro x.fi x.la x.lo x.hi x.co x.Kc x.Wt x.Ip x.ge x.GX x.GY x.ir) := by
  have hs := I.2.1
  have h8 := I.1
  rcases hh with ⟨rfl, rfl, rfl, hc⟩ | ⟨rfl, rfl, rfl, hc⟩
  · obtain ⟨rfl, rfl, rfl⟩ := ho1 (by omega)
    exact ⟨rfl, by omega, fun _ => by rw [zU_same, hs], ⟨⟨by show 0 ≤ x.sc + 1; omega, by show x.sc + 1 ≤ 8; omega⟩, by show x.sh + 1 = x.sc + 1; omega, I.2.2⟩⟩
  · obtain ⟨rfl, rfl, rfl⟩ := ho2 (by omega)
    exact ⟨rfl, by omega, fun z => absurd z (by decide), ⟨h8, hs, I.2.2⟩⟩
set_option maxHeartbeats 2000000 in
theorem zl_add {x : zSt} (I : zInv x) {t : Nat} (ht : t < 8) {a1 a2 a3 a4 a5 : Int} (hvt : 0 ≤ a1 → a1 < x.sc → a1.toNat = t) {u_kr : Int} {u_O1 : Nat → Int} {u_z1 : Nat} {u_z2 : Nat → Int} {u_z3 : Nat → Int} {u_z4 : Nat → Int} {u_z5 : Nat → Int} (hh : (u_kr = 0 ∧ u_O1 = zU x.OF 0 (zT32 ((x.K t) : Int)) ∧ u_z1 = (x.K t) + 1 ∧ u_z2 = zU (x.FA t) (x.K t) a2 ∧ u_z3 = zU (x.FB t) (x.K t) a3 ∧ u_z4 = zU (x.FC t) (x.K t) a4 ∧ u_z5 = zU (x.FE t) (x.K t) a5 ∧ ((0 ≤ a1 ∧ a1 < x.sc) ∧ zadok a2 a3 a4 a5 ∧ (x.K t) < 10)) ∨ (u_kr = 1 ∧ u_O1 = x.OF ∧ u_z1 = (x.K t) ∧ u_z2 = (x.FA t) ∧ u_z3 = (x.FB t) ∧ u_z4 = (x.FC t) ∧ u_z5 = (x.FE t) ∧ (¬ (0 ≤ a1 ∧ a1 < x.sc))) ∨ (u_kr = 2 ∧ u_O1 = x.OF ∧ u_z1 = (x.K t) ∧ u_z2 = (x.FA t) ∧ u_z3 = (x.FB t) ∧ u_z4 = (x.FC t) ∧ u_z5 = (x.FE t) ∧ ((0 ≤ a1 ∧ a1 < x.sc) ∧ ¬ zadok a2 a3 a4 a5)) ∨ (u_kr = 3 ∧ u_O1 = x.OF ∧ u_z1 = (x.K t) ∧ u_z2 = (x.FA t) ∧ u_z3 = (x.FB t) ∧ u_z4 = (x.FC t) ∧ u_z5 = (x.FE t) ∧ ((0 ≤ a1 ∧ a1 < x.sc) ∧ zadok a2 a3 a4 a5 ∧ (x.K t) = 10))) {m_rr : Int} {m_t1 : Int} {m_N1 : Nat → Int} {m_A1 : Nat → Int} {m_B1 : Nat → Int} {m_C1 : Nat → Int} {m_E1 : Nat → Int} (had : zaddR x.sh x.MN x.MA x.MB x.MC x.ME a1 a2 a3 a4 a5 m_rr m_t1 m_N1 m_A1 m_B1 m_C1 m_E1) : m_t1 = u_kr ∧ (0 ≤ u_kr ∧ u_kr ≤ 3) ∧ (u_kr = 0 → u_O1 0 = zT32 m_rr) ∧ zInv (zMk x.sc (zupn x.K t u_z1) (zupf x.FA t u_z2) (zupf x.FB t u_z3) (zupf x.FC t u_z4) (zupf x.FE t u_z5) u_O1 x.P x.Qu x.M x.kk x.f0 x.l0 x.b0 x.t0 x.x0 x.y0 x.fx x.fy x.lx x.ly x.tn x.ar x.wx x.wy x.L0 x.n x.wg x.W0 x.Ls m_t1 x.sh m_N1 m_A1 m_B1 m_C1 m_E1 x.Yp x.Yq x.Yo x.ro x.fi x.la x.lo x.hi x.co x.Kc x.Wt x.Ip x.ge x.GX x.GY x.ir) := by
  have hs := I.2.1
  have h8 := I.1
  obtain ⟨hA, hB, hC, hD⟩ := had
  rw [hs] at hA hB hC hD
  have hkn := zkN I ht
  rcases hh with ⟨rfl, rfl, rfl, rfl, rfl, rfl, rfl, hv, hok, hk⟩ | ⟨rfl, rfl, rfl, rfl, rfl, rfl, rfl, hv⟩ | ⟨rfl, rfl, rfl, rfl, rfl, rfl, rfl, hv, hok⟩ | ⟨rfl, rfl, rfl, rfl, rfl, rfl, rfl, hv, hok, hk⟩
  · have e := hvt hv.1 hv.2
    rw [e] at hD
    obtain ⟨rfl, rfl, hp⟩ := hD hv hok (by omega)
    obtain ⟨rfl, rfl, rfl, rfl, rfl⟩ := hp
    rw [hkn.2]
    obtain ⟨g3, g4, g5⟩ := zq_put I.2.2.1 I.2.2.2.1 I.2.2.2.2.1 ht hk (a := a2) (b := a3) (c := a4) (e := a5) (by unfold zadok at hok; omega) (by unfold zadok at hok; omega) (by unfold zadok at hok; omega) (by unfold zadok at hok; omega) (by unfold zadok at hok; omega)
    exact ⟨rfl, by omega, fun _ => by rw [zU_same, hkn.1], ⟨h8, hs, g3, g4, g5, I.2.2.2.2.2⟩⟩
  · obtain ⟨rfl, rfl, rfl, rfl, rfl, rfl⟩ := hA hv
    refine ⟨rfl, by omega, fun z => absurd z (by decide), ?_⟩
    simp only [zupn_id, zupf_id]
    exact I
  · obtain ⟨rfl, rfl, rfl, rfl, rfl, rfl⟩ := hB hv hok
    refine ⟨rfl, by omega, fun z => absurd z (by decide), ?_⟩
    simp only [zupn_id, zupf_id]
    exact I
  · have e := hvt hv.1 hv.2
    rw [e] at hC
    obtain ⟨rfl, rfl, rfl, rfl, rfl, rfl⟩ := hC hv hok (by omega)
    refine ⟨rfl, by omega, fun z => absurd z (by decide), ?_⟩
    simp only [zupn_id, zupf_id]
    exact I
set_option maxHeartbeats 2000000 in
theorem zl_cut {x : zSt} (I : zInv x) {t : Nat} (ht : t < 8) {a1 a2 a3 a4 a5 a6 : Int} (hvt : 0 ≤ a1 → a1 < x.sc → a1.toNat = t) {u_kr : Int} {u_O1 : Nat → Int} {u_z1 : Nat} {u_z2 : Nat → Int} {u_z3 : Nat → Int} {u_z4 : Nat → Int} {u_z5 : Nat → Int} (hh : (u_kr = 0 ∧ u_O1 = zU x.OF 0 (zT32 ((x.K t) : Int)) ∧ u_z1 = (x.K t) + 1 ∧ u_z2 = zU (x.FA t) (x.K t) ((zcs (x.FA t) a2.toNat a4.toNat a3 a5).tdiv a6) ∧ u_z3 = zU (x.FB t) (x.K t) ((zcs (x.FB t) a2.toNat a4.toNat a3 a5).tdiv a6) ∧ u_z4 = zU (x.FC t) (x.K t) ((zcs (x.FC t) a2.toNat a4.toNat a3 a5) / a6) ∧ u_z5 = zU (x.FE t) (x.K t) 0 ∧ ((0 ≤ a1 ∧ a1 < x.sc) ∧ ((0 ≤ a2 ∧ a2 < ((x.K t) : Int)) ∧ (0 ≤ a4 ∧ a4 < ((x.K t) : Int))) ∧ zcok a3 a5 a6 ∧ zcut (x.FA t) (x.FB t) (x.FC t) (x.FE t) (x.K t) a2.toNat a4.toNat a3 a5 a6)) ∨ (u_kr = 1 ∧ u_O1 = x.OF ∧ u_z1 = (x.K t) ∧ u_z2 = (x.FA t) ∧ u_z3 = (x.FB t) ∧ u_z4 = (x.FC t) ∧ u_z5 = (x.FE t) ∧ (¬ ((0 ≤ a1 ∧ a1 < x.sc) ∧ (0 ≤ a2 ∧ a2 < ((x.K t) : Int)) ∧ (0 ≤ a4 ∧ a4 < ((x.K t) : Int))))) ∨ (u_kr = 2 ∧ u_O1 = x.OF ∧ u_z1 = (x.K t) ∧ u_z2 = (x.FA t) ∧ u_z3 = (x.FB t) ∧ u_z4 = (x.FC t) ∧ u_z5 = (x.FE t) ∧ ((0 ≤ a1 ∧ a1 < x.sc) ∧ ((0 ≤ a2 ∧ a2 < ((x.K t) : Int)) ∧ (0 ≤ a4 ∧ a4 < ((x.K t) : Int))) ∧ ¬ zcok a3 a5 a6)) ∨ (u_kr = 3 ∧ u_O1 = x.OF ∧ u_z1 = (x.K t) ∧ u_z2 = (x.FA t) ∧ u_z3 = (x.FB t) ∧ u_z4 = (x.FC t) ∧ u_z5 = (x.FE t) ∧ ((0 ≤ a1 ∧ a1 < x.sc) ∧ ((0 ≤ a2 ∧ a2 < ((x.K t) : Int)) ∧ (0 ≤ a4 ∧ a4 < ((x.K t) : Int))) ∧ zcok a3 a5 a6 ∧ ¬ zcut (x.FA t) (x.FB t) (x.FC t) (x.FE t) (x.K t) a2.toNat a4.toNat a3 a5 a6))) {m_rr : Int} {m_t1 : Int} {m_N1 : Nat → Int} {m_A1 : Nat → Int} {m_B1 : Nat → Int} {m_C1 : Nat → Int} {m_E1 : Nat → Int} (hcu : zcutR x.sh x.MN x.MA x.MB x.MC x.ME a1 a2 a3 a4 a5 a6 m_rr m_t1 m_N1 m_A1 m_B1 m_C1 m_E1) : m_t1 = u_kr ∧ (0 ≤ u_kr ∧ u_kr ≤ 3) ∧ (u_kr = 0 → u_O1 0 = zT32 m_rr) ∧ zInv (zMk x.sc (zupn x.K t u_z1) (zupf x.FA t u_z2) (zupf x.FB t u_z3) (zupf x.FC t u_z4) (zupf x.FE t u_z5) u_O1 x.P x.Qu x.M x.kk x.f0 x.l0 x.b0 x.t0 x.x0 x.y0 x.fx x.fy x.lx x.ly x.tn x.ar x.wx x.wy x.L0 x.n x.wg x.W0 x.Ls m_t1 x.sh m_N1 m_A1 m_B1 m_C1 m_E1 x.Yp x.Yq x.Yo x.ro x.fi x.la x.lo x.hi x.co x.Kc x.Wt x.Ip x.ge x.GX x.GY x.ir) := by
  have hs := I.2.1
  have h8 := I.1
  have hkn := zkN I ht
  have hcg : (0 ≤ a1 ∧ a1 < x.sc) → ((0 ≤ a2 ∧ a2 < x.MN a1.toNat) ∧ (0 ≤ a4 ∧ a4 < x.MN a1.toNat) ↔ (0 ≤ a2 ∧ a2 < ((x.K t) : Int)) ∧ (0 ≤ a4 ∧ a4 < ((x.K t) : Int))) := fun hv => by rw [hvt hv.1 hv.2, hkn.1]
  have hrow : zisR x.sh x.MN a1 a2 ∧ zisR x.sh x.MN a1 a4 ↔ (0 ≤ a1 ∧ a1 < x.sc) ∧ (0 ≤ a2 ∧ a2 < ((x.K t) : Int)) ∧ (0 ≤ a4 ∧ a4 < ((x.K t) : Int)) := by
    unfold zisR
    rw [hs]
    constructor
    · rintro ⟨⟨p, q⟩, -, r⟩; exact ⟨p, (hcg p).mp ⟨q, r⟩⟩
    · rintro ⟨p, q⟩; have := (hcg p).mpr q; exact ⟨⟨p, this.1⟩, p, this.2⟩
  have hzc : (0 ≤ a1 ∧ a1 < x.sc) → (0 ≤ a2 ∧ a2 < ((x.K t) : Int)) ∧ (0 ≤ a4 ∧ a4 < ((x.K t) : Int)) → (zcut (zrow x.MA a1.toNat) (zrow x.MB a1.toNat) (zrow x.MC a1.toNat) (zrow x.ME a1.toNat) (x.MN a1.toNat).toNat a2.toNat a4.toNat a3 a5 a6 ↔ zcut (x.FA t) (x.FB t) (x.FC t) (x.FE t) (x.K t) a2.toNat a4.toNat a3 a5 a6) := fun hv hr => by
    rw [hvt hv.1 hv.2, hkn.2]
    exact (zcut_cg (by omega) (by omega) (zrow_cg I ht)).symm
  unfold zcutR at hcu
  rcases hcu with ⟨g1, g2, rfl, rfl, rfl, rfl, rfl⟩ | ⟨g1, g2, g3, rfl, rfl, rfl, rfl, rfl⟩ | ⟨g1, g2, g3, g4, rfl, rfl, rfl, rfl, rfl⟩ | ⟨g1, g2, g3, g4, g5, hp⟩
  · rw [hrow] at g2
    rcases hh with ⟨rfl, rfl, rfl, rfl, rfl, rfl, rfl, k1, k2, k3, k4⟩ | ⟨rfl, rfl, rfl, rfl, rfl, rfl, rfl, k1⟩ | ⟨rfl, rfl, rfl, rfl, rfl, rfl, rfl, k1, k2, k3⟩ | ⟨rfl, rfl, rfl, rfl, rfl, rfl, rfl, k1, k2, k3, k4⟩
    · exact absurd ⟨k1, k2⟩ g2
    · refine ⟨g1, by omega, fun z => absurd z (by decide), ?_⟩
      simp only [zupn_id, zupf_id]
      exact I
    · exact absurd ⟨k1, k2⟩ g2
    · exact absurd ⟨k1, k2⟩ g2
  · rw [hrow] at g2
    rcases hh with ⟨rfl, rfl, rfl, rfl, rfl, rfl, rfl, k1, k2, k3, k4⟩ | ⟨rfl, rfl, rfl, rfl, rfl, rfl, rfl, k1⟩ | ⟨rfl, rfl, rfl, rfl, rfl, rfl, rfl, k1, k2, k3⟩ | ⟨rfl, rfl, rfl, rfl, rfl, rfl, rfl, k1, k2, k3, k4⟩
    · exact absurd k3 g3
    · exact absurd g2 k1
    · refine ⟨g1, by omega, fun z => absurd z (by decide), ?_⟩
      simp only [zupn_id, zupf_id]
      exact I
    · exact absurd k3 g3
  · rw [hrow] at g2
    rcases hh with ⟨rfl, rfl, rfl, rfl, rfl, rfl, rfl, k1, k2, k3, k4⟩ | ⟨rfl, rfl, rfl, rfl, rfl, rfl, rfl, k1⟩ | ⟨rfl, rfl, rfl, rfl, rfl, rfl, rfl, k1, k2, k3⟩ | ⟨rfl, rfl, rfl, rfl, rfl, rfl, rfl, k1, k2, k3, k4⟩
    · exact absurd ((hzc k1 k2).mpr k4) g4
    · exact absurd g2 k1
    · exact absurd g3 k3
    · refine ⟨g1, by omega, fun z => absurd z (by decide), ?_⟩
      simp only [zupn_id, zupf_id]
      exact I
  · rw [hrow] at g2
    rcases hh with ⟨rfl, rfl, rfl, rfl, rfl, rfl, rfl, k1, k2, k3, k4⟩ | ⟨rfl, rfl, rfl, rfl, rfl, rfl, rfl, k1⟩ | ⟨rfl, rfl, rfl, rfl, rfl, rfl, rfl, k1, k2, k3⟩ | ⟨rfl, rfl, rfl, rfl, rfl, rfl, rfl, k1, k2, k3, k4⟩
    · have e := hvt k1.1 k1.2
      have ho : a2.toNat < x.K t := by omega
      have hq : a4.toNat < x.K t := by omega
      have r := zrow_cg I ht
      rw [e] at hp g5
      obtain ⟨rfl, rfl, rfl, rfl, rfl⟩ := hp
      rw [hkn.2, ← zcs_cg (r _ ho).1 (r _ hq).1, ← zcs_cg (r _ ho).2.1 (r _ hq).2.1, ← zcs_cg (r _ ho).2.2.1 (r _ hq).2.2.1]
      have hdv : 0 < a6 := by unfold zcok at k3; omega
      have hz : ¬ ((zcs (x.FA t) a2.toNat a4.toNat a3 a5).tdiv a6 = 0 ∧ (zcs (x.FB t) a2.toNat a4.toNat a3 a5).tdiv a6 = 0) := by
        rintro ⟨q1, q2⟩
        have d1 := ztd (x := zcs (x.FA t) a2.toNat a4.toNat a3 a5) hdv
        have d2 := ztd (x := zcs (x.FB t) a2.toNat a4.toNat a3 a5) hdv
        rw [q1, k4.2.2.1] at d1
        rw [q2, k4.2.2.2.1] at d2
        exact k4.2.2.2.2.1 ⟨by omega, by omega⟩
      obtain ⟨n3, n4, n5⟩ := zq_put I.2.2.1 I.2.2.2.1 I.2.2.2.2.1 ht k4.2.2.2.2.2.2.2.2 k4.2.2.2.2.2.1 k4.2.2.2.2.2.2.1 k4.2.2.2.2.2.2.2.1 (e := 0) (by decide) hz
      exact ⟨g1, by omega, fun _ => by rw [zU_same, g5, hkn.1], ⟨h8, hs, n3, n4, n5, I.2.2.2.2.2⟩⟩
    · exact absurd g2 k1
    · exact absurd g3 k3
    · exact absurd ((hzc k1 k2).mp g4) k4
set_option maxHeartbeats 2000000 in
theorem zl_move {x : zSt} (I : zInv x) {t : Nat} (ht : t < 8) {a1 a2 : Int} (hvt : 0 ≤ a1 → a1 < x.sc → a1.toNat = t) {u_kr : Int} {u_O1 : Nat → Int} {u_fa1 : Nat → Int} {u_fb1 : Nat → Int} (hh : (u_kr = 0 ∧ u_O1 = zU x.OF 0 (zT32 ((x.K t) : Int)) ∧ ((0 ≤ a1 ∧ a1 < x.sc) ∧ (0 ≤ a2 ∧ a2 ≤ 2) ∧ (a2 = 1 → zsl (x.FA t) (x.FB t) (x.K t))) ∧ (zmvC a2 (x.FA t) (x.FB t) (x.K t) u_fa1 u_fb1)) ∨ (u_kr = 1 ∧ u_O1 = x.OF ∧ u_fa1 = (x.FA t) ∧ u_fb1 = (x.FB t) ∧ (¬ (0 ≤ a1 ∧ a1 < x.sc))) ∨ (u_kr = 2 ∧ u_O1 = x.OF ∧ u_fa1 = (x.FA t) ∧ u_fb1 = (x.FB t) ∧ ((0 ≤ a1 ∧ a1 < x.sc) ∧ ¬ (0 ≤ a2 ∧ a2 ≤ 2))) ∨ (u_kr = 3 ∧ u_O1 = x.OF ∧ u_fa1 = (x.FA t) ∧ u_fb1 = (x.FB t) ∧ ((0 ≤ a1 ∧ a1 < x.sc) ∧ a2 = 1 ∧ ¬ zsl (x.FA t) (x.FB t) (x.K t)))) {m_rr : Int} {m_t1 : Int} {m_A1 : Nat → Int} {m_B1 : Nat → Int} (hmr : zmoveR x.sh x.MN x.MA x.MB a1 a2 m_rr m_t1 m_A1 m_B1) : m_t1 = u_kr ∧ (0 ≤ u_kr ∧ u_kr ≤ 3) ∧ (u_kr = 0 → u_O1 0 = zT32 m_rr) ∧ zInv (zMk x.sc x.K (zupf x.FA t u_fa1) (zupf x.FB t u_fb1) x.FC x.FE u_O1 x.P x.Qu x.M x.kk x.f0 x.l0 x.b0 x.t0 x.x0 x.y0 x.fx x.fy x.lx x.ly x.tn x.ar x.wx x.wy x.L0 x.n x.wg x.W0 x.Ls m_t1 x.sh x.MN m_A1 m_B1 x.MC x.ME x.Yp x.Yq x.Yo x.ro x.fi x.la x.lo x.hi x.co x.Kc x.Wt x.Ip x.ge x.GX x.GY x.ir) := by
  have hs := I.2.1
  have h8 := I.1
  have hkn := zkN I ht
  have hsl : (0 ≤ a1 ∧ a1 < x.sc) → (zsl (zrow x.MA a1.toNat) (zrow x.MB a1.toNat) (x.MN a1.toNat).toNat ↔ zsl (x.FA t) (x.FB t) (x.K t)) := fun hv => by
    rw [hvt hv.1 hv.2, hkn.2]; exact (zsl_cg (zrow_cg2 I ht)).symm
  unfold zmoveR at hmr
  rw [hs] at hmr
  rcases hmr with ⟨g1, g2, rfl, rfl⟩ | ⟨g1, g2, g3, rfl, rfl⟩ | ⟨g1, g2, g3, g4, rfl, rfl⟩ | ⟨g1, g2, g3, g4, g5, rfl, rfl⟩
  · rcases hh with ⟨rfl, rfl, ⟨k1, k2, k3⟩, k4⟩ | ⟨rfl, rfl, rfl, rfl, k1⟩ | ⟨rfl, rfl, rfl, rfl, k1, k2⟩ | ⟨rfl, rfl, rfl, rfl, k1, k2, k3⟩
    · exact absurd k1 g2
    · refine ⟨g1, by omega, fun z => absurd z (by decide), ?_⟩
      simp only [zupf_id]
      exact I
    · exact absurd k1 g2
    · exact absurd k1 g2
  · rcases hh with ⟨rfl, rfl, ⟨k1, k2, k3⟩, k4⟩ | ⟨rfl, rfl, rfl, rfl, k1⟩ | ⟨rfl, rfl, rfl, rfl, k1, k2⟩ | ⟨rfl, rfl, rfl, rfl, k1, k2, k3⟩
    · exact absurd k2 g3
    · exact absurd g2 k1
    · refine ⟨g1, by omega, fun z => absurd z (by decide), ?_⟩
      simp only [zupf_id]
      exact I
    · omega
  · rcases hh with ⟨rfl, rfl, ⟨k1, k2, k3⟩, k4⟩ | ⟨rfl, rfl, rfl, rfl, k1⟩ | ⟨rfl, rfl, rfl, rfl, k1, k2⟩ | ⟨rfl, rfl, rfl, rfl, k1, k2, k3⟩
    · exact absurd ((hsl k1).mpr (k3 g3)) g4
    · exact absurd g2 k1
    · omega
    · refine ⟨g1, by omega, fun z => absurd z (by decide), ?_⟩
      simp only [zupf_id]
      exact I
  · rcases hh with ⟨rfl, rfl, ⟨k1, k2, k3⟩, k4⟩ | ⟨rfl, rfl, rfl, rfl, k1⟩ | ⟨rfl, rfl, rfl, rfl, k1, k2⟩ | ⟨rfl, rfl, rfl, rfl, k1, k2, k3⟩
    · have e := hvt k1.1 k1.2
      rw [e] at g5
      rw [e, hkn.2]
      obtain ⟨rfl, rfl⟩ := k4
      have hm : ∀ j i, j < 8 → i < 10 → (10 * t ≤ 10 * j + i ∧ 10 * j + i < 10 * t + x.K t ↔ j = t ∧ i < x.K t) := fun j i hj hi => by
        have := (I.2.2.1 t ht).1; omega
      refine ⟨g1, by omega, fun _ => by rw [zU_same, g5, hkn.1], ⟨h8, hs, I.2.2.1, fun j i hj hi => ?_, fun j hj => ?_, I.2.2.2.2.2⟩⟩
      · have hi : i < x.K j := hi
        have hi10 : i < 10 := by have := (I.2.2.1 j hj).1; omega
        show zupf x.FA t _ j i = zfl x.MA _ _ _ (10 * j + i) ∧ zupf x.FB t _ j i = zfl x.MB _ _ _ (10 * j + i) ∧ x.FC j i = x.MC (10 * j + i) ∧ x.FE j i = x.ME (10 * j + i) ∧ ¬ (zupf x.FA t _ j i = 0 ∧ zupf x.FB t _ j i = 0)
        have r := I.2.2.2.1 j i hj hi
        by_cases q : j = t
        · subst q
          rw [zupf_same, zupf_same, zfl_in (by omega), zfl_in (by omega), zfill_in (k := x.K j) hi, zfill_in (k := x.K j) hi]
          have ra := r.1
          have rb := r.2.1
          unfold zmva zmvb
          rw [← ra, ← rb]
          refine ⟨rfl, rfl, r.2.2.1, r.2.2.2.1, ?_⟩
          have rz := r.2.2.2.2
          rcases (show a2 = 0 ∨ a2 = 1 ∨ a2 = 2 by omega) with rfl | rfl | rfl
          · rw [if_pos rfl, if_pos rfl]; exact fun z => rz ⟨z.2, z.1⟩
          · rw [if_neg (by decide), if_pos rfl, if_neg (by decide), if_pos rfl]; exact fun z => rz ⟨z.1, by omega⟩
          · rw [if_neg (by decide), if_neg (by decide), if_neg (by decide), if_neg (by decide)]; exact fun z => rz ⟨by omega, z.2⟩
        · rw [zupf_ne q, zupf_ne q, zfl_out (fun z => q ((hm j i hj hi10).mp z).1), zfl_out (fun z => q ((hm j i hj hi10).mp z).1)]
          exact r
      · have r := I.2.2.2.2.1 j hj
        show (-60 ≤ zfl x.MA _ _ _ j ∧ zfl x.MA _ _ _ j ≤ 60) ∧ (-60 ≤ zfl x.MB _ _ _ j ∧ zfl x.MB _ _ _ j ≤ 60) ∧ _
        by_cases q : 10 * t ≤ j ∧ j < 10 * t + x.K t
        · rw [zfl_in q, zfl_in q]
          unfold zmva zmvb
          rcases (show a2 = 0 ∨ a2 = 1 ∨ a2 = 2 by omega) with rfl | rfl | rfl
          · rw [if_pos rfl, if_pos rfl]; exact ⟨r.2.1, r.1, r.2.2⟩
          · rw [if_neg (by decide), if_pos rfl, if_neg (by decide), if_pos rfl]
            have h1 := k3 rfl (j - 10 * t) (by omega)
            have h2 := I.2.2.2.1 t (j - 10 * t) ht (by omega)
            rw [h2.1, h2.2.1, show 10 * t + (j - 10 * t) = j by omega] at h1
            exact ⟨r.1, h1, r.2.2⟩
          · rw [if_neg (by decide), if_neg (by decide), if_neg (by decide), if_neg (by decide)]; exact ⟨by omega, r.2⟩
        · rw [zfl_out q, zfl_out q]; exact r
    · exact absurd g2 k1
    · exact absurd g3 k2
    · exact absurd ((hsl k1).mp (g4 k2)) k3
set_option maxHeartbeats 2000000 in
theorem zl_inequality {x : zSt} (I : zInv x) {t : Nat} (ht : t < 8) {a1 a2 a3 : Int} (hvt : 0 ≤ a1 → a1 < x.sc → a1.toNat = t) {u_kr : Int} {u_O1 : Nat → Int} (hh : (u_kr = 0 ∧ u_O1 = zU x.OF 0 (zT32 (zpart ((x.FA t) a2.toNat) ((x.FB t) a2.toNat) ((x.FC t) a2.toNat) ((x.FE t) a2.toNat) a3)) ∧ ((0 ≤ a1 ∧ a1 < x.sc) ∧ (0 ≤ a2 ∧ a2 < ((x.K t) : Int)) ∧ (0 ≤ a3 ∧ a3 ≤ 3))) ∨ (u_kr = 1 ∧ u_O1 = x.OF ∧ (¬ ((0 ≤ a1 ∧ a1 < x.sc) ∧ 0 ≤ a2 ∧ a2 < ((x.K t) : Int)))) ∨ (u_kr = 2 ∧ u_O1 = x.OF ∧ ((0 ≤ a1 ∧ a1 < x.sc) ∧ (0 ≤ a2 ∧ a2 < ((x.K t) : Int)) ∧ ¬ (0 ≤ a3 ∧ a3 ≤ 3)))) {m_rr : Int} {m_t1 : Int} (hqr : zineR x.sh x.MN x.MA x.MB x.MC x.ME a1 a2 a3 m_rr m_t1) : m_t1 = u_kr ∧ (0 ≤ u_kr ∧ u_kr ≤ 3) ∧ (u_kr = 0 → u_O1 0 = zT32 m_rr) ∧ zInv (zMk x.sc x.K x.FA x.FB x.FC x.FE u_O1 x.P x.Qu x.M x.kk x.f0 x.l0 x.b0 x.t0 x.x0 x.y0 x.fx x.fy x.lx x.ly x.tn x.ar x.wx x.wy x.L0 x.n x.wg x.W0 x.Ls m_t1 x.sh x.MN x.MA x.MB x.MC x.ME x.Yp x.Yq x.Yo x.ro x.fi x.la x.lo x.hi x.co x.Kc x.Wt x.Ip x.ge x.GX x.GY x.ir) := by
  have hs := I.2.1
  have hkn := zkN I ht
  unfold zineR zisR at hqr
  rw [hs] at hqr
  have hcg : (0 ≤ a1 ∧ a1 < x.sc) → (0 ≤ a2 ∧ a2 < x.MN a1.toNat ↔ 0 ≤ a2 ∧ a2 < ((x.K t) : Int)) := fun hv => by rw [hvt hv.1 hv.2, hkn.1]
  rcases hqr with ⟨g1, g2⟩ | ⟨g1, g2, g3⟩ | ⟨g1, g2, g3, g4⟩
  · rcases hh with ⟨rfl, rfl, k1, k2, k3⟩ | ⟨rfl, rfl, k1⟩ | ⟨rfl, rfl, k1, k2, k3⟩
    · exact absurd ⟨k1, (hcg k1).mpr k2⟩ g2
    · exact ⟨g1, by omega, fun z => absurd z (by decide), I⟩
    · exact absurd ⟨k1, (hcg k1).mpr k2⟩ g2
  · rcases hh with ⟨rfl, rfl, k1, k2, k3⟩ | ⟨rfl, rfl, k1⟩ | ⟨rfl, rfl, k1, k2, k3⟩
    · exact absurd k3 g3
    · exact absurd ⟨g2.1, (hcg g2.1).mp g2.2⟩ k1
    · exact ⟨g1, by omega, fun z => absurd z (by decide), I⟩
  · rcases hh with ⟨rfl, rfl, k1, k2, k3⟩ | ⟨rfl, rfl, k1⟩ | ⟨rfl, rfl, k1, k2, k3⟩
    · refine ⟨g1, by omega, fun _ => ?_, I⟩
      have e := hvt k1.1 k1.2
      have r := I.2.2.2.1 t a2.toNat ht (by omega)
      rw [zU_same, g4, e, r.1, r.2.1, r.2.2.1, r.2.2.2.1]
    · exact absurd ⟨g2.1, (hcg g2.1).mp g2.2⟩ k1
    · exact absurd g3 k3
set_option maxHeartbeats 2000000 in
theorem zl_isPlace {x : zSt} (I : zInv x) {t : Nat} (ht : t < 8) {a1 : Int} (hvt : 0 ≤ a1 → a1 < x.sc → a1.toNat = t) {u_kr : Int} {u_O1 : Nat → Int} (hh : (u_kr = 0 ∧ u_O1 = zU x.OF 0 (zb (zpl (x.FA t) (x.FB t) (x.K t))) ∧ ((0 ≤ a1 ∧ a1 < x.sc))) ∨ (u_kr = 1 ∧ u_O1 = x.OF ∧ (¬ (0 ≤ a1 ∧ a1 < x.sc)))) {m_rr : Int} {m_t1 : Int} (hpl : zplaceR x.sh x.MN x.MA x.MB a1 m_rr m_t1) : m_t1 = u_kr ∧ (0 ≤ u_kr ∧ u_kr ≤ 3) ∧ (u_kr = 0 → u_O1 0 = m_rr) ∧ zInv (zMk x.sc x.K x.FA x.FB x.FC x.FE u_O1 x.P x.Qu x.M x.kk x.f0 x.l0 x.b0 x.t0 x.x0 x.y0 x.fx x.fy x.lx x.ly x.tn x.ar x.wx x.wy x.L0 x.n x.wg x.W0 x.Ls m_t1 x.sh x.MN x.MA x.MB x.MC x.ME x.Yp x.Yq x.Yo x.ro x.fi x.la x.lo x.hi x.co x.Kc x.Wt x.Ip x.ge x.GX x.GY x.ir) := by
  have hs := I.2.1
  have hkn := zkN I ht
  unfold zplaceR at hpl
  rw [hs] at hpl
  rcases hpl with ⟨g1, g2⟩ | ⟨g1, g2, g3⟩
  · rcases hh with ⟨rfl, rfl, k1⟩ | ⟨rfl, rfl, k1⟩
    · exact absurd k1 g2
    · exact ⟨g1, by omega, fun z => absurd z (by decide), I⟩
  · rcases hh with ⟨rfl, rfl, k1⟩ | ⟨rfl, rfl, k1⟩
    · refine ⟨g1, by omega, fun _ => ?_, I⟩
      rw [zU_same, g3, hvt k1.1 k1.2, hkn.2]
      exact zb_congr (zpl_cg (zrow_cg2 I ht))
    · exact absurd g2 k1
set_option maxHeartbeats 2000000 in
theorem zl_tables {x : zSt} (I : zInv x) {a1 a2 a3 a4 : Int} {u_kr : Int} {u_O1 : Nat → Int} {u_rr : Int} (hh : (u_kr = 0 ∧ u_O1 = zU x.OF 0 (zT32 u_rr) ∧ (((0 ≤ a1 ∧ a1 ≤ 60) ∧ (0 ≤ a2 ∧ a2 ≤ 60) ∧ (0 ≤ a3 ∧ a3 ≤ 60) ∧ (0 ≤ a4 ∧ a4 ≤ 60)) ∧ (a1 + a2 - a3 - a4 < 0 ∧ u_rr = 0 ∨ 0 ≤ a1 + a2 - a3 - a4 ∧ u_rr = zts a1 a4 (a1 + a2 - a3 - a4) ((zmin a1 a3).toNat + 1)))) ∨ (u_kr = 1 ∧ u_O1 = x.OF ∧ (¬ ((0 ≤ a1 ∧ a1 ≤ 60) ∧ (0 ≤ a2 ∧ a2 ≤ 60) ∧ (0 ≤ a3 ∧ a3 ≤ 60) ∧ (0 ≤ a4 ∧ a4 ≤ 60))))) {m_rr : Int} {m_t1 : Int} (htb : ztabR a1 a2 a3 a4 m_rr m_t1) : m_t1 = u_kr ∧ (0 ≤ u_kr ∧ u_kr ≤ 3) ∧ (u_kr = 0 → u_O1 0 = zT32 m_rr) ∧ zInv (zMk x.sc x.K x.FA x.FB x.FC x.FE u_O1 x.P x.Qu x.M x.kk x.f0 x.l0 x.b0 x.t0 x.x0 x.y0 x.fx x.fy x.lx x.ly x.tn x.ar x.wx x.wy x.L0 x.n x.wg x.W0 x.Ls m_t1 x.sh x.MN x.MA x.MB x.MC x.ME x.Yp x.Yq x.Yo x.ro x.fi x.la x.lo x.hi x.co x.Kc x.Wt x.Ip x.ge x.GX x.GY x.ir) := by
  unfold ztabR at htb
  rcases hh with ⟨rfl, rfl, k1, k2⟩ | ⟨rfl, rfl, k1⟩
  · rcases htb with ⟨g1, g2⟩ | ⟨g1, g2, g3⟩
    · exact absurd k1 g2
    · refine ⟨g1, by omega, fun _ => ?_, I⟩
      rw [zU_same]
      congr 1
      rcases k2 with ⟨p1, p2⟩ | ⟨p1, p2⟩ <;> rcases g3 with ⟨q1, q2⟩ | ⟨q1, q2⟩
      · rw [p2, q2]
      · omega
      · omega
      · rw [p2, q2]
  · rcases htb with ⟨g1, g2⟩ | ⟨g1, g2, g3⟩
    · exact ⟨g1, by omega, fun z => absurd z (by decide), I⟩
    · exact absurd g2 k1
