/-! what the law's rounds keep: coins -/
theorem zKK {x : zSt} (I : zInv x) : ∀ v, 1 ≤ v → v ≤ 60 → (zkc x.n v ↔ zkm x.Kc v) := fun v h1 h2 => I.2.2.2.2.2.2.1 v h1 h2
theorem zkc_flip {n : Nat} {v : Int} (hv : 1 ≤ v ∧ v ≤ 60) {w : Nat} (h1 : 1 ≤ w) (h2 : w ≤ 60) : zkc (n ^^^ 2 ^ (v - 1).toNat) w ↔ (if w = v.toNat then ¬ zkc n w else zkc n w) := by
  rw [zkc_bits h1 h2, zkc_bits h1 h2, Nat.testBit_xor, Nat.testBit_two_pow]
  by_cases e : w = v.toNat
  · have e2 : (v - 1).toNat = w - 1 := by omega
    rw [if_pos e, e2]
    cases n.testBit (w - 1) <;> simp
  · have e2 : ¬ (v - 1).toNat = w - 1 := by omega
    rw [if_neg e, decide_eq_false e2, Bool.xor_false]
theorem zk_zkc {n : Nat} {v : Int} (hv : 1 ≤ v ∧ v ≤ 60) : zk n v ↔ zkc n v.toNat := by
  unfold zkc
  rw [show ((v.toNat : Nat) : Int) = v by omega]
theorem zpop_f {n : Nat} {v : Int} (hv : 1 ≤ v ∧ v ≤ 60) : (zk n v → zpop 64 (n ^^^ 2 ^ (v - 1).toNat) + 1 = zpop 64 n) ∧ (¬ zk n v → zpop 64 (n ^^^ 2 ^ (v - 1).toNat) = zpop 64 n + 1) := by
  have h := zpop_flip 64 (v - 1).toNat n (by omega)
  have e : n.testBit (v - 1).toNat = decide (n / 2 ^ (v - 1).toNat % 2 = 1) := Nat.testBit_eq_decide_div_mod_eq
  constructor
  · intro z
    have q := z.2.2
    rw [e, decide_eq_true_iff] at q
    omega
  · intro z
    have q : ¬ n / 2 ^ (v - 1).toNat % 2 = 1 := fun q => z ⟨hv.1, hv.2, by rw [e, decide_eq_true_iff]; exact q⟩
    omega
set_option maxHeartbeats 2000000 in
theorem zl_coin {x : zSt} (I : zInv x) {a1 : Int} {u_kr : Int} {u_O1 : Nat → Int} {u_z1 : Nat} (hh : (u_kr = 0 ∧ u_O1 = zU x.OF 0 (zT32 ((zpop 64 (x.n ^^^ 2 ^ (a1 - 1).toNat : Nat) : Nat) : Int)) ∧ u_z1 = x.n ^^^ 2 ^ (a1 - 1).toNat ∧ ((1 ≤ a1 ∧ a1 ≤ 60) ∧ (zk x.n a1 ∨ zpop 64 x.n < 6))) ∨ (u_kr = 1 ∧ u_O1 = x.OF ∧ u_z1 = x.n ∧ (¬ (1 ≤ a1 ∧ a1 ≤ 60))) ∨ (u_kr = 2 ∧ u_O1 = x.OF ∧ u_z1 = x.n ∧ ((1 ≤ a1 ∧ a1 ≤ 60) ∧ ¬ zk x.n a1 ∧ 6 ≤ zpop 64 x.n))) {m_rr : Int} {m_t1 : Int} {m_co1 : Int} {m_K1 : Nat → Int} (hcr : zcoinR x.Kc x.co a1 m_rr m_t1 m_co1 m_K1) : m_t1 = u_kr ∧ (0 ≤ u_kr ∧ u_kr ≤ 3) ∧ (u_kr = 0 → u_O1 0 = zT32 m_rr) ∧ zInv (zMk x.sc x.K x.FA x.FB x.FC x.FE u_O1 x.P x.Qu x.M x.kk x.f0 x.l0 x.b0 x.t0 x.x0 x.y0 x.fx x.fy x.lx x.ly x.tn x.ar x.wx x.wy x.L0 u_z1 x.wg x.W0 x.Ls m_t1 x.sh x.MN x.MA x.MB x.MC x.ME x.Yp x.Yq x.Yo x.ro x.fi x.la x.lo x.hi m_co1 m_K1 x.Wt x.Ip x.ge x.GX x.GY x.ir) := by
  have hc := I.2.2.2.2.2.2.2.2.1
  have h6 := I.2.2.2.2.2.2.2.2.2
  have h60 := I.2.2.2.2.2.1
  have hkb := I.2.2.2.2.2.2.2.1
  have hK : (1 ≤ a1 ∧ a1 ≤ 60) → (zk x.n a1 ↔ ¬ x.Kc a1.toNat = 0) := fun hv => (zk_zkc hv).trans (zKK I _ (by omega) (by omega))
  unfold zcoinR at hcr
  rcases hcr with ⟨g1, g2, rfl, rfl⟩ | ⟨g1, g2, g3, rfl, rfl⟩ | ⟨g1, g2, g3, g4, g5⟩
  · rcases hh with ⟨rfl, rfl, rfl, k1, k2⟩ | ⟨rfl, rfl, rfl, k1⟩ | ⟨rfl, rfl, rfl, k1, k2, k3⟩
    · exact absurd k1 g2
    · exact ⟨g1, by omega, fun z => absurd z (by decide), I⟩
    · exact absurd k1 g2
  · rcases hh with ⟨rfl, rfl, rfl, k1, k2⟩ | ⟨rfl, rfl, rfl, k1⟩ | ⟨rfl, rfl, rfl, k1, k2, k3⟩
    · rcases k2 with k2 | k2
      · exact absurd g3.1 ((hK k1).mp k2)
      · omega
    · exact absurd g2 k1
    · exact ⟨g1, by omega, fun z => absurd z (by decide), I⟩
  · rcases hh with ⟨rfl, rfl, rfl, k1, k2⟩ | ⟨rfl, rfl, rfl, k1⟩ | ⟨rfl, rfl, rfl, k1, k2, k3⟩
    · have hf := zpop_f (n := x.n) k1
      have hco : m_co1 = ((zpop 64 (x.n ^^^ 2 ^ (a1 - 1).toNat) : Nat) : Int) := by
        rcases g5 with ⟨q1, q2, q3⟩ | ⟨q1, q2, q3⟩
        · have := hf.2 (fun z => (hK k1).mp z q1); omega
        · have := hf.1 ((hK k1).mpr q1); omega
      refine ⟨g1, by omega, fun _ => by rw [zU_same, g4, hco], ⟨I.1, I.2.1, I.2.2.1, I.2.2.2.1, I.2.2.2.2.1, zxor60 h60 k1, fun w w1 w2 => ?_, fun j hj => ?_, hco, ?_⟩⟩
      · show zkc (x.n ^^^ 2 ^ (a1 - 1).toNat) w ↔ ¬ m_K1 w = 0
        have e0 := zKK I w w1 w2
        unfold zkm at e0
        rw [zkc_flip k1 w1 w2]
        by_cases e : w = a1.toNat
        · rw [if_pos e, e0, e]
          rcases g5 with ⟨q1, -, rfl⟩ | ⟨q1, -, rfl⟩
          · rw [zU_same]; exact ⟨fun _ => by decide, fun _ z => z q1⟩
          · rw [zU_same]; exact ⟨fun z => absurd q1 z, fun z => absurd rfl z⟩
        · rw [if_neg e, e0]
          rcases g5 with ⟨q1, -, rfl⟩ | ⟨q1, -, rfl⟩ <;> rw [zU_ne e]
      · show m_K1 j = 0 ∨ m_K1 j = 1
        by_cases e : j = a1.toNat
        · rw [e]
          rcases g5 with ⟨q1, -, rfl⟩ | ⟨q1, -, rfl⟩ <;> rw [zU_same]
          · exact Or.inr rfl
          · exact Or.inl rfl
        · rcases g5 with ⟨q1, -, rfl⟩ | ⟨q1, -, rfl⟩ <;> rw [zU_ne e] <;> exact hkb j hj
      · show zpop 64 (x.n ^^^ 2 ^ (a1 - 1).toNat) ≤ 6
        rcases k2 with k2 | k2
        · have := hf.1 k2; omega
        · rcases g5 with ⟨q1, -, -⟩ | ⟨q1, -, -⟩
          · have := hf.2 (fun z => (hK k1).mp z q1); omega
          · have := hf.1 ((hK k1).mpr q1); omega
    · exact absurd g2 k1
    · have q1 : x.Kc a1.toNat = 0 := Classical.byContradiction fun z => k2 ((hK k1).mpr z)
      exact absurd ⟨q1, by omega⟩ g3
set_option maxHeartbeats 2000000 in
theorem zl_ways {x : zSt} (I : zInv x) {a1 : Int} {u_kr : Int} {u_O1 : Nat → Int} {u_W1 : Nat → Int} (hh : (u_kr = 0 ∧ u_O1 = zU x.OF 0 (zws (zkc x.n) a1.toNat 60 a1.toNat) ∧ (0 ≤ a1 ∧ a1 ≤ 1000)) ∨ (u_kr = 1 ∧ u_O1 = x.OF ∧ (¬ (0 ≤ a1 ∧ a1 ≤ 1000)))) {m_rr : Int} {m_t1 : Int} {m_W1 : Nat → Int} (hwr : zwaysR x.Kc a1 m_rr m_t1) : m_t1 = u_kr ∧ (0 ≤ u_kr ∧ u_kr ≤ 3) ∧ (u_kr = 0 → u_O1 0 = m_rr) ∧ zInv (zMk x.sc x.K x.FA x.FB x.FC x.FE u_O1 x.P x.Qu x.M x.kk x.f0 x.l0 x.b0 x.t0 x.x0 x.y0 x.fx x.fy x.lx x.ly x.tn x.ar x.wx x.wy x.L0 x.n x.wg u_W1 x.Ls m_t1 x.sh x.MN x.MA x.MB x.MC x.ME x.Yp x.Yq x.Yo x.ro x.fi x.la x.lo x.hi x.co x.Kc m_W1 x.Ip x.ge x.GX x.GY x.ir) := by
  unfold zwaysR at hwr
  rcases hwr with ⟨g1, g2⟩ | ⟨g1, g2, g3⟩
  · rcases hh with ⟨rfl, rfl, k1⟩ | ⟨rfl, rfl, k1⟩
    · exact absurd k1 g2
    · exact ⟨g1, by omega, fun z => absurd z (by decide), I⟩
  · rcases hh with ⟨rfl, rfl, k1⟩ | ⟨rfl, rfl, k1⟩
    · refine ⟨g1, by omega, fun _ => ?_, I⟩
      rw [zU_same, g3, zws_congr (zKK I)]
    · exact absurd g2 k1
set_option maxHeartbeats 2000000 in
theorem zl_gap {x : zSt} (I : zInv x) {a1 : Int} {u_kr : Int} {u_O1 : Nat → Int} {u_rr : Int} {u_w1 : Int} (hh : (u_kr = 0 ∧ u_O1 = zU x.OF 0 (zT32 u_rr) ∧ (-1 ≤ a1 ∧ zgd (zkc x.n) 60 = 1 ∧ zgap (zkc x.n) 3601 a1 u_w1 ∧ ((a1 = -1 ∧ u_rr = ((zcn (fun t => ¬ zpay (zkc x.n) t) 3601 : Nat) : Int)) ∨ (¬ a1 = -1 ∧ a1 < ((zcn (fun t => ¬ zpay (zkc x.n) t) 3601 : Nat) : Int) ∧ u_rr = u_w1)))) ∨ (u_kr = 1 ∧ u_O1 = x.OF ∧ (a1 < -1)) ∨ (u_kr = 2 ∧ u_O1 = x.OF ∧ (-1 ≤ a1 ∧ ¬ zgd (zkc x.n) 60 = 1)) ∨ (u_kr = 1 ∧ u_O1 = x.OF ∧ (-1 ≤ a1 ∧ zgd (zkc x.n) 60 = 1 ∧ ¬ a1 = -1 ∧ ((zcn (fun t => ¬ zpay (zkc x.n) t) 3601 : Nat) : Int) ≤ a1))) {m_rr : Int} {m_t1 : Int} {m_I1 : Nat → Int} (hgp : zgapR x.Kc a1 m_rr m_t1) : m_t1 = u_kr ∧ (0 ≤ u_kr ∧ u_kr ≤ 3) ∧ (u_kr = 0 → u_O1 0 = zT32 m_rr) ∧ zInv (zMk x.sc x.K x.FA x.FB x.FC x.FE u_O1 x.P x.Qu x.M x.kk x.f0 x.l0 x.b0 x.t0 x.x0 x.y0 x.fx x.fy x.lx x.ly x.tn x.ar x.wx x.wy x.L0 x.n u_w1 x.W0 x.Ls m_t1 x.sh x.MN x.MA x.MB x.MC x.ME x.Yp x.Yq x.Yo x.ro x.fi x.la x.lo x.hi x.co x.Kc x.Wt m_I1 x.ge x.GX x.GY x.ir) := by
  have e1 : zgd (zkc x.n) 60 = zgd (zkm x.Kc) 60 := zgd_congr (zKK I)
  have e2 := fun t => zpay_congr (zKK I) t
  have e3 : ∀ m, zcn (fun t => ¬ zpay (zkc x.n) t) m = zcn (fun t => ¬ zpay (zkm x.Kc) t) m := fun m => zcn_congr (fun j _ => not_congr (e2 j))
  rw [e1, e3] at hh
  unfold zgapR at hgp
  rcases hh with ⟨rfl, rfl, k1, k2, k3, k4⟩ | ⟨rfl, rfl, k1⟩ | ⟨rfl, rfl, k1, k2⟩ | ⟨rfl, rfl, k1, k2, k3, k4⟩
  · rcases hgp with ⟨g1, g2⟩ | ⟨g1, g2, g3⟩ | ⟨g1, g2, g3, g4⟩ | ⟨g1, g2, g3, g, g4, g5, g6, g7⟩ | ⟨g1, g2, g3, g4⟩
    · omega
    · exact absurd k2 g3
    · refine ⟨g1, by omega, fun _ => ?_, I⟩
      rcases k4 with ⟨p1, p2⟩ | ⟨p1, p2, p3⟩
      · rw [zU_same, p2, g4]
      · omega
    · refine ⟨g1, by omega, fun _ => ?_, I⟩
      rcases k4 with ⟨p1, p2⟩ | ⟨p1, p2, p3⟩
      · omega
      · rw [zU_same, p3, g7, k3 g g4 (fun z => g5 ((e2 g).mp z)) (by rw [e3]; exact g6)]
    · rcases k4 with ⟨p1, p2⟩ | ⟨p1, p2, p3⟩
      · omega
      · omega
  · rcases hgp with ⟨g1, g2⟩ | ⟨g1, g2, g3⟩ | ⟨g1, g2, g3, g4⟩ | ⟨g1, g2, g3, g, g4, g5, g6, g7⟩ | ⟨g1, g2, g3, g4⟩
    · exact ⟨g1, by omega, fun z => absurd z (by decide), I⟩
    · exact absurd k1 g2
    · omega
    · omega
    · omega
  · rcases hgp with ⟨g1, g2⟩ | ⟨g1, g2, g3⟩ | ⟨g1, g2, g3, g4⟩ | ⟨g1, g2, g3, g, g4, g5, g6, g7⟩ | ⟨g1, g2, g3, g4⟩
    · omega
    · exact ⟨g1, by omega, fun z => absurd z (by decide), I⟩
    · exact absurd g2 k2
    · exact absurd g2 k2
    · exact absurd g2 k2
  · rcases hgp with ⟨g1, g2⟩ | ⟨g1, g2, g3⟩ | ⟨g1, g2, g3, g4⟩ | ⟨g1, g2, g3, g, g4, g5, g6, g7⟩ | ⟨g1, g2, g3, g4⟩
    · omega
    · exact absurd k2 g3
    · omega
    · have h1 := zcn_mono (p := fun t => ¬ zpay (zkm x.Kc) t) (show g + 1 ≤ 3601 by omega)
      rw [zcn_t g5] at h1
      omega
    · exact ⟨g1, by omega, fun z => absurd z (by decide), I⟩
