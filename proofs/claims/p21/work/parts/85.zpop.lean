/-! how many bits: Long.bitCount -/
def zpop : Nat → Nat → Nat
  | 0, _ => 0
  | k + 1, n => n % 2 + zpop k (n / 2)
theorem zpop_add : ∀ (j k n : Nat), zpop (j + k) n = zpop j n + zpop k (n / 2 ^ j)
  | 0, k, n => by rw [Nat.zero_add, Nat.pow_zero, Nat.div_one]; show _ = 0 + _; omega
  | j + 1, k, n => by
    rw [Nat.add_right_comm]
    show n % 2 + zpop (j + k) (n / 2) = n % 2 + zpop j (n / 2) + zpop k (n / 2 ^ (j + 1))
    rw [zpop_add j k (n / 2), Nat.div_div_eq_div_mul, Nat.pow_succ, Nat.mul_comm (2 ^ j) 2, Nat.add_assoc]
theorem zpop_le : ∀ (k n : Nat), zpop k n ≤ k
  | 0, _ => Nat.le_refl _
  | k + 1, n => by show n % 2 + zpop k (n / 2) ≤ k + 1; have := zpop_le k (n / 2); omega
theorem zpop_8 (n : Nat) : zpop 8 n = zpop 8 (n % 256) := by
  simp only [zpop]
  omega
/-- one bit the other way -/
theorem zpop_flip : ∀ (k i n : Nat), i < k → zpop k (n ^^^ 2 ^ i) + 2 * (n / 2 ^ i % 2) = zpop k n + 1
  | 0, _, _, h => absurd h (Nat.not_lt_zero _)
  | k + 1, 0, n, _ => by
    show (n ^^^ 2 ^ 0) % 2 + zpop k ((n ^^^ 2 ^ 0) / 2) + 2 * (n / 2 ^ 0 % 2) = n % 2 + zpop k (n / 2) + 1
    have e1 : (n ^^^ 2 ^ 0) % 2 = (n % 2 + 1) % 2 := by
      rw [show 2 ^ 0 = 1 from rfl, show (n ^^^ 1) % 2 = (n ^^^ 1) % 2 ^ 1 from rfl, Nat.xor_mod_two_pow]
      rcases Nat.mod_two_eq_zero_or_one n with h | h <;> rw [show n % 2 ^ 1 = n % 2 from rfl, h] <;> rfl
    have e2 : (n ^^^ 2 ^ 0) / 2 = n / 2 := by
      rw [show 2 ^ 0 = 1 from rfl, show (n ^^^ 1) / 2 = (n ^^^ 1) / 2 ^ 1 from rfl, Nat.xor_div_two_pow]
      exact Nat.xor_zero _
    rw [e1, e2, Nat.pow_zero, Nat.div_one]
    omega
  | k + 1, i + 1, n, h => by
    show (n ^^^ 2 ^ (i + 1)) % 2 + zpop k ((n ^^^ 2 ^ (i + 1)) / 2) + 2 * (n / 2 ^ (i + 1) % 2) = n % 2 + zpop k (n / 2) + 1
    have e1 : (n ^^^ 2 ^ (i + 1)) % 2 = n % 2 := by
      rw [show (n ^^^ 2 ^ (i + 1)) % 2 = (n ^^^ 2 ^ (i + 1)) % 2 ^ 1 from rfl, Nat.xor_mod_two_pow]
      rw [show 2 ^ (i + 1) % 2 ^ 1 = 0 by rw [Nat.pow_succ]; exact Nat.mul_mod_left _ _]
      exact Nat.xor_zero _
    have e2 : (n ^^^ 2 ^ (i + 1)) / 2 = (n / 2) ^^^ 2 ^ i := by
      rw [show (n ^^^ 2 ^ (i + 1)) / 2 = (n ^^^ 2 ^ (i + 1)) / 2 ^ 1 from rfl, Nat.xor_div_two_pow]
      rw [show 2 ^ (i + 1) / 2 ^ 1 = 2 ^ i by rw [Nat.pow_succ]; exact Nat.mul_div_left _ (by decide)]
    have ih := zpop_flip k i (n / 2) (by omega)
    rw [Nat.div_div_eq_div_mul, show 2 * 2 ^ i = 2 ^ (i + 1) by rw [Nat.pow_succ, Nat.mul_comm]] at ih
    rw [e1, e2]
    omega
theorem zand256 (m b M q : Nat) (hb : b < 256) (hq : q < 256) : (256 * m + b) &&& (256 * M + q) = 256 * (m &&& M) + (b &&& q) := by
  have e1 : ((256 * m + b) &&& (256 * M + q)) % 256 = b &&& q := by
    rw [show ((256 * m + b) &&& (256 * M + q)) % 256 = ((256 * m + b) &&& (256 * M + q)) % 2 ^ 8 from rfl, Nat.and_mod_two_pow]
    congr 1 <;> omega
  have e2 : ((256 * m + b) &&& (256 * M + q)) / 256 = m &&& M := by
    rw [show ((256 * m + b) &&& (256 * M + q)) / 256 = ((256 * m + b) &&& (256 * M + q)) / 2 ^ 8 from rfl, Nat.and_div_two_pow]
    congr 1 <;> omega
  omega
/-- a byte's three steps -/
def zby1 (b : Nat) : Nat := b - (b / 2 &&& 85)
def zby2 (b : Nat) : Nat := (zby1 b &&& 51) + (zby1 b / 4 &&& 51)
def zby3 (b : Nat) : Nat := (zby2 b + zby2 b / 16) &&& 15
theorem zby_tab : ∀ b, b < 256 → (b / 2 &&& 85) ≤ b ∧ zby1 b < 256 ∧ zby2 b % 16 ≤ 4 ∧ zby2 b / 16 ≤ 4 ∧ zby3 b = zpop 8 b ∧ ((128 + b / 2) &&& 85) = (b / 2 &&& 85) ∧
    (∀ r, r < 4 → ((64 * r + zby1 b / 4) &&& 51) = (zby1 b / 4 &&& 51)) := by decide +kernel
theorem zby_tab3 : ∀ u, u < 9 → ∀ v, v < 9 → ((16 * u + v) &&& 15) = v := by decide +kernel
/-- what the three steps make of k bytes -/
def zms (x : Nat) : Nat → Nat
  | 0 => 0
  | k + 1 => 256 * zms x k + x
def zrep (f : Nat → Nat) : Nat → Nat → Nat
  | 0, _ => 0
  | k + 1, n => 256 * zrep f k (n / 256) + f (n % 256)
theorem zby1_lt {b : Nat} (h : b < 256) : zby1 b < 256 := (zby_tab b h).2.1
theorem zst1 : ∀ (k n : Nat), n < 256 ^ k → (n / 2 &&& zms 85 k) ≤ n ∧ n - (n / 2 &&& zms 85 k) = zrep zby1 k n
  | 0, n, h => by
    have : n = 0 := by rw [Nat.pow_zero] at h; omega
    subst this
    exact ⟨Nat.le_refl _, rfl⟩
  | k + 1, n, h => by
    have ih := zst1 k (n / 256) (by rw [Nat.pow_succ] at h; omega)
    have hb : n % 256 < 256 := Nat.mod_lt _ (by decide)
    have t := zby_tab (n % 256) hb
    have e1 : n / 2 = 256 * (n / 256 / 2) + (128 * (n / 256 % 2) + n % 256 / 2) := by omega
    have e2 : (n / 2 &&& zms 85 (k + 1)) = 256 * (n / 256 / 2 &&& zms 85 k) + (n % 256 / 2 &&& 85) := by
      show (n / 2 &&& (256 * zms 85 k + 85)) = _
      rw [e1, zand256 _ _ _ _ (by omega) (by decide)]
      congr 1
      rcases Nat.mod_two_eq_zero_or_one (n / 256) with q | q <;> rw [q]
      · rw [Nat.mul_zero, Nat.zero_add]
      · rw [Nat.mul_one]; exact t.2.2.2.2.2.1
    rw [e2]
    show _ ∧ _ = 256 * zrep zby1 k (n / 256) + zby1 (n % 256)
    rw [← ih.2]
    unfold zby1
    have t1 := t.1
    omega
theorem zrep_div {f : Nat → Nat} (hf : ∀ b, b < 256 → f b < 256) (k n : Nat) : zrep f (k + 1) n / 256 = zrep f k (n / 256) ∧ zrep f (k + 1) n % 256 = f (n % 256) := by
  have := hf (n % 256) (Nat.mod_lt _ (by decide))
  show (256 * zrep f k (n / 256) + f (n % 256)) / 256 = _ ∧ (256 * zrep f k (n / 256) + f (n % 256)) % 256 = _
  omega
theorem zst2 : ∀ (k n : Nat), (zrep zby1 k n &&& zms 51 k) + (zrep zby1 k n / 4 &&& zms 51 k) = zrep zby2 k n
  | 0, n => show (0 &&& 0) + (0 / 4 &&& 0) = 0 from by decide
  | k + 1, n => by
    have ih := zst2 k (n / 256)
    have hb : n % 256 < 256 := Nat.mod_lt _ (by decide)
    have t := zby_tab (n % 256) hb
    have h1 := zby1_lt hb
    have e1 : zrep zby1 (k + 1) n / 4 = 256 * (zrep zby1 k (n / 256) / 4) + (64 * (zrep zby1 k (n / 256) % 4) + zby1 (n % 256) / 4) := by
      show (256 * zrep zby1 k (n / 256) + zby1 (n % 256)) / 4 = _
      omega
    rw [e1]
    show ((256 * zrep zby1 k (n / 256) + zby1 (n % 256)) &&& (256 * zms 51 k + 51)) + (_ &&& (256 * zms 51 k + 51)) = 256 * zrep zby2 k (n / 256) + zby2 (n % 256)
    rw [zand256 _ _ _ _ h1 (by decide), zand256 _ _ _ _ (by omega) (by decide), t.2.2.2.2.2.2 _ (Nat.mod_lt _ (by decide)), ← ih]
    unfold zby2
    omega
theorem zby2_b {b : Nat} (h : b < 256) : zby2 b ≤ 68 := by have := zby_tab b h; omega
theorem zst3 : ∀ (k n : Nat), (zrep zby2 k n + zrep zby2 k n / 16) &&& zms 15 k = zrep zby3 k n
  | 0, n => show (0 + 0 / 16) &&& 0 = 0 from by decide
  | k + 1, n => by
    have ih := zst3 k (n / 256)
    have hb : n % 256 < 256 := Nat.mod_lt _ (by decide)
    have t := zby_tab (n % 256) hb
    have hk : zrep zby2 k (n / 256) % 16 ≤ 4 := by
      cases k with
      | zero => exact Nat.zero_le _
      | succ k =>
        show (256 * zrep zby2 k (n / 256 / 256) + zby2 (n / 256 % 256)) % 16 ≤ 4
        have t2 := zby_tab (n / 256 % 256) (Nat.mod_lt _ (by decide))
        omega
    have e1 : zrep zby2 (k + 1) n + zrep zby2 (k + 1) n / 16 = 256 * (zrep zby2 k (n / 256) + zrep zby2 k (n / 256) / 16) + (16 * (zby2 (n % 256) / 16 + zrep zby2 k (n / 256) % 16) + (zby2 (n % 256) % 16 + zby2 (n % 256) / 16)) := by
      show 256 * zrep zby2 k (n / 256) + zby2 (n % 256) + (256 * zrep zby2 k (n / 256) + zby2 (n % 256)) / 16 = _
      omega
    have e3 : zby3 (n % 256) = zby2 (n % 256) % 16 + zby2 (n % 256) / 16 := by
      unfold zby3
      rw [show zby2 (n % 256) + zby2 (n % 256) / 16 = 16 * (zby2 (n % 256) / 16) + (zby2 (n % 256) % 16 + zby2 (n % 256) / 16) by omega]
      exact zby_tab3 _ (by omega) _ (by omega)
    rw [e1]
    show _ &&& (256 * zms 15 k + 15) = 256 * zrep zby3 k (n / 256) + zby3 (n % 256)
    rw [zand256 _ _ _ _ (by omega) (by decide), ih, e3, zby_tab3 _ (by omega) _ (by omega)]
theorem zrep3 (k n : Nat) : zrep zby3 (k + 1) n = 256 * zrep zby3 k (n / 256) + zpop 8 n := by
  show 256 * zrep zby3 k (n / 256) + zby3 (n % 256) = _
  rw [(zby_tab (n % 256) (Nat.mod_lt _ (by decide))).2.2.2.2.1, ← zpop_8]
theorem zr1 (n : Nat) : zrep zby3 2 n = 256 * zpop 8 (n / 256) + zpop 8 n := by
  rw [zrep3, zrep3]
  show 256 * (256 * 0 + _) + _ = _
  rw [Nat.mul_zero, Nat.zero_add]
/-- the eight counts, added by halves -/
theorem zsum8 {a0 a1 a2 a3 a4 a5 a6 a7 x d e f r1 r2 r3 r4 r5 r6 : Nat} (h0 : a0 ≤ 8) (h1 : a1 ≤ 8) (h2 : a2 ≤ 8) (h3 : a3 ≤ 8) (h4 : a4 ≤ 8) (h5 : a5 ≤ 8) (h6 : a6 ≤ 8) (h7 : a7 ≤ 8)
    (g6 : r6 = 256 * a7 + a6) (g5 : r5 = 256 * r6 + a5) (g4 : r4 = 256 * r5 + a4) (g3 : r3 = 256 * r4 + a3) (g2 : r2 = 256 * r3 + a2) (g1 : r1 = 256 * r2 + a1) (hx : x = 256 * r1 + a0)
    (hd : d = x + x / 256) (he : e = d + d / 65536) (hf : f = e + e / 4294967296) : f % 128 = a0 + a1 + a2 + a3 + a4 + a5 + a6 + a7 := by
  have q1 : x / 256 = r1 := by omega
  have x2 : x = a0 + 256 * a1 + 65536 * r2 := by omega
  have y2 : r1 = a1 + 256 * a2 + 65536 * r3 := by omega
  have q2 : d / 65536 = r2 + r3 := by
    rw [hd, q1]
    clear hd he hf
    omega
  have x4 : x = a0 + 256 * a1 + 65536 * a2 + 16777216 * a3 + 4294967296 * r4 := by omega
  have y4 : r1 = a1 + 256 * a2 + 65536 * a3 + 16777216 * a4 + 4294967296 * r5 := by omega
  have z4 : r2 = a2 + 256 * a3 + 65536 * a4 + 16777216 * a5 + 4294967296 * r6 := by omega
  have w4 : r3 = a3 + 256 * a4 + 65536 * a5 + 16777216 * a6 + 4294967296 * a7 := by omega
  have e4 : e = x + r1 + r2 + r3 := by omega
  have q3 : e / 4294967296 = r4 + r5 + r6 + a7 := by
    rw [e4]
    clear hd he hf g1 g2 g3 g4 g5 g6 hx q1 x2 y2 q2
    omega
  have f4 : f = x + r1 + r2 + r3 + r4 + r5 + r6 + a7 := by omega
  have f5 : f = (a0 + a1 + a2 + a3 + a4 + a5 + a6 + a7) + 256 * (r1 + r2 + r3 + r4 + r5 + r6 + a7) := by omega
  clear hd he hf g1 g2 g3 g4 g5 g6 hx q1 x2 y2 q2 x4 y4 z4 w4 e4 q3 f4
  omega
/-- all steps of Long.bitCount -/
theorem zbc_all {n a b x d e f : Nat} (hn : n < 2 ^ 64) (ha : a = n - (n / 2 ^ 1 &&& 6148914691236517205)) (hb : b = (a &&& 3689348814741910323) + (a / 2 ^ 2 &&& 3689348814741910323)) (hx : x = (b + b / 2 ^ 4) &&& 1085102592571150095)
    (hd : d = x + x / 2 ^ 8) (he : e = d + d / 2 ^ 16) (hf : f = e + e / 2 ^ 32) : f % 128 = zpop 64 n := by
  have m1 : zms 85 8 = 6148914691236517205 := by decide +kernel
  have m2 : zms 51 8 = 3689348814741910323 := by decide +kernel
  have m3 : zms 15 8 = 1085102592571150095 := by decide +kernel
  have s1 := (zst1 8 n (by rw [show 256 ^ 8 = 2 ^ 64 from rfl]; exact hn)).2
  rw [m1] at s1
  have s2 := zst2 8 n
  have s3 := zst3 8 n
  rw [m2, ← s1] at s2
  rw [m3, ← s2] at s3
  have e1 : a = n - (n / 2 &&& 6148914691236517205) := ha
  rw [← e1] at s2 s3
  have e2 : b = (a &&& 3689348814741910323) + (a / 4 &&& 3689348814741910323) := hb
  rw [← e2] at s2 s3
  have e3 : x = zrep zby3 8 n := by rw [hx, ← s3]
  have p8 := zpop_le 8
  have k : zpop 64 n = zpop 8 n + zpop 8 (n / 256) + zpop 8 (n / 256 / 256) + zpop 8 (n / 256 / 256 / 256) + zpop 8 (n / 256 / 256 / 256 / 256) + zpop 8 (n / 256 / 256 / 256 / 256 / 256) + zpop 8 (n / 256 / 256 / 256 / 256 / 256 / 256) + zpop 8 (n / 256 / 256 / 256 / 256 / 256 / 256 / 256) := by
    have st : ∀ j m, zpop (8 + j) m = zpop 8 m + zpop j (m / 256) := fun j m => zpop_add 8 j m
    rw [show 64 = 8 + (8 + (8 + (8 + (8 + (8 + (8 + (8 + 0))))))) from rfl]
    simp only [st]
    show _ + (_ + (_ + (_ + (_ + (_ + (_ + (_ + 0))))))) = _
    omega
  rw [k]
  refine zsum8 (p8 _) (p8 _) (p8 _) (p8 _) (p8 _) (p8 _) (p8 _) (p8 _) (zr1 _) (zrep3 _ _) (zrep3 _ _) (zrep3 _ _) (zrep3 _ _) (zrep3 _ _) ?_ hd he hf
  rw [e3, zrep3]
