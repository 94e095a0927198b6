/-! the model's further answers -/
theorem zplk_i {A B : Nat → Int} {k : Nat} {i0 : Int} (h : i0 = zb (0 < k)) : i0 = zb (0 < k ∧ zplk A B k 0) := by
  rw [h]
  apply zb_congr
  constructor
  · intro a; exact ⟨a, zplk_0⟩
  · intro a; exact a.1
def zplaceR (sh : Int) (N A B : Nat → Int) (v r t1 : Int) : Prop :=
  t1 = 1 ∧ ¬ (0 ≤ v ∧ v < sh) ∨ t1 = 0 ∧ (0 ≤ v ∧ v < sh) ∧ r = zb (zpl (zrow A v.toNat) (zrow B v.toNat) (N v.toNat).toNat)
def zpart (a b c e wt : Int) : Int := if wt = 0 then a else if wt = 1 then b else if wt = 2 then c else e
def zisR (sh : Int) (N : Nat → Int) (v rw : Int) : Prop := (0 ≤ v ∧ v < sh) ∧ 0 ≤ rw ∧ rw < N v.toNat
def zineR (sh : Int) (N A B C E : Nat → Int) (v rw wt r t1 : Int) : Prop :=
  t1 = 1 ∧ ¬ zisR sh N v rw ∨ t1 = 2 ∧ zisR sh N v rw ∧ ¬ (0 ≤ wt ∧ wt ≤ 3) ∨
  t1 = 0 ∧ zisR sh N v rw ∧ (0 ≤ wt ∧ wt ≤ 3) ∧ r = zpart (A (10 * v.toNat + rw.toNat)) (B (10 * v.toNat + rw.toNat)) (C (10 * v.toNat + rw.toNat)) (E (10 * v.toNat + rw.toNat)) wt
/-- cells from o on, i of them, by G -/
def zfl (F G : Nat → Int) (o i : Nat) : Nat → Int := fun j => if o ≤ j ∧ j < o + i then G j else F j
theorem zfl_0 {F G : Nat → Int} {o : Nat} : zfl F G o 0 = F := by funext j; unfold zfl; rw [if_neg (by omega)]
theorem zfl_out {F G : Nat → Int} {o i j : Nat} (h : ¬ (o ≤ j ∧ j < o + i)) : zfl F G o i j = F j := if_neg h
theorem zfl_in {F G : Nat → Int} {o i j : Nat} (h : o ≤ j ∧ j < o + i) : zfl F G o i j = G j := if_pos h
theorem zfl_s {F G : Nat → Int} {o i : Nat} {v : Int} (h : v = G (o + i)) : zU (zfl F G o i) (o + i) v = zfl F G o (i + 1) := by
  funext j
  by_cases e : j = o + i
  · rw [e, zU_same, zfl_in (by omega), h]
  · rw [zU_ne e]
    unfold zfl
    by_cases q : o ≤ j ∧ j < o + i
    · rw [if_pos q, if_pos (by omega)]
    · rw [if_neg q, if_neg (by omega)]
def zmva (its : Int) (A B : Nat → Int) : Nat → Int := fun j => if its = 0 then B j else if its = 1 then A j else -A j
def zmvb (its : Int) (A B : Nat → Int) : Nat → Int := fun j => if its = 0 then A j else if its = 1 then B j - A j else B j
def zmoveR (sh : Int) (N A B : Nat → Int) (v its r t1 : Int) (A1 B1 : Nat → Int) : Prop :=
  t1 = 1 ∧ ¬ (0 ≤ v ∧ v < sh) ∧ A1 = A ∧ B1 = B ∨
  t1 = 2 ∧ (0 ≤ v ∧ v < sh) ∧ ¬ (0 ≤ its ∧ its ≤ 2) ∧ A1 = A ∧ B1 = B ∨
  t1 = 3 ∧ (0 ≤ v ∧ v < sh) ∧ its = 1 ∧ ¬ zsl (zrow A v.toNat) (zrow B v.toNat) (N v.toNat).toNat ∧ A1 = A ∧ B1 = B ∨
  t1 = 0 ∧ (0 ≤ v ∧ v < sh) ∧ (0 ≤ its ∧ its ≤ 2) ∧ (its = 1 → zsl (zrow A v.toNat) (zrow B v.toNat) (N v.toNat).toNat) ∧ r = N v.toNat ∧
    A1 = zfl A (zmva its A B) (10 * v.toNat) (N v.toNat).toNat ∧ B1 = zfl B (zmvb its A B) (10 * v.toNat) (N v.toNat).toNat
def zmvq (A B : Nat → Int) (k i : Nat) (its tn th1 : Int) : Prop :=
  (th1 = tn ∧ zsl A B i) ∨ (th1 = 3 ∧ tn = 0 ∧ its = 1 ∧ ¬ zsl A B k)
theorem zmvq_ok {A B : Nat → Int} {k i : Nat} {its tn th1 : Int} (h : zmvq A B k i its tn th1) (h0 : th1 = 0) (h1 : -60 ≤ B i - A i ∧ B i - A i ≤ 60) : zmvq A B k (i + 1) its tn 0 := by
  rcases h with h | h
  · exact Or.inl ⟨by omega, zsl_s h.2 h1⟩
  · omega
theorem zmvq_no {A B : Nat → Int} {k i : Nat} {its tn th1 : Int} (h : zmvq A B k i its tn th1) (h0 : th1 = 0) (h2 : its = 1) (h3 : i < k) (h1 : ¬ (-60 ≤ B i - A i ∧ B i - A i ≤ 60)) : zmvq A B k (i + 1) its tn 3 := by
  rcases h with h | h
  · exact Or.inr ⟨rfl, by omega, h2, fun z => h1 (z i h3)⟩
  · omega
theorem zmvq_tn {A B : Nat → Int} {k i : Nat} {its tn th1 : Int} (h : zmvq A B k i its tn th1) (h0 : th1 = 0) : tn = 0 ∧ zsl A B i := by
  rcases h with h | h
  · exact ⟨by omega, h.2⟩
  · omega
theorem zmvq_R {A B : Nat → Int} {k i : Nat} {its tn th1 : Int} (h : zmvq A B k i its tn th1) (h0 : 0 ≤ tn ∧ tn ≤ 2) : 0 ≤ th1 ∧ th1 ≤ 3 := by
  rcases h with h | h <;> omega
theorem zcut_k {fa fb fc fe : Nat → Int} {k o t : Nat} {sm mr dv : Int} : zcut fa fb fc fe k o t sm mr dv ↔ zcut fa fb fc fe 0 o t sm mr dv ∧ k < 10 := by
  unfold zcut
  constructor
  · rintro ⟨a, b, c, d, e, f, g, h, i⟩; exact ⟨⟨a, b, c, d, e, f, g, h, by omega⟩, i⟩
  · rintro ⟨⟨a, b, c, d, e, f, g, h, _⟩, i⟩; exact ⟨a, b, c, d, e, f, g, h, i⟩
def zcok (sm mr dv : Int) : Prop := (0 ≤ sm ∧ sm ≤ 9) ∧ (0 ≤ mr ∧ mr ≤ 9) ∧ (1 ≤ dv ∧ dv ≤ 20)
def zcutR (sh : Int) (N A B C E : Nat → Int) (v one sm oth mr dv r t1 : Int) (N1 A1 B1 C1 E1 : Nat → Int) : Prop :=
  t1 = 1 ∧ ¬ (zisR sh N v one ∧ zisR sh N v oth) ∧ zun N A B C E N1 A1 B1 C1 E1 ∨
  t1 = 2 ∧ (zisR sh N v one ∧ zisR sh N v oth) ∧ ¬ zcok sm mr dv ∧ zun N A B C E N1 A1 B1 C1 E1 ∨
  t1 = 3 ∧ (zisR sh N v one ∧ zisR sh N v oth) ∧ zcok sm mr dv ∧ ¬ zcut (zrow A v.toNat) (zrow B v.toNat) (zrow C v.toNat) (zrow E v.toNat) (N v.toNat).toNat one.toNat oth.toNat sm mr dv ∧ zun N A B C E N1 A1 B1 C1 E1 ∨
  t1 = 0 ∧ (zisR sh N v one ∧ zisR sh N v oth) ∧ zcok sm mr dv ∧ zcut (zrow A v.toNat) (zrow B v.toNat) (zrow C v.toNat) (zrow E v.toNat) (N v.toNat).toNat one.toNat oth.toNat sm mr dv ∧ r = N v.toNat ∧
    zputs N A B C E N1 A1 B1 C1 E1 v.toNat ((zcs (zrow A v.toNat) one.toNat oth.toNat sm mr).tdiv dv) ((zcs (zrow B v.toNat) one.toNat oth.toNat sm mr).tdiv dv) (zcs (zrow C v.toNat) one.toNat oth.toNat sm mr / dv) 0
