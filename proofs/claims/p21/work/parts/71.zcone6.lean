def zgenK (x y v w : Int) (X Y : Nat → Int) (k : Nat) : Prop := ∃ fx fy ex ey sg ar, zcone x y v w fx fy ex ey sg ar ∧ ((-20 ≤ fx ∧ fx ≤ 20) ∧ (-20 ≤ fy ∧ fy ≤ 20) ∧ (-20 ≤ ex ∧ ex ≤ 20) ∧ (-20 ≤ ey ∧ ey ≤ 20)) ∧ zgenA sg fx fy ex ey X Y k ∧ (k : Int) + 1 ≤ ar
def zgenR (x y v w pl fst r t1 : Int) : Prop :=
  t1 = 1 ∧ pl < -1 ∨ t1 = 2 ∧ -1 ≤ pl ∧ ¬ zcnm x y v w ∨
  (-1 ≤ pl ∧ zcnm x y v w ∧ ∃ X Y k, zgenK x y v w X Y k ∧ (t1 = 1 ∧ (k : Int) + 2 ≤ pl ∨ t1 = 0 ∧ pl = -1 ∧ r = (k : Int) + 2 ∨ t1 = 0 ∧ 0 ≤ pl ∧ pl < (k : Int) + 2 ∧ r = (if fst = 0 then Y pl.toNat else X pl.toNat)))
theorem zgenk_b {x y v w fx fy lx ly tn ar : Int} {k : Nat} (h : zcone x y v w fx fy lx ly tn ar) (hb : (-20 ≤ fx ∧ fx ≤ 20) ∧ (-20 ≤ fy ∧ fy ≤ 20) ∧ (-20 ≤ lx ∧ lx ≤ 20) ∧ (-20 ≤ ly ∧ ly ≤ 20)) (hk : (k : Int) + 1 ≤ ar) : (k : Int) ≤ 799 := by
  have := zcone_ar h hb.1 hb.2.1 hb.2.2.1 hb.2.2.2
  omega
