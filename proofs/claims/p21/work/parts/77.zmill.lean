/-! PointMill: what its calls do -/
def zmvC (its : Int) (fa fb : Nat → Int) (k : Nat) (fa1 fb1 : Nat → Int) : Prop := fa1 = zfill (zmva its fa fb) fa k ∧ fb1 = zfill (zmvb its fa fb) fb k
theorem zfill_cg {f g h : Nat → Int} {k : Nat} (e : ∀ j, f j = g j) : zfill f h k = zfill g h k := by
  have : f = g := funext e
  rw [this]
theorem zfill_id {f : Nat → Int} {k : Nat} : zfill f f k = f := by
  funext j
  unfold zfill
  split <;> rfl
theorem zmvC_0 {its : Int} {fa fb : Nat → Int} {k : Nat} (h : its = 0) : zmvC its fa fb k (zfill fb fa k) (zfill fa fb k) := by
  subst h
  exact ⟨zfill_cg fun j => (if_pos rfl).symm, zfill_cg fun j => (if_pos rfl).symm⟩
theorem zmvC_2 {its : Int} {fa fb : Nat → Int} {k : Nat} (h : its = 2) : zmvC its fa fb k (zfill (fun j => -fa j) fa k) fb := by
  subst h
  refine ⟨zfill_cg fun j => rfl, ?_⟩
  have : zmvb 2 fa fb = fb := by funext j; rfl
  rw [this, zfill_id]
theorem zmvC_1 {its : Int} {fa fb : Nat → Int} {k : Nat} (h : its = 1) : zmvC its fa fb k fa (zfill (fun j => fb j - fa j) fb k) := by
  subst h
  refine ⟨?_, zfill_cg fun j => rfl⟩
  have : zmva 1 fa fb = fa := by funext j; rfl
  rw [this, zfill_id]
