/-! The reference: its getters, and what workOut makes. -/
theorem nI_m1 {n : Nat} (h : n < 2 ^ 31) : ¬ nI n = (-1 : Int32) := by
  intro e
  have h2 := congrArg Int32.toInt e
  rw [nI_toInt h] at h2
  have : ((-1 : Int32)).toInt = -1 := rfl
  omega
/-- the last one found among the first x -/
def fdP (a : Ab) (K : Nat → Bool) (i lo hi x : Nat) (r : Int32) : Prop := (r = -1 ∧ ∀ o, o < x → ¬ isP a K i lo hi o) ∨ ∃ o, o < x ∧ r = nI o ∧ isP a K i lo hi o ∧ ∀ o', o' < x → isP a K i lo hi o' → o' ≠ o → bf a o' o
