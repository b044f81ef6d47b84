/-! The reference makes an operation. -/
def lkM (a : Ab) (s t : Nat) (τ : St) : Prop := ∀ L, L < 25 → τ 6 L = nI (if lkD a s L = true ∧ L % 5 < t then a 12 L + 1 else a 12 L) ∧ (∀ k, k < a 12 L → τ 5 (10 * L + k) = nI (a 13 (10 * L + k))) ∧ (lkD a s L = true → L % 5 < t → τ 5 (10 * L + a 12 L) = nI (a 1 s + 1))
