/-! differing: knowledge with what is on its way. -/
def kkF (kk : Nat → Nat) (s i : Nat) : Bool := decide (i < 100 ∧ kk (100 * s + i) = 1)
/-- both sides, with other knowledge kk -/
def kkOk (a : Ab) (kk : Nat → Nat) : Prop := ∀ s i, s < 5 → i < 100 → kk (100 * s + i) ≤ 1 ∧ (kk (100 * s + i) = 1 → mk a i)
def CK (a : Ab) (v : St) (kk : Nat → Nat) (σ : St) : Prop := RepC a v σ ∧ ∀ j, j < 500 → σ 17 j = nI (kk j)
theorem kkF_val {a : Ab} {kk : Nat → Nat} (h : kkOk a kk) {s i : Nat} (hs : s < 5) (hi : i < 100) : nI (kk (100 * s + i)) = bI (kkF kk s i) := by
  have h1 := (h s i hs hi).1
  unfold kkF
  by_cases e : kk (100 * s + i) = 1
  · rw [e, decide_eq_true ⟨hi, rfl⟩]; rfl
  · rw [show kk (100 * s + i) = 0 by omega, decide_eq_false (by omega)]; rfl
theorem kkF_mk {a : Ab} {kk : Nat → Nat} (h : kkOk a kk) {s i : Nat} (hs : s < 5) (e : kkF kk s i = true) : mk a i := by
  have h1 := of_decide_eq_true e
  exact (h s i hs h1.1).2 h1.2
theorem CK_ag {a : Ab} {v : St} {kk : Nat → Nat} {b : Nat} {σ σ' : St} (hb : b < 2) (h : CK a v kk σ) (e : agB b σ σ') : CK a v kk σ' := ⟨RepC_ag h.1 (agC_of hb e), fun j hj => by rw [e 17 (by omega) (by omega) (by omega) (by omega)]; exact h.2 j hj⟩
