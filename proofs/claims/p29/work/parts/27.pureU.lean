/-! gap. -/
theorem gap_C1 {a : Ab} {v σ : St} (I : Inv a v) (C : RepC a v σ) {s t : Nat} (hs : s < 5) (ht : t < 5) {x3 : Int32} {f j : Nat} (hj : j < 20) (x4 x5 : Int32) : mX6_gap_L32 (f + 1) (nI s) (nI t) x3 x4 x5 (nI (j + 1)) σ = if knF a s (20 * t + j) = true then (if x4 = 0 then mX6_gap_L32 f (nI s) (nI t) x3 x4 x5 (nI (j + 2)) σ else if x5 = x3 then some ((((100 * x4) + nI (j + 1)) - 1), σ) else mX6_gap_L32 f (nI s) (nI t) x3 0 (x5 + 1) (nI (j + 2)) σ) else mX6_gap_L32 f (nI s) (nI t) x3 (if x4 = 0 then nI (j + 1) else x4) x5 (nI (j + 2)) σ := by
  rw [mX6_gap_L32, if_neg (show ¬ (20 : Int32) < nI (j + 1) from nI_nlt (b := j + 1) (a := 20) (by omega) (by omega)), q_idOf σ (by omega), bnd_s, show 20 * t + (j + 1) - 1 = 20 * t + j by omega, C_has I C hs (by omega), bnd_s]
  unfold mX6_gap_b69
  rw [nI_1]
  by_cases c : knF a s (20 * t + j) = true
  · rw [c, bI_t, if_neg (by decide), if_neg (by decide), if_pos rfl]
  · rw [Bool.eq_false_iff.mpr c, bI_f, if_pos rfl, if_pos rfl, if_pos rfl, if_neg (show ¬ false = true from by decide)]
    by_cases e : x4 = 0
    · rw [if_pos e, if_pos e]
    · rw [if_neg e, if_neg e]
theorem gap_Ce {σ : St} {s t : Int32} {x3 x4 x5 : Int32} {f : Nat} : mX6_gap_L32 (f + 1) s t x3 x4 x5 (nI 21) σ = some (-1000000004, σ) := by
  rw [mX6_gap_L32, if_pos (by decide)]
theorem gap_C0 {a : Ab} {v σ : St} (I : Inv a v) (C : RepC a v σ) {s t : Nat} (hs : s < 5) (ht : t < 5) {x3 x5 : Int32} : ∀ (d f j : Nat) (x4 : Int32), j + d = 20 → d < f → (∀ i, j ≤ i → i < 20 → ¬ knF a s (20 * t + i) = true) → mX6_gap_L32 f (nI s) (nI t) x3 x4 x5 (nI (j + 1)) σ = some (-1000000004, σ) := by
  intro d
  induction d with
  | zero =>
    intro f j x4 h hf _
    obtain ⟨f, rfl⟩ : ∃ g, f = g + 1 := ⟨f - 1, by omega⟩
    rw [show j + 1 = 21 by omega, gap_Ce]
  | succ d ih =>
    intro f j x4 h hf hk
    obtain ⟨f, rfl⟩ : ∃ g, f = g + 1 := ⟨f - 1, by omega⟩
    rw [gap_C1 I C hs ht (by omega), if_neg (hk j (Nat.le_refl _) (by omega))]
    exact ih f (j + 1) _ (by omega) (by omega) (fun i h1 h2 => hk i (by omega) h2)
theorem gap_Cg {a : Ab} {v σ : St} (I : Inv a v) (C : RepC a v σ) {s t g j' : Nat} (hs : s < 5) (ht : t < 5) (hg : g < 20) (hj' : j' < 20) (hk' : knF a s (20 * t + j') = true) {x3 x5 : Int32} : ∀ (d f j : Nat), j + d = j' → (∀ i, j ≤ i → i < j' → ¬ knF a s (20 * t + i) = true) → mX6_gap_L32 (f + 1 + d) (nI s) (nI t) x3 (nI (g + 1)) x5 (nI (j + 1)) σ = if x5 = x3 then some (nI (100 * (g + 1) + j'), σ) else mX6_gap_L32 f (nI s) (nI t) x3 0 (x5 + 1) (nI (j' + 2)) σ := by
  intro d
  induction d with
  | zero =>
    intro f j h _
    have : j = j' := by omega
    subst this
    rw [Nat.add_zero, gap_C1 I C hs ht hj', if_pos hk', if_neg (nz0 (by omega) (by omega)), il 100, pk_mul, nI_add, il 1, pk_sub (by omega), show 100 * (g + 1) + (j + 1) - 1 = 100 * (g + 1) + j by omega]
  | succ d ih =>
    intro f j h hk
    rw [show f + 1 + (d + 1) = (f + 1 + d) + 1 by omega, gap_C1 I C hs ht (by omega), if_neg (hk j (Nat.le_refl _) (by omega)), if_neg (nz0 (by omega) (by omega))]
    exact ih f (j + 1) (by omega) (fun i h1 h2 => hk i (by omega) h2)
/-- the first one that satisfies, from j on -/
theorem first_of {P : Nat → Prop} : ∀ (d j k : Nat), k = j + d → P k → ∃ j', j ≤ j' ∧ j' ≤ k ∧ P j' ∧ ∀ i, j ≤ i → i < j' → ¬ P i := by
  intro d
  induction d with
  | zero =>
    intro j k h hp
    exact ⟨k, by omega, Nat.le_refl _, hp, fun i h1 h2 => by omega⟩
  | succ d ih =>
    intro j k h hp
    rcases Classical.em (P j) with e | e
    · exact ⟨j, Nat.le_refl _, by omega, e, fun i h1 h2 => by omega⟩
    · obtain ⟨j', h1, h2, h3, h4⟩ := ih (j + 1) k (by omega) hp
      refine ⟨j', by omega, h2, h3, fun i g1 g2 => ?_⟩
      by_cases q : i = j
      · rw [q]; exact e
      · exact h4 i (by omega) g2
