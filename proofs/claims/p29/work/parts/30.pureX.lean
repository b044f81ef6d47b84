/-! areSame. -/
/-- two lists, with layers, alike from q on -/
def eqL (f l f2 l2 : Nat → Nat) (q c : Nat) : Prop := ∀ p, q ≤ p → p < c → nI (f p) = nI (f2 p) ∧ nI (l p) = nI (l2 p)
theorem mat_L {σ : St} {c : Nat} {f l f2 l2 : Nat → Nat} (hc : c ≤ 100) (h29 : σ 29 0 = nI c) (h1 : ∀ q, q < c → σ 22 q = nI (f q) ∧ f q < 100 ∧ σ 21 (f q) = nI (l q)) (h2 : ∀ q, q < c → σ 25 q = nI (f2 q) ∧ f2 q < 100 ∧ σ 24 (f2 q) = nI (l2 q)) : ∀ (d g q : Nat), q + d = c → d < g → (eqL f l f2 l2 q c ∧ mX0_matches_L15 0 1 g (nI q) σ = some (1, σ)) ∨ (¬ eqL f l f2 l2 q c ∧ mX0_matches_L15 0 1 g (nI q) σ = some (0, σ)) := by
  intro d
  induction d with
  | zero =>
    intro g q h hg
    obtain ⟨g, rfl⟩ : ∃ x, g = x + 1 := ⟨g - 1, by omega⟩
    refine Or.inl ⟨fun p _ _ => by omega, ?_⟩
    rw [mX0_matches_L15, show σ (29 + 0) 0 = nI c from h29, if_pos (nI_le (by omega) (by omega))]
    rfl
  | succ d ih =>
    intro g q h hg
    obtain ⟨g, rfl⟩ : ∃ x, g = x + 1 := ⟨g - 1, by omega⟩
    obtain ⟨a1, a2, a3⟩ := h1 q (by omega)
    obtain ⟨b1, b2, b3⟩ := h2 q (by omega)
    rw [mX0_matches_L15, show σ (29 + 0) 0 = nI c from h29, if_neg (nI_ge (by omega) (by omega)), q_get σ (show q < rl (22 + 3 * 0) by show q < 100; omega), bnd_s]
    unfold mX0_strokeIn mX0_layerOf
    rw [q_get σ (show q < rl (22 + 3 * 1) by show q < 100; omega), bnd_s, bnd_s, show σ (22 + 3 * 0) q = _ from a1, show σ (22 + 3 * 1) q = _ from b1]
    by_cases e1 : nI (f q) = nI (f2 q)
    · have e1' : f q = f2 q := (nI_eq (by omega) (by omega)).mp e1
      rw [if_pos e1, q_get σ (show f q < rl (21 + 3 * 0) from a2), bnd_s, q_get σ (show f q < rl (21 + 3 * 1) from a2), bnd_s, bnd_s, show σ (21 + 3 * 0) (f q) = _ from a3, show σ (21 + 3 * 1) (f q) = nI (l2 q) by rw [e1']; exact b3]
      by_cases e2 : nI (l q) = nI (l2 q)
      · rw [if_pos e2, nI_1]
        rcases ih g (q + 1) (by omega) (by omega) with ⟨j1, j2⟩ | ⟨j1, j2⟩
        · refine Or.inl ⟨fun p p1 p2 => ?_, j2⟩
          by_cases ep : p = q
          · rw [ep]; exact ⟨e1, e2⟩
          · exact j1 p (by omega) p2
        · exact Or.inr ⟨fun z => j1 (fun p p1 p2 => z p (by omega) p2), j2⟩
      · rw [if_neg e2]
        exact Or.inr ⟨fun z => e2 (z q (Nat.le_refl _) (by omega)).2, rfl⟩
    · rw [if_neg e1]
      exact Or.inr ⟨fun z => e1 (z q (Nat.le_refl _) (by omega)).1, rfl⟩
