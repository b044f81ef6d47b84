/-! strokeAt. -/
def hpt (a : Ab) (v : St) (x y : Int32) (i k : Nat) : Prop := ∃ k', k ≤ k' ∧ k' < a 7 i ∧ v 1 (8 * i + k') = x ∧ v 2 (8 * i + k') = y
theorem hpt_s {a : Ab} {v : St} {x y : Int32} {i k : Nat} (hk : k < a 7 i) : hpt a v x y i k ↔ (v 1 (8 * i + k) = x ∧ v 2 (8 * i + k) = y) ∨ hpt a v x y i (k + 1) := by
  constructor
  · rintro ⟨k', h1, h2, h3⟩
    by_cases e : k' = k
    · rw [e] at h3; exact Or.inl h3
    · exact Or.inr ⟨k', by omega, h2, h3⟩
  · rintro (h | ⟨k', h1, h2⟩)
    · exact ⟨k, Nat.le_refl _, hk, h⟩
    · exact ⟨k', by omega, h2⟩
theorem hp_L {a : Ab} {v σ : St} (I : Inv a v) (C : RepC a v σ) {i : Nat} (hi : mk a i) (h0 : a 4 i = 0) (x y : Int32) : ∀ (d f k : Nat), k + d = a 7 i → d < f → ∃ b, mX1_hasPoint_L3 0 f (nI i) x y (nI k) σ = some (bI b, σ) ∧ (b = true ↔ hpt a v x y i k) := by
  have hi1 := hi.1
  obtain ⟨c6, c7, c8⟩ := (C.2.2.2.1 _ hi).2.2.2.2 h0
  have p8 := ((I.2.2.2.1 _ hi).2.2.2.2.2 h0).2
  have hn : i < ns 0 := hi1
  intro d
  induction d with
  | zero =>
    intro f k h hf
    obtain ⟨f, rfl⟩ : ∃ g, f = g + 1 := ⟨f - 1, by omega⟩
    rw [mX1_hasPoint_L3, q_get σ (show i < rl (6 + 5 * 0) from hi1), bnd_s, show σ (6 + 5 * 0) i = _ from c6, if_pos (nI_le (by omega) (by omega))]
    exact ⟨false, rfl, ⟨fun h => (Bool.false_ne_true h).elim, fun ⟨k', h1, h2, _⟩ => by omega⟩⟩
  | succ d ih =>
    intro f k h hf
    obtain ⟨f, rfl⟩ : ∃ g, f = g + 1 := ⟨f - 1, by omega⟩
    obtain ⟨x1, y1⟩ := c8 k (by omega)
    obtain ⟨b, e1, e2⟩ := ih f (k + 1) (by omega) (by omega)
    rw [mX1_hasPoint_L3, q_get σ (show i < rl (6 + 5 * 0) from hi1), bnd_s, show σ (6 + 5 * 0) i = _ from c6, if_neg (nI_ge (by omega) (by omega)), q_x (t := 0) (by omega) hn (by omega), bnd_s, q_y (t := 0) (by omega) hn (by omega), bnd_s, show σ (9 + 5 * 0) (8 * i + k) = _ from x1, show σ (10 + 5 * 0) (8 * i + k) = _ from y1, nI_1]
    rw [hpt_s (show k < a 7 i by omega)]
    by_cases cx : v 1 (8 * i + k) = x
    · rw [if_pos cx]
      by_cases cy : v 2 (8 * i + k) = y
      · rw [if_pos cy]
        exact ⟨true, rfl, ⟨fun _ => Or.inl ⟨cx, cy⟩, fun _ => rfl⟩⟩
      · rw [if_neg cy]
        exact ⟨b, e1, e2.trans ⟨Or.inr, fun q => q.resolve_left (fun z => cy z.2)⟩⟩
    · rw [if_neg cx]
      exact ⟨b, e1, e2.trans ⟨Or.inr, fun q => q.resolve_left (fun z => cx z.1)⟩⟩
