/-! endangered. -/
theorem bes_L {a : Ab} {v σ : St} (I : Inv a v) (C : RepC a v σ) {s i : Nat} (hs : s < 5) (hi : i < 100) : ∀ (d f t : Nat), t + d = a 0 0 → d < f → ∃ b, mX6_isKnownBeside_L2 f (nI s) (nI i) (nI t) σ = some (bI b, σ) ∧ (b = true ↔ ∃ t', t ≤ t' ∧ t' < a 0 0 ∧ t' ≠ s ∧ knF a t' i = true) := by
  have h5 := I.1.2
  intro d
  induction d with
  | zero =>
    intro f t h hf
    obtain ⟨f, rfl⟩ : ∃ g, f = g + 1 := ⟨f - 1, by omega⟩
    rw [mX6_isKnownBeside_L2, C.1, if_pos (nI_le (by omega) (by omega))]
    exact ⟨false, rfl, ⟨fun h => (Bool.false_ne_true h).elim, fun ⟨t', h1, h2, _⟩ => by omega⟩⟩
  | succ d ih =>
    intro f t h hf
    obtain ⟨f, rfl⟩ : ∃ g, f = g + 1 := ⟨f - 1, by omega⟩
    obtain ⟨b, e1, e2⟩ := ih f (t + 1) (by omega) (by omega)
    rw [mX6_isKnownBeside_L2, C.1, if_neg (nI_ge (by omega) (by omega)), nI_1]
    by_cases c : t = s
    · rw [if_pos (show nI t = nI s by rw [c])]
      refine ⟨b, e1, e2.trans ⟨fun ⟨t', h1, h2⟩ => ⟨t', by omega, h2⟩, fun ⟨t', h1, h2, h3, h4⟩ => ⟨t', by omega, h2, h3, h4⟩⟩⟩
    · rw [if_neg (fun q => c ((nI_eq (by omega) (by omega)).mp q)), C_has I C (show t < 5 by omega) hi, bnd_s]
      by_cases k : knF a t i = true
      · rw [k, bI_t, if_neg (by decide)]
        exact ⟨true, rfl, ⟨fun _ => ⟨t, Nat.le_refl _, by omega, c, k⟩, fun _ => rfl⟩⟩
      · rw [Bool.eq_false_iff.mpr k, bI_f, if_pos rfl]
        refine ⟨b, e1, e2.trans ⟨fun ⟨t', h1, h2⟩ => ⟨t', by omega, h2⟩, fun ⟨t', h1, h2, h3, h4⟩ => ⟨t', ?_, h2, h3, h4⟩⟩⟩
        by_cases q : t' = t
        · rw [q] at h4; exact absurd h4 k
        · omega
theorem car_i {a : Ab} {v σ : St} (I : Inv a v) (C : RepC a v σ) {L i : Nat} (hL : L < 25) (hi : i < 100) (k2 : Int32 → Int32 → St → Option (Int32 × St)) : ∀ (d f m : Nat), m + d = a 12 L → d < f → ((∃ m', m ≤ m' ∧ m' < a 12 L ∧ 20 * (L / 5) + a 13 (10 * L + m') - 1 = i) ∧ mX3_carry_L10 k2 f (nI i) (nI L) (nI m) σ = some (1, σ)) ∨ ((¬ ∃ m', m ≤ m' ∧ m' < a 12 L ∧ 20 * (L / 5) + a 13 (10 * L + m') - 1 = i) ∧ mX3_carry_L10 k2 f (nI i) (nI L) (nI m) σ = k2 (nI i) (nI (L + 1)) σ) := by
  obtain ⟨h10, h11, h12⟩ := I.2.2.2.2.2.2 L hL
  obtain ⟨c1, c2⟩ := C.2.2.2.2.2 L hL
  intro d
  induction d with
  | zero =>
    intro f m h hf
    obtain ⟨f, rfl⟩ : ∃ g, f = g + 1 := ⟨f - 1, by omega⟩
    refine Or.inr ⟨fun ⟨m', h1, h2, _⟩ => by omega, ?_⟩
    rw [mX3_carry_L10, q_get σ (show L < rl 18 from hL), bnd_s, c1, if_pos (nI_le (by omega) (by omega)), nI_1]
  | succ d ih =>
    intro f m h hf
    obtain ⟨f, rfl⟩ : ∃ g, f = g + 1 := ⟨f - 1, by omega⟩
    obtain ⟨m1, m2⟩ := h12 m (by omega)
    have h20 := (I.2.1 (L / 5) (by omega)).1
    rw [mX3_carry_L10, q_get σ (show L < rl 18 from hL), bnd_s, c1, if_neg (nI_ge (by omega) (by omega)), il 10, pk_mul, nI_add, q_get σ (show L * 10 + m < rl 19 by show _ < 250; omega), bnd_s, show L * 10 + m = 10 * L + m by omega, c2 m (by omega), nI_1]
    by_cases c : 20 * (L / 5) + a 13 (10 * L + m) - 1 = i
    · rw [if_pos (show nI (20 * (L / 5) + a 13 (10 * L + m) - 1) = nI i by rw [c])]
      exact Or.inl ⟨⟨m, Nat.le_refl _, by omega, c⟩, rfl⟩
    · rw [if_neg (fun q => c ((nI_eq (by omega) (by omega)).mp q))]
      rcases ih f (m + 1) (by omega) (by omega) with ⟨⟨m', g1, g2, g3⟩, g4⟩ | ⟨g1, g2⟩
      · exact Or.inl ⟨⟨m', by omega, g2, g3⟩, g4⟩
      · refine Or.inr ⟨fun ⟨m', q1, q2, q3⟩ => g1 ⟨m', ?_, q2, q3⟩, g2⟩
        by_cases q : m' = m
        · rw [q] at q3; exact absurd q3 c
        · omega
theorem car_L {a : Ab} {v σ : St} (I : Inv a v) (C : RepC a v σ) {i : Nat} (hi : i < 100) : ∀ (d f L : Nat), L + d = 25 → d < f → ∃ b, mX3_carry_L2 f (nI i) (nI L) σ = some (bI b, σ) ∧ (b = true ↔ ∃ L' m, L ≤ L' ∧ L' < 25 ∧ m < a 12 L' ∧ 20 * (L' / 5) + a 13 (10 * L' + m) - 1 = i) := by
  intro d
  induction d with
  | zero =>
    intro f L h hf
    obtain ⟨f, rfl⟩ : ∃ g, f = g + 1 := ⟨f - 1, by omega⟩
    have : L = 25 := by omega
    subst this
    rw [mX3_carry_L2, if_pos (by decide)]
    exact ⟨false, rfl, ⟨fun h => (Bool.false_ne_true h).elim, fun ⟨t', m, h1, h2, _⟩ => by omega⟩⟩
  | succ d ih =>
    intro f L h hf
    obtain ⟨f, rfl⟩ : ∃ g, f = g + 1 := ⟨f - 1, by omega⟩
    obtain ⟨b, e1, e2⟩ := ih f (L + 1) (by omega) (by omega)
    have h10 := (I.2.2.2.2.2.2 L (by omega)).1
    rw [mX3_carry_L2, if_neg (show ¬ (25 : Int32) ≤ nI L from nI_ge (b := 25) (by omega) (by omega))]
    rcases car_i I C (show L < 25 by omega) hi (mX3_carry_L2 f) (a 12 L) fu 0 (by omega) (by rw [fu_eq]; omega) with ⟨⟨m', g1, g2, g3⟩, g4⟩ | ⟨g1, g2⟩
    · rw [show (mX3_carry_L10 (mX3_carry_L2 f) fu (nI i) (nI L) 0 σ) = _ from g4]
      exact ⟨true, rfl, ⟨fun _ => ⟨L, m', Nat.le_refl _, by omega, g2, g3⟩, fun _ => rfl⟩⟩
    · rw [show (mX3_carry_L10 (mX3_carry_L2 f) fu (nI i) (nI L) 0 σ) = _ from g2, e1]
      refine ⟨b, rfl, e2.trans ⟨fun ⟨L', m, h1, h2⟩ => ⟨L', m, by omega, h2⟩, fun ⟨L', m, h1, h2, h3, h4⟩ => ⟨L', m, ?_, h2, h3, h4⟩⟩⟩
      by_cases q : L' = L
      · subst q; exact absurd ⟨m, Nat.zero_le _, h3, h4⟩ g1
      · omega
