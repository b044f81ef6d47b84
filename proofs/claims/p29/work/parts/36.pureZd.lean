/-! differing: all links, all pairs, and back. -/
def fnK (a : Ab) : Nat → (Nat → Nat) → Nat → Nat
  | 0, kk => kk
  | d + 1, kk => fnK a d (mkL a (24 - d) (a 12 (24 - d)) 0 kk)
theorem fnK_s (a : Ab) (d : Nat) (kk : Nat → Nat) : fnK a (d + 1) kk = fnK a d (mkL a (24 - d) (a 12 (24 - d)) 0 kk) := rfl
theorem fnK_skip {a : Ab} {kk : Nat → Nat} : ∀ (m d : Nat), (∀ L, 25 - (d + m) ≤ L → L < 25 - d → a 12 L = 0) → m + d ≤ 25 → fnK a (d + m) kk = fnK a d kk := by
  intro m
  induction m with
  | zero => intro d _ _; rfl
  | succ m ih =>
    intro d h hd
    rw [show d + (m + 1) = (d + m) + 1 by omega, fnK_s, h (24 - (d + m)) (by omega) (by omega)]
    exact ih d (fun L h1 h2 => h L (by omega) h2) (by omega)
theorem fnK_ok {a : Ab} {v : St} (I : Inv a v) : ∀ (d : Nat) (kk : Nat → Nat), d ≤ 25 → kkOk a kk → kkOk a (fnK a d kk) := by
  intro d
  induction d with
  | zero => intro kk _ h; exact h
  | succ d ih =>
    intro kk hd h
    rw [fnK_s]
    exact ih _ (by omega) (mkL_ok I (by omega) _ 0 kk h (by omega))
theorem lkC_L {a : Ab} {v : St} (I : Inv a v) : ∀ (e f s : Nat) (kk : Nat → Nat) (σ : St), s + e = a 0 0 → e < f → kkOk a kk → CK a v kk σ → ∃ σ', mX6_lookAhead_L13 f (nI s) σ = some σ' ∧ CK a v (fnK a (25 - 5 * s) kk) σ' := by
  have h5 := I.1.2
  have h1 := I.1.1
  intro e
  induction e with
  | zero =>
    intro f s kk σ h hf hk C
    obtain ⟨f, rfl⟩ : ∃ g, f = g + 1 := ⟨f - 1, by omega⟩
    rw [mX6_lookAhead_L13, C.1.1, if_pos (nI_le (by omega) (by omega)), show 25 - 5 * s = 0 + (25 - 5 * s) by omega, fnK_skip (25 - 5 * s) 0 (fun L l1 l2 => ?_) (by omega)]
    · exact ⟨σ, rfl, C⟩
    · rcases Nat.eq_zero_or_pos (a 12 L) with h | h
      · exact h
      · exact absurd ((I.2.2.2.2.2.2 L (by omega)).2.1 (by omega)).1 (by omega)
  | succ e ih =>
    intro f s kk σ h hf hk C
    obtain ⟨f, rfl⟩ : ∃ g, f = g + 1 := ⟨f - 1, by omega⟩
    have inner : ∀ (g f2 t : Nat) (kk : Nat → Nat) (σ : St), t + g = a 0 0 → g < f2 → kkOk a kk → CK a v kk σ → ∃ σ', mX6_lookAhead_L23 (mX6_lookAhead_L13 f) f2 (nI s) (nI t) σ = some σ' ∧ CK a v (fnK a (25 - (5 * s + t)) kk) σ' := by
      intro g
      induction g with
      | zero =>
        intro f2 t kk σ h2 hf2 hk C
        obtain ⟨f2, rfl⟩ : ∃ g, f2 = g + 1 := ⟨f2 - 1, by omega⟩
        obtain ⟨σ', e1, e2⟩ := ih f (s + 1) kk σ (by omega) (by omega) hk C
        rw [mX6_lookAhead_L23, C.1.1, if_pos (nI_le (by omega) (by omega)), nI_1, show 25 - (5 * s + t) = (25 - 5 * (s + 1)) + (5 - t) by omega, fnK_skip (5 - t) (25 - 5 * (s + 1)) (fun L l1 l2 => ?_) (by omega)]
        · exact ⟨σ', e1, e2⟩
        · rcases Nat.eq_zero_or_pos (a 12 L) with h | h
          · exact h
          · exact absurd ((I.2.2.2.2.2.2 L (by omega)).2.1 (by omega)).2.1 (by omega)
      | succ g ihg =>
        intro f2 t kk σ h2 hf2 hk C
        obtain ⟨f2, rfl⟩ : ∃ g, f2 = g + 1 := ⟨f2 - 1, by omega⟩
        have hL : 5 * s + t < 25 := by omega
        have h10 := (I.2.2.2.2.2.2 _ hL).1
        obtain ⟨σ1, e1, C1⟩ := lc_L I (show s < 5 by omega) (show t < 5 by omega) (mX6_lookAhead_L13 f) (mX6_lookAhead_L23 (mX6_lookAhead_L13 f) f2) (a 12 (5 * s + t)) fu 0 kk σ (by omega) (by rw [fu_eq]; omega) hk C
        obtain ⟨σ', g1, g2⟩ := ihg f2 (t + 1) _ σ1 (by omega) (by omega) (mkL_ok I hL _ 0 kk hk (by omega)) C1
        rw [mX6_lookAhead_L23, C.1.1, if_neg (nI_ge (by omega) (by omega)), show (mX6_lookAhead_L33 (mX6_lookAhead_L13 f) (mX6_lookAhead_L23 (mX6_lookAhead_L13 f) f2) fu (nI s) (nI t) 0 σ) = _ from e1, g1, show 25 - (5 * s + t) = (25 - (5 * s + (t + 1))) + 1 by omega, fnK_s, show 24 - (25 - (5 * s + (t + 1))) = 5 * s + t by omega]
        exact ⟨σ', rfl, g2⟩
    rw [mX6_lookAhead_L13, C.1.1, if_neg (nI_ge (by omega) (by omega))]
    exact inner (a 0 0) fu 0 kk σ (by omega) (by rw [fu_eq]; omega) hk C
