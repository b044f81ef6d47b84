/-! differing: all links, all pairs, and back. -/
def fnK (a : Ab) : Nat → (Nat → Nat) → Nat → Nat
  | 0, kk => kk
  | d + 1, kk => fnK a d (mkL a (24 - d) (a 12 (24 - d)) 0 kk)
theorem fnK_s (a : Ab) (d : Nat) (kk : Nat → Nat) : fnK a (d + 1) kk = fnK a d (mkL a (24 - d) (a 12 (24 - d)) 0 kk) := rfl
theorem fnK_skip {a : Ab} {kk : Nat → Nat} : ∀ (m d : Nat), (∀ L, 25 - (d + m) ≤ L → L < 25 - d → a 12 L = 0) → m + d ≤ 25 → fnK a (d + m) kk = fnK a d kk := by
  intro m
  induction m with
  | zero => intro d _ _; rfl
  | succ m ih =>
    intro d h hd
    rw [show d + (m + 1) = (d + m) + 1 by omega, fnK_s, h (24 - (d + m)) (by omega) (by omega)]
    exact ih d (fun L h1 h2 => h L (by omega) h2) (by omega)
theorem fnK_ok {a : Ab} {v : St} (I : Inv a v) : ∀ (d : Nat) (kk : Nat → Nat), d ≤ 25 → kkOk a kk → kkOk a (fnK a d kk) := by
  intro d
  induction d with
  | zero => intro kk _ h; exact h
  | succ d ih =>
    intro kk hd h
    rw [fnK_s]
    exact ih _ (by omega) (mkL_ok I (by omega) _ 0 kk h (by omega))
theorem lkM_L {a : Ab} {v : St} (I : Inv a v) : ∀ (d f L : Nat) (kk : Nat → Nat) (τ : St), L + d = 25 → d < f → kkOk a kk → MK a v kk τ → ∃ τ', mX7_differing_L29 f (nI L) τ = mX7_differing_L93 fu 0 0 τ' ∧ MK a v (fnK a d kk) τ' := by
  intro d
  induction d with
  | zero =>
    intro f L kk τ h hf hk M
    obtain ⟨f, rfl⟩ : ∃ g, f = g + 1 := ⟨f - 1, by omega⟩
    have : L = 25 := by omega
    subst this
    rw [mX7_differing_L29, if_pos (by decide)]
    exact ⟨τ, rfl, M⟩
  | succ d ih =>
    intro f L kk τ h hf hk M
    obtain ⟨f, rfl⟩ : ∃ g, f = g + 1 := ⟨f - 1, by omega⟩
    have h10 := (I.2.2.2.2.2.2 L (by omega)).1
    obtain ⟨τ1, e1, M1⟩ := lm_L I (show L < 25 by omega) (mX7_differing_L29 f) (a 12 L) fu 0 kk τ (by omega) (by rw [fu_eq]; omega) hk M
    obtain ⟨τ', g1, g2⟩ := ih f (L + 1) _ τ1 (by omega) (by omega) (mkL_ok I (by omega) _ 0 kk hk (by omega)) M1
    rw [mX7_differing_L29, if_neg (show ¬ (25 : Int32) ≤ nI L from nI_ge (b := 25) (by omega) (by omega)), show (mX7_differing_L37 (mX7_differing_L29 f) fu (nI L) 0 τ) = _ from e1, g1, fnK_s, show 24 - d = L by omega]
    exact ⟨τ', rfl, g2⟩
theorem lkC_L {a : Ab} {v : St} (I : Inv a v) : ∀ (e f s : Nat) (kk : Nat → Nat) (σ : St), s + e = a 0 0 → e < f → kkOk a kk → CK a v kk σ → ∃ σ', mX6_lookAhead_L13 f (nI s) σ = some σ' ∧ CK a v (fnK a (25 - 5 * s) kk) σ' := by
  have h5 := I.1.2
  have h1 := I.1.1
  intro e
  induction e with
  | zero =>
    intro f s kk σ h hf hk C
    obtain ⟨f, rfl⟩ : ∃ g, f = g + 1 := ⟨f - 1, by omega⟩
    rw [mX6_lookAhead_L13, C.1.1, if_pos (nI_le (by omega) (by omega)), show 25 - 5 * s = 0 + (25 - 5 * s) by omega, fnK_skip (25 - 5 * s) 0 (fun L l1 l2 => ?_) (by omega)]
    · exact ⟨σ, rfl, C⟩
    · rcases Nat.eq_zero_or_pos (a 12 L) with h | h
      · exact h
      · exact absurd ((I.2.2.2.2.2.2 L (by omega)).2.1 (by omega)).1 (by omega)
  | succ e ih =>
    intro f s kk σ h hf hk C
    obtain ⟨f, rfl⟩ : ∃ g, f = g + 1 := ⟨f - 1, by omega⟩
    have inner : ∀ (g f2 t : Nat) (kk : Nat → Nat) (σ : St), t + g = a 0 0 → g < f2 → kkOk a kk → CK a v kk σ → ∃ σ', mX6_lookAhead_L23 (mX6_lookAhead_L13 f) f2 (nI s) (nI t) σ = some σ' ∧ CK a v (fnK a (25 - (5 * s + t)) kk) σ' := by
      intro g
      induction g with
      | zero =>
        intro f2 t kk σ h2 hf2 hk C
        obtain ⟨f2, rfl⟩ : ∃ g, f2 = g + 1 := ⟨f2 - 1, by omega⟩
        obtain ⟨σ', e1, e2⟩ := ih f (s + 1) kk σ (by omega) (by omega) hk C
        rw [mX6_lookAhead_L23, C.1.1, if_pos (nI_le (by omega) (by omega)), nI_1, show 25 - (5 * s + t) = (25 - 5 * (s + 1)) + (5 - t) by omega, fnK_skip (5 - t) (25 - 5 * (s + 1)) (fun L l1 l2 => ?_) (by omega)]
        · exact ⟨σ', e1, e2⟩
        · rcases Nat.eq_zero_or_pos (a 12 L) with h | h
          · exact h
          · exact absurd ((I.2.2.2.2.2.2 L (by omega)).2.1 (by omega)).2.1 (by omega)
      | succ g ihg =>
        intro f2 t kk σ h2 hf2 hk C
        obtain ⟨f2, rfl⟩ : ∃ g, f2 = g + 1 := ⟨f2 - 1, by omega⟩
        have hL : 5 * s + t < 25 := by omega
        have h10 := (I.2.2.2.2.2.2 _ hL).1
        obtain ⟨σ1, e1, C1⟩ := lc_L I (show s < 5 by omega) (show t < 5 by omega) (mX6_lookAhead_L13 f) (mX6_lookAhead_L23 (mX6_lookAhead_L13 f) f2) (a 12 (5 * s + t)) fu 0 kk σ (by omega) (by rw [fu_eq]; omega) hk C
        obtain ⟨σ', g1, g2⟩ := ihg f2 (t + 1) _ σ1 (by omega) (by omega) (mkL_ok I hL _ 0 kk hk (by omega)) C1
        rw [mX6_lookAhead_L23, C.1.1, if_neg (nI_ge (by omega) (by omega)), show (mX6_lookAhead_L33 (mX6_lookAhead_L13 f) (mX6_lookAhead_L23 (mX6_lookAhead_L13 f) f2) fu (nI s) (nI t) 0 σ) = _ from e1, g1, show 25 - (5 * s + t) = (25 - (5 * s + (t + 1))) + 1 by omega, fnK_s, show 24 - (25 - (5 * s + (t + 1))) = 5 * s + t by omega]
        exact ⟨σ', rfl, g2⟩
    rw [mX6_lookAhead_L13, C.1.1, if_neg (nI_ge (by omega) (by omega))]
    exact inner (a 0 0) fu 0 kk σ (by omega) (by rw [fu_eq]; omega) hk C
theorem bk_L {a : Ab} {v : St} {x : Int32} : ∀ (d f j : Nat) (τ : St), j + d = 500 → d < f → ∃ τ', mX7_differing_L144 f x (nI j) τ = some (x, τ') ∧ (∀ k, k ≠ 3 → τ' k = τ k) ∧ ∀ i, i < 500 → τ' 3 i = if j ≤ i then τ 11 i else τ 3 i := by
  intro d
  induction d with
  | zero =>
    intro f j τ h hf
    obtain ⟨f, rfl⟩ : ∃ g, f = g + 1 := ⟨f - 1, by omega⟩
    have : j = 500 := by omega
    subst this
    rw [mX7_differing_L144, if_pos (by decide)]
    exact ⟨τ, rfl, fun _ _ => rfl, fun i hi => by rw [if_neg (by omega)]⟩
  | succ d ih =>
    intro f j τ h hf
    obtain ⟨f, rfl⟩ : ∃ g, f = g + 1 := ⟨f - 1, by omega⟩
    rw [mX7_differing_L144, if_neg (show ¬ (500 : Int32) ≤ nI j from nI_ge (b := 500) (by omega) (by omega)), ix_n (show j < 500 by omega) (by decide), ix_n (show j < 500 by omega) (by decide), lts_s, nI_clamp (by omega), nI_1]
    obtain ⟨τ', e1, e2, e3⟩ := ih f (j + 1) (ups τ 3 j (τ 11 j)) (by omega) (by omega)
    refine ⟨τ', e1, fun k hk => by rw [e2 k hk, ups_row hk], fun i hi => ?_⟩
    rw [e3 i hi, ups_row (show 11 ≠ 3 by omega), ups_at]
    by_cases c1 : j + 1 ≤ i
    · rw [if_pos c1, if_pos (by omega)]
    · rw [if_neg c1]
      by_cases c2 : i = j
      · rw [if_pos ⟨rfl, c2⟩, if_pos (by omega), c2]
      · rw [if_neg (fun q => c2 q.2), if_neg (by omega)]
theorem as_L {x : Unit} : ∀ (d f j : Nat) (τ : St), j + d = 500 → d < f → ∃ τ', mX7_differing_L2 f (nI j) τ = mX7_differing_L29 fu 0 τ' ∧ (∀ k, k ≠ 11 → τ' k = τ k) ∧ ∀ i, i < 500 → τ' 11 i = if j ≤ i then τ 3 i else τ 11 i := by
  intro d
  induction d with
  | zero =>
    intro f j τ h hf
    obtain ⟨f, rfl⟩ : ∃ g, f = g + 1 := ⟨f - 1, by omega⟩
    have : j = 500 := by omega
    subst this
    rw [mX7_differing_L2, if_pos (by decide)]
    exact ⟨τ, rfl, fun _ _ => rfl, fun i hi => by rw [if_neg (by omega)]⟩
  | succ d ih =>
    intro f j τ h hf
    obtain ⟨f, rfl⟩ : ∃ g, f = g + 1 := ⟨f - 1, by omega⟩
    rw [mX7_differing_L2, if_neg (show ¬ (500 : Int32) ≤ nI j from nI_ge (b := 500) (by omega) (by omega)), ix_n (show j < 500 by omega) (by decide), ix_n (show j < 500 by omega) (by decide), lts_s, nI_clamp (by omega), nI_1]
    obtain ⟨τ', e1, e2, e3⟩ := ih f (j + 1) (ups τ 11 j (τ 3 j)) (by omega) (by omega)
    refine ⟨τ', e1, fun k hk => by rw [e2 k hk, ups_row hk], fun i hi => ?_⟩
    rw [e3 i hi, ups_row (show 3 ≠ 11 by omega), ups_at]
    by_cases c1 : j + 1 ≤ i
    · rw [if_pos c1, if_pos (by omega)]
    · rw [if_neg c1]
      by_cases c2 : i = j
      · rw [if_pos ⟨rfl, c2⟩, if_pos (by omega), c2]
      · rw [if_neg (fun q => c2 q.2), if_neg (by omega)]
