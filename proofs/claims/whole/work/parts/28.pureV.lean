/-! endangered. -/
theorem bes_L {a : Ab} {v σ : St} (I : Inv a v) (C : RepC a v σ) {s i : Nat} (hs : s < 5) (hi : i < 100) : ∀ (d f t : Nat), t + d = a 0 0 → d < f → ∃ b, mX6_isKnownBeside_L2 f (nI s) (nI i) (nI t) σ = some (bI b, σ) ∧ (b = true ↔ ∃ t', t ≤ t' ∧ t' < a 0 0 ∧ t' ≠ s ∧ knF a t' i = true) := by
  have h5 := I.1.2
  intro d
  induction d with
  | zero =>
    intro f t h hf
    obtain ⟨f, rfl⟩ : ∃ g, f = g + 1 := ⟨f - 1, by omega⟩
    rw [mX6_isKnownBeside_L2, C.1, if_pos (nI_le (by omega) (by omega))]
    exact ⟨false, rfl, ⟨fun h => (Bool.false_ne_true h).elim, fun ⟨t', h1, h2, _⟩ => by omega⟩⟩
  | succ d ih =>
    intro f t h hf
    obtain ⟨f, rfl⟩ : ∃ g, f = g + 1 := ⟨f - 1, by omega⟩
    obtain ⟨b, e1, e2⟩ := ih f (t + 1) (by omega) (by omega)
    rw [mX6_isKnownBeside_L2, C.1, if_neg (nI_ge (by omega) (by omega)), nI_1]
    by_cases c : t = s
    · rw [if_pos (show nI t = nI s by rw [c])]
      refine ⟨b, e1, e2.trans ⟨fun ⟨t', h1, h2⟩ => ⟨t', by omega, h2⟩, fun ⟨t', h1, h2, h3, h4⟩ => ⟨t', by omega, h2, h3, h4⟩⟩⟩
    · rw [if_neg (fun q => c ((nI_eq (by omega) (by omega)).mp q)), C_has I C (show t < 5 by omega) hi, bnd_s]
      by_cases k : knF a t i = true
      · rw [k, bI_t, if_neg (by decide)]
        exact ⟨true, rfl, ⟨fun _ => ⟨t, Nat.le_refl _, by omega, c, k⟩, fun _ => rfl⟩⟩
      · rw [Bool.eq_false_iff.mpr k, bI_f, if_pos rfl]
        refine ⟨b, e1, e2.trans ⟨fun ⟨t', h1, h2⟩ => ⟨t', by omega, h2⟩, fun ⟨t', h1, h2, h3, h4⟩ => ⟨t', ?_, h2, h3, h4⟩⟩⟩
        by_cases q : t' = t
        · rw [q] at h4; exact absurd h4 k
        · omega
theorem car_i {a : Ab} {v σ : St} (I : Inv a v) (C : RepC a v σ) {L i : Nat} (hL : L < 25) (hi : i < 100) (k2 : Int32 → Int32 → St → Option (Int32 × St)) : ∀ (d f m : Nat), m + d = a 12 L → d < f → ((∃ m', m ≤ m' ∧ m' < a 12 L ∧ 20 * (L / 5) + a 13 (10 * L + m') - 1 = i) ∧ mX3_carry_L10 k2 f (nI i) (nI L) (nI m) σ = some (1, σ)) ∨ ((¬ ∃ m', m ≤ m' ∧ m' < a 12 L ∧ 20 * (L / 5) + a 13 (10 * L + m') - 1 = i) ∧ mX3_carry_L10 k2 f (nI i) (nI L) (nI m) σ = k2 (nI i) (nI (L + 1)) σ) := by
  obtain ⟨h10, h11, h12⟩ := I.2.2.2.2.2.2 L hL
  obtain ⟨c1, c2⟩ := C.2.2.2.2.2 L hL
  intro d
  induction d with
  | zero =>
    intro f m h hf
    obtain ⟨f, rfl⟩ : ∃ g, f = g + 1 := ⟨f - 1, by omega⟩
    refine Or.inr ⟨fun ⟨m', h1, h2, _⟩ => by omega, ?_⟩
    rw [mX3_carry_L10, q_get σ (show L < rl 18 from hL), bnd_s, c1, if_pos (nI_le (by omega) (by omega)), nI_1]
  | succ d ih =>
    intro f m h hf
    obtain ⟨f, rfl⟩ : ∃ g, f = g + 1 := ⟨f - 1, by omega⟩
    obtain ⟨m1, m2⟩ := h12 m (by omega)
    have h20 := (I.2.1 (L / 5) (by omega)).1
    rw [mX3_carry_L10, q_get σ (show L < rl 18 from hL), bnd_s, c1, if_neg (nI_ge (by omega) (by omega)), il 10, pk_mul, nI_add, q_get σ (show L * 10 + m < rl 19 by show _ < 250; omega), bnd_s, show L * 10 + m = 10 * L + m by omega, c2 m (by omega), nI_1]
    by_cases c : 20 * (L / 5) + a 13 (10 * L + m) - 1 = i
    · rw [if_pos (show nI (20 * (L / 5) + a 13 (10 * L + m) - 1) = nI i by rw [c])]
      exact Or.inl ⟨⟨m, Nat.le_refl _, by omega, c⟩, rfl⟩
    · rw [if_neg (fun q => c ((nI_eq (by omega) (by omega)).mp q))]
      rcases ih f (m + 1) (by omega) (by omega) with ⟨⟨m', g1, g2, g3⟩, g4⟩ | ⟨g1, g2⟩
      · exact Or.inl ⟨⟨m', by omega, g2, g3⟩, g4⟩
      · refine Or.inr ⟨fun ⟨m', q1, q2, q3⟩ => g1 ⟨m', ?_, q2, q3⟩, g2⟩
        by_cases q : m' = m
        · rw [q] at q3; exact absurd q3 c
        · omega
theorem car_L {a : Ab} {v σ : St} (I : Inv a v) (C : RepC a v σ) {i : Nat} (hi : i < 100) : ∀ (d f L : Nat), L + d = 25 → d < f → ∃ b, mX3_carry_L2 f (nI i) (nI L) σ = some (bI b, σ) ∧ (b = true ↔ ∃ L' m, L ≤ L' ∧ L' < 25 ∧ m < a 12 L' ∧ 20 * (L' / 5) + a 13 (10 * L' + m) - 1 = i) := by
  intro d
  induction d with
  | zero =>
    intro f L h hf
    obtain ⟨f, rfl⟩ : ∃ g, f = g + 1 := ⟨f - 1, by omega⟩
    have : L = 25 := by omega
    subst this
    rw [mX3_carry_L2, if_pos (by decide)]
    exact ⟨false, rfl, ⟨fun h => (Bool.false_ne_true h).elim, fun ⟨t', m, h1, h2, _⟩ => by omega⟩⟩
  | succ d ih =>
    intro f L h hf
    obtain ⟨f, rfl⟩ : ∃ g, f = g + 1 := ⟨f - 1, by omega⟩
    obtain ⟨b, e1, e2⟩ := ih f (L + 1) (by omega) (by omega)
    have h10 := (I.2.2.2.2.2.2 L (by omega)).1
    rw [mX3_carry_L2, if_neg (show ¬ (25 : Int32) ≤ nI L from nI_ge (b := 25) (by omega) (by omega))]
    rcases car_i I C (show L < 25 by omega) hi (mX3_carry_L2 f) (a 12 L) fu 0 (by omega) (by rw [fu_eq]; omega) with ⟨⟨m', g1, g2, g3⟩, g4⟩ | ⟨g1, g2⟩
    · rw [show (mX3_carry_L10 (mX3_carry_L2 f) fu (nI i) (nI L) 0 σ) = _ from g4]
      exact ⟨true, rfl, ⟨fun _ => ⟨L, m', Nat.le_refl _, by omega, g2, g3⟩, fun _ => rfl⟩⟩
    · rw [show (mX3_carry_L10 (mX3_carry_L2 f) fu (nI i) (nI L) 0 σ) = _ from g2, e1]
      refine ⟨b, rfl, e2.trans ⟨fun ⟨L', m, h1, h2⟩ => ⟨L', m, by omega, h2⟩, fun ⟨L', m, h1, h2, h3, h4⟩ => ⟨L', m, ?_, h2, h3, h4⟩⟩⟩
      by_cases q : L' = L
      · subst q; exact absurd ⟨m, Nat.zero_le _, h3, h4⟩ g1
      · omega
theorem saf_i {a : Ab} {v τ : St} (I : Inv a v) (M : RepM a v τ) {s t k : Nat} (hs : s < 5) (ht : t < 5) (hk : k < 100) (k5 : Int32 → Int32 → Int32 → Int32 → St → Option (Int32 × St)) : ∀ (d f m : Nat) (b : Bool), m + d = a 12 (5 * s + t) → d < f → ∃ b', mX7_isSafe_L47 k5 f (nI s) (nI k) (bI b) (nI t) (nI m) τ = k5 (nI s) (nI k) (bI b') (nI (t + 1)) τ ∧ (b' = true ↔ b = true ∨ ∃ m', m ≤ m' ∧ m' < a 12 (5 * s + t) ∧ a 13 (10 * (5 * s + t) + m') = k) := by
  have hL : 5 * s + t < 25 := by omega
  obtain ⟨h10, h11, h12⟩ := I.2.2.2.2.2.2 _ hL
  obtain ⟨c1, c2⟩ := M.2.2.2.2 _ hL
  have h20 := (I.2.1 ((5 * s + t) / 5) (by omega)).1
  intro d
  induction d with
  | zero =>
    intro f m b h hf
    obtain ⟨f, rfl⟩ : ∃ g, f = g + 1 := ⟨f - 1, by omega⟩
    rw [mX7_isSafe_L47, lk_i, ix_n hL (by decide), nI_clamp (by omega), c1, if_pos (nI_le (by omega) (by omega)), nI_1]
    exact ⟨b, rfl, ⟨fun h => Or.inl h, fun h => h.resolve_right (fun ⟨m', h1, h2, _⟩ => by omega)⟩⟩
  | succ d ih =>
    intro f m b h hf
    obtain ⟨f, rfl⟩ : ∃ g, f = g + 1 := ⟨f - 1, by omega⟩
    obtain ⟨m1, m2⟩ := h12 m (by omega)
    rw [mX7_isSafe_L47, lk_i, ix_n hL (by decide), nI_clamp (show 5 * s + t < 2 ^ 31 by omega), c1, if_neg (nI_ge (by omega) (by omega)), il 10, pk_mul, nI_add, ix_n (show 10 * (5 * s + t) + m < 250 by omega) (by decide), nI_clamp (by omega), c2 m (by omega), nI_1]
    cases b with
    | true =>
      rw [bI_t, if_neg (by decide)]
      obtain ⟨b', e1, e2⟩ := ih f (m + 1) true (by omega) (by omega)
      exact ⟨b', e1, e2.trans ⟨fun _ => Or.inl rfl, fun _ => Or.inl rfl⟩⟩
    | false =>
      rw [bI_f, if_pos rfl]
      by_cases c : a 13 (10 * (5 * s + t) + m) = k
      · rw [if_pos (show nI (a 13 (10 * (5 * s + t) + m)) = nI k by rw [c])]
        obtain ⟨b', e1, e2⟩ := ih f (m + 1) true (by omega) (by omega)
        exact ⟨b', e1, e2.trans ⟨fun _ => Or.inr ⟨m, Nat.le_refl _, by omega, c⟩, fun _ => Or.inl rfl⟩⟩
      · rw [if_neg (fun q => c ((nI_eq (by omega) (by omega)).mp q))]
        obtain ⟨b', e1, e2⟩ := ih f (m + 1) false (by omega) (by omega)
        refine ⟨b', e1, e2.trans ⟨fun h => h.elim Or.inl (fun ⟨m', h1, h2⟩ => Or.inr ⟨m', by omega, h2⟩), fun h => h.elim Or.inl (fun ⟨m', h1, h2, h3⟩ => Or.inr ⟨m', ?_, h2, h3⟩)⟩⟩
        by_cases q : m' = m
        · rw [q] at h3; exact absurd h3 c
        · omega
theorem saf_L {a : Ab} {v τ : St} (I : Inv a v) (M : RepM a v τ) {s k : Nat} (hs : s < 5) (hk1 : 1 ≤ k) (hk : k ≤ 20) : ∀ (d f t : Nat) (b : Bool), t + d = a 0 0 → d < f → ∃ b', mX7_isSafe_L5 f (nI s) (nI k) (bI b) (nI t) τ = some (bI b', τ) ∧ (b' = true ↔ b = true ∨ ∃ t', t ≤ t' ∧ t' < a 0 0 ∧ ((t' ≠ s ∧ knF a t' (20 * s + k - 1) = true) ∨ ∃ m, m < a 12 (5 * s + t') ∧ a 13 (10 * (5 * s + t') + m) = k)) := by
  have h5 := I.1.2
  intro d
  induction d with
  | zero =>
    intro f t b h hf
    obtain ⟨f, rfl⟩ : ∃ g, f = g + 1 := ⟨f - 1, by omega⟩
    rw [mX7_isSafe_L5, M.1, if_pos (nI_le (by omega) (by omega)), rz_b]
    exact ⟨b, rfl, ⟨fun h => Or.inl h, fun h => h.resolve_right (fun ⟨m', h1, h2, _⟩ => by omega)⟩⟩
  | succ d ih =>
    intro f t b h hf
    obtain ⟨f, rfl⟩ : ∃ g, f = g + 1 := ⟨f - 1, by omega⟩
    have h10 := (I.2.2.2.2.2.2 (5 * s + t) (by omega)).1
    have go : ∀ b1 : Bool, (b1 = true ↔ b = true ∨ (t ≠ s ∧ knF a t (20 * s + k - 1) = true) ∨ (b1 = true ∧ b = true)) → ∃ b', mX7_isSafe_L47 (mX7_isSafe_L5 f) fu (nI s) (nI k) (bI b1) (nI t) 0 τ = some (bI b', τ) ∧ (b' = true ↔ b = true ∨ ∃ t', t ≤ t' ∧ t' < a 0 0 ∧ ((t' ≠ s ∧ knF a t' (20 * s + k - 1) = true) ∨ ∃ m, m < a 12 (5 * s + t') ∧ a 13 (10 * (5 * s + t') + m) = k)) := by
      intro b1 hb1
      obtain ⟨b2, e1, e2⟩ := saf_i I M hs (show t < 5 by omega) (show k < 100 by omega) (mX7_isSafe_L5 f) (a 12 (5 * s + t)) fu 0 b1 (by omega) (by rw [fu_eq]; omega)
      obtain ⟨b3, g1, g2⟩ := ih f (t + 1) b2 (by omega) (by omega)
      refine ⟨b3, by rw [show (mX7_isSafe_L47 (mX7_isSafe_L5 f) fu (nI s) (nI k) (bI b1) (nI t) 0 τ) = _ from e1, g1], ?_⟩
      rw [g2, e2]
      constructor
      · rintro ((h | ⟨m, _, h2, h3⟩) | ⟨t', h1, h2⟩)
        · rcases hb1.mp h with h | h | h
          · exact Or.inl h
          · exact Or.inr ⟨t, Nat.le_refl _, by omega, Or.inl h⟩
          · exact Or.inl h.2
        · exact Or.inr ⟨t, Nat.le_refl _, by omega, Or.inr ⟨m, h2, h3⟩⟩
        · exact Or.inr ⟨t', by omega, h2⟩
      · rintro (h | ⟨t', h1, h2, h3⟩)
        · exact Or.inl (Or.inl (hb1.mpr (Or.inl h)))
        · by_cases q : t' = t
          · rw [q] at h3
            rcases h3 with h3 | ⟨m, h3, h4⟩
            · exact Or.inl (Or.inl (hb1.mpr (Or.inr (Or.inl h3))))
            · exact Or.inl (Or.inr ⟨m, Nat.zero_le _, h3, h4⟩)
          · exact Or.inr ⟨t', by omega, h2, h3⟩
    rw [mX7_isSafe_L5, M.1, if_neg (nI_ge (by omega) (by omega))]
    cases b with
    | true =>
      rw [bI_t, if_neg (by decide)]
      exact go true ⟨fun _ => Or.inl rfl, fun _ => rfl⟩
    | false =>
      rw [bI_f, if_pos rfl]
      by_cases c : t = s
      · rw [if_pos (show nI t = nI s by rw [c])]
        exact go false ⟨fun h => (Bool.false_ne_true h).elim, fun h => by rcases h with h | h | h; exact h; exact absurd c h.1; exact h.1⟩
      · rw [if_neg (fun q => c ((nI_eq (by omega) (by omega)).mp q)), m_place τ hk1, bnd_s, M_knows I M (show t < 5 by omega) (by omega), bnd_s]
        by_cases q : knF a t (20 * s + k - 1) = true
        · rw [q, bI_t, if_neg (by decide)]
          exact go true ⟨fun _ => Or.inr (Or.inl ⟨c, q⟩), fun _ => rfl⟩
        · rw [Bool.eq_false_iff.mpr q, bI_f, if_pos rfl]
          exact go false ⟨fun h => (Bool.false_ne_true h).elim, fun h => by rcases h with h | h | h; exact h; exact absurd h.2 q; exact h.1⟩
theorem end_L {a : Ab} {v σ τ : St} (I : Inv a v) (C : RepC a v σ) (M : RepM a v τ) {s : Nat} (hs : s < a 0 0) : ∀ (d f k : Nat) (x : Nat), k + d = a 1 s + 1 → 1 ≤ k → d < f → ∃ r, mX6_endangered_L15 f (nI s) (nI x) (nI k) σ = some (r, σ) ∧ mX7_endangered_L15 f (nI s) (nI x) (nI k) τ = some (r, τ) := by
  have h5 := I.1.2
  have h20 := (I.2.1 s (by omega)).1
  intro d
  induction d with
  | zero =>
    intro f k x h hk hf
    obtain ⟨f, rfl⟩ : ∃ g, f = g + 1 := ⟨f - 1, by omega⟩
    rw [mX6_endangered_L15, mX7_endangered_L15, q_made σ (by omega), bnd_s, ix_n (show s < 5 by omega) (by decide), nI_clamp (by omega), (C.2.1 s (by omega)).1, (M.2.1 s (by omega)).1, if_pos (nI_lt (by omega) (by omega)), if_pos (nI_lt (by omega) (by omega))]
    exact ⟨_, rfl, rfl⟩
  | succ d ih =>
    intro f k x h hk hf
    obtain ⟨f, rfl⟩ : ∃ g, f = g + 1 := ⟨f - 1, by omega⟩
    obtain ⟨b1, e1, e2⟩ := bes_L I C (show s < 5 by omega) (show 20 * s + k - 1 < 100 by omega) (a 0 0) fu 0 (by omega) (by rw [fu_eq]; omega)
    obtain ⟨b2, g1, g2⟩ := car_L I C (show 20 * s + k - 1 < 100 by omega) 25 fu 0 (by omega) (by rw [fu_eq]; omega)
    obtain ⟨b3, j1, j2⟩ := saf_L I M (show s < 5 by omega) hk (show k ≤ 20 by omega) (a 0 0) fu 0 false (by omega) (by rw [fu_eq]; omega)
    have e1' : mX6_isKnownBeside (nI s) (nI (20 * s + k - 1)) σ = some (bI b1, σ) := e1
    have g1' : mX3_carry (nI (20 * s + k - 1)) σ = some (bI b2, σ) := g1
    have j1' : mX7_isSafe (nI s) (nI k) τ = some (bI b3, τ) := j1
    have key : b3 = (b1 || b2) := by
      rw [Bool.eq_iff_iff, j2, Bool.or_eq_true, e2, g2]
      constructor
      · rintro (q | ⟨t', _, q2, q3 | ⟨m, q3, q4⟩⟩)
        · exact (Bool.false_ne_true q).elim
        · exact Or.inl ⟨t', Nat.zero_le _, q2, q3⟩
        · exact Or.inr ⟨5 * s + t', m, Nat.zero_le _, by omega, q3, by rw [show (5 * s + t') / 5 = s by omega, q4]⟩
      · rintro (⟨t', _, q2, q3⟩ | ⟨L, m, _, q2, q3, q4⟩)
        · exact Or.inr ⟨t', Nat.zero_le _, q2, Or.inl q3⟩
        · obtain ⟨w1, w2, w3⟩ := I.2.2.2.2.2.2 L q2
          obtain ⟨u1, u2⟩ := w3 m q3
          have u3 := (I.2.1 (L / 5) (by omega)).1
          have u4 := w2 (by omega)
          have hLs : L / 5 = s := by omega
          have hLe : 5 * s + L % 5 = L := by omega
          exact Or.inr ⟨L % 5, Nat.zero_le _, u4.2.1, Or.inr ⟨m, by rw [hLe]; exact q3, by rw [hLe]; omega⟩⟩
    have hlt : ¬ nI (a 1 s) < nI k := nI_nlt (by omega) (by omega)
    rw [mX6_endangered_L15, mX7_endangered_L15, q_made σ (by omega), bnd_s, ix_n (show s < 5 by omega) (by decide), nI_clamp (by omega), (C.2.1 s (by omega)).1, (M.2.1 s (by omega)).1, if_neg hlt, if_neg hlt, q_idOf σ hk, bnd_s, e1', bnd_s, g1', bnd_s, j1', bnd_s, key, nI_1, nI_1, il 0, nI_add, Nat.add_zero]
    cases b1 with
    | true =>
      rw [Bool.true_or, bI_t, if_neg (by decide), if_neg (by decide)]
      exact ih f (k + 1) x (by omega) (by omega) (by omega)
    | false =>
      rw [Bool.false_or, bI_f, if_pos (show (0 : Int32) = nI 0 from rfl)]
      cases b2 with
      | true =>
        rw [bI_t, if_neg (by decide), if_neg (by decide)]
        exact ih f (k + 1) x (by omega) (by omega) (by omega)
      | false =>
        rw [bI_f, if_pos (show (0 : Int32) = nI 0 from rfl), if_pos (show (0 : Int32) = nI 0 from rfl)]
        exact ih f (k + 1) (x + 1) (by omega) (by omega) (by omega)
theorem op_endangered {σ τ : St} (R : Rel σ τ) (x : Int32) : Same (mX6_endangered x σ) (mX7_endangered x τ) := by
  obtain ⟨a, v, I, C, M⟩ := id R
  have h5 := I.1.2
  unfold mX6_endangered mX7_endangered
  refine Same_site I C M (fun s hs ex => ?_)
  subst ex
  have h20 := (I.2.1 s (by omega)).1
  obtain ⟨r, e1, e2⟩ := end_L I C M hs (a 1 s) fu 1 0 (by omega) (by omega) (by rw [fu_eq]; omega)
  rw [show nI 0 = (0 : Int32) from rfl, show nI 1 = (1 : Int32) from rfl] at e1 e2
  rw [e1, e2]
  exact Same_r R
