/-! The reference: its getters, and what workOut makes. -/
theorem m_of {i j : Nat} (τ : St) (h : 21 * i + j < 2100) : mX7_of (nI i) (nI j) τ = some (τ 0 (21 * i + j), τ) := by
  unfold mX7_of
  rw [il 21, pk_mul, nI_add, ix_n h (by decide), nI_clamp (by omega)]
theorem m_know {s i : Nat} {K : Nat → Bool} {τ : St} (hs : s < 5) (hi : i < 100) (h : τ 3 (100 * s + i) = bI (K i)) : mX7_doesKnow (nI s) (nI i) τ = some (bI (K i), τ) := by
  unfold mX7_doesKnow
  rw [il 100, pk_mul, nI_add, ix_n (by omega) (by decide), nI_clamp (by omega), rz_if, h]
  cases K i <;> rfl
theorem m_place {s k : Nat} (τ : St) (hk : 1 ≤ k) : mX7_place (nI s) (nI k) τ = some (nI (20 * s + k - 1), τ) := by
  unfold mX7_place
  rw [il 20, pk_mul, nI_add, il 1, pk_sub (by omega)]
theorem nI_m1 {n : Nat} (h : n < 2 ^ 31) : ¬ nI n = (-1 : Int32) := by
  intro e
  have h2 := congrArg Int32.toInt e
  rw [nI_toInt h] at h2
  have : ((-1 : Int32)).toInt = -1 := rfl
  omega
/-- what the reference's board is made of -/
def shM (a : Ab) (K : Nat → Bool) (s : Nat) (τ : St) : Prop := (tot a ≤ 100 ∧ Ord a ∧ Tms a ∧ ∀ i, K i = true → mk a i) ∧ (∀ i, mk a i → τ 0 (21 * i) = nI (a 4 i) ∧ a 4 i ≤ 3 ∧ τ 0 (21 * i + 1) = nI (a 5 i) ∧ a 5 i ≤ 100 ∧ (a 4 i ≠ 0 → τ 0 (21 * i + 4) = nI (a 6 i % 20 + 1) ∧ a 6 i < 100 ∧ (a 4 i = 3 → τ 0 (21 * i + 2) = nI (a 6 i / 20)) ∧ (a 4 i ≠ 3 → a 6 i / 20 = i / 20)) ∧ (a 4 i = 0 ∨ a 4 i = 3 → τ 0 (21 * i + 3) = nI (a 8 i) ∧ a 8 i < 4)) ∧ ∀ i, i < 100 → τ 3 (100 * s + i) = bI (K i)
/-- all rows but those of the reference's board -/
def agM (τ τ' : St) : Prop := ∀ k, k ≠ 7 → k ≠ 8 → k ≠ 13 → τ' k = τ k
theorem agM_refl {τ : St} : agM τ τ := fun _ _ _ _ => rfl
theorem agM_trans {τ τ' τ2 : St} (h : agM τ τ') (h2 : agM τ' τ2) : agM τ τ2 := fun k a b c => (h2 k a b c).trans (h k a b c)
theorem shM_ag {a : Ab} {K : Nat → Bool} {s : Nat} {τ τ' : St} (h : shM a K s τ) (e : agM τ τ') : shM a K s τ' := by
  obtain ⟨h1, h2, h3⟩ := h
  refine ⟨h1, fun i hi => ?_, fun i hi => ?_⟩
  · rw [e 0 (by omega) (by omega) (by omega)]; exact h2 i hi
  · rw [e 3 (by omega) (by omega) (by omega)]; exact h3 i hi
theorem m_kind {a : Ab} {K : Nat → Bool} {s i : Nat} {τ : St} (h : shM a K s τ) (hi : mk a i) : mX7_of (nI i) 0 τ = some (nI (a 4 i), τ) := by
  have := hi.1
  rw [il 0, m_of τ (by omega), Nat.add_zero, (h.2.1 i hi).1]
theorem m_aim {a : Ab} {K : Nat → Bool} {s i : Nat} {τ : St} (h : shM a K s τ) (hi : mk a i) (h0 : a 4 i ≠ 0) : mX7_aim (nI i) τ = some (nI (a 6 i), τ) := by
  have hi1 := hi.1
  obtain ⟨h1, h2, h3, h3', h4, h5⟩ := h.2.1 i hi
  obtain ⟨g1, g2, g3, g4⟩ := h4 h0
  unfold mX7_aim
  rw [m_kind h hi, bnd_s]
  have fin : mX7_aim_b23 (nI i) (nI (a 6 i / 20)) τ = some (nI (a 6 i), τ) := by
    unfold mX7_aim_b23
    rw [il 4, m_of τ (by omega), bnd_s, g1, m_place τ (by omega), bnd_s]
    congr 3
    omega
  by_cases k3 : a 4 i = 3
  · rw [k3, if_pos (show nI 3 = (3 : Int32) from rfl), il 2, m_of τ (by omega), bnd_s, g3 k3]; exact fin
  · rw [if_neg (nz3 (by omega) k3), il 20, pk_div (by omega) (by omega) (by omega), ← g4 k3]; exact fin
theorem m_after {a : Ab} {K : Nat → Bool} {s i j : Nat} {τ : St} (h : shM a K s τ) (hi : mk a i) (hj : mk a j) [Decidable (bf a j i)] : mX7_isAfter (nI i) (nI j) τ = some (bI (decide (bf a j i)), τ) := by
  have hi1 := hi.1
  have hj1 := hj.1
  obtain ⟨-, -, h3, h3', -, -⟩ := h.2.1 i hi
  obtain ⟨-, -, g3, g3', -, -⟩ := h.2.1 j hj
  unfold mX7_isAfter
  rw [il 1, m_of τ (by omega), bnd_s, m_of τ (by omega), bnd_s, h3, g3, il 20, pk_div (by omega) (by omega) (by omega), pk_div (by omega) (by omega) (by omega)]
  by_cases e : a 5 i = a 5 j
  · rw [if_pos (by rw [e])]
    by_cases e2 : i / 20 ≤ j / 20
    · rw [if_pos (nI_le e2 (by omega)), decide_eq_false (by unfold bf; omega)]; rfl
    · rw [if_neg (nI_ge (by omega) (by omega)), decide_eq_true (by unfold bf; omega)]; rfl
  · rw [if_neg (fun q => e ((nI_eq (by omega) (by omega)).mp q)), m_of τ (by omega), bnd_s, m_of τ (by omega), bnd_s, h3, g3]
    by_cases e2 : a 5 i ≤ a 5 j
    · rw [if_pos (nI_le e2 (by omega)), decide_eq_false (by unfold bf; omega)]; rfl
    · rw [if_neg (nI_ge (by omega) (by omega)), decide_eq_true (by unfold bf; omega)]; rfl
/-- the last one found among the first x -/
def fdP (a : Ab) (K : Nat → Bool) (i lo hi x : Nat) (r : Int32) : Prop := (r = -1 ∧ ∀ o, o < x → ¬ isP a K i lo hi o) ∨ ∃ o, o < x ∧ r = nI o ∧ isP a K i lo hi o ∧ ∀ o', o' < x → isP a K i lo hi o' → o' ≠ o → bf a o' o
theorem m_last_L6 {a : Ab} {K : Nat → Bool} {s i lo hi : Nat} {τ : St} (hs : s < 5) (h : shM a K s τ) (hi1 : i < 100) (hlo : 1 ≤ lo) (hlo3 : lo ≤ 3) (hhi : hi ≤ 3) : ∀ (d f x : Nat) (r : Int32), x + d = 100 → d < f → fdP a K i lo hi x r → ∃ r', mX7_last_L6 f (nI s) (nI i) (nI lo) (nI hi) r (nI x) τ = some (r', τ) ∧ fdP a K i lo hi 100 r' := by
  intro d
  induction d with
  | zero =>
    intro f x r hx hf hr
    obtain ⟨f, rfl⟩ : ∃ g, f = g + 1 := ⟨f - 1, by omega⟩
    have : x = 100 := by omega
    subst this
    rw [mX7_last_L6, if_pos (by decide)]
    exact ⟨r, rfl, hr⟩
  | succ d ih =>
    intro f x r hx hf hr
    obtain ⟨f, rfl⟩ : ∃ g, f = g + 1 := ⟨f - 1, by omega⟩
    have go : ¬ isP a K i lo hi x → ∃ r', mX7_last_b53 (mX7_last_L6 f) (nI s) (nI i) (nI lo) (nI hi) r (nI x) τ = some (r', τ) ∧ fdP a K i lo hi 100 r' := by
      intro hn
      unfold mX7_last_b53 mX7_last_b54
      rw [if_pos rfl, nI_1]
      refine ih f (x + 1) r (by omega) (by omega) ?_
      rcases hr with ⟨h1, h2⟩ | ⟨o, h1, h2, h3, h4⟩
      · refine Or.inl ⟨h1, fun o ho => ?_⟩
        by_cases e : o = x
        · rw [e]; exact hn
        · exact h2 o (by omega)
      · refine Or.inr ⟨o, by omega, h2, h3, fun o' ho' hp hne => ?_⟩
        by_cases e : o' = x
        · rw [e] at hp; exact absurd hp hn
        · exact h4 o' (by omega) hp hne
    rw [mX7_last_L6, if_neg (show ¬ (100 : Int32) ≤ nI x from nI_ge (b := 100) (by omega) (by omega)), m_know hs (by omega) (h.2.2 x (by omega)), bnd_s]
    cases hK : K x with
    | false =>
      rw [bI_f, if_pos rfl]
      exact go (fun q => by have := q.1; rw [hK] at this; cases this)
    | true =>
      have hm := h.1.2.2.2 x hK
      rw [bI_t, if_neg (by decide), m_kind h hm, bnd_s, q_in, bnd_s]
      have h3 := (h.2.1 x hm).2.1
      by_cases hk : lo ≤ a 4 x ∧ a 4 x ≤ hi
      · rw [decide_eq_true (⟨nI_le hk.1 (by omega), nI_le hk.2 (by omega)⟩ : nI lo ≤ nI (a 4 x) ∧ nI (a 4 x) ≤ nI hi), bI_t, if_neg (by decide), m_aim h hm (by omega), bnd_s]
        by_cases ht : a 6 x = i
        · have hP : isP a K i lo hi x := ⟨hK, ht, hk.1, hk.2⟩
          rw [ht, if_pos rfl]
          unfold mX7_last_b54
          rw [if_neg (by decide)]
          rcases hr with ⟨h1, h2⟩ | ⟨o, h1, h2, h3, h4⟩
          · rw [h1, if_pos rfl, nI_1]
            exact ih f (x + 1) _ (by omega) (by omega) (Or.inr ⟨x, by omega, rfl, hP, fun o' ho' hp hne => absurd hp (h2 o' (by omega))⟩)
          · have hmo := h.1.2.2.2 o h3.1
            have := Classical.propDecidable (bf a o x)
            rw [h2, if_neg (nI_m1 (by omega)), m_after h hm hmo, bnd_s]
            by_cases hb : bf a o x
            · rw [decide_eq_true hb, bI_t, if_neg (by decide), nI_1]
              refine ih f (x + 1) _ (by omega) (by omega) (Or.inr ⟨x, by omega, rfl, hP, fun o' ho' hp hne => ?_⟩)
              by_cases e : o' = o
              · rw [e]; exact hb
              · exact bf_trans (h4 o' (by omega) hp e) hb
            · rw [decide_eq_false hb, bI_f, if_pos rfl, nI_1]
              refine ih f (x + 1) _ (by omega) (by omega) (Or.inr ⟨o, by omega, rfl, h3, fun o' ho' hp hne => ?_⟩)
              by_cases e : o' = x
              · rw [e]
                rcases bf_tot h.1.2.2.1 hm hmo (by omega) with q | q
                · exact q
                · exact absurd q hb
              · exact h4 o' (by omega) hp hne
        · rw [if_neg (fun q => ht ((nI_eq (by have := ((h.2.1 x hm).2.2.2.2.1 (by omega)).2.1; omega) (by omega)).mp q))]
          exact go (fun q => ht q.2.1)
      · rw [decide_eq_false (fun q => hk ⟨(nI_leI (by omega) (by omega)).mp q.1, (nI_leI (by omega) (by omega)).mp q.2⟩), bI_f, if_pos rfl]
        exact go (fun q => hk q.2.2)
theorem m_last {a : Ab} {K : Nat → Bool} {s i lo hi : Nat} {τ : St} (hs : s < 5) (h : shM a K s τ) (hi1 : i < 100) (hlo : 1 ≤ lo) (hlo3 : lo ≤ 3) (hhi : hi ≤ 3) : (mX7_last (nI s) (nI i) (nI lo) (nI hi) τ = some (-1, τ) ∧ ∀ o, ¬ isP a K i lo hi o) ∨ ∃ o, mX7_last (nI s) (nI i) (nI lo) (nI hi) τ = some (nI o, τ) ∧ mk a o ∧ isP a K i lo hi o ∧ ∀ o', isP a K i lo hi o' → o' ≠ o → bf a o' o := by
  have hK := fun o (p : isP a K i lo hi o) => (h.1.2.2.2 o p.1)
  obtain ⟨r, e, hr⟩ := m_last_L6 hs h hi1 hlo hlo3 hhi 100 fu 0 (-1) (by omega) (by rw [fu_eq]; omega) (Or.inl ⟨rfl, fun o ho => by omega⟩)
  unfold mX7_last
  rw [show (0 : Int32) = nI 0 from rfl, e]
  rcases hr with ⟨h1, h2⟩ | ⟨o, h1, h2, h3, h4⟩
  · exact Or.inl ⟨by rw [h1], fun o p => h2 o (hK o p).1 p⟩
  · exact Or.inr ⟨o, by rw [h2], hK o h3, h3, fun o' p => h4 o' (hK o' p).1 p⟩
theorem m_vis {a : Ab} {K : Nat → Bool} {s i : Nat} {τ : St} (hs : s < 5) (h : shM a K s τ) (hi : i < 100) [Decidable (vis a K i)] : mX7_isVisible (nI s) (nI i) τ = some (bI (decide (vis a K i)), τ) := by
  unfold mX7_isVisible
  rw [m_know hs hi (h.2.2 i hi), bnd_s]
  cases hK : K i with
  | false =>
    rw [bI_f, if_pos rfl, decide_eq_false (fun q => by have := q.1; rw [hK] at this; cases this)]; rfl
  | true =>
    have hm := h.1.2.2.2 i hK
    have h3 := (h.2.1 i hm).2.1
    rw [bI_t, if_neg (by decide), m_kind h hm, bnd_s]
    by_cases k0 : a 4 i = 0
    · rw [k0, if_pos (show nI 0 = (0 : Int32) from rfl)]
      rcases m_last (lo := 1) (hi := 2) hs h hi (by omega) (by omega) (by omega) with ⟨e, hn⟩ | ⟨o, e, hmo, hP, hl⟩
      · rw [show mX7_last (nI s) (nI i) 1 2 τ = some (-1, τ) from e, bnd_s, if_pos rfl, decide_eq_true ⟨hK, k0, undF_none hn _⟩]; rfl
      · rw [show mX7_last (nI s) (nI i) 1 2 τ = some (nI o, τ) from e, bnd_s, if_neg (nI_m1 (by have := hmo.1; omega)), m_kind h hmo, bnd_s]
        have hu := undF_last h.1.2.1 h.1.2.2.2 hP hl
        by_cases k2 : a 4 o = 2
        · rw [k2, if_pos (show nI 2 = (2 : Int32) from rfl), decide_eq_true ⟨hK, k0, by rw [hu]; exact decide_eq_false (by omega)⟩]; rfl
        · have h5 := (h.2.1 o hmo).2.1
          rw [if_neg (nz2 (by omega) k2), decide_eq_false (fun q => by
            have q3 := q.2.2
            rw [hu] at q3
            have := of_decide_eq_false q3
            have := hP.2.2
            omega)]; rfl
    · rw [if_neg (nz0 (by omega) k0), decide_eq_false (fun q => k0 q.2.1)]; rfl
theorem m_layer {a : Ab} {K : Nat → Bool} {s i : Nat} {τ : St} (hs : s < 5) (h : shM a K s τ) (hm : mk a i) (h0 : a 4 i = 0) : mX7_layerFor (nI s) (nI i) τ = some (nI (lyK a K i), τ) := by
  have hi := hm.1
  unfold mX7_layerFor lyK
  rcases m_last (lo := 3) (hi := 3) hs h hi (by omega) (by omega) (by omega) with ⟨e, hn⟩ | ⟨o, e, hmo, hP, hl⟩
  · rw [show mX7_last (nI s) (nI i) 3 3 τ = some (-1, τ) from e, bnd_s, if_pos rfl, layF_none hn]
    unfold mX7_layerFor_b20
    rw [il 3, m_of τ (by omega), bnd_s, ((h.2.1 i hm).2.2.2.2.2 (Or.inl h0)).1]
  · have ho := hmo.1
    rw [show mX7_last (nI s) (nI i) 3 3 τ = some (nI o, τ) from e, bnd_s, if_neg (nI_m1 (by omega)), layF_last h.1.2.1 h.1.2.2.2 hP hl]
    unfold mX7_layerFor_b20
    rw [il 3, m_of τ (by omega), bnd_s, ((h.2.1 o hmo).2.2.2.2.2 (Or.inr (by have := hP.2.2; omega))).1]
/-- what the reference's board holds -/
def hsM (a : Ab) (K : Nat → Bool) (c : Nat) (f : Nat → Nat) (τ : St) : Prop := τ 13 0 = nI c ∧ ∀ q, q < c → τ 7 q = nI (f q) ∧ τ 8 q = nI (lyK a K (f q))
theorem work_L35 {a : Ab} {K : Nat → Bool} {s x y c : Nat} {fn : Nat → Nat} {k7 : Int32 → Int32 → St → Option St} (hm : mk a x) (hy : y = lyK a K x) (hy4 : y < 4) (hc : c < 100) (hfm : ∀ q, q < c → mk a (fn q) ∧ lyK a K (fn q) < 4) : ∀ (k f : Nat) (τ : St), k ≤ c → k < f → shM a K s τ → (∀ q, q < k → τ 7 q = nI (fn q) ∧ τ 8 q = nI (lyK a K (fn q))) → (∀ q, k < q → q ≤ c → τ 7 q = nI (fn (q - 1)) ∧ τ 8 q = nI (lyK a K (fn (q - 1)))) → (∀ q, k ≤ q → q < c → okl a K x (fn q)) → ∃ τ' j, mX7_workOut_L35 k7 f (nI s) (nI x) (nI y) (nI k) τ = mX7_workOut_b121 k7 (nI s) (nI x) (nI y) (nI j) τ' ∧ j ≤ c ∧ (∀ k', k' ≠ 7 → k' ≠ 8 → τ' k' = τ k') ∧ (∀ q, q < j → τ' 7 q = nI (fn q) ∧ τ' 8 q = nI (lyK a K (fn q))) ∧ (∀ q, j < q → q ≤ c → τ' 7 q = nI (fn (q - 1)) ∧ τ' 8 q = nI (lyK a K (fn (q - 1)))) ∧ (∀ q, j ≤ q → q < c → okl a K x (fn q)) ∧ (0 < j → ¬ okl a K x (fn (j - 1))) := by
  intro k
  induction k with
  | zero =>
    intro f τ hk hf hB h1 h2 h3
    obtain ⟨f, rfl⟩ : ∃ g, f = g + 1 := ⟨f - 1, by omega⟩
    rw [mX7_workOut_L35, if_pos (by decide)]
    exact ⟨τ, 0, rfl, by omega, fun _ _ _ => rfl, h1, h2, h3, fun h => by omega⟩
  | succ k ih =>
    intro f τ hk hf hB h1 h2 h3
    obtain ⟨f, rfl⟩ : ∃ g, f = g + 1 := ⟨f - 1, by omega⟩
    obtain ⟨g1, g2⟩ := h1 k (by omega)
    obtain ⟨f1, f2⟩ := hfm k (by omega)
    have stop : ¬ okl a K x (fn k) → ∃ τ' j, mX7_workOut_b121 k7 (nI s) (nI x) (nI y) (nI (k + 1)) τ = mX7_workOut_b121 k7 (nI s) (nI x) (nI y) (nI j) τ' ∧ j ≤ c ∧ (∀ k', k' ≠ 7 → k' ≠ 8 → τ' k' = τ k') ∧ (∀ q, q < j → τ' 7 q = nI (fn q) ∧ τ' 8 q = nI (lyK a K (fn q))) ∧ (∀ q, j < q → q ≤ c → τ' 7 q = nI (fn (q - 1)) ∧ τ' 8 q = nI (lyK a K (fn (q - 1)))) ∧ (∀ q, j ≤ q → q < c → okl a K x (fn q)) ∧ (0 < j → ¬ okl a K x (fn (j - 1))) := fun hn => ⟨τ, k + 1, rfl, hk, fun _ _ _ => rfl, h1, h2, h3, fun _ => hn⟩
    have shift : okl a K x (fn k) → ∃ τ' j, mX7_workOut_b83 k7 (mX7_workOut_L35 k7 f) (nI s) (nI x) (nI y) (nI (k + 1)) τ = mX7_workOut_b121 k7 (nI s) (nI x) (nI y) (nI j) τ' ∧ j ≤ c ∧ (∀ k', k' ≠ 7 → k' ≠ 8 → τ' k' = τ k') ∧ (∀ q, q < j → τ' 7 q = nI (fn q) ∧ τ' 8 q = nI (lyK a K (fn q))) ∧ (∀ q, j < q → q ≤ c → τ' 7 q = nI (fn (q - 1)) ∧ τ' 8 q = nI (lyK a K (fn (q - 1)))) ∧ (∀ q, j ≤ q → q < c → okl a K x (fn q)) ∧ (0 < j → ¬ okl a K x (fn (j - 1))) := by
      intro hyes
      unfold mX7_workOut_b83
      simp only [lts_s, lti_s]
      rw [nI_pred, pk_m1, ix_n (by omega) (by decide), ix_n (by omega) (by decide), ix_n (by omega) (by decide), ix_n (by omega) (by decide), nI_clamp (by omega), nI_clamp (by omega), g1, ups_row (by omega), g2]
      obtain ⟨τ', j, e1, e2, e3, e4⟩ := ih f (ups (ups τ 7 (k + 1) (nI (fn k))) 8 (k + 1) (nI (lyK a K (fn k)))) (by omega) (by omega) (shM_ag hB (fun k' a1 a2 a3 => by rw [ups_row a2, ups_row a1])) (fun q hq => by
          rw [ups_row (show 7 ≠ 8 by omega), ups_at, ups_at, ups_row (show 8 ≠ 7 by omega), if_neg (by omega), if_neg (by omega)]
          exact h1 q (by omega)) (fun q hq hqc => by
          rw [ups_row (show 7 ≠ 8 by omega), ups_at, ups_at, ups_row (show 8 ≠ 7 by omega)]
          by_cases e : q = k + 1
          · rw [if_pos ⟨rfl, e⟩, if_pos ⟨rfl, e⟩, e]; exact ⟨rfl, rfl⟩
          · rw [if_neg (fun z => e z.2), if_neg (fun z => e z.2)]; exact h2 q (by omega) hqc) (fun q hq hqc => by
          by_cases e : q = k
          · rw [e]; exact hyes
          · exact h3 q (by omega) hqc)
      exact ⟨τ', j, e1, e2, fun k' a1 a2 => by rw [e3 k' a1 a2, ups_row a2, ups_row a1], e4⟩
    rw [mX7_workOut_L35, if_neg (show ¬ nI (k + 1) ≤ (0 : Int32) from nI_ge (a := 0) (by omega) (by omega)), nI_pred, ix_n (by omega) (by decide), nI_clamp (by omega), g2, ix_n (by omega) (by decide), ix_n (by omega) (by decide), g1]
    by_cases c1 : y < lyK a K (fn k)
    · rw [if_pos (nI_lt c1 (by omega))]
      exact shift (Or.inl (by rw [← hy]; exact c1))
    · rw [if_neg (nI_nlt (by omega) (by omega))]
      by_cases c2 : lyK a K (fn k) = y
      · have := Classical.propDecidable (bf a x (fn k))
        rw [if_pos (by rw [c2]), m_after hB f1 hm, bnd_s]
        by_cases c3 : bf a x (fn k)
        · rw [decide_eq_true c3, bI_t, if_neg (by decide)]
          exact shift (Or.inr ⟨by rw [← hy]; exact c2.symm, c3⟩)
        · rw [decide_eq_false c3, bI_f, if_pos rfl]
          exact stop (fun q => by
            rcases q with q | q
            · rw [← hy] at q; omega
            · exact c3 q.2)
      · rw [if_neg (fun q => c2 ((nI_eq (by omega) (by omega)).mp q))]
        exact stop (fun q => by
          rcases q with q | q
          · rw [← hy] at q; omega
          · have := q.1; rw [← hy] at this; omega)
theorem work_L7 {a : Ab} {K : Nat → Bool} {s : Nat} (hs : s < 5) : ∀ (d f x c : Nat) (fn : Nat → Nat) (τ : St), x + d = 100 → d < f → shM a K s τ → hsM a K c fn τ → Lst (okl a K) (fun z => vis a K z ∧ z < x) fn c → ∃ τ' c' fn', mX7_workOut_L7 f (nI s) (nI x) τ = some τ' ∧ agM τ τ' ∧ hsM a K c' fn' τ' ∧ Lst (okl a K) (fun z => vis a K z ∧ z < 100) fn' c' := by
  intro d
  induction d with
  | zero =>
    intro f x c fn τ hx hf hB hH hL
    obtain ⟨f, rfl⟩ : ∃ g, f = g + 1 := ⟨f - 1, by omega⟩
    have : x = 100 := by omega
    subst this
    rw [mX7_workOut_L7, if_pos (by decide)]
    exact ⟨τ, c, fn, rfl, agM_refl, hH, hL⟩
  | succ d ih =>
    intro f x c fn τ hx hf hB hH hL
    obtain ⟨f, rfl⟩ : ∃ g, f = g + 1 := ⟨f - 1, by omega⟩
    have := Classical.propDecidable (vis a K x)
    rw [mX7_workOut_L7, if_neg (show ¬ (100 : Int32) ≤ nI x from nI_ge (b := 100) (by omega) (by omega)), m_vis hs hB (by omega), bnd_s]
    by_cases hv : vis a K x
    · have hm := hB.1.2.2.2 x hv.1
      have h4 : ∀ i, mk a i → a 4 i = 0 → lyK a K i < 4 := fun i hi h0 => layF_lt (fun j hj h => ((hB.2.1 j hj).2.2.2.2.2 h).2) hB.1.2.2.2 hi h0 (tot a)
      have hlen := Lst_len okl_irr hL (m := x) (fun z hz => hz.2)
      have hfm : ∀ q, q < c → mk a (fn q) ∧ lyK a K (fn q) < 4 := fun q hq => by
        have h1 := (hL.2.1 q hq).1
        exact ⟨hB.1.2.2.2 _ h1.1, h4 _ (hB.1.2.2.2 _ h1.1) h1.2.1⟩
      rw [decide_eq_true hv, bI_t, if_neg (by decide), m_layer hs hB hm hv.2.1, bnd_s, hH.1]
      obtain ⟨τ1, j, e1, e2, e3, e4, e5, e6, e7⟩ := work_L35 (s := s) (k7 := mX7_workOut_L7 f) (fn := fn) (y := lyK a K x) hm rfl (h4 x hm hv.2.1) (by omega) hfm c fu τ (Nat.le_refl _) (by rw [fu_eq]; omega) hB hH.2 (fun q h1 h2 => by omega) (fun q h1 h2 => by omega)
      rw [e1]
      unfold mX7_workOut_b121
      simp only [lts_s, lti_s]
      rw [ix_n (by omega) (by decide), ix_n (by omega) (by decide), nI_clamp (by omega), ups_row (show 13 ≠ 8 by omega), ups_row (show 13 ≠ 7 by omega), e3 13 (by omega) (by omega), hH.1, nI_1, nI_1]
      have ag : agM τ (ups (ups (ups τ1 7 j (nI x)) 8 j (nI (lyK a K x))) 13 0 (nI (c + 1))) := fun k a1 a2 a3 => by rw [ups_row a3, ups_row a2, ups_row a1]; exact e3 k a1 a2
      have hL2 := Lst_ins (lt := okl a K) (V := fun z => vis a K z ∧ z < x) (fun _ _ _ => okl_trans) (x := x) (j := j) hL (fun z hz => okl_tot hB.1.2.2.1 hm (hB.1.2.2.2 z hz.1.1) (by have := hz.2; omega)) e2 e6 e7
      obtain ⟨τ2, c', fn', g1, g2, g3⟩ := ih f (x + 1) (c + 1) (insF fn j x) _ (by omega) (by omega) (shM_ag hB ag) ⟨by rw [ups_at, if_pos ⟨rfl, rfl⟩], fun q hq => by
          rw [ups_row (show 7 ≠ 13 by omega), ups_row (show 8 ≠ 13 by omega), ups_row (show 7 ≠ 8 by omega), ups_at, ups_at, ups_row (show 8 ≠ 7 by omega)]
          unfold insF
          by_cases q1 : q < j
          · rw [if_neg (show ¬ (7 = 7 ∧ q = j) by omega), if_neg (show ¬ (8 = 8 ∧ q = j) by omega), if_pos q1]; exact e4 q q1
          · by_cases q2 : q = j
            · rw [if_pos (show 7 = 7 ∧ q = j from ⟨rfl, q2⟩), if_pos (show 8 = 8 ∧ q = j from ⟨rfl, q2⟩), if_neg q1, if_pos q2]; exact ⟨rfl, rfl⟩
            · rw [if_neg (show ¬ (7 = 7 ∧ q = j) by omega), if_neg (show ¬ (8 = 8 ∧ q = j) by omega), if_neg q1, if_neg q2]; exact e5 q (by omega) (by omega)⟩ (Lst_cong hL2 (fun z => by
          constructor
          · rintro (⟨h1, h2⟩ | rfl)
            · exact ⟨h1, by omega⟩
            · exact ⟨hv, by omega⟩
          · rintro ⟨h1, h2⟩
            by_cases e : z = x
            · exact Or.inr e
            · exact Or.inl ⟨h1, by omega⟩))
      exact ⟨τ2, c', fn', g1, agM_trans ag g2, g3⟩
    · rw [decide_eq_false hv, bI_f, if_pos rfl, nI_1]
      exact ih f (x + 1) c fn τ (by omega) (by omega) hB hH (Lst_cong hL (fun z => by
        constructor
        · rintro ⟨h1, h2⟩; exact ⟨h1, by omega⟩
        · rintro ⟨h1, h2⟩
          by_cases e : z = x
          · rw [e] at h1; exact absurd h1 hv
          · exact ⟨h1, by omega⟩))
theorem q_work {a : Ab} {K : Nat → Bool} {s : Nat} {τ : St} (hs : s < 5) (hB : shM a K s τ) : ∃ τ' c fn, mX7_workOut (nI s) τ = some τ' ∧ agM τ τ' ∧ hsM a K c fn τ' ∧ Lst (okl a K) (vis a K) fn c := by
  unfold mX7_workOut
  simp only [lts_s, lti_s]
  have ag : agM τ (ups τ 13 0 0) := fun k a1 a2 a3 => ups_row a3
  obtain ⟨τ', c, fn, e1, e2, e3, e4⟩ := work_L7 hs 100 fu 0 0 (fun _ => 0) (ups τ 13 0 0) (by omega) (by rw [fu_eq]; omega) (shM_ag hB ag) ⟨by rw [ups_at, if_pos ⟨rfl, rfl⟩]; rfl, fun q h => by omega⟩ (Lst_nil (fun x h => by have := h.2; omega))
  exact ⟨τ', c, fn, e1, agM_trans ag e2, e3, Lst_cong e4 (fun x => ⟨fun q => q.1, fun q => ⟨q, (hB.1.2.2.2 x q.1).1⟩⟩)⟩
