/-! strokeAt, put together. -/
theorem sc_L {a : Ab} {v σ : St} (I : Inv a v) (C : RepC a v σ) {K : Nat → Bool} {c : Nat} {fn : Nat → Nat} (hc : c ≤ 100) (B : hsB a K 0 c fn σ) (hm : ∀ p, p < c → mk a (fn p) ∧ a 4 (fn p) = 0) (x y : Int32) : ∀ (q f : Nat), q ≤ c → q < f → ∃ r, mX6_strokeAt_L62 f x y (nI q + (-1)) σ = some (r, σ) ∧ ((∃ q', q' < q ∧ hpt a v x y (fn q') 0 ∧ r = nI q' ∧ ∀ p, q' < p → p < q → ¬ hpt a v x y (fn p) 0) ∨ ((∀ p, p < q → ¬ hpt a v x y (fn p) 0) ∧ r = -1000000004)) := by
  intro q
  induction q with
  | zero =>
    intro f h hf
    obtain ⟨f, rfl⟩ : ∃ g, f = g + 1 := ⟨f - 1, by omega⟩
    rw [mX6_strokeAt_L62, if_pos (by decide)]
    exact ⟨_, rfl, Or.inr ⟨fun p h2 => by omega, rfl⟩⟩
  | succ q ih =>
    intro f h hf
    obtain ⟨f, rfl⟩ : ∃ g, f = g + 1 := ⟨f - 1, by omega⟩
    obtain ⟨hi, h0⟩ := hm q (by omega)
    have p8 := ((I.2.2.2.1 _ hi).2.2.2.2.2 h0).2
    obtain ⟨b, e1, e2⟩ := hp_L I C hi h0 x y (a 7 (fn q)) fu 0 (by omega) (by rw [fu_eq]; omega)
    have e1' : mX1_hasPoint 0 (nI (fn q)) x y σ = some (bI b, σ) := e1
    rw [pk_m1, mX6_strokeAt_L62, if_neg (nI_pos (by omega))]
    unfold mX0_strokeIn
    rw [q_get σ (show q < rl (22 + 3 * 0) by show q < 100; omega), bnd_s, bnd_s, show σ (22 + 3 * 0) q = nI (fn q) from B.2.1 q (by omega), e1', bnd_s]
    cases b with
    | true =>
      rw [bI_t, if_neg (by decide)]
      exact ⟨nI q, rfl, Or.inl ⟨q, by omega, e2.mp rfl, rfl, fun p p1 p2 => by omega⟩⟩
    | false =>
      rw [bI_f, if_pos rfl]
      have hno : ¬ hpt a v x y (fn q) 0 := fun z => Bool.false_ne_true (e2.mpr z)
      obtain ⟨r, g1, g2⟩ := ih f (by omega) (by omega)
      refine ⟨r, g1, ?_⟩
      rcases g2 with ⟨q', h1, h2, h3, h4⟩ | ⟨h1, h2⟩
      · refine Or.inl ⟨q', by omega, h2, h3, fun p p1 p2 => ?_⟩
        by_cases e : p = q
        · rw [e]; exact hno
        · exact h4 p p1 (by omega)
      · refine Or.inr ⟨fun p p2 => ?_, h2⟩
        by_cases e : p = q
        · rw [e]; exact hno
        · exact h1 p (by omega)
