/-! strokeAt, put together. -/
theorem sa_L {a : Ab} {v τ : St} (I : Inv a v) (M : RepM a v τ) {K : Nat → Bool} {c : Nat} {fn : Nat → Nat} (hc : c ≤ 100) (D : hsM a K c fn τ) (hm : ∀ p, p < c → mk a (fn p) ∧ a 4 (fn p) = 0) (x y : Int32) : ∀ (d f q : Nat) (x4 : Int32), q + d = c → d < f → ∃ r, mX7_strokeAt_L47 f x y x4 (nI q) τ = some (r, τ) ∧ ((∃ q', q ≤ q' ∧ q' < c ∧ hpt a v x y (fn q') 0 ∧ r = nI q' ∧ ∀ p, q' < p → p < c → ¬ hpt a v x y (fn p) 0) ∨ ((∀ p, q ≤ p → p < c → ¬ hpt a v x y (fn p) 0) ∧ r = x4)) := by
  intro d
  induction d with
  | zero =>
    intro f q x4 h hf
    obtain ⟨f, rfl⟩ : ∃ g, f = g + 1 := ⟨f - 1, by omega⟩
    rw [mX7_strokeAt_L47, D.1, if_pos (nI_le (by omega) (by omega))]
    exact ⟨x4, rfl, Or.inr ⟨fun p h1 h2 => by omega, rfl⟩⟩
  | succ d ih =>
    intro f q x4 h hf
    obtain ⟨f, rfl⟩ : ∃ g, f = g + 1 := ⟨f - 1, by omega⟩
    obtain ⟨hi, h0⟩ := hm q (by omega)
    have p8 := ((I.2.2.2.1 _ hi).2.2.2.2.2 h0).2
    rw [mX7_strokeAt_L47, D.1, if_neg (nI_ge (by omega) (by omega))]
    rcases sa_i I M hi h0 (show q < 100 by omega) (D.2 q (by omega)).1 x y (mX7_strokeAt_L47 f) (a 7 (fn q)) fu 0 x4 (by omega) (by rw [fu_eq]; omega) with ⟨j1, j2⟩ | ⟨j1, j2⟩
    · obtain ⟨r, e1, e2⟩ := ih f (q + 1) (nI q) (by omega) (by omega)
      refine ⟨r, by rw [show (mX7_strokeAt_L59 (mX7_strokeAt_L47 f) fu x y x4 (nI q) 0 τ) = _ from j2, e1], Or.inl ?_⟩
      rcases e2 with ⟨q', h1, h2, h3, h4, h5⟩ | ⟨h1, h2⟩
      · exact ⟨q', by omega, h2, h3, h4, h5⟩
      · exact ⟨q, Nat.le_refl _, by omega, j1, h2, fun p p1 p2 => h1 p (by omega) p2⟩
    · obtain ⟨r, e1, e2⟩ := ih f (q + 1) x4 (by omega) (by omega)
      refine ⟨r, by rw [show (mX7_strokeAt_L59 (mX7_strokeAt_L47 f) fu x y x4 (nI q) 0 τ) = _ from j2, e1], ?_⟩
      rcases e2 with ⟨q', h1, h2, h3, h4, h5⟩ | ⟨h1, h2⟩
      · exact Or.inl ⟨q', by omega, h2, h3, h4, h5⟩
      · refine Or.inr ⟨fun p p1 p2 => ?_, h2⟩
        by_cases e : p = q
        · rw [e]; exact j1
        · exact h1 p (by omega) p2
theorem sc_L {a : Ab} {v σ : St} (I : Inv a v) (C : RepC a v σ) {K : Nat → Bool} {c : Nat} {fn : Nat → Nat} (hc : c ≤ 100) (B : hsB a K 0 c fn σ) (hm : ∀ p, p < c → mk a (fn p) ∧ a 4 (fn p) = 0) (x y : Int32) : ∀ (q f : Nat), q ≤ c → q < f → ∃ r, mX6_strokeAt_L62 f x y (nI q + (-1)) σ = some (r, σ) ∧ ((∃ q', q' < q ∧ hpt a v x y (fn q') 0 ∧ r = nI q' ∧ ∀ p, q' < p → p < q → ¬ hpt a v x y (fn p) 0) ∨ ((∀ p, p < q → ¬ hpt a v x y (fn p) 0) ∧ r = -1000000004)) := by
  intro q
  induction q with
  | zero =>
    intro f h hf
    obtain ⟨f, rfl⟩ : ∃ g, f = g + 1 := ⟨f - 1, by omega⟩
    rw [mX6_strokeAt_L62, if_pos (by decide)]
    exact ⟨_, rfl, Or.inr ⟨fun p h2 => by omega, rfl⟩⟩
  | succ q ih =>
    intro f h hf
    obtain ⟨f, rfl⟩ : ∃ g, f = g + 1 := ⟨f - 1, by omega⟩
    obtain ⟨hi, h0⟩ := hm q (by omega)
    have p8 := ((I.2.2.2.1 _ hi).2.2.2.2.2 h0).2
    obtain ⟨b, e1, e2⟩ := hp_L I C hi h0 x y (a 7 (fn q)) fu 0 (by omega) (by rw [fu_eq]; omega)
    have e1' : mX1_hasPoint 0 (nI (fn q)) x y σ = some (bI b, σ) := e1
    rw [pk_m1, mX6_strokeAt_L62, if_neg (nI_pos (by omega))]
    unfold mX0_strokeIn
    rw [q_get σ (show q < rl (22 + 3 * 0) by show q < 100; omega), bnd_s, bnd_s, show σ (22 + 3 * 0) q = nI (fn q) from B.2.1 q (by omega), e1', bnd_s]
    cases b with
    | true =>
      rw [bI_t, if_neg (by decide)]
      exact ⟨nI q, rfl, Or.inl ⟨q, by omega, e2.mp rfl, rfl, fun p p1 p2 => by omega⟩⟩
    | false =>
      rw [bI_f, if_pos rfl]
      have hno : ¬ hpt a v x y (fn q) 0 := fun z => Bool.false_ne_true (e2.mpr z)
      obtain ⟨r, g1, g2⟩ := ih f (by omega) (by omega)
      refine ⟨r, g1, ?_⟩
      rcases g2 with ⟨q', h1, h2, h3, h4⟩ | ⟨h1, h2⟩
      · refine Or.inl ⟨q', by omega, h2, h3, fun p p1 p2 => ?_⟩
        by_cases e : p = q
        · rw [e]; exact hno
        · exact h4 p p1 (by omega)
      · refine Or.inr ⟨fun p p2 => ?_, h2⟩
        by_cases e : p = q
        · rw [e]; exact hno
        · exact h1 p (by omega)
theorem op_strokeAt {σ τ : St} (R : Rel σ τ) (x y z : Int32) : Same (mX6_strokeAt x y z σ) (mX7_strokeAt x y z τ) := by
  obtain ⟨a, v, I, C, M⟩ := id R
  have h5 := I.1.2
  unfold mX6_strokeAt mX7_strokeAt
  refine Same_site I C M (fun s hs ex => ?_)
  refine Same_in R (fun _ _ => ?_)
  refine Same_in R (fun _ _ => ?_)
  subst ex
  obtain ⟨σ', τ', c, fn, e1, e2, e3, e4, e5, e6, e7, e8⟩ := boards I C M (show s < 5 by omega)
  have C' := RepC_ag C (agC_of (by omega) e3)
  have M' := RepM_ag M (agN_of e4)
  unfold mX0_strokeCount
  rw [e1, bnv_s, bnd_s, e2, bnv_s, show σ' (29 + 0) 0 = nI c from e5.1, show nI c - (1 : Int32) = nI c + (-1) from Int32.sub_eq_add_neg _ _]
  obtain ⟨r, g1, g2⟩ := sc_L I C' e7 e5 e8 y z c fu (Nat.le_refl _) (by rw [fu_eq]; omega)
  obtain ⟨r', j1, j2⟩ := sa_L I M' e7 e6 e8 y z c fu 0 (-1000000004) (by omega) (by rw [fu_eq]; omega)
  rw [g1, show (mX7_strokeAt_L47 fu y z (-1000000004) 0 τ') = _ from j1]
  refine Same_e ?_ ⟨a, v, I, C', M'⟩
  rcases g2 with ⟨q, k1, k2, k3, k4⟩ | ⟨k1, k2⟩
  · rcases j2 with ⟨p, p0, p1, p2, p3, p4⟩ | ⟨p1, p2⟩
    · rcases Nat.lt_trichotomy p q with w | w | w
      · exact absurd k2 (p4 q w k1)
      · rw [k3, p3, w]
      · exact absurd p2 (k4 p w p1)
    · exact absurd k2 (p1 q (Nat.zero_le _) k1)
  · rcases j2 with ⟨p, p0, p1, p2, p3, p4⟩ | ⟨p1, p2⟩
    · exact absurd p2 (k1 p p1)
    · rw [k2, p2]
