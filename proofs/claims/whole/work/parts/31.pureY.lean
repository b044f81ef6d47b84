/-! stroke. -/
theorem str_1 {σ τ : St} {a : Ab} {v : St} (I : Inv a v) (C : RepC a v σ) (M : RepM a v τ) {s j w : Nat} (hs : s < 5) (hj : j < 2 ^ 31) (hw : w ≤ 4) : Same (mX6_stroke_b39 (nI s) (nI j) (nI w) 0 σ) (mX7_stroke_b35 (nI s) (nI j) (nI w) τ) := by
  obtain ⟨σ', τ', c, fn, e1, e2, e3, e4, e5, e6, e7, e8⟩ := boards I C M hs
  have C' := RepC_ag C (agC_of (by omega) e3)
  have M' := RepM_ag M (agN_of e4)
  have R' : Rel σ' τ' := ⟨a, v, I, C', M'⟩
  unfold mX6_stroke_b39 mX7_stroke_b35 mX0_strokeCount mX0_strokeIn
  rw [e1, bnv_s, bnd_s, e2, bnv_s, e6.1, show σ' (29 + 0) 0 = nI c from e5.1]
  by_cases hc : j < c
  · obtain ⟨hi, h0⟩ := e8 j hc
    have hi1 := hi.1
    obtain ⟨c6, c7, c8⟩ := (C'.2.2.2.1 _ hi).2.2.2.2 h0
    obtain ⟨n4, n2, n8⟩ := (M'.2.2.2.1 _ hi).2.2.2.2 h0
    have ly := e5.2.2.2 _ hi h0
    obtain ⟨t1, t2⟩ := e6.2 j hc
    have hx : ∀ {β : Type} (y : Option β), ix (nI j) 100 y = y := fun y => ix_n (by omega) (by decide)
    have lt : nI j < nI c := nI_lt hc (by omega)
    rw [if_pos lt, if_pos lt, q_get σ' (show j < rl (22 + 3 * 0) by show j < 100; omega), bnd_s, bnd_s, show σ' (22 + 3 * 0) j = nI (fn j) from e5.2.1 j hc, if_pos rfl, hx, nI_clamp hj, t1, t2]
    unfold mX6_strokeValue mX0_layerOf
    rcases (show w = 0 ∨ w = 1 ∨ w = 2 ∨ w = 3 ∨ w = 4 by omega) with rfl | rfl | rfl | rfl | rfl
    · rw [if_pos (by decide), if_pos (by decide), q_authorOf _ hi1, bnd_s, bnd_s, il 20, pk_div (by omega) (by omega) (by omega)]
      exact Same_r R'
    · rw [if_neg (by decide), if_pos (by decide), if_neg (by decide), if_pos (by decide), q_numberOf _ hi1, bnd_s, bnd_s, il 20, pk_rem (by omega) (by omega) (by omega), nI_1]
      exact Same_r R'
    · rw [if_neg (by decide), if_neg (by decide), if_pos (by decide), if_neg (by decide), if_neg (by decide), if_pos (by decide), q_get σ' (show fn j < rl (21 + 3 * 0) from hi1), bnd_s, bnd_s, bnd_s, show σ' (21 + 3 * 0) (fn j) = _ from ly, hx]
      exact Same_r R'
    · rw [if_neg (by decide), if_neg (by decide), if_neg (by decide), if_pos (by decide), if_neg (by decide), if_neg (by decide), if_neg (by decide), if_pos (by decide), q_col (t := 0) (by omega) (show fn j < ns 0 from hi1), bnd_s, bnd_s, show (mX7_of (nI (fn j)) 2 τ') = _ from m_of (j := 2) τ' (by omega), bnd_s, n2, show σ' (7 + 5 * 0) (fn j) = _ from c7]
      exact Same_r R'
    · rw [if_neg (by decide), if_neg (by decide), if_neg (by decide), if_neg (by decide), if_neg (by decide), if_neg (by decide), if_neg (by decide), if_neg (by decide), if_pos (by decide), q_pc (t := 0) (by omega) (show fn j < ns 0 from hi1), bnd_s, bnd_s, show (mX7_of (nI (fn j)) 4 τ') = _ from m_of (j := 4) τ' (by omega), bnd_s, n4, show σ' (6 + 5 * 0) (fn j) = _ from c6]
      exact Same_r R'
  · have lt : ¬ nI j < nI c := nI_nlt (by omega) (by omega)
    rw [if_neg lt, if_neg lt]
    exact Same_r R'
theorem str_2 {σ τ : St} {a : Ab} {v : St} (I : Inv a v) (C : RepC a v σ) (M : RepM a v τ) {s j w : Nat} (hs : s < 5) (hj : j < 2 ^ 31) (hw1 : 10 ≤ w) (hw : w ≤ 25) : Same (mX6_stroke_b39 (nI s) (nI j) (nI w) 1 σ) (mX7_stroke_b35 (nI s) (nI j) (nI w) τ) := by
  obtain ⟨σ', τ', c, fn, e1, e2, e3, e4, e5, e6, e7, e8⟩ := boards I C M hs
  have C' := RepC_ag C (agC_of (by omega) e3)
  have M' := RepM_ag M (agN_of e4)
  have R' : Rel σ' τ' := ⟨a, v, I, C', M'⟩
  unfold mX6_stroke_b39 mX7_stroke_b35 mX0_strokeCount mX0_strokeIn
  rw [e1, bnv_s, bnd_s, e2, bnv_s, e6.1, show σ' (29 + 0) 0 = nI c from e5.1]
  by_cases hc : j < c
  · obtain ⟨hi, h0⟩ := e8 j hc
    have hi1 := hi.1
    obtain ⟨c6, c7, c8⟩ := (C'.2.2.2.1 _ hi).2.2.2.2 h0
    obtain ⟨n4, n2, n8⟩ := (M'.2.2.2.1 _ hi).2.2.2.2 h0
    have p8 := ((I.2.2.2.1 _ hi).2.2.2.2.2 h0).2
    obtain ⟨t1, t2⟩ := e6.2 j hc
    have hx : ∀ {β : Type} (y : Option β), ix (nI j) 100 y = y := fun y => ix_n (by omega) (by decide)
    have lt : nI j < nI c := nI_lt hc (by omega)
    have ne : ∀ b, b < 10 → ¬ nI w = nI b := fun b hb q => by have := (nI_eq (by omega) (by omega)).mp q; omega
    have hn : fn j < ns 0 := hi1
    rw [if_pos lt, if_pos lt, q_get σ' (show j < rl (22 + 3 * 0) by show j < 100; omega), bnd_s, bnd_s, show σ' (22 + 3 * 0) j = nI (fn j) from e5.2.1 j hc, if_neg (by decide), hx, nI_clamp hj, t1, if_neg (show ¬ nI w = (0 : Int32) from ne 0 (by omega)), if_neg (show ¬ nI w = (1 : Int32) from ne 1 (by omega)), if_neg (show ¬ nI w = (2 : Int32) from ne 2 (by omega)), if_neg (show ¬ nI w = (3 : Int32) from ne 3 (by omega)), if_neg (show ¬ nI w = (4 : Int32) from ne 4 (by omega)), show (mX7_of (nI (fn j)) 4 τ') = _ from m_of (j := 4) τ' (by omega), bnd_s, n4]
    unfold mX6_coordinate
    rw [q_pc (t := 0) (by omega) hn, bnd_s, show σ' (6 + 5 * 0) (fn j) = _ from c6, il 10, pk_sub (by omega), il 2, pk_mul, pk_rem (by omega) (by omega) (by omega), pk_div (by omega) (by omega) (by omega)]
    by_cases hk : (w - 10) / 2 < a 7 (fn j)
    · rw [if_pos (nI_lt hk (by omega)), if_neg (nI_ge (by omega) (by omega)), il 5, nI_add, pk_sub (by omega), m_of τ' (by omega), bnd_s]
      obtain ⟨x1, y1⟩ := c8 _ hk
      obtain ⟨u1, w1⟩ := n8 _ hk
      by_cases he : (w - 10) % 2 = 0
      · rw [he, if_pos (show nI 0 = (0 : Int32) from rfl), q_x (t := 0) (by omega) hn (by omega), bnd_s, bnd_s, show σ' (9 + 5 * 0) (8 * fn j + (w - 10) / 2) = _ from x1, show 21 * fn j + (5 + w - 10) = 21 * fn j + 5 + 2 * ((w - 10) / 2) by omega, u1]
        exact Same_r R'
      · rw [if_neg (nz0 (by omega) he), q_y (t := 0) (by omega) hn (by omega), bnd_s, bnd_s, show σ' (10 + 5 * 0) (8 * fn j + (w - 10) / 2) = _ from y1, show 21 * fn j + (5 + w - 10) = 21 * fn j + 6 + 2 * ((w - 10) / 2) by omega, w1]
        exact Same_r R'
    · rw [if_neg (nI_nlt (by omega) (by omega)), if_pos (nI_le (by omega) (by omega)), bnd_s]
      exact Same_r R'
  · have lt : ¬ nI j < nI c := nI_nlt (by omega) (by omega)
    rw [if_neg lt, if_neg lt]
    exact Same_r R'
theorem op_stroke {σ τ : St} (R : Rel σ τ) (x y z : Int32) : Same (mX6_stroke x y z σ) (mX7_stroke x y z τ) := by
  obtain ⟨a, v, I, C, M⟩ := id R
  have h5 := I.1.2
  unfold mX6_stroke mX7_stroke
  rw [q_within, bnd_s]
  refine Same_site I C M (fun s hs ex => ?_)
  subst ex
  by_cases hy : y < 0
  · rw [if_pos hy, if_pos hy]; exact Same_r R
  rw [if_neg hy, if_neg hy]
  obtain ⟨j, hj, rfl⟩ := nI_of hy
  rw [q_in, bnd_s]
  simp only [if_b0]
  by_cases hz : (10 : Int32) ≤ z ∧ z ≤ 25
  · obtain ⟨w, w1, w2, rfl⟩ := iv (lo := 10) (hi := 25) hz.1 hz.2 (by omega) (by omega)
    have hn : ¬ ((0 : Int32) ≤ nI w ∧ nI w ≤ 4) := fun q => nI_ge (a := 4) (b := w) (by omega) (by omega) q.2
    rw [if_pos hz, if_neg hn, q_in, bnd_s]
    simp only [if_b0]
    rw [if_pos hz, decide_eq_true hz]
    exact str_2 I C M (by omega) hj w1 w2
  · rw [if_neg hz, q_within, bnd_s]
    simp only [if_b0]
    by_cases hz2 : (0 : Int32) ≤ z ∧ z ≤ 4
    · obtain ⟨w, w1, w2, rfl⟩ := iv (lo := 0) (hi := 4) hz2.1 hz2.2 (by omega) (by omega)
      rw [if_pos hz2, if_pos hz2, decide_eq_false hz]
      exact str_1 I C M (by omega) hj w2
    · rw [if_neg hz2, if_neg hz2, q_in, bnd_s]
      simp only [if_b0]
      rw [if_neg hz]
      exact Same_r R
