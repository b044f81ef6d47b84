/-! digest. -/
theorem hpt_L {a : Ab} {v σ τ : St} (I : Inv a v) (C : RepC a v σ) (M : RepM a v τ) {i q : Nat} (hi : mk a i) (h0 : a 4 i = 0) (k20 : Int32 → Int32 → St → Option (Int32 × St)) : ∀ (d f f' k : Nat) (z : Int32), k + d = a 7 i → d < f → 2 * d < f' → ∃ r, mX0_hashPoints_L6 0 0 f (nI i) z (nI k) σ = some (r, σ) ∧ mX7_digest_L88 k20 f' z (nI q) (nI i) (nI (2 * k)) τ = k20 r (nI q + 1) τ := by
  have hi1 := hi.1
  obtain ⟨a1, a2, a3, a4, a5, a6⟩ := I.2.2.2.1 i hi
  obtain ⟨b1, b2, b3, b4, b5⟩ := C.2.2.2.1 i hi
  obtain ⟨d1, d2, d3, d4, d5⟩ := M.2.2.2.1 i hi
  obtain ⟨c6, c7, c8⟩ := b5 h0
  obtain ⟨n4, n2, n8⟩ := d5 h0
  have p8 := (a6 h0).2
  have hn : i < ns 0 := hi1
  have e4 : mX7_of (nI i) 4 τ = some (nI (a 7 i), τ) := by
    rw [show (mX7_of (nI i) 4 τ) = _ from m_of (j := 4) τ (by omega), n4]
  intro d
  induction d with
  | zero =>
    intro f f' k z hd hf hf'
    obtain ⟨f, rfl⟩ : ∃ g, f = g + 1 := ⟨f - 1, by omega⟩
    obtain ⟨f', rfl⟩ : ∃ g, f' = g + 1 := ⟨f' - 1, by omega⟩
    rw [mX0_hashPoints_L6, mX7_digest_L88, q_pc (t := 0) (by omega) hn, bnd_s, e4, bnd_s, show σ (6 + 5 * 0) i = nI (a 7 i) from c6, if_pos (nI_le (by omega) (by omega)), il 2, pk_mul, if_pos (nI_le (by omega) (by omega))]
    exact ⟨z, rfl, rfl⟩
  | succ d ih =>
    intro f f' k z hd hf hf'
    obtain ⟨f, rfl⟩ : ∃ g, f = g + 1 := ⟨f - 1, by omega⟩
    obtain ⟨f', rfl⟩ : ∃ g, f' = g + 1 + 1 := ⟨f' - 2, by omega⟩
    obtain ⟨x1, y1⟩ := c8 k (by omega)
    obtain ⟨u1, w1⟩ := n8 k (by omega)
    rw [mX0_hashPoints_L6, mX7_digest_L88, q_pc (t := 0) (by omega) hn, bnd_s, e4, bnd_s, show σ (6 + 5 * 0) i = nI (a 7 i) from c6, if_neg (nI_ge (by omega) (by omega)), il 2, pk_mul, if_neg (nI_ge (by omega) (by omega)), q_x (t := 0) (by omega) hn (by omega), bnd_s, q_y (t := 0) (by omega) hn (by omega), bnd_s, il 5, nI_add, m_of τ (by omega), bnd_s, show 21 * i + (5 + 2 * k) = 21 * i + 5 + 2 * k by omega, u1, nI_1, nI_1, mX7_digest_L88, e4, bnd_s, il 2, pk_mul, if_neg (nI_ge (by omega) (by omega)), il 5, nI_add, m_of τ (by omega), bnd_s, show 21 * i + (5 + (2 * k + 1)) = 21 * i + 6 + 2 * k by omega, w1, nI_1, show σ (9 + 5 * 0) (8 * i + k) = _ from x1, show σ (10 + 5 * 0) (8 * i + k) = _ from y1]
    obtain ⟨r, e1, e2⟩ := ih f f' (k + 1) (31 * (31 * z + v 1 (8 * i + k)) + v 2 (8 * i + k)) (by omega) (by omega) (by omega)
    exact ⟨r, e1, by rw [← e2, show 2 * (k + 1) = 2 * k + 1 + 1 by omega]⟩
theorem hash_L {a : Ab} {v σ τ : St} (I : Inv a v) (C : RepC a v σ) (M : RepM a v τ) {K : Nat → Bool} {c : Nat} {fn : Nat → Nat} (hc : c ≤ 100) (B : hsB a K 0 c fn σ) (D : hsM a K c fn τ) (hm : ∀ p, p < c → mk a (fn p) ∧ a 4 (fn p) = 0) : ∀ (d f q : Nat) (z : Int32), q + d = c → d < f → ∃ r, mX0_hash_L5 0 f z (nI q) σ = some (r, σ) ∧ mX7_digest_L20 f z (nI q) τ = some (r, τ) := by
  intro d
  induction d with
  | zero =>
    intro f q z hd hf
    obtain ⟨f, rfl⟩ : ∃ g, f = g + 1 := ⟨f - 1, by omega⟩
    rw [mX0_hash_L5, mX7_digest_L20, B.1, D.1, if_pos (nI_le (by omega) (by omega)), if_pos (nI_le (by omega) (by omega))]
    exact ⟨z, rfl, rfl⟩
  | succ d ih =>
    intro f q z hd hf
    obtain ⟨f, rfl⟩ : ∃ g, f = g + 1 := ⟨f - 1, by omega⟩
    obtain ⟨hi, h0⟩ := hm q (by omega)
    have hi1 := hi.1
    have p8 := ((I.2.2.2.1 _ hi).2.2.2.2.2 h0).2
    obtain ⟨g1, g2⟩ := D.2 q (by omega)
    have h1 := B.2.1 q (by omega)
    have h2 := B.2.2.2 (fn q) hi h0
    have c7 := (((C.2.2.2.1 _ hi).2.2.2.2) h0).2.1
    have n2 := (((M.2.2.2.1 _ hi).2.2.2.2) h0).2.1
    rw [mX0_hash_L5, mX7_digest_L20, B.1, D.1, if_neg (nI_ge (by omega) (by omega)), if_neg (nI_ge (by omega) (by omega)), q_get σ (show q < rl (22 + 3 * 0) by show q < 100; omega), bnd_s, h1, q_authorOf σ hi1, bnd_s, q_numberOf σ hi1, bnd_s, q_get σ (show fn q < rl (21 + 3 * 0) from hi1), bnd_s, h2, lti_s, q_col (t := 0) (by omega) (show fn q < ns 0 from hi1), bnd_s, show σ (7 + 5 * 0) (fn q) = _ from c7, ix_n (show q < 100 by omega) (by decide), nI_clamp (show q < 2 ^ 31 by omega), g1, g2]
    simp only [lti_s]
    rw [ix_n (show q < 100 by omega) (by decide), il 20, pk_rem (by omega) (by omega) (by omega), pk_div (by omega) (by omega) (by omega), show (mX7_of (nI (fn q)) 2 τ) = _ from m_of (j := 2) τ (by omega), bnd_s, n2, Int32.add_assoc (31 * (31 * z + nI (fn q / 20))), nI_1 (fn q % 20)]
    obtain ⟨r, e1, e2⟩ := hpt_L (q := q) I C M hi h0 (mX7_digest_L20 f) (a 7 (fn q)) fu fu 0 (31 * (31 * (31 * (31 * z + nI (fn q / 20)) + nI (fn q % 20 + 1)) + nI (lyK a K (fn q))) + v 0 (fn q)) (by omega) (by rw [fu_eq]; omega) (by rw [fu_eq]; omega)
    obtain ⟨r', j1, j2⟩ := ih f (q + 1) r (by omega) (by omega)
    refine ⟨r', ?_, ?_⟩
    · unfold mX0_hashPoints
      rw [show (mX0_hashPoints_L6 0 0 fu (nI (fn q)) (31 * (31 * (31 * (31 * z + nI (fn q / 20)) + nI (fn q % 20 + 1)) + nI (lyK a K (fn q))) + v 0 (fn q)) 0 σ) = _ from e1, bnd_s, nI_1]
      exact j1
    · rw [show (mX7_digest_L88 (mX7_digest_L20 f) fu (31 * (31 * (31 * (31 * z + nI (fn q / 20)) + nI (fn q % 20 + 1)) + nI (lyK a K (fn q))) + v 0 (fn q)) (nI q) (nI (fn q)) 0 τ) = _ from e2, nI_1]
      exact j2
theorem op_digest {σ τ : St} (R : Rel σ τ) (x : Int32) : Same (mX6_digest x σ) (mX7_digest x τ) := by
  obtain ⟨a, v, I, C, M⟩ := id R
  have h5 := I.1.2
  unfold mX6_digest mX7_digest
  refine Same_site I C M (fun s hs ex => ?_)
  subst ex
  obtain ⟨σ', τ', c, fn, e1, e2, e3, e4, e5, e6, e7, e8⟩ := boards I C M (show s < 5 by omega)
  have C' := RepC_ag C (agC_of (by omega) e3)
  have M' := RepM_ag M (agN_of e4)
  obtain ⟨r, g1, g2⟩ := hash_L I C' M' e7 e5 e6 e8 c fu 0 17 (by omega) (by rw [fu_eq]; omega)
  unfold mX0_hash
  rw [e1, bnv_s, e2, bnv_s, show (mX0_hash_L5 0 fu 17 0 σ') = _ from g1, bnd_s, show (mX7_digest_L20 fu 17 0 τ') = _ from g2]
  exact Same_r ⟨a, v, I, C', M'⟩
