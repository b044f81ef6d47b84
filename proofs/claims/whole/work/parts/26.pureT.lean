/-! Sizes: operation, transfer. -/
theorem size_L {a : Ab} {v σ τ : St} (I : Inv a v) (C : RepC a v σ) (M : RepM a v τ) {i : Nat} (hi : mk a i) (h0 : a 4 i = 0) : ∀ (d f k : Nat) (x : Int32), k + d = a 7 i → 1 ≤ k → d < f → ∃ r, mX1_sizeOf_L4 0 f (nI i) x (nI k) σ = some (r, σ) ∧ mX7_sizeOf_L29 f (nI i) x (nI k) τ = some (r, τ) := by
  have hi1 := hi.1
  obtain ⟨a1, a2, a3, a4, a5, a6⟩ := I.2.2.2.1 i hi
  obtain ⟨b1, b2, b3, b4, b5⟩ := C.2.2.2.1 i hi
  obtain ⟨d1, d2, d3, d4, d5⟩ := M.2.2.2.1 i hi
  obtain ⟨c6, c7, c8⟩ := b5 h0
  obtain ⟨n4, n2, n8⟩ := d5 h0
  have p8 := (a6 h0).2
  have hn : i < ns 0 := hi1
  intro d
  induction d with
  | zero =>
    intro f k x hd hk hf
    obtain ⟨f, rfl⟩ : ∃ g, f = g + 1 := ⟨f - 1, by omega⟩
    rw [mX1_sizeOf_L4, mX7_sizeOf_L29, q_get σ (show i < rl (6 + 5 * 0) from hi1), bnd_s, il 4, m_of τ (by omega), bnd_s, show σ (6 + 5 * 0) i = nI (a 7 i) from c6, n4, if_pos (nI_le (by omega) (by omega)), if_pos (nI_le (by omega) (by omega))]
    exact ⟨x, rfl, rfl⟩
  | succ d ih =>
    intro f k x hd hk hf
    obtain ⟨f, rfl⟩ : ∃ g, f = g + 1 := ⟨f - 1, by omega⟩
    obtain ⟨k', rfl⟩ : ∃ g, k = g + 1 := ⟨k - 1, by omega⟩
    obtain ⟨x1, y1⟩ := c8 (k' + 1) (by omega)
    obtain ⟨x2, y2⟩ := c8 k' (by omega)
    obtain ⟨u1, w1⟩ := n8 (k' + 1) (by omega)
    obtain ⟨u2, w2⟩ := n8 k' (by omega)
    have E1 : (5 : Int32) + 2 * nI (k' + 1) = nI (5 + 2 * (k' + 1)) := by rw [il 2, pk_mul, il 5, nI_add]
    have E2 : nI (5 + 2 * (k' + 1)) - (2 : Int32) = nI (5 + 2 * k') := by rw [il 2, pk_sub (by omega)]; congr 1
    have E3 : nI (5 + 2 * (k' + 1)) - (1 : Int32) = nI (6 + 2 * k') := by rw [il 1, pk_sub (by omega)]; congr 1; omega
    have E4 : nI (5 + 2 * (k' + 1)) + (1 : Int32) = nI (6 + 2 * (k' + 1)) := by rw [nI_1]; congr 1; omega
    have hg : ¬ nI (a 7 i) ≤ nI (k' + 1) := nI_ge (by omega) (by omega)
    rw [mX1_sizeOf_L4, mX7_sizeOf_L29, q_get σ (show i < rl (6 + 5 * 0) from hi1), bnd_s, show (mX7_of (nI i) 4 τ) = _ from m_of (j := 4) τ (by omega), bnd_s, show σ (6 + 5 * 0) i = nI (a 7 i) from c6, n4, if_neg hg, if_neg hg, E1, E2, E3, E4, m_of τ (by omega), bnd_s, m_of τ (by omega), bnd_s, m_of τ (by omega), bnd_s, m_of τ (by omega), bnd_s, nI_pred, q_x (by omega) hn (by omega), bnd_s, q_x (by omega) hn (by omega), bnd_s]
    rw [show 21 * i + (5 + 2 * (k' + 1)) = 21 * i + 5 + 2 * (k' + 1) by omega, show 21 * i + (5 + 2 * k') = 21 * i + 5 + 2 * k' by omega, show 21 * i + (6 + 2 * (k' + 1)) = 21 * i + 6 + 2 * (k' + 1) by omega, show 21 * i + (6 + 2 * k') = 21 * i + 6 + 2 * k' by omega, u1, u2, w1, w2, show σ (9 + 5 * 0) (8 * i + (k' + 1)) = _ from x1, show σ (9 + 5 * 0) (8 * i + k') = _ from x2, q_within, q_in, bnd_s, bnd_s]
    simp only [if_b0]
    unfold mX1_sizeOf_b68 mX1_sizeOf_b69
    rw [nI_1]
    by_cases c1 : (-4 : Int32) ≤ v 1 (8 * i + (k' + 1)) - v 1 (8 * i + k') ∧ v 1 (8 * i + (k' + 1)) - v 1 (8 * i + k') ≤ 3
    · rw [if_pos c1, if_pos c1, q_y (by omega) hn (by omega), bnd_s, q_y (by omega) hn (by omega), bnd_s, show σ (10 + 5 * 0) (8 * i + (k' + 1)) = _ from y1, show σ (10 + 5 * 0) (8 * i + k') = _ from y2, q_within, q_in, bnd_s, bnd_s]
      simp only [if_b0]
      by_cases c2 : (-4 : Int32) ≤ v 2 (8 * i + (k' + 1)) - v 2 (8 * i + k') ∧ v 2 (8 * i + (k' + 1)) - v 2 (8 * i + k') ≤ 3
      · rw [if_pos c2, if_pos c2, if_neg (by decide)]
        exact ih f (k' + 1 + 1) (x + 1) (by omega) (by omega) (by omega)
      · rw [if_neg c2, if_neg c2, if_pos trivial]
        exact ih f (k' + 1 + 1) (x + 2) (by omega) (by omega) (by omega)
    · rw [if_neg c1, if_neg c1, if_pos rfl]
      exact ih f (k' + 1 + 1) (x + 2) (by omega) (by omega) (by omega)
theorem sizes {a : Ab} {v σ τ : St} (I : Inv a v) (C : RepC a v σ) (M : RepM a v τ) {i : Nat} (hi : mk a i) : ∃ r, mX4_sizeOf (nI i) σ = some (r, σ) ∧ mX7_sizeOf (nI i) τ = some (r, τ) := by
  have hi1 := hi.1
  obtain ⟨a1, a2, a3, a4, a5, a6⟩ := I.2.2.2.1 i hi
  have b1 := (C.2.2.2.1 i hi).1
  have d1 := (M.2.2.2.1 i hi).1
  unfold mX4_sizeOf mX7_sizeOf mX1_sizeOf
  rw [q_get σ (show i < rl 1 from hi1), bnd_s, show (mX7_of (nI i) 0 τ) = _ from m_of (j := 0) τ (by omega), bnd_s, show (mX7_of (nI i) 0 τ) = _ from m_of (j := 0) τ (by omega), bnd_s, Nat.add_zero, b1, d1]
  by_cases h0 : a 4 i = 0
  · have p7 := (a6 h0).1
    obtain ⟨r, e1, e2⟩ := size_L I C M hi h0 (a 7 i - 1) fu 1 4 (by omega) (by omega) (by have := (a6 h0).2; rw [fu_eq]; omega)
    rw [show nI 1 = (1 : Int32) from rfl] at e1 e2
    rw [h0, if_pos (show nI 0 = (0 : Int32) from rfl), if_pos (show nI 0 = (0 : Int32) from rfl), e1, e2, bnd_s]
    exact ⟨r, rfl, rfl⟩
  · rw [if_neg (nz0 (by omega) h0), if_neg (nz0 (by omega) h0)]
    by_cases h3 : a 4 i = 3
    · rw [h3, if_pos (show nI 3 = (3 : Int32) from rfl), if_pos (show nI 3 = (3 : Int32) from rfl)]
      exact ⟨4, rfl, rfl⟩
    · have h3' : ¬ nI (a 4 i) = (3 : Int32) := fun q => h3 ((nI_eq (b := 3) (by omega) (by omega)).mp q)
      rw [if_neg h3', if_neg h3']
      exact ⟨3, rfl, rfl⟩
theorem op_operation {σ τ : St} (R : Rel σ τ) (x y z : Int32) : Same (mX6_operation x y z σ) (mX7_operation x y z τ) := by
  obtain ⟨a, v, I, C, M⟩ := id R
  have h5 := I.1.2
  unfold mX6_operation mX7_operation
  refine Same_site I C M (fun s hs ex => ?_)
  subst ex
  have h20 := (I.2.1 s (by omega)).1
  by_cases hy : y < 1
  · rw [if_pos hy, if_pos hy]; exact Same_r R
  rw [if_neg hy, if_neg hy]
  refine Same_in R (fun hz1 hz2 => ?_)
  obtain ⟨z, -, z2, rfl⟩ := iv (lo := 0) (hi := 5) hz1 hz2 (by omega) (by omega)
  rw [q_made σ (by omega), bnd_s, ix_n (show s < 5 by omega) (by decide), nI_clamp (by omega), (C.2.1 s (by omega)).1, (M.2.1 s (by omega)).1]
  by_cases hk : y ≤ nI (a 1 s)
  · have hy1 : nI 1 ≤ y := by
      rw [Int32.lt_iff_toInt_lt] at hy
      rw [Int32.le_iff_toInt_le]
      have : (nI 1).toInt = (1 : Int32).toInt := rfl
      omega
    obtain ⟨k, k1, k2, rfl⟩ := iv (lo := 1) hy1 hk (by omega) (by omega)
    have hm : mk a (20 * s + k - 1) := by
      unfold mk
      rw [show (20 * s + k - 1) / 20 = s by omega]
      omega
    have hm1 := hm.1
    obtain ⟨a1, a2, a3, a4, a5, a6⟩ := I.2.2.2.1 _ hm
    obtain ⟨b1, b2, b3, b4, b5⟩ := C.2.2.2.1 _ hm
    obtain ⟨d1, d2, d3, d4, d5⟩ := M.2.2.2.1 _ hm
    obtain ⟨r, s1, s2⟩ := sizes I C M hm
    rw [if_pos hk, if_pos hk, q_idOf σ k1, bnd_s, m_place τ k1, bnd_s, q_kind σ hm1, bnd_s, bnd_s, q_time σ hm1, bnd_s, s1, bnd_s, q_isStroke σ hm1, bnd_s, q_target σ hm1, bnd_s, bnd_s, q_layer σ hm1, bnd_s, s2, bnd_s, q_pc (t := 0) (by omega) (show 20 * s + k - 1 < ns 0 from hm1), bnd_s]
    rw [show (mX7_of (nI (20 * s + k - 1)) 0 τ) = _ from m_of (j := 0) τ (by omega), show (mX7_of (nI (20 * s + k - 1)) 1 τ) = _ from m_of (j := 1) τ (by omega), show (mX7_of (nI (20 * s + k - 1)) 3 τ) = _ from m_of (j := 3) τ (by omega), show (mX7_of (nI (20 * s + k - 1)) 4 τ) = _ from m_of (j := 4) τ (by omega)]
    simp only [bnd_s]
    rw [show (mX7_of (nI (20 * s + k - 1)) 2 τ) = _ from m_of (j := 2) τ (by omega), bnd_s, show 21 * (20 * s + k - 1) + 0 = 21 * (20 * s + k - 1) from rfl, b1, b2, b3, d1, d2, d3]
    rcases (show z = 0 ∨ z = 1 ∨ z = 2 ∨ z = 3 ∨ z = 4 ∨ z = 5 by omega) with rfl | rfl | rfl | rfl | rfl | rfl
    · rw [if_pos (by decide), if_pos (by decide)]; exact Same_r R
    · rw [if_neg (by decide), if_pos (by decide), if_neg (by decide), if_pos (by decide)]; exact Same_r R
    · rw [if_neg (by decide), if_neg (by decide), if_pos (by decide), if_neg (by decide), if_neg (by decide), if_pos (by decide)]; exact Same_r R
    · simp only [show (nI 3 = (0 : Int32)) = False from eq_false (by decide), show (nI 3 = (1 : Int32)) = False from eq_false (by decide), show (nI 3 = (2 : Int32)) = False from eq_false (by decide), show (nI 3 = (3 : Int32)) = True from eq_true (by decide), if_true, if_false]
      by_cases h0 : a 4 (20 * s + k - 1) = 0
      · rw [decide_eq_true (show nI (a 4 (20 * s + k - 1)) = 0 by rw [h0]; rfl), bI_t, if_neg (by decide), show σ (6 + 5 * 0) (20 * s + k - 1) = _ from (b5 h0).1, (d5 h0).1]
        exact Same_r R
      · rw [decide_eq_false (nz0 (by omega) h0), bI_f, if_pos rfl, b4 h0, q_numberOf σ (a4 h0).1.1, bnd_s, (d4 h0).2]
        exact Same_r R
    · simp only [show (nI 4 = (0 : Int32)) = False from eq_false (by decide), show (nI 4 = (1 : Int32)) = False from eq_false (by decide), show (nI 4 = (2 : Int32)) = False from eq_false (by decide), show (nI 4 = (3 : Int32)) = False from eq_false (by decide), show (nI 4 = (4 : Int32)) = True from eq_true (by decide), if_true, if_false]
      by_cases h3 : a 4 (20 * s + k - 1) = 3
      · rw [h3, if_pos (by decide), if_pos (by decide), b4 (by omega), q_authorOf σ (a4 (by omega)).1.1, bnd_s, (d4 (by omega)).1]
        exact Same_r R
      · have h3' : ¬ nI (a 4 (20 * s + k - 1)) = (3 : Int32) := fun q => h3 ((nI_eq (b := 3) (by omega) (by omega)).mp q)
        rw [if_neg h3', if_neg h3']
        exact Same_r R
    · rw [if_neg (by decide), if_neg (by decide), if_neg (by decide), if_neg (by decide), if_neg (by decide), if_neg (by decide), if_neg (by decide), if_neg (by decide), if_neg (by decide), if_neg (by decide)]
      exact Same_r R
  · rw [if_neg hk, if_neg hk]; exact Same_r R
/-- a clock set forward -/
theorem Inv_clk {a : Ab} {v : St} (I : Inv a v) {t x : Nat} (ht : t < a 0 0) (h1 : a 2 t ≤ x) (h2 : x ≤ tot a) : Inv (upN a 2 t x) v := by
  obtain ⟨i1, i2, i3, i4, i5, i6, i7⟩ := I
  have h5 := i1.2
  have r : ∀ k, k ≠ 2 → upN a 2 t x k = a k := fun k h => upN_row h
  have tt := tot_row (r 1 (by omega))
  refine ⟨?_, fun s hs => ?_, fun s j hs hj => ?_, ?_, ?_, ?_, ?_⟩
  · unfold I_n; rw [r 0 (by omega)]; exact i1
  · obtain ⟨j1, j2, j3, j4, j5⟩ := i2 s hs
    rw [r 1 (by omega), r 0 (by omega), r 10 (by omega), r 11 (by omega), tt, upN_at]
    by_cases e : s = t
    · rw [if_pos ⟨rfl, e⟩]
      exact ⟨j1, j2, j3, h2, fun h => by omega⟩
    · rw [if_neg (fun q => e q.2)]
      exact ⟨j1, j2, j3, j4, j5⟩
  · obtain ⟨j1, j2⟩ := i3 s j hs hj
    unfold mk
    rw [r 1 (by omega), r 0 (by omega), r 5 (by omega), r 3 (by omega), upN_at]
    refine ⟨j1, fun h => ⟨(j2 h).1, (j2 h).2.1, ?_⟩⟩
    have := (j2 h).2.2
    by_cases e : s = t
    · subst e; rw [if_pos ⟨rfl, rfl⟩]; omega
    · rw [if_neg (fun q => e q.2)]; exact this
  · unfold I_o mk; rw [r 1 (by omega), r 3 (by omega), r 4 (by omega), r 5 (by omega), r 6 (by omega), r 7 (by omega), r 8 (by omega), tt]; exact i4
  · unfold Tms mk; rw [r 1 (by omega), r 5 (by omega)]; exact i5
  · unfold Ord mk bf; rw [r 1 (by omega), r 5 (by omega), r 9 (by omega), tt]; exact i6
  · unfold I_l; rw [r 0 (by omega), r 1 (by omega), r 12 (by omega), r 13 (by omega)]; exact i7
theorem RepC_clk {a : Ab} {v σ : St} (C : RepC a v σ) (t x : Nat) : RepC (upN a 2 t x) v (ups σ 26 t (nI x)) := by
  obtain ⟨c1, c2, c3, c4, c5, c6⟩ := C
  have r : ∀ k, k ≠ 2 → upN a 2 t x k = a k := fun k h => upN_row h
  have q : ∀ k, k ≠ 26 → ups σ 26 t (nI x) k = σ k := fun k h => ups_row h
  have tt := tot_row (r 1 (by omega))
  refine ⟨?_, fun s hs => ?_, ?_, ?_, ?_, ?_⟩
  · rw [r 0 (by omega), q 27 (by omega)]; exact c1
  · obtain ⟨j1, j2, j3⟩ := c2 s hs
    rw [r 1 (by omega), r 10 (by omega), r 11 (by omega), q 0 (by omega), q 11 (by omega), q 12 (by omega), q 13 (by omega), q 14 (by omega), q 15 (by omega), ups_at, upN_at]
    refine ⟨j1, ?_, j3⟩
    by_cases e : s = t
    · rw [if_pos ⟨rfl, e⟩, if_pos ⟨rfl, e⟩]
    · rw [if_neg (fun q => e q.2), if_neg (fun q => e q.2)]; exact j2
  · unfold C_k; rw [r 3 (by omega), q 16 (by omega)]; exact c3
  · unfold C_o mk
    rw [r 1 (by omega), r 4 (by omega), r 5 (by omega), r 6 (by omega), r 7 (by omega), q 1 (by omega), q 2 (by omega), q 3 (by omega), q 4 (by omega), q 6 (by omega), q 7 (by omega), q 9 (by omega), q 10 (by omega)]; exact c4
  · unfold C_t; rw [r 9 (by omega), tt, q 28 (by omega), q 5 (by omega)]; exact c5
  · unfold C_l; rw [r 12 (by omega), r 13 (by omega), q 18 (by omega), q 19 (by omega)]; exact c6
theorem RepM_clk {a : Ab} {v τ : St} (M : RepM a v τ) (t x : Nat) : RepM (upN a 2 t x) v (ups τ 2 t (nI x)) := by
  obtain ⟨c1, c2, c3, c4, c6⟩ := M
  have r : ∀ k, k ≠ 2 → upN a 2 t x k = a k := fun k h => upN_row h
  have q : ∀ k, k ≠ 2 → ups τ 2 t (nI x) k = τ k := fun k h => ups_row h
  refine ⟨?_, fun s hs => ?_, ?_, ?_, ?_⟩
  · rw [r 0 (by omega), q 12 (by omega)]; exact c1
  · obtain ⟨j1, j2, j3⟩ := c2 s hs
    rw [r 1 (by omega), r 10 (by omega), r 11 (by omega), q 1 (by omega), q 4 (by omega), ups_at, upN_at]
    refine ⟨j1, ?_, j3⟩
    by_cases e : s = t
    · rw [if_pos ⟨rfl, e⟩, if_pos ⟨rfl, e⟩]
    · rw [if_neg (fun q => e q.2), if_neg (fun q => e q.2)]; exact j2
  · unfold M_k; rw [r 3 (by omega), q 3 (by omega)]; exact c3
  · unfold M_o mk
    rw [r 1 (by omega), r 4 (by omega), r 5 (by omega), r 6 (by omega), r 7 (by omega), q 0 (by omega)]; exact c4
  · unfold M_l; rw [r 12 (by omega), r 13 (by omega), q 6 (by omega), q 5 (by omega)]; exact c6
theorem transfer_L {n s h : Nat} (hn : n ≤ 5) (hs : s < n) (hh : h < n) : ∀ (d f i : Nat) (x : Int32) (a : Ab) (v σ τ : St), i + d = 100 → d < f → Inv a v → RepC a v σ → RepM a v τ → a 0 0 = n → Same (mX6_transfer_L17 f (nI s) (nI h) x (nI i) σ) (mX7_transfer_L17 f (nI s) (nI h) x (nI i) τ) := by
  intro d
  induction d with
  | zero =>
    intro f i x a v σ τ hd hf I C M h0
    obtain ⟨f, rfl⟩ : ∃ g, f = g + 1 := ⟨f - 1, by omega⟩
    have : i = 100 := by omega
    subst this
    have j1 := (I.2.1 s (by omega)).2.2.2.1
    have j2 := (I.2.1 h (by omega)).2.2.2.1
    have j3 := tot_le I.2.1
    rw [mX6_transfer_L17, mX7_transfer_L17, if_pos (by decide), if_pos (by decide)]
    unfold mX6_transfer_b75 mX7_transfer_b66 mX7_transfer_b101
    rw [q_get _ (show s < rl 26 by show s < 5; omega), bnd_s, q_get _ (show h < rl 26 by show h < 5; omega), bnd_s, lti_s, (C.2.1 s (by omega)).2.1, (C.2.1 h (by omega)).2.1]
    rw [ix_n (show h < 5 by omega) (by decide), ix_n (show s < 5 by omega) (by decide), ix_n (show s < 5 by omega) (by decide), ix_n (show s < 5 by omega) (by decide), ix_n (show h < 5 by omega) (by decide), ix_n (show s < 5 by omega) (by decide), nI_clamp (show h < 2 ^ 31 by omega), nI_clamp (show s < 2 ^ 31 by omega), (M.2.1 s (by omega)).2.1, (M.2.1 h (by omega)).2.1, lts_s, lts_s]
    by_cases c : a 2 s < a 2 h
    · rw [if_pos (nI_lt c (by omega)), if_neg (nI_ge c (by omega)), q_set _ _ (show s < rl 26 by show s < 5; omega), bnv_s]
      exact Same_r ⟨_, v, Inv_clk I (by omega) (by omega) (by omega), RepC_clk C s (a 2 h), RepM_clk M s (a 2 h)⟩
    · rw [if_neg (nI_nlt (by omega) (by omega)), if_pos (nI_le (by omega) (by omega)), q_set _ _ (show s < rl 26 by show s < 5; omega), bnv_s]
      exact Same_r ⟨_, v, Inv_clk I (by omega) (Nat.le_refl _) (by omega), RepC_clk C s (a 2 s), RepM_clk M s (a 2 s)⟩
  | succ d ih =>
    intro f i x a v σ τ hd hf I C M h0
    obtain ⟨f, rfl⟩ : ∃ g, f = g + 1 := ⟨f - 1, by omega⟩
    have h1 : ¬ (100 : Int32) ≤ nI i := nI_ge (b := 100) (by omega) (by omega)
    rw [mX6_transfer_L17, mX7_transfer_L17, if_neg h1, if_neg h1, C_has I C (show h < 5 by omega) (by omega), M_knows I M (show h < 5 by omega) (by omega), bnd_s, bnd_s, nI_1]
    by_cases k : knF a h i = true
    · have hm := knF_mk I (show h < 5 by omega) k
      rw [k, bI_t, if_neg (by decide), if_neg (by decide), C_has I C (show s < 5 by omega) (by omega), M_knows I M (show s < 5 by omega) (by omega), bnd_s, bnd_s]
      by_cases c : knF a s i = true
      · rw [c, bI_t, if_neg (by decide), if_neg (by decide)]
        exact ih f (i + 1) x a v σ τ (by omega) (by omega) I C M h0
      · have I1 := Inv_learn I (show s < a 0 0 by omega) hm
        have C1 := RepC_learn C s i
        have M1 := RepM_learn M s i
        have hm1 : mk (learnA a s i) i := by unfold mk at hm ⊢; rw [learnA_row (by omega) (by omega)]; exact hm
        obtain ⟨r, e1, e2⟩ := sizes I1 C1 M1 hm1
        rw [Bool.eq_false_iff.mpr c, bI_f, if_pos rfl, if_pos rfl, C_learn I C (by omega) hm, M_learn I M (by omega) hm, bnv_s, bnv_s, e1, e2, bnd_s, bnd_s]
        exact ih f (i + 1) (x + r) _ v _ _ (by omega) (by omega) I1 C1 M1 (by rw [learnA_row (by omega) (by omega)]; exact h0)
    · rw [Bool.eq_false_iff.mpr k, bI_f, if_pos rfl, if_pos rfl]
      exact ih f (i + 1) x a v σ τ (by omega) (by omega) I C M h0
theorem op_transfer {σ τ : St} (R : Rel σ τ) (x y : Int32) : Same (mX6_transfer x y σ) (mX7_transfer x y τ) := by
  obtain ⟨a, v, I, C, M⟩ := id R
  have h5 := I.1.2
  unfold mX6_transfer mX7_transfer
  refine Same_pair I C M (fun s t hs ht hst ex ey => ?_)
  subst ex; subst ey
  exact transfer_L h5 hs ht 100 fu 0 0 a v σ τ (by omega) (by rw [fu_eq]; omega) I C M rfl
