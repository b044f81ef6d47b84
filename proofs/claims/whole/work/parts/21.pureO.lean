/-! penMove, join, reset. -/
theorem op_penMove {σ τ : St} (R : Rel σ τ) (x dx dy : Int32) : Same (mX6_penMove x dx dy σ) (mX7_penMove x dx dy τ) := by
  obtain ⟨a, v, I, C, M⟩ := id R
  have h5 := I.1.2
  unfold mX6_penMove mX7_penMove
  refine Same_site I C M (fun s hs ex => ?_)
  refine Same_in R (fun _ _ => ?_)
  refine Same_in R (fun _ _ => ?_)
  subst ex
  have hs5 : s < 5 := by omega
  have hn1 : s < ns 1 := hs5
  obtain ⟨h20, h8, hpl, hck, -⟩ := I.2.1 s hs5
  obtain ⟨c1, c2, c3, c4, c5⟩ := C.2.1 s hs5
  obtain ⟨m1, m2, m3, m4, m5⟩ := M.2.1 s hs5
  rw [q_pc (by omega) hn1, bnd_s, show σ (6 + 5 * 1) s = nI (a 10 s) from c3, il 19, pk_mul, ix_n (show 19 * s < 95 by omega) (by decide), nI_clamp (by omega), m3]
  by_cases hz : a 10 s = 0
  · rw [hz, if_pos (show nI 0 = (0 : Int32) from rfl), if_pos (show nI 0 = (0 : Int32) from rfl)]
    exact Same_r R
  rw [if_neg (nz0 (by omega) hz), if_neg (nz0 (by omega) hz)]
  by_cases h8e : a 10 s = 8
  · rw [h8e, if_neg (by decide), if_pos (by decide)]
    exact Same_r R
  obtain ⟨n, hn⟩ : ∃ n, a 10 s = n + 1 := ⟨a 10 s - 1, by omega⟩
  rw [if_pos (show nI (a 10 s) < (8 : Int32) from nI_lt (b := 8) (by omega) (by omega)), if_neg (show ¬ nI (a 10 s) = (8 : Int32) from fun q => h8e ((nI_eq (b := 8) (by omega) (by omega)).mp q))]
  rw [hn, nI_pred, q_x (by omega) hn1 (by omega), bnd_s, q_y (by omega) hn1 (by omega), bnd_s, q_add (t := 1) (n := n + 1) (by omega) hn1 (by omega) _ _ (by rw [show 6 + 5 * 1 = 11 from rfl, c3, hn]), bnv_s, q_pc (by omega) hn1, bnd_s]
  simp only [lts_s, lti_s]
  obtain ⟨k1, k2⟩ := c5 n (by omega)
  obtain ⟨w1, w2⟩ := m5 n (by omega)
  rw [il 2, pk_mul, il 1, nI_add, nI_add, ix_n (show 19 * s + 1 + 2 * (n + 1) < 95 by omega) (by decide), il 3, nI_add, nI_add, ix_n (show 19 * s + 3 + 2 * (n + 1) < 95 by omega) (by decide), nI_add, nI_add, ix_n (show 19 * s + 2 + 2 * (n + 1) < 95 by omega) (by decide), il 4, nI_add, nI_add, ix_n (show 19 * s + 4 + 2 * (n + 1) < 95 by omega) (by decide), ix_n (show 19 * s < 95 by omega) (by decide), ix_n (show 19 * s < 95 by omega) (by decide), nI_clamp (show 19 * s + 1 + 2 * (n + 1) < 2 ^ 31 by omega), nI_clamp (show 19 * s + 3 + 2 * (n + 1) < 2 ^ 31 by omega), nI_clamp (show 19 * s + 2 + 2 * (n + 1) < 2 ^ 31 by omega), nI_clamp (show 19 * s + 4 + 2 * (n + 1) < 2 ^ 31 by omega), nI_add (n + 1) 1]
  rw [show 19 * s + 1 + 2 * (n + 1) = 19 * s + 3 + 2 * n by omega, show 19 * s + 2 + 2 * (n + 1) = 19 * s + 4 + 2 * n by omega, w1]
  have t1 : ups τ 4 (19 * s + 3 + 2 * (n + 1)) (v 4 (8 * s + n) + dx) 4 (19 * s + 4 + 2 * n) = v 5 (8 * s + n) := by rw [ups_at, if_neg (by omega), w2]
  rw [t1]
  have t2 : ups (ups τ 4 (19 * s + 3 + 2 * (n + 1)) (v 4 (8 * s + n) + dx)) 4 (19 * s + 4 + 2 * (n + 1)) (v 5 (8 * s + n) + dy) 4 (19 * s) = nI (n + 1) := by rw [ups_at, if_neg (by omega), ups_at, if_neg (by omega), m3, hn]
  rw [t2, nI_add (n + 1) 1, show σ (9 + 5 * 1) (8 * s + n) = v 4 (8 * s + n) from k1, show σ (10 + 5 * 1) (8 * s + n) = v 5 (8 * s + n) from k2]
  refine Same_e (by rw [show 6 + 5 * 1 = 11 from rfl, ups_at, if_pos ⟨rfl, rfl⟩]) ⟨upN (upN a 10 s (n + 2)) 11 s (a 11 s), ups (ups v 4 (8 * s + (n + 1)) (v 4 (8 * s + n) + dx)) 5 (8 * s + (n + 1)) (v 5 (8 * s + n) + dy), Inv_pen I hs (by omega) hpl (by rw [ups_row (by omega), ups_row (by omega)]), RepC_pen C (fun k g1 g2 g3 => by rw [ups_row g3, ups_row g2]) (fun k hk => by rw [ups_row (by omega), ups_row (by omega), ups_row (by omega)]) ?_, RepM_pen M (fun k g1 g2 g3 => by rw [ups_row g3, ups_row g2]) (fun k hk => by rw [ups_row hk, ups_row hk, ups_row hk]) ?_⟩
  · intro s' hs'
    obtain ⟨j1, j2, j3, j4, j5⟩ := C.2.1 s' hs'
    have h8' := (I.2.1 s' hs').2.1
    rw [upN_row (show 1 ≠ 11 by omega), upN_row (show 1 ≠ 10 by omega), upN_row (show 2 ≠ 11 by omega), upN_row (show 2 ≠ 10 by omega)]
    refine ⟨?_, ?_, ?_⟩
    · rw [ups_row (by omega), ups_row (by omega), ups_row (by omega)]; exact j1
    · rw [ups_row (by omega), ups_row (by omega), ups_row (by omega)]; exact j2
    · simp only [upN_at, ups_at]
      by_cases q : s' = s
      · subst q
        simp
        refine ⟨⟨(c4 hz).1, (c4 hz).2⟩, fun k hk => ?_⟩
        by_cases e : k = n + 1
        · subst e; simp
        · simp [e]
          exact c5 k (by omega)
      · simp [q]
        refine ⟨j3, j4, fun k hk => ?_⟩
        rw [if_neg (by omega), if_neg (by omega), if_neg (by omega), if_neg (by omega)]
        exact j5 k hk
  · intro s' hs'
    obtain ⟨j1, j2, j3, j4, j5⟩ := M.2.1 s' hs'
    have h8' := (I.2.1 s' hs').2.1
    rw [upN_row (show 1 ≠ 11 by omega), upN_row (show 1 ≠ 10 by omega), upN_row (show 2 ≠ 11 by omega), upN_row (show 2 ≠ 10 by omega)]
    refine ⟨?_, ?_, ?_⟩
    · rw [ups_row (by omega), ups_row (by omega), ups_row (by omega)]; exact j1
    · rw [ups_row (by omega), ups_row (by omega), ups_row (by omega)]; exact j2
    · simp only [upN_at, ups_at]
      by_cases q : s' = s
      · subst q
        simp
        refine ⟨⟨?_, ?_⟩, fun k hk => ?_⟩
        · rw [if_neg (by omega), if_neg (by omega)]; exact (m4 hz).1
        · rw [if_neg (by omega), if_neg (by omega)]; exact (m4 hz).2
        · by_cases e : k = n + 1
          · subst e
            refine ⟨?_, ?_⟩
            · rw [if_neg (by omega), if_neg (by omega), if_pos (by omega), if_pos rfl]
            · rw [if_neg (by omega), if_pos (by omega), if_pos rfl]
          · rw [if_neg (by omega), if_neg (by omega), if_neg (by omega), if_neg (by omega), if_neg (by omega), if_neg (by omega), if_neg (by omega), if_neg (by omega)]
            exact m5 k (by omega)
      · simp [q]
        refine ⟨?_, fun h0 => ?_, fun k hk => ?_⟩
        · rw [if_neg (by omega), if_neg (by omega), if_neg (by omega)]; exact j3
        · rw [if_neg (by omega), if_neg (by omega), if_neg (by omega), if_neg (by omega), if_neg (by omega), if_neg (by omega)]; exact j4 h0
        · rw [if_neg (by omega), if_neg (by omega), if_neg (by omega), if_neg (by omega), if_neg (by omega), if_neg (by omega), if_neg (by omega), if_neg (by omega)]; exact j5 k hk
theorem cl_L52 {s : Nat} (hs : s < 5) : ∀ (d f t : Nat) (τ : St), t + d = 5 → d < f → ∃ τ', mX7_clearSite_L52 f (nI s) (nI t) τ = some τ' ∧ (∀ k, k ≠ 6 → τ' k = τ k) ∧ ∀ L, L < 25 → τ' 6 L = if (L / 5 = s ∧ t ≤ L % 5) ∨ (L % 5 = s ∧ t ≤ L / 5) then 0 else τ 6 L := by
  intro d
  induction d with
  | zero =>
    intro f t τ h hf
    obtain ⟨f, rfl⟩ : ∃ g, f = g + 1 := ⟨f - 1, by omega⟩
    have : t = 5 := by omega
    subst this
    rw [mX7_clearSite_L52, if_pos (by decide)]
    exact ⟨τ, rfl, fun _ _ => rfl, fun L hL => by rw [if_neg (by omega)]⟩
  | succ d ih =>
    intro f t τ h hf
    obtain ⟨f, rfl⟩ : ∃ g, f = g + 1 := ⟨f - 1, by omega⟩
    rw [mX7_clearSite_L52, if_neg (show ¬ (5 : Int32) ≤ nI t from nI_ge (b := 5) (by omega) (by omega)), lk_i, lk_i]
    simp only [lts_s, lti_s]
    rw [ix_n (show 5 * s + t < 25 by omega) (by decide), ix_n (show 5 * t + s < 25 by omega) (by decide), nI_clamp (by omega), nI_clamp (by omega), nI_1]
    obtain ⟨τ', e1, e2, e3⟩ := ih f (t + 1) (ups (ups τ 6 (5 * s + t) 0) 6 (5 * t + s) 0) (by omega) (by omega)
    refine ⟨τ', e1, fun k hk => by rw [e2 k hk, ups_row hk, ups_row hk], fun L hL => ?_⟩
    rw [e3 L hL, ups_at, ups_at]
    by_cases c1 : (L / 5 = s ∧ t + 1 ≤ L % 5) ∨ (L % 5 = s ∧ t + 1 ≤ L / 5)
    · rw [if_pos c1, if_pos (by omega)]
    · rw [if_neg c1]
      by_cases c2 : L = 5 * t + s
      · rw [if_pos ⟨rfl, c2⟩, if_pos (by omega)]
      · rw [if_neg (fun z => c2 z.2)]
        by_cases c3 : L = 5 * s + t
        · rw [if_pos ⟨rfl, c3⟩, if_pos (by omega)]
        · rw [if_neg (fun z => c3 z.2), if_neg (by omega)]
theorem cl_L26 {s : Nat} (hs : s < 5) : ∀ (d f t : Nat) (τ : St), t + d = 100 → d < f → ∃ τ', mX7_clearSite_L26 f (nI s) (nI t) τ = some τ' ∧ (∀ k, k ≠ 6 → k ≠ 3 → τ' k = τ k) ∧ (∀ j, τ' 3 j = if j / 100 = s ∧ t ≤ j % 100 then 0 else τ 3 j) ∧ ∀ L, L < 25 → τ' 6 L = if L / 5 = s ∨ L % 5 = s then 0 else τ 6 L := by
  intro d
  induction d with
  | zero =>
    intro f t τ h hf
    obtain ⟨f, rfl⟩ : ∃ g, f = g + 1 := ⟨f - 1, by omega⟩
    have : t = 100 := by omega
    subst this
    rw [mX7_clearSite_L26, if_pos (by decide)]
    obtain ⟨τ', e1, e2, e3⟩ := cl_L52 hs 5 fu 0 τ (by omega) (by rw [fu_eq]; omega)
    refine ⟨τ', e1, fun k h1 h2 => e2 k h1, fun j => by rw [if_neg (by omega), e2 3 (by omega)], fun L hL => ?_⟩
    rw [e3 L hL]
    by_cases c : L / 5 = s ∨ L % 5 = s
    · rw [if_pos c, if_pos (by omega)]
    · rw [if_neg c, if_neg (by omega)]
  | succ d ih =>
    intro f t τ h hf
    obtain ⟨f, rfl⟩ : ∃ g, f = g + 1 := ⟨f - 1, by omega⟩
    rw [mX7_clearSite_L26, if_neg (show ¬ (100 : Int32) ≤ nI t from nI_ge (b := 100) (by omega) (by omega)), il 100, pk_mul, nI_add, ix_n (show 100 * s + t < 500 by omega) (by decide), lts_s, nI_clamp (by omega), nI_1]
    obtain ⟨τ', e1, e2, e3, e4⟩ := ih f (t + 1) (ups τ 3 (100 * s + t) 0) (by omega) (by omega)
    refine ⟨τ', e1, fun k h1 h2 => by rw [e2 k h1 h2, ups_row h2], fun j => ?_, fun L hL => by rw [e4 L hL, ups_row (by omega)]⟩
    rw [e3 j, ups_at]
    by_cases c1 : j / 100 = s ∧ t + 1 ≤ j % 100
    · rw [if_pos c1, if_pos (by omega)]
    · rw [if_neg c1]
      by_cases c2 : j = 100 * s + t
      · rw [if_pos ⟨rfl, c2⟩, if_pos (by omega)]
      · rw [if_neg (fun z => c2 z.2), if_neg (by omega)]
theorem m_clear {s : Nat} (hs : s < 5) (τ : St) : ∃ τ', mX7_clearSite (nI s) τ = some τ' ∧ (∀ k, k = 0 ∨ k = 5 ∨ 6 < k → τ' k = τ k) ∧ τ' 1 = upd (τ 1) s 0 ∧ τ' 2 = upd (τ 2) s 0 ∧ τ' 4 = upd (τ 4) (19 * s) 0 ∧ (∀ j, τ' 3 j = if j / 100 = s then 0 else τ 3 j) ∧ ∀ L, L < 25 → τ' 6 L = if L / 5 = s ∨ L % 5 = s then 0 else τ 6 L := by
  unfold mX7_clearSite
  simp only [lts_s, lti_s]
  rw [ix_n hs (by decide), ix_n hs (by decide), il 19, pk_mul, ix_n (show 19 * s < 95 by omega) (by decide), nI_clamp (by omega), nI_clamp (by omega), show (0 : Int32) = nI 0 from rfl]
  obtain ⟨τ', e1, e2, e3, e4⟩ := cl_L26 hs 100 fu 0 (ups (ups (ups τ 1 s (nI 0)) 2 s (nI 0)) 4 (19 * s) (nI 0)) (by omega) (by rw [fu_eq]; omega)
  refine ⟨τ', e1, fun k hk => ?_, ?_, ?_, ?_, fun j => ?_, fun L hL => ?_⟩
  · rw [e2 k (by omega) (by omega), ups_row (by omega), ups_row (by omega), ups_row (by omega)]
  · rw [e2 1 (by omega) (by omega), ups_row (by omega), ups_row (by omega), ups_same]
  · rw [e2 2 (by omega) (by omega), ups_row (by omega), ups_same, ups_row (by omega)]
  · rw [e2 4 (by omega) (by omega), ups_same, ups_row (by omega), ups_row (by omega)]
  · rw [e3 j, ups_row (by omega), ups_row (by omega), ups_row (by omega)]
    by_cases c : j / 100 = s
    · rw [if_pos ⟨c, by omega⟩, if_pos c]; rfl
    · rw [if_neg (fun q => c q.1), if_neg c]
  · rw [e4 L hL, ups_row (by omega), ups_row (by omega), ups_row (by omega)]; rfl
theorem op_join {σ τ : St} (R : Rel σ τ) : Same (mX6_join σ) (mX7_join τ) := by
  obtain ⟨a, v, I, C, M⟩ := id R
  obtain ⟨i1, i2, i3, i4, i5, i6, i7⟩ := id I
  have h5 := i1.2
  unfold mX6_join mX7_join
  rw [C.1, M.1]
  by_cases e : a 0 0 = 5
  · rw [e, if_neg (by decide), if_pos (show nI 5 = (5 : Int32) from rfl)]
    exact Same_r R
  · obtain ⟨τ', e1, r, r1, r2, r4, r3, r6⟩ := m_clear (s := a 0 0) (by omega) τ
    rw [if_pos (show nI (a 0 0) < (5 : Int32) from nI_lt (b := 5) (by omega) (by omega)), if_neg (show ¬ nI (a 0 0) = (5 : Int32) from fun q => e ((nI_eq (b := 5) (by omega) (by omega)).mp q)), e1, bnv_s]
    simp only [lts_s, lti_s]
    rw [r 12 (by omega), M.1, ups_at, if_pos ⟨rfl, rfl⟩, ups_at, if_pos ⟨rfl, rfl⟩]
    obtain ⟨z1, z2, z3⟩ := (i2 (a 0 0) (by omega)).2.2.2.2 (Nat.le_refl _)
    have q : ∀ k, k ≠ 0 → upN a 0 0 (a 0 0 + 1) k = a k := fun k hk => upN_row hk
    have q0 : upN a 0 0 (a 0 0 + 1) 0 0 = a 0 0 + 1 := by rw [upN_at, if_pos ⟨rfl, rfl⟩]
    refine Same_r ⟨upN a 0 0 (a 0 0 + 1), v, ⟨?_, fun s hs => ?_, fun s i hs hi => ?_, ?_, ?_, ?_, fun L hL => ?_⟩, ⟨?_, ?_, ?_, ?_, ?_, ?_⟩, ⟨?_, fun s hs => ?_, fun j hj => ?_, ?_, fun L hL => ?_⟩⟩
    · unfold I_n; rw [q0]; omega
    · obtain ⟨j1, j2, j3, j4, j5⟩ := i2 s hs
      rw [q 1 (by omega), q 10 (by omega), q 11 (by omega), q 2 (by omega), q0, tot_row (q 1 (by omega))]
      exact ⟨j1, j2, j3, j4, fun h => j5 (by omega)⟩
    · obtain ⟨j1, j2⟩ := i3 s i hs hi
      unfold mk
      rw [q 3 (by omega), q 1 (by omega), q0, q 5 (by omega), q 2 (by omega)]
      exact ⟨j1, fun h => ⟨(j2 h).1, by have := (j2 h).2.1; omega, (j2 h).2.2⟩⟩
    · unfold I_o mk
      rw [q 1 (by omega), q 3 (by omega), q 4 (by omega), q 5 (by omega), q 6 (by omega), q 7 (by omega), q 8 (by omega), tot_row (q 1 (by omega))]; exact i4
    · unfold Tms mk
      rw [q 1 (by omega), q 5 (by omega)]; exact i5
    · unfold Ord mk bf
      rw [q 1 (by omega), q 5 (by omega), q 9 (by omega), tot_row (q 1 (by omega))]; exact i6
    · obtain ⟨j1, j2, j3⟩ := i7 L hL
      rw [q 12 (by omega), q 13 (by omega), q 1 (by omega), q0]
      exact ⟨j1, fun h => by have := j2 h; omega, j3⟩
    · rw [q0, ups_at, if_pos ⟨rfl, rfl⟩, nI_1]
    · unfold C_s
      rw [q 1 (by omega), q 2 (by omega), q 10 (by omega), q 11 (by omega), ups_row (by omega), ups_row (by omega), ups_row (by omega), ups_row (by omega), ups_row (by omega), ups_row (by omega), ups_row (by omega)]; exact C.2.1
    · unfold C_k
      rw [q 3 (by omega), ups_row (by omega)]; exact C.2.2.1
    · unfold C_o mk
      rw [q 1 (by omega), q 4 (by omega), q 5 (by omega), q 6 (by omega), q 7 (by omega), ups_row (by omega), ups_row (by omega), ups_row (by omega), ups_row (by omega), ups_row (by omega), ups_row (by omega), ups_row (by omega), ups_row (by omega)]; exact C.2.2.2.1
    · unfold C_t
      rw [q 9 (by omega), tot_row (q 1 (by omega)), ups_row (by omega), ups_row (by omega)]; exact C.2.2.2.2.1
    · unfold C_l
      rw [q 12 (by omega), q 13 (by omega), ups_row (by omega), ups_row (by omega)]; exact C.2.2.2.2.2
    · rw [q0, ups_at, if_pos ⟨rfl, rfl⟩, nI_1]
    · obtain ⟨j1, j2, j3, j4, j5⟩ := M.2.1 s hs
      rw [q 1 (by omega), q 2 (by omega), q 10 (by omega), q 11 (by omega), ups_row (by omega), ups_row (by omega), ups_row (by omega), r1, r2, r4, upd_at, upd_at]
      by_cases es : s = a 0 0
      · subst es
        rw [if_pos rfl, if_pos rfl, z1, z2, z3]
        exact ⟨rfl, rfl, by rw [upd_at, if_pos rfl]; rfl, fun h => absurd rfl h, fun k hk => by omega⟩
      · have h8 := (i2 s hs).2.1
        rw [if_neg es, if_neg es]
        refine ⟨j1, j2, ?_, fun h => ?_, fun k hk => ?_⟩
        · rw [upd_at, if_neg (by omega)]; exact j3
        · rw [upd_at, if_neg (by omega), upd_at, if_neg (by omega)]; exact j4 h
        · rw [upd_at, if_neg (by omega), upd_at, if_neg (by omega)]; exact j5 k hk
    · rw [q 3 (by omega), ups_row (by omega), r3]
      by_cases c : j / 100 = a 0 0
      · rw [if_pos c]
        have := i3 (j / 100) (j % 100) (by omega) (by omega)
        rw [show 100 * (j / 100) + j % 100 = j by omega] at this
        have h0 : a 3 j = 0 := by
          rcases Nat.lt_or_ge (a 3 j) 1 with h | h
          · omega
          · exact absurd (this.2 (by omega)).2.1 (by omega)
        rw [h0]; rfl
      · rw [if_neg c]; exact M.2.2.1 j hj
    · unfold M_o mk
      rw [q 1 (by omega), q 4 (by omega), q 5 (by omega), q 6 (by omega), q 7 (by omega), ups_row (by omega), r 0 (by omega)]; exact M.2.2.2.1
    · obtain ⟨j1, j2⟩ := M.2.2.2.2 L hL
      rw [q 12 (by omega), q 13 (by omega), ups_row (by omega), ups_row (by omega), r 5 (by omega), r6 L hL]
      refine ⟨?_, j2⟩
      by_cases c : L / 5 = a 0 0 ∨ L % 5 = a 0 0
      · rw [if_pos c]
        have h0 : a 12 L = 0 := by
          rcases Nat.eq_zero_or_pos (a 12 L) with h | h
          · exact h
          · exact absurd ((i7 L hL).2.1 (by omega)) (by omega)
        rw [h0]; rfl
      · rw [if_neg c]; exact j1
