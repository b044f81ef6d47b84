/-! lift, penUp, penMove. -/
theorem op_lift {σ τ : St} (R : Rel σ τ) (x y z : Int32) : Same (mX6_lift x y z σ) (mX7_lift x y z τ) := by
  obtain ⟨a, v, I, C, M⟩ := id R
  have h5 := I.1.2
  unfold mX6_lift mX7_lift
  refine Same_site I C M (fun s hs ex => ?_)
  subst ex
  have hs5 : s < 5 := by omega
  have h20 := (I.2.1 s hs5).1
  by_cases hy : y < 0
  · rw [if_pos hy, if_pos hy]; exact Same_r R
  rw [if_neg hy, if_neg hy]
  refine Same_in R (fun hl0 hl3 => ?_)
  obtain ⟨L, -, hL, rfl⟩ := iv (lo := 0) (hi := 3) hl0 hl3 (by omega) (by omega)
  obtain ⟨σ', τ', c, fn, e1, e2, e3, e4, e5, e6, hc, hf⟩ := boards I C M hs5
  have C' := RepC_ag C (agC_of (by omega) e3)
  have M' := RepM_ag M (agN_of e4)
  unfold mX0_strokeCount
  rw [e1, bnv_s, bnd_s, e2, bnv_s, e6.1, show σ' (29 + 0) 0 = nI c from e5.1]
  by_cases hyc : y < nI c
  · obtain ⟨p, hp, rfl⟩ := nI_of (x := y) hy
    have hpc : p < c := (nI_ltI (by omega) (by omega)).mp hyc
    obtain ⟨hm, h0⟩ := hf p hpc
    have htl := hm.1
    rw [if_pos hyc, if_pos hyc, q_madeAll hs5 h20 (C'.2.1 s hs5).1, bnd_s, ix_n hs5 (by decide), nI_clamp (by omega), (M'.2.1 s hs5).1]
    by_cases e : a 1 s = 20
    · rw [decide_eq_true e, bI_t, if_neg (by decide), e, if_pos (show nI 20 = (20 : Int32) from rfl)]
      exact Same_r ⟨a, v, I, C', M'⟩
    · have hlt : a 1 s < 20 := by omega
      obtain ⟨pl, σ1, σ2, σ3, f1, f2, f3, f4, C2, p1, p2, p3⟩ := C_change (kd := 3) (tg := fn p) (ly := L) I C' (nI L) hs hlt (by omega) htl
      obtain ⟨τ2, g1, M2⟩ := M_change (kd := 3) (tg := fn p) (ly := L) I M' (nI L) pl hs hlt (by omega)
      rw [decide_eq_false e, bI_f, if_pos rfl, if_neg (show ¬ nI (a 1 s) = (20 : Int32) from fun q => e ((nI_eq (b := 20) (by omega) (by omega)).mp q)), f1, bnd_s, q_strokeIn (by omega) σ1 (by omega), bnd_s, f4 (22 + 3 * 0) (by omega), e5.2.1 p hpc, show mX4_addChange (nI s) (nI (a 2 s + 1)) 3 (nI (fn p)) (nI L) σ1 = _ from f2, bnd_s, f3, bnv_s, q_numberOf _ (by omega), bnd_s, ix_n (show p < 100 by omega) (by decide), ix_n (show p < 100 by omega) (by decide), nI_clamp (by omega), (e6.2 p hpc).1, il 20, pk_rem (by omega) (by omega) (by omega), pk_div (by omega) (by omega) (by omega), nI_1, show mX7_make (nI s) 3 (nI (fn p / 20)) (nI L) (nI (fn p % 20 + 1)) τ' = _ from g1, bnd_s]
      refine Same_e (by rw [show (20 * s + a 1 s) % 20 = a 1 s by omega]) ⟨_, _, Inv_change I hs hlt (by omega) (by omega) ⟨hm, h0, fun h => absurd rfl h⟩ (fun _ => ⟨rfl, by omega⟩) p1 p2 p3, C2, M2⟩
  · rw [if_neg hyc, if_neg hyc]
    exact Same_r ⟨a, v, I, C', M'⟩
/-- the pen of s lifted -/
theorem pu_L74 {s i n : Nat} (hs : s < 5) (hi : i < 100) (hn : 1 ≤ n) (hid : 20 * s + n - 1 = i) : ∀ (d f k : Nat) (τ : St), k + d = 16 → d < f → ∃ τ', mX7_penUp_L74 f (nI s) (nI (19 * s)) (nI n) (nI k) τ = mX7_penUp_b116 (nI (19 * s)) (nI n) τ' ∧ (∀ j, j ≠ 0 → τ' j = τ j) ∧ (∀ j, (j / 21 ≠ i ∨ j % 21 < 5 + k) → τ' 0 j = τ 0 j) ∧ ∀ j, k ≤ j → j < 16 → τ' 0 (21 * i + 5 + j) = τ 4 (19 * s + 3 + j) := by
  intro d
  induction d with
  | zero =>
    intro f k τ h hf
    obtain ⟨f, rfl⟩ : ∃ g, f = g + 1 := ⟨f - 1, by omega⟩
    have : k = 16 := by omega
    subst this
    rw [mX7_penUp_L74, if_pos (by decide)]
    exact ⟨τ, rfl, fun _ _ => rfl, fun _ _ => rfl, fun j h1 h2 => by omega⟩
  | succ d ih =>
    intro f k τ h hf
    obtain ⟨f, rfl⟩ : ∃ g, f = g + 1 := ⟨f - 1, by omega⟩
    rw [mX7_penUp_L74, if_neg (show ¬ (16 : Int32) ≤ nI k from nI_ge (b := 16) (by omega) (by omega)), m_place τ hn, bnd_s, hid]
    simp only [lts_s, lti_s]
    rw [il 3, nI_add, nI_add, ix_n (show 19 * s + 3 + k < 95 by omega) (by decide), il 21, pk_mul, il 5, nI_add, nI_add, ix_n (show 21 * i + 5 + k < 2100 by omega) (by decide), nI_clamp (by omega), nI_clamp (by omega), nI_1]
    obtain ⟨τ', e1, e2, e3, e4⟩ := ih f (k + 1) (ups τ 0 (21 * i + 5 + k) (τ 4 (19 * s + 3 + k))) (by omega) (by omega)
    refine ⟨τ', e1, fun j hj => by rw [e2 j hj, ups_row hj], fun j hj => ?_, fun j h1 h2 => ?_⟩
    · rw [e3 j (by omega), ups_at, if_neg (by omega)]
    · by_cases e : j = k
      · rw [e3 _ (by omega), ups_at, if_pos (by omega), e]
      · rw [e4 j (by omega) h2, ups_row (by omega)]
theorem op_penUp {σ τ : St} (R : Rel σ τ) (x : Int32) : Same (mX6_penUp x σ) (mX7_penUp x τ) := by
  obtain ⟨a, v, I, C, M⟩ := id R
  have h5 := I.1.2
  unfold mX6_penUp mX7_penUp
  refine Same_site I C M (fun s hs ex => ?_)
  subst ex
  have hs5 : s < 5 := by omega
  obtain ⟨h20, h8, hpl, hck, -⟩ := I.2.1 s hs5
  obtain ⟨c1, c2, c3, c4, c5⟩ := C.2.1 s hs5
  obtain ⟨m1, m2, m3, m4, m5⟩ := M.2.1 s hs5
  have hn1 : s < ns 1 := hs5
  rw [q_pc (by omega) hn1, bnd_s, show σ (6 + 5 * 1) s = nI (a 10 s) from c3, il 19, pk_mul, ix_n (show 19 * s < 95 by omega) (by decide), nI_clamp (by omega), m3]
  by_cases hz : a 10 s = 0
  · rw [hz, if_pos (show nI 0 = (0 : Int32) from rfl), if_pos (show nI 0 = (0 : Int32) from rfl)]
    exact Same_r R
  rw [if_neg (nz0 (by omega) hz), if_neg (nz0 (by omega) hz), q_madeAll hs5 h20 c1, bnd_s, ix_n hs5 (by decide), nI_clamp (by omega), m1]
  by_cases e : a 1 s = 20
  · rw [decide_eq_true e, bI_t, if_neg (by decide), e, if_pos (show nI 20 = (20 : Int32) from rfl)]
    exact Same_r R
  have hlt : a 1 s < 20 := by omega
  obtain ⟨c4a, c4b⟩ := c4 hz
  obtain ⟨m4a, m4b⟩ := m4 hz
  rw [decide_eq_false e, bI_f, if_pos rfl, if_neg (show ¬ nI (a 1 s) = (20 : Int32) from fun q => e ((nI_eq (b := 20) (by omega) (by omega)).mp q))]
  -- the class
  have e1 := q_tick (s := s) (c := a 2 s) (σ := σ) hs5 c2
  generalize hσ1 : ups σ 26 s (nI (a 2 s + 1)) = σ1 at e1
  have r : ∀ k, k ≠ 26 → σ1 k = σ k := fun k hk => by rw [← hσ1, ups_row hk]
  obtain ⟨pl, σ2, e2, p1, p2, p3, rr, rr3, r0, r1, r2, r4, r28, r5, r6, r7, r9, r10⟩ := q_addStroke (σ := σ1) (n := a 10 s) I hs hlt h8 (by rw [r 11 (by omega)]; exact c3) (by rw [r 0 (by omega)]; exact c1) (fun i hi => by rw [r 2 (by omega)]; exact (C.2.2.2.1 i hi).2.1) ⟨by rw [r 28 (by omega)]; exact C.2.2.2.2.1.1, fun p hp => by rw [r 5 (by omega)]; exact C.2.2.2.2.1.2 p hp⟩
  obtain ⟨σ3, e3, g1, g16, g⟩ := q_publish (σ := ups σ2 11 s 0) I hs hlt (by rw [ups_row (by omega), rr 27 (by omega) (by omega), r 27 (by omega)]; exact C.1) (fun L hL => by rw [ups_row (by omega), ups_row (by omega), rr 18 (by omega) (by omega), rr 19 (by omega) (by omega), r 18 (by omega), r 19 (by omega)]; exact C.2.2.2.2.2 L hL)
  have hne : ∀ p, p < tot a → a 9 p ≠ 20 * s + a 1 s := fun p hp e => nA_not (a := a) (s := s) (by omega) hlt (by rw [← e]; exact I.2.2.2.2.2.1.1 p hp)
  have hI : Inv (newA a s 0 0 (a 11 s) (a 10 s) pl) (newV v (20 * s + a 1 s) (nI (a 11 s)) (v 3 s) (fun k => v 4 (8 * s + k)) (fun k => v 5 (8 * s + k))) := Inv_new I hs hlt (by omega) (fun h => absurd rfl h) (fun _ => ⟨rfl, hpl⟩) (fun _ => ⟨by omega, h8⟩) p1 (fun p h1 h2 => (aft_bf (hne p h2) hlt).mpr (p2 p h1 h2)) (fun h => fun q => p3 h ((aft_bf (hne (pl - 1) (by omega)) hlt).mp q))
  have hC : RepC (newA a s 0 0 (a 11 s) (a 10 s) pl) (newV v (20 * s + a 1 s) (nI (a 11 s)) (v 3 s) (fun k => v 4 (8 * s + k)) (fun k => v 5 (8 * s + k))) (ups σ3 11 s (nI (a 10 s))) := by
    have u : ∀ k, k ≠ 11 → ups σ3 11 s (nI (a 10 s)) k = σ3 k := fun k hk => ups_row hk
    refine C_new I C hs hlt ?_ ?_ ?_ (fun k h1 h2 => ?_) ?_ ?_ ?_ ?_ (fun j hj => ?_) (fun h => absurd rfl h) (fun j hj => ?_) (fun j hj => ?_) (fun _ => ⟨?_, ?_, fun k hk => ?_⟩) (fun _ => h8) ?_ (fun p hp => ?_) (fun L hL => ?_)
    · rw [u 27 (by omega), g 27 (by omega) (by omega) (by omega), ups_row (by omega), rr 27 (by omega) (by omega), r 27 (by omega)]
    · rw [u 0 (by omega), g 0 (by omega) (by omega) (by omega), ups_row (by omega), r0, r 0 (by omega)]
    · rw [u 26 (by omega), g 26 (by omega) (by omega) (by omega), ups_row (by omega), rr 26 (by omega) (by omega), ← hσ1, ups_same]
    · by_cases hk : k = 11
      · rw [hk]
        funext j
        rw [ups_at, g 11 (by omega) (by omega) (by omega), ups_at, rr 11 (by omega) (by omega), r 11 (by omega)]
        by_cases q : j = s
        · rw [if_pos ⟨rfl, q⟩, q, c3]
        · rw [if_neg (fun z => q z.2), if_neg (fun z => q z.2)]
      · rw [u k hk, g k (by omega) (by omega) (by omega), ups_row hk, rr k (by omega) (by omega), r k (by omega)]
    · rw [u 16 (by omega), g16, ups_row (by omega), rr 16 (by omega) (by omega), r 16 (by omega)]
    · rw [u 1 (by omega), g 1 (by omega) (by omega) (by omega), ups_row (by omega), r1, r 1 (by omega)]
    · rw [u 2 (by omega), g 2 (by omega) (by omega) (by omega), ups_row (by omega), r2, r 2 (by omega)]
    · rw [u 4 (by omega), g 4 (by omega) (by omega) (by omega), ups_row (by omega), r4, r 4 (by omega), r 13 (by omega), c4b]
    · rw [u 3 (by omega), g 3 (by omega) (by omega) (by omega), ups_row (by omega), rr3, r 3 (by omega)]
    · rw [u 6 (by omega), u 7 (by omega), g 6 (by omega) (by omega) (by omega), g 7 (by omega) (by omega) (by omega), ups_row (by omega), ups_row (by omega), r6, r7, if_neg hj, if_neg hj, r 6 (by omega), r 7 (by omega)]
      exact ⟨rfl, rfl⟩
    · rw [u 9 (by omega), u 10 (by omega), g 9 (by omega) (by omega) (by omega), g 10 (by omega) (by omega) (by omega), ups_row (by omega), ups_row (by omega), (r9 j hj).1, (r9 j hj).2, r 9 (by omega), r 10 (by omega)]
      exact ⟨rfl, rfl⟩
    · rw [u 6 (by omega), g 6 (by omega) (by omega) (by omega), ups_row (by omega), r6, if_pos rfl]
    · rw [u 7 (by omega), g 7 (by omega) (by omega) (by omega), ups_row (by omega), r7, if_pos rfl, r 12 (by omega), c4a]
    · rw [u 9 (by omega), u 10 (by omega), g 9 (by omega) (by omega) (by omega), g 10 (by omega) (by omega) (by omega), ups_row (by omega), ups_row (by omega), (r10 k hk).1, (r10 k hk).2, r 14 (by omega), r 15 (by omega)]
      exact c5 k hk
    · rw [u 28 (by omega), g 28 (by omega) (by omega) (by omega), ups_row (by omega)]; exact r28
    · rw [u 5 (by omega), g 5 (by omega) (by omega) (by omega), ups_row (by omega)]; exact r5 p hp
    · rw [u 18 (by omega), u 19 (by omega)]; exact g1 L hL
  -- the reference
  obtain ⟨τ2, f1, k1, k4, k11, k2, k3, k0, q0, q1, q2, q3, q4⟩ := m_make (kd := 0) I M (v 3 s) (nI (a 11 s)) (nI (a 10 s)) hs hlt
  obtain ⟨τ3, f2, l1, l2, l3⟩ := pu_L74 (s := s) (i := 20 * s + a 1 s) (n := a 1 s + 1) hs5 (by omega) (by omega) (by omega) 16 fu 0 τ2 (by omega) (by rw [fu_eq]; omega)
  have hMo : RepM (newA a s 0 0 (a 11 s) (a 10 s) pl) (newV v (20 * s + a 1 s) (nI (a 11 s)) (v 3 s) (fun k => v 4 (8 * s + k)) (fun k => v 5 (8 * s + k))) τ3 := by
    refine M_new I M hs hlt ?_ ?_ ?_ ?_ ?_ (fun j hj => ?_) ?_ ?_ ?_ (fun h => absurd rfl h) (fun _ => ⟨?_, ?_, fun k hk => ?_⟩) (fun _ => h8) (fun L hL => ?_)
    · rw [l1 12 (by omega), k4 12 (by omega)]
    · rw [l1 4 (by omega), k4 4 (by omega)]
    · rw [l1 1 (by omega), k11]
    · rw [l1 2 (by omega), k2]
    · rw [l1 3 (by omega), k3]
    · rw [l2 j (Or.inl hj), k0 j hj]
    · rw [l2 _ (by omega)]; exact q0
    · rw [l2 _ (by omega)]; exact q1
    · rw [l2 _ (by omega)]; exact q3
    · rw [l2 _ (by omega)]; exact q4
    · rw [l2 _ (by omega)]; exact q2
    · have := m5 k hk
      have w1 := l3 (2 * k) (by omega) (by omega)
      have w2 := l3 (2 * k + 1) (by omega) (by omega)
      rw [show 21 * (20 * s + a 1 s) + 6 + 2 * k = 21 * (20 * s + a 1 s) + 5 + (2 * k + 1) by omega, w1, w2, k4 4 (by omega), show 19 * s + 3 + (2 * k + 1) = 19 * s + 4 + 2 * k by omega]
      exact this
    · rw [l1 6 (by omega), l1 5 (by omega)]; exact k1 L hL
  unfold mX1_empty
  rw [e1, bnd_s, e2, bnd_s, q_set _ _ (show s < rl (6 + 5 * 1) from hs5), bnv_s, bnv_s, show 6 + 5 * 1 = 11 from rfl, e3, bnv_s, q_numberOf _ (by omega), bnd_s]
  rw [il 1, nI_add, ix_n (show 19 * s + 1 < 95 by omega) (by decide), il 2, nI_add, ix_n (show 19 * s + 2 < 95 by omega) (by decide), ix_n (show 19 * s < 95 by omega) (by decide), nI_clamp (by omega), nI_clamp (by omega), m4a, m4b, show mX7_make (nI s) 0 (v 3 s) (nI (a 11 s)) (nI (a 10 s)) τ = _ from f1, bnd_s, show mX7_penUp_L74 fu (nI s) (nI (19 * s)) (nI (a 1 s + 1)) 0 τ2 = _ from f2]
  unfold mX7_penUp_b116
  simp only [lts_s, lti_s]
  rw [ix_n (show 19 * s < 95 by omega) (by decide), nI_clamp (by omega)]
  refine Same_e (by rw [show (20 * s + a 1 s) % 20 = a 1 s by omega]) ⟨upN (upN (newA a s 0 0 (a 11 s) (a 10 s) pl) 10 s 0) 11 s (a 11 s), newV v (20 * s + a 1 s) (nI (a 11 s)) (v 3 s) (fun k => v 4 (8 * s + k)) (fun k => v 5 (8 * s + k)), Inv_pen hI hs (by omega) hpl rfl, RepC_pen hC (fun _ _ _ _ => rfl) (fun k hk => by rw [ups_row (by omega)]) ?_, RepM_pen hMo (fun _ _ _ _ => rfl) (fun k hk => by rw [ups_row hk]) ?_⟩
  · intro s' hs'
    obtain ⟨j1, j2, j3, j4, j5⟩ := hC.2.1 s' hs'
    rw [ups_row (by omega)] at j1 j2
    rw [upN_row (show 1 ≠ 11 by omega), upN_row (show 1 ≠ 10 by omega), upN_row (show 2 ≠ 11 by omega), upN_row (show 2 ≠ 10 by omega)]
    refine ⟨j1, j2, ?_⟩
    rw [ups_row (show 12 ≠ 11 by omega), ups_row (show 13 ≠ 11 by omega), ups_row (show 14 ≠ 11 by omega), ups_row (show 15 ≠ 11 by omega)] at *
    simp only [upN_at]
    by_cases q : s' = s
    · subst q
      simp
      rw [g 11 (by omega) (by omega) (by omega), ups_at, if_pos ⟨rfl, rfl⟩]
      rfl
    · rw [ups_at, if_neg (fun z => q z.2)] at j3
      simp [q]
      exact ⟨j3, j4, j5⟩
  · intro s' hs'
    obtain ⟨j1, j2, j3, j4, j5⟩ := hMo.2.1 s' hs'
    have h8' := (hI.2.1 s' hs').2.1
    rw [upN_row (show 1 ≠ 11 by omega), upN_row (show 1 ≠ 10 by omega), upN_row (show 2 ≠ 11 by omega), upN_row (show 2 ≠ 10 by omega)]
    refine ⟨by rw [ups_row (by omega)]; exact j1, by rw [ups_row (by omega)]; exact j2, ?_⟩
    simp only [upN_at, ups_at]
    by_cases q : s' = s
    · subst q
      simp
      rfl
    · simp [q]
      refine ⟨?_, fun h0 => ?_, fun k hk => ?_⟩
      · rw [if_neg (by omega)]; exact j3
      · rw [if_neg (by omega), if_neg (by omega)]; exact j4 h0
      · rw [if_neg (by omega), if_neg (by omega)]; exact j5 k hk
