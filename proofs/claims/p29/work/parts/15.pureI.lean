/-! The class makes an operation. -/
theorem pk_leI {i j : Nat} (hi : i < 2 ^ 31) (hj : j < 2 ^ 31) : (nI i ≤ nI j) = (i ≤ j) := propext (nI_leI hi hj)
theorem q_after {i j ti tj : Nat} {σ : St} (hi : i < 100) (hj : j < 100) (h1 : σ 2 i = nI ti) (h2 : σ 2 j = nI tj) (b1 : ti < 2 ^ 31) (b2 : tj < 2 ^ 31) : mX4_comesAfter (nI i) (nI j) σ = some (bI (decide (tj < ti ∨ (tj = ti ∧ j / 20 < i / 20))), σ) := by
  unfold mX4_comesAfter mJ6_compare_7cf53
  rw [q_get σ (show i < rl 2 from hi), bnd_s, q_get σ (show j < rl 2 from hj), bnd_s, h1, h2]
  by_cases c1 : tj ≤ ti
  · rw [if_pos (nI_le c1 b1)]
    by_cases c2 : ti = tj
    · rw [if_pos (by rw [c2]), bnd_s, if_neg (by decide), if_pos rfl, q_authorOf σ hi, bnd_s, q_authorOf σ hj, bnd_s]
      by_cases c3 : i / 20 ≤ j / 20
      · rw [if_pos (nI_le c3 (by omega)), decide_eq_false (by omega)]; rfl
      · rw [if_neg (nI_ge (by omega) (by omega)), decide_eq_true (by omega)]; rfl
    · rw [if_neg (fun q => c2 ((nI_eq b1 b2).mp q)), bnd_s, if_pos (by decide), decide_eq_true (by omega)]; rfl
  · rw [if_neg (nI_ge (by omega) b2), bnd_s, if_neg (by decide), if_neg (by decide), decide_eq_false (by omega)]; rfl
/-- the operation j comes after the one that s makes next -/
def aft (a : Ab) (s j : Nat) : Prop := a 2 s + 1 < a 5 j ∨ (a 2 s + 1 = a 5 j ∧ s < j / 20)
theorem aft_bf {a : Ab} {s kd tg ly ct pl j : Nat} (hj : j ≠ 20 * s + a 1 s) (h20 : a 1 s < 20) : bf (newA a s kd tg ly ct pl) (20 * s + a 1 s) j ↔ aft a s j := by
  unfold bf aft
  rw [nA5, nA5, if_pos rfl, if_neg hj, show (20 * s + a 1 s) / 20 = s by omega]
theorem ins_L5 {a : Ab} {s : Nat} (hs : s < 5) (h20 : a 1 s < 20) (hck : a 2 s ≤ 100) (hc : tot a ≤ 99) (hO : Ord a) (h5 : ∀ i, mk a i → a 5 i ≤ 100) : ∀ (k f : Nat) (σ : St), k ≤ tot a → k < f → (∀ i, mk a i → σ 2 i = nI (a 5 i)) → σ 2 (20 * s + a 1 s) = nI (a 2 s + 1) → (∀ p, p < k → σ 5 p = nI (a 9 p)) → (∀ p, k < p → p ≤ tot a → σ 5 p = nI (a 9 (p - 1))) → (∀ p, k ≤ p → p < tot a → aft a s (a 9 p)) → ∃ σ' j, mX4_insert_L5 f (nI (20 * s + a 1 s)) (nI k) σ = mX4_insert_b51 (nI (20 * s + a 1 s)) (nI j) σ' ∧ j ≤ tot a ∧ (∀ k', k' ≠ 5 → σ' k' = σ k') ∧ (∀ p, p < j → σ' 5 p = nI (a 9 p)) ∧ (∀ p, j < p → p ≤ tot a → σ' 5 p = nI (a 9 (p - 1))) ∧ (∀ p, j ≤ p → p < tot a → aft a s (a 9 p)) ∧ (0 < j → ¬ aft a s (a 9 (j - 1))) := by
  intro k
  induction k with
  | zero =>
    intro f σ hk hf h2 h2i h1 h3 h4
    obtain ⟨f, rfl⟩ : ∃ g, f = g + 1 := ⟨f - 1, by omega⟩
    rw [mX4_insert_L5, if_pos (by decide)]
    exact ⟨σ, 0, rfl, by omega, fun _ _ => rfl, h1, h3, h4, fun h => by omega⟩
  | succ k ih =>
    intro f σ hk hf h2 h2i h1 h3 h4
    obtain ⟨f, rfl⟩ : ∃ g, f = g + 1 := ⟨f - 1, by omega⟩
    have hm := hO.1 k (by omega)
    have hmi := hm.1
    have := Classical.propDecidable (aft a s (a 9 k))
    rw [mX4_insert_L5, if_neg (show ¬ nI (k + 1) ≤ (0 : Int32) from nI_ge (a := 0) (by omega) (by omega)), nI_pred, q_get σ (show k < rl 5 by show k < 100; omega), bnd_s, h1 k (by omega), q_after hmi (by omega) (h2 _ hm) h2i (by have := h5 _ hm; omega) (by omega), bnd_s]
    have e : (a 2 s + 1 < a 5 (a 9 k) ∨ (a 2 s + 1 = a 5 (a 9 k) ∧ (20 * s + a 1 s) / 20 < a 9 k / 20)) ↔ aft a s (a 9 k) := by unfold aft; rw [show (20 * s + a 1 s) / 20 = s by omega]
    by_cases hc : aft a s (a 9 k)
    · rw [decide_eq_true (e.mpr hc), bI_t, if_neg (by decide), q_get σ (show k < rl 5 by show k < 100; omega), bnd_s, h1 k (by omega), q_set _ _ (show k + 1 < rl 5 by show k + 1 < 100; omega), bnv_s, pk_m1]
      obtain ⟨σ', j, g1, g2, g3, g4⟩ := ih f (ups σ 5 (k + 1) (nI (a 9 k))) (by omega) (by omega) (fun i hi => by rw [ups_row (by omega)]; exact h2 i hi) (by rw [ups_row (by omega)]; exact h2i) (fun p hp => by rw [ups_at, if_neg (by omega)]; exact h1 p (by omega)) (fun p hp hpc => by
        rw [ups_at]
        by_cases q : p = k + 1
        · rw [if_pos ⟨rfl, q⟩, q]; rfl
        · rw [if_neg (fun z => q z.2)]; exact h3 p (by omega) hpc) (fun p hp hpc => by
        by_cases q : p = k
        · rw [q]; exact hc
        · exact h4 p (by omega) hpc)
      exact ⟨σ', j, g1, g2, fun k' hk' => by rw [g3 k' hk', ups_row hk'], g4⟩
    · rw [decide_eq_false (fun q => hc (e.mp q)), bI_f, if_pos rfl]
      exact ⟨σ, k + 1, rfl, hk, fun _ _ => rfl, h1, h3, h4, fun _ => hc⟩
theorem q_addOp {a : Ab} {v σ : St} (I : Inv a v) {s kd : Nat} (hs : s < a 0 0) (h20 : a 1 s < 20) (c0 : σ 0 s = nI (a 1 s)) (c2 : ∀ i, mk a i → σ 2 i = nI (a 5 i)) (ct : C_t a σ) : ∃ pl σ', mX4_addOperation (nI s) (nI (a 2 s + 1)) (nI kd) σ = some (nI (20 * s + a 1 s), σ') ∧ pl ≤ tot a ∧ (∀ p, pl ≤ p → p < tot a → aft a s (a 9 p)) ∧ (0 < pl → ¬ aft a s (a 9 (pl - 1))) ∧ (∀ k, k ≠ 0 → k ≠ 1 → k ≠ 2 → k ≠ 5 → k ≠ 28 → σ' k = σ k) ∧ σ' 0 = upd (σ 0) s (nI (a 1 s + 1)) ∧ σ' 1 = upd (σ 1) (20 * s + a 1 s) (nI kd) ∧ σ' 2 = upd (σ 2) (20 * s + a 1 s) (nI (a 2 s + 1)) ∧ σ' 28 0 = nI (tot a + 1) ∧ ∀ p, p < tot a + 1 → σ' 5 p = nI (insF (a 9) pl (20 * s + a 1 s) p) := by
  obtain ⟨i1, i2, i3, i4, i5, i6, i7⟩ := I
  have h5 := i1.2
  have ht := tot_le i2
  have htot : tot a ≤ 99 := by
    have h0 := (i2 0 (by omega)).1
    have h1 := (i2 1 (by omega)).1
    have h2 := (i2 2 (by omega)).1
    have h3 := (i2 3 (by omega)).1
    have h4 := (i2 4 (by omega)).1
    unfold tot
    rcases (show s = 0 ∨ s = 1 ∨ s = 2 ∨ s = 3 ∨ s = 4 by omega) with rfl | rfl | rfl | rfl | rfl <;> omega
  have hck := (i2 s (by omega)).2.2.2.1
  unfold mX4_addOperation
  rw [q_get σ (show s < rl 0 by show s < 5; omega), bnd_s, c0, nI_1, q_idOf σ (by omega), bnd_s, show 20 * s + (a 1 s + 1) - 1 = 20 * s + a 1 s by omega, q_set _ _ (show s < rl 0 by show s < 5; omega), bnv_s, q_set _ _ (show 20 * s + a 1 s < rl 2 by show 20 * s + a 1 s < 100; omega), bnv_s, q_set _ _ (show 20 * s + a 1 s < rl 1 by show 20 * s + a 1 s < 100; omega), bnv_s]
  generalize hσ : ups (ups (ups σ 0 s (nI (a 1 s + 1))) 2 (20 * s + a 1 s) (nI (a 2 s + 1))) 1 (20 * s + a 1 s) (nI kd) = σ1
  have r : ∀ k, k ≠ 0 → k ≠ 1 → k ≠ 2 → σ1 k = σ k := fun k h1 h2 h3 => by rw [← hσ, ups_row h2, ups_row h3, ups_row h1]
  have r2 : σ1 2 = upd (σ 2) (20 * s + a 1 s) (nI (a 2 s + 1)) := by rw [← hσ, ups_row (by omega), ups_same, ups_row (by omega)]
  unfold mX4_insert
  rw [r 28 (by omega) (by omega) (by omega), ct.1]
  obtain ⟨σ2, j, g1, g2, g3, g4, g5, g6, g7⟩ := ins_L5 (s := s) (by omega) h20 (by omega) htot i6 (fun i hi => by have := (i4 i hi).2.1; omega) (tot a) fu σ1 (Nat.le_refl _) (by rw [fu_eq]; omega) (fun i hi => by
      rw [r2]
      unfold upd
      rw [if_neg (fun e => nA_not (a := a) (s := s) (by omega) h20 (by rw [← e]; exact hi))]
      exact c2 i hi) (by rw [r2]; unfold upd; rw [if_pos rfl]) (fun p hp => by rw [r 5 (by omega) (by omega) (by omega)]; exact ct.2 p hp) (fun p h1 h2 => by omega) (fun p h1 h2 => by omega)
  rw [g1]
  unfold mX4_insert_b51
  simp only [lts_s, lti_s]
  rw [q_set _ _ (show j < rl 5 by show j < 100; omega), bnv_s, bnv_s, ups_row (show 28 ≠ 5 by omega), g3 28 (by omega), r 28 (by omega) (by omega) (by omega), ct.1, nI_1]
  refine ⟨j, _, rfl, g2, g6, g7, fun k k0 k1 k2 k5 k28 => by rw [ups_row k28, ups_row k5, g3 k k5, r k k0 k1 k2], ?_, ?_, ?_, by rw [ups_at, if_pos ⟨rfl, rfl⟩], fun p hp => ?_⟩
  · rw [ups_row (by omega), ups_row (by omega), g3 0 (by omega), ← hσ, ups_row (by omega), ups_row (by omega), ups_same]
  · rw [ups_row (by omega), ups_row (by omega), g3 1 (by omega), ← hσ, ups_same, ups_row (by omega), ups_row (by omega)]
  · rw [ups_row (by omega), ups_row (by omega), g3 2 (by omega), r2]
  · rw [ups_row (by omega), ups_at]
    unfold insF
    by_cases q1 : p < j
    · rw [if_neg (by omega), if_pos q1]; exact g4 p q1
    · by_cases q2 : p = j
      · rw [if_pos ⟨rfl, q2⟩, if_neg q1, if_pos q2]
      · rw [if_neg (fun z => q2 z.2), if_neg q1, if_neg q2]; exact g5 p (by omega) (by omega)
theorem q_tick {s c : Nat} {σ : St} (hs : s < 5) (h : σ 26 s = nI c) : mX6_tick (nI s) σ = some (nI (c + 1), ups σ 26 s (nI (c + 1))) := by
  unfold mX6_tick
  rw [q_get σ (show s < rl 26 from hs), bnd_s, h, nI_1, q_set _ _ (show s < rl 26 from hs), bnv_s, q_get _ (show s < rl 26 from hs), bnd_s, ups_at, if_pos ⟨rfl, rfl⟩]
/-- the links behind the messages to the sites below t -/
def lkS (a : Ab) (s t : Nat) (σ : St) : Prop := ∀ L, L < 25 → σ 18 L = nI (if lkD a s L = true ∧ L % 5 < t then a 12 L + 1 else a 12 L) ∧ (∀ k, k < a 12 L → σ 19 (10 * L + k) = nI (20 * (L / 5) + a 13 (10 * L + k) - 1)) ∧ (lkD a s L = true → L % 5 < t → σ 19 (10 * L + a 12 L) = nI (20 * s + a 1 s))
theorem pub_L11 {a : Ab} {v : St} (I : Inv a v) {s : Nat} (hs : s < a 0 0) : ∀ (d f t : Nat) (σ : St), t + d = a 0 0 → d < f → σ 27 0 = nI (a 0 0) → lkS a s t σ → ∃ σ', mX6_publish_L11 f (nI s) (nI (20 * s + a 1 s)) (nI t) σ = some σ' ∧ lkS a s (a 0 0) σ' ∧ ∀ k, k ≠ 18 → k ≠ 19 → σ' k = σ k := by
  have h5 := I.1.2
  intro d
  induction d with
  | zero =>
    intro f t σ h hf hn hL
    obtain ⟨f, rfl⟩ : ∃ g, f = g + 1 := ⟨f - 1, by omega⟩
    have ht : t = a 0 0 := by omega
    subst ht
    rw [mX6_publish_L11, hn, if_pos (nI_le (by omega) (by omega))]
    exact ⟨σ, rfl, hL, fun _ _ _ => rfl⟩
  | succ d ih =>
    intro f t σ h hf hn hL
    obtain ⟨f, rfl⟩ : ∃ g, f = g + 1 := ⟨f - 1, by omega⟩
    rw [mX6_publish_L11, hn, if_neg (nI_ge (by omega) (by omega))]
    have step : (∀ L, L < 25 → L % 5 = t → lkD a s L = true → False) → lkS a s (t + 1) σ := fun hno L hLt => by
      obtain ⟨h1, h2, h3⟩ := hL L hLt
      refine ⟨?_, h2, fun g1 g2 => h3 g1 ?_⟩
      · rw [h1]
        by_cases c : lkD a s L = true ∧ L % 5 < t
        · rw [if_pos c, if_pos ⟨c.1, by omega⟩]
        · rw [if_neg c, if_neg (fun q => by
            by_cases e : L % 5 = t
            · exact hno L hLt e q.1
            · exact c ⟨q.1, by omega⟩)]
      · by_cases e : L % 5 = t
        · exact absurd g1 (fun q => hno L hLt e q)
        · omega
    by_cases hts : t = s
    · rw [if_pos (by rw [hts]), nI_1]
      exact ih f (t + 1) σ (by omega) (by omega) hn (step (fun L _ e q => (lkD_iff.mp q).2.2.1 (by rw [e, hts])))
    · rw [if_neg (fun q => hts ((nI_eq (by omega) (by omega)).mp q))]
      have hLt : 5 * s + t < 25 := by omega
      obtain ⟨h1, h2, h3⟩ := hL (5 * s + t) hLt
      have m5 : (5 * s + t) % 5 = t := by omega
      have d5 : (5 * s + t) / 5 = s := by omega
      rw [if_neg (fun q => by rw [m5] at q; omega)] at h1
      have h10 := (I.2.2.2.2.2.2 (5 * s + t) hLt).1
      unfold mX3_send
      rw [il 5, pk_mul, nI_add, show s * 5 + t = 5 * s + t by omega, q_get σ (show 5 * s + t < rl 18 from hLt), bnd_s, h1]
      by_cases hr : a 12 (5 * s + t) < 10
      · have hD : lkD a s (5 * s + t) = true := lkD_iff.mpr ⟨d5, by rw [m5]; omega, by rw [m5]; exact hts, hr⟩
        rw [if_neg (show ¬ (10 : Int32) ≤ _ from nI_ge (b := 10) (by omega) (by omega)), il 10, pk_mul, nI_add, q_set _ _ (show (5 * s + t) * 10 + a 12 (5 * s + t) < rl 19 by show _ < 250; omega), bnv_s, nI_1, q_set _ _ (show 5 * s + t < rl 18 from hLt), bnv_s, bnv_s, nI_1]
        obtain ⟨σ', e1, e2, e3⟩ := ih f (t + 1) (ups (ups σ 19 ((5 * s + t) * 10 + a 12 (5 * s + t)) (nI (20 * s + a 1 s))) 18 (5 * s + t) (nI (a 12 (5 * s + t) + 1))) (by omega) (by omega) (by rw [ups_row (by omega), ups_row (by omega)]; exact hn) (fun L hLL => by
          obtain ⟨g1, g2, g3⟩ := hL L hLL
          have gl := (I.2.2.2.2.2.2 L hLL).1
          rw [ups_row (show 19 ≠ 18 by omega), ups_at]
          by_cases e : L = 5 * s + t
          · subst e
            rw [if_pos ⟨rfl, rfl⟩, m5, if_pos ⟨hD, by omega⟩]
            refine ⟨rfl, fun k hk => ?_, fun _ _ => ?_⟩
            · rw [ups_at, if_neg (by omega)]; exact g2 k hk
            · rw [ups_at, if_pos ⟨rfl, by omega⟩]
          · rw [if_neg (fun q => e q.2), ups_row (show 18 ≠ 19 by omega)]
            have key : (lkD a s L = true ∧ L % 5 < t + 1) ↔ (lkD a s L = true ∧ L % 5 < t) := by
              constructor
              · rintro ⟨q1, q2⟩
                refine ⟨q1, ?_⟩
                have := (lkD_iff.mp q1).1
                omega
              · rintro ⟨q1, q2⟩; exact ⟨q1, by omega⟩
            refine ⟨?_, fun k hk => ?_, fun q1 q2 => ?_⟩
            · rw [g1]
              by_cases c : lkD a s L = true ∧ L % 5 < t
              · rw [if_pos c, if_pos (key.mpr c)]
              · rw [if_neg c, if_neg (fun q => c (key.mp q))]
            · rw [ups_at, if_neg (by omega)]; exact g2 k hk
            · have c := key.mp ⟨q1, q2⟩
              have h10' := (lkD_iff.mp q1).2.2.2
              rw [ups_at, if_neg (by omega)]; exact g3 c.1 c.2)
        exact ⟨σ', e1, e2, fun k k1 k2 => by rw [e3 k k1 k2, ups_row k1, ups_row k2]⟩
      · rw [if_pos (show (10 : Int32) ≤ _ from nI_le (a := 10) (by omega) (by omega)), bnv_s, nI_1]
        exact ih f (t + 1) σ (by omega) (by omega) hn (step (fun L hLL e q => by
          have q1 := lkD_iff.mp q
          have : L = 5 * s + t := by have := q1.1; omega
          subst this
          exact hr q1.2.2.2))
theorem q_publish {a : Ab} {v σ : St} (I : Inv a v) {s : Nat} (hs : s < a 0 0) (h20 : a 1 s < 20) (hn : σ 27 0 = nI (a 0 0)) (cl : C_l a σ) : ∃ σ', mX6_publish (nI s) (nI (20 * s + a 1 s)) σ = some σ' ∧ lkS a s (a 0 0) σ' ∧ σ' 16 = upd (σ 16) (100 * s + (20 * s + a 1 s)) 1 ∧ ∀ k, k ≠ 16 → k ≠ 18 → k ≠ 19 → σ' k = σ k := by
  have h5 := I.1.2
  unfold mX6_publish mX2_learn
  rw [il 100, pk_mul, nI_add, show 16 + 0 = 16 from rfl, show s * 100 + (20 * s + a 1 s) = 100 * s + (20 * s + a 1 s) by omega, q_set _ _ (show 100 * s + (20 * s + a 1 s) < rl 16 by show _ < 500; omega), bnv_s, bnv_s]
  obtain ⟨σ', e1, e2, e3⟩ := pub_L11 I hs (a 0 0) fu 0 (ups σ 16 (100 * s + (20 * s + a 1 s)) 1) (by omega) (by rw [fu_eq]; omega) (by rw [ups_row (by omega)]; exact hn) (fun L hL => by
    rw [ups_row (by omega), ups_row (by omega), if_neg (by omega)]
    exact ⟨(cl L hL).1, (cl L hL).2, fun _ h => by omega⟩)
  exact ⟨σ', e1, e2, by rw [e3 16 (by omega) (by omega), ups_same], fun k k1 k2 k3 => by rw [e3 k k2 k3, ups_row k1]⟩
theorem lkS_C {a : Ab} {s kd tg ly ct pl : Nat} {σ : St} (hl : ∀ L, L < 25 → a 12 L ≤ 10) (h : lkS a s (a 0 0) σ) : C_l (newA a s kd tg ly ct pl) σ := by
  intro L hL
  obtain ⟨h1, h2, h3⟩ := h L hL
  have h10 := hl L hL
  rw [nA12]
  by_cases hD : lkD a s L = true
  · have hR := lkD_iff.mp hD
    have hlt := hR.2.2.2
    rw [if_pos ⟨hD, hR.2.1⟩] at h1
    rw [if_pos hD]
    refine ⟨h1, fun k hk => ?_⟩
    rw [nA13, show (10 * L + k) / 10 = L by omega, show (10 * L + k) % 10 = k by omega]
    by_cases e : k = a 12 L
    · rw [if_pos ⟨hD, e⟩, e, h3 hD hR.2.1, hR.1]
      congr 1
    · rw [if_neg (fun q => e q.2)]; exact h2 k (by omega)
  · rw [if_neg (fun q => hD q.1)] at h1
    rw [if_neg hD]
    refine ⟨h1, fun k hk => ?_⟩
    rw [nA13, show (10 * L + k) / 10 = L by omega, show (10 * L + k) % 10 = k by omega, if_neg (fun q => hD q.1)]
    exact h2 k hk
