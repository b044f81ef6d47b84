/-! Pens. -/
def upN (a : Ab) (k j x : Nat) : Ab := fun k' j' => if k' = k ∧ j' = j then x else a k' j'
theorem upN_at (a : Ab) (k j x k' j' : Nat) : upN a k j x k' j' = if k' = k ∧ j' = j then x else a k' j' := rfl
theorem upN_row {a : Ab} {k j x k' : Nat} (h : k' ≠ k) : upN a k j x k' = a k' := by
  funext j'
  rw [upN_at, if_neg (fun q => h q.1)]
theorem tot_row {a a' : Ab} (h : a' 1 = a 1) : tot a' = tot a := by unfold tot; rw [h]
theorem q_start {t s : Nat} (ht : t < 2) (hs : s < ns t) (c l : Int32) (σ : St) : mX1_start t (nI s) c l σ = some (ups (ups (ups σ (6 + 5 * t) s 0) (7 + 5 * t) s c) (8 + 5 * t) s l) := by
  obtain ⟨r1, r2, r3, -, -⟩ := rl_ink t ht
  unfold mX1_start mX1_empty
  rw [q_set _ _ (by rw [r1]; exact hs), bnv_s, bnv_s, q_set _ _ (by rw [r2]; exact hs), bnv_s, q_set _ _ (by rw [r3]; exact hs), bnv_s]
theorem q_add {t s n : Nat} (ht : t < 2) (hs : s < ns t) (hn : n < 8) {σ : St} (x y : Int32) (h : σ (6 + 5 * t) s = nI n) : mX1_addPoint t (nI s) x y σ = some (ups (ups (ups σ (9 + 5 * t) (8 * s + n) x) (10 + 5 * t) (8 * s + n) y) (6 + 5 * t) s (nI (n + 1))) := by
  obtain ⟨r1, r2, r3, r4, r5⟩ := rl_ink t ht
  unfold mX1_addPoint
  rw [q_get _ (by rw [r1]; exact hs), bnd_s, h, if_neg (show ¬ (8 : Int32) ≤ nI n from nI_ge (b := 8) hn (by omega)), il 8, pk_mul, nI_add, show s * 8 + n = 8 * s + n by omega, q_set _ _ (by rw [r4]; omega), bnv_s, q_set _ _ (by rw [r5]; omega), bnv_s, nI_1, q_set _ _ (by rw [r1]; exact hs), bnv_s]
theorem q_pc {t s : Nat} (ht : t < 2) (hs : s < ns t) (σ : St) : mX1_pointCount t (nI s) σ = some (σ (6 + 5 * t) s, σ) := by
  unfold mX1_pointCount
  rw [q_get _ (by rw [(rl_ink t ht).1]; exact hs), bnd_s]
theorem q_col {t s : Nat} (ht : t < 2) (hs : s < ns t) (σ : St) : mX1_colorOf t (nI s) σ = some (σ (7 + 5 * t) s, σ) := by
  unfold mX1_colorOf
  rw [q_get _ (by rw [(rl_ink t ht).2.1]; exact hs), bnd_s]
theorem q_lay {t s : Nat} (ht : t < 2) (hs : s < ns t) (σ : St) : mX1_layerOf t (nI s) σ = some (σ (8 + 5 * t) s, σ) := by
  unfold mX1_layerOf
  rw [q_get _ (by rw [(rl_ink t ht).2.2.1]; exact hs), bnd_s]
theorem q_x {t s k : Nat} (ht : t < 2) (hs : s < ns t) (hk : k < 8) (σ : St) : mX1_xOf t (nI s) (nI k) σ = some (σ (9 + 5 * t) (8 * s + k), σ) := by
  unfold mX1_xOf
  rw [il 8, pk_mul, nI_add, show s * 8 + k = 8 * s + k by omega, q_get _ (by rw [(rl_ink t ht).2.2.2.1]; omega), bnd_s]
theorem q_y {t s k : Nat} (ht : t < 2) (hs : s < ns t) (hk : k < 8) (σ : St) : mX1_yOf t (nI s) (nI k) σ = some (σ (10 + 5 * t) (8 * s + k), σ) := by
  unfold mX1_yOf
  rw [il 8, pk_mul, nI_add, show s * 8 + k = 8 * s + k by omega, q_get _ (by rw [(rl_ink t ht).2.2.2.2]; omega), bnd_s]
/-- the state with another pen at s -/
theorem Inv_pen {a : Ab} {v : St} (I : Inv a v) {s n L : Nat} {v' : St} (hs : s < a 0 0) (hn : n ≤ 8) (hL : L < 4) (hv : v' 6 = v 6) : Inv (upN (upN a 10 s n) 11 s L) v' := by
  obtain ⟨i1, i2, i3, i4, i5, i6, i7⟩ := I
  have r : ∀ k, k ≠ 10 → k ≠ 11 → (upN (upN a 10 s n) 11 s L) k = a k := fun k h1 h2 => by rw [upN_row h2, upN_row h1]
  generalize hA : upN (upN a 10 s n) 11 s L = a' at r ⊢
  have t := tot_row (r 1 (by omega) (by omega))
  refine ⟨?_, fun s' hs' => ?_, ?_, ?_, ?_, ?_, ?_⟩
  · unfold I_n; rw [r 0 (by omega) (by omega)]; exact i1
  · obtain ⟨j1, j2, j3, j4, j5⟩ := i2 s' hs'
    rw [r 1 (by omega) (by omega), r 2 (by omega) (by omega), r 0 (by omega) (by omega), t, ← hA]
    simp only [upN_at]
    by_cases e : s' = s
    · subst e
      simp
      exact ⟨j1, hn, hL, j4, fun h => absurd h (by omega)⟩
    · simp [e]
      exact ⟨j1, j2, j3, j4, j5⟩
  · unfold I_k mk; rw [r 0 (by omega) (by omega), r 1 (by omega) (by omega), r 2 (by omega) (by omega), r 3 (by omega) (by omega), r 5 (by omega) (by omega)]; exact i3
  · unfold I_o mk; rw [r 1 (by omega) (by omega), r 3 (by omega) (by omega), r 4 (by omega) (by omega), r 5 (by omega) (by omega), r 6 (by omega) (by omega), r 7 (by omega) (by omega), r 8 (by omega) (by omega), t, hv]; exact i4
  · unfold Tms mk; rw [r 1 (by omega) (by omega), r 5 (by omega) (by omega)]; exact i5
  · unfold Ord mk bf; rw [r 1 (by omega) (by omega), r 5 (by omega) (by omega), r 9 (by omega) (by omega), t]; exact i6
  · unfold I_l; rw [r 0 (by omega) (by omega), r 1 (by omega) (by omega), r 12 (by omega) (by omega), r 13 (by omega) (by omega)]; exact i7
theorem RepC_pen {a : Ab} {v σ : St} (C : RepC a v σ) {s n L : Nat} {v' σ' : St} (hv : ∀ k, k ≠ 3 → k ≠ 4 → k ≠ 5 → v' k = v k) (hσ : ∀ k, (k < 11 ∨ 15 < k) → σ' k = σ k) (hs : C_s (upN (upN a 10 s n) 11 s L) v' σ') : RepC (upN (upN a 10 s n) 11 s L) v' σ' := by
  obtain ⟨c1, c2, c3, c4, c5, c6⟩ := C
  have r : ∀ k, k ≠ 10 → k ≠ 11 → (upN (upN a 10 s n) 11 s L) k = a k := fun k h1 h2 => by rw [upN_row h2, upN_row h1]
  generalize hA : upN (upN a 10 s n) 11 s L = a' at r hs ⊢
  have t := tot_row (r 1 (by omega) (by omega))
  refine ⟨?_, hs, ?_, ?_, ?_, ?_⟩
  · rw [r 0 (by omega) (by omega), hσ 27 (by omega)]; exact c1
  · unfold C_k; rw [r 3 (by omega) (by omega), hσ 16 (by omega)]; exact c3
  · unfold C_o mk
    rw [r 1 (by omega) (by omega), r 4 (by omega) (by omega), r 5 (by omega) (by omega), r 6 (by omega) (by omega), r 7 (by omega) (by omega), hv 6 (by omega) (by omega) (by omega), hv 0 (by omega) (by omega) (by omega), hv 1 (by omega) (by omega) (by omega), hv 2 (by omega) (by omega) (by omega), hσ 1 (by omega), hσ 2 (by omega), hσ 4 (by omega), hσ 3 (by omega), hσ 6 (by omega), hσ 7 (by omega), hσ 9 (by omega), hσ 10 (by omega)]
    exact c4
  · unfold C_t; rw [r 9 (by omega) (by omega), t, hσ 28 (by omega), hσ 5 (by omega)]; exact c5
  · unfold C_l; rw [r 12 (by omega) (by omega), r 13 (by omega) (by omega), hσ 18 (by omega), hσ 19 (by omega)]; exact c6
theorem RepM_pen {a : Ab} {v τ : St} (M : RepM a v τ) {s n L : Nat} {v' τ' : St} (hv : ∀ k, k ≠ 3 → k ≠ 4 → k ≠ 5 → v' k = v k) (hτ : ∀ k, k ≠ 4 → τ' k = τ k) (hs : M_s (upN (upN a 10 s n) 11 s L) v' τ') : RepM (upN (upN a 10 s n) 11 s L) v' τ' := by
  obtain ⟨c1, c2, c3, c4, c6⟩ := M
  have r : ∀ k, k ≠ 10 → k ≠ 11 → (upN (upN a 10 s n) 11 s L) k = a k := fun k h1 h2 => by rw [upN_row h2, upN_row h1]
  generalize hA : upN (upN a 10 s n) 11 s L = a' at r hs ⊢
  refine ⟨?_, hs, ?_, ?_, ?_⟩
  · rw [r 0 (by omega) (by omega), hτ 12 (by omega)]; exact c1
  · unfold M_k; rw [r 3 (by omega) (by omega), hτ 3 (by omega)]; exact c3
  · unfold M_o mk
    rw [r 1 (by omega) (by omega), r 4 (by omega) (by omega), r 5 (by omega) (by omega), r 6 (by omega) (by omega), r 7 (by omega) (by omega), hv 6 (by omega) (by omega) (by omega), hv 0 (by omega) (by omega) (by omega), hv 1 (by omega) (by omega) (by omega), hv 2 (by omega) (by omega) (by omega), hτ 0 (by omega)]
    exact c4
  · unfold M_l; rw [r 12 (by omega) (by omega), r 13 (by omega) (by omega), hτ 5 (by omega), hτ 6 (by omega)]; exact c6
theorem op_penDown {σ τ : St} (R : Rel σ τ) (x p q c l : Int32) : Same (mX6_penDown x p q c l σ) (mX7_penDown x p q c l τ) := by
  obtain ⟨a, v, I, C, M⟩ := id R
  have h5 := I.1.2
  unfold mX6_penDown mX7_penDown
  refine Same_site I C M (fun s hs ex => ?_)
  refine Same_in R (fun _ _ => ?_)
  refine Same_in R (fun _ _ => ?_)
  refine Same_in R (fun _ _ => ?_)
  refine Same_in R (fun hl0 hl3 => ?_)
  subst ex
  obtain ⟨L, -, hL, rfl⟩ := iv (lo := 0) (hi := 3) hl0 hl3 (by omega) (by omega)
  have hn1 : s < ns 1 := by show s < 5; omega
  rw [q_start (by omega) hn1, bnv_s, q_add (n := 0) (by omega) hn1 (by omega) _ _ (by simp only [ups_at]; simp; rfl), bnv_s, q_pc (by omega) hn1, bnd_s]
  simp only [show (19 : Int32) * nI s = nI (19 * s) from by rw [il 19, pk_mul]]
  rw [ix_n (by omega) (by decide), nI_clamp (by omega)]
  simp only [lts_s, lti_s]
  rw [il 1, nI_add, ix_n (by omega) (by decide), nI_clamp (by omega), il 2, nI_add, ix_n (by omega) (by decide), nI_clamp (by omega), il 3, nI_add, ix_n (by omega) (by decide), nI_clamp (by omega), il 4, nI_add, ix_n (by omega) (by decide), nI_clamp (by omega)]
  refine Same_e (by simp only [ups_at]; simp) ⟨upN (upN a 10 s 1) 11 s L, ups (ups (ups v 3 s c) 4 (8 * s) p) 5 (8 * s) q, Inv_pen I hs (by omega) (by omega) (by rw [ups_row (by omega), ups_row (by omega), ups_row (by omega)]), RepC_pen C (fun k h1 h2 h3 => by rw [ups_row h3, ups_row h2, ups_row h1]) (fun k hk => by rw [ups_row (by omega), ups_row (by omega), ups_row (by omega), ups_row (by omega), ups_row (by omega), ups_row (by omega)]) ?_, RepM_pen M (fun k h1 h2 h3 => by rw [ups_row h3, ups_row h2, ups_row h1]) (fun k hk => by rw [ups_row hk, ups_row hk, ups_row hk, ups_row hk, ups_row hk]) ?_⟩
  · intro s' hs'
    obtain ⟨j1, j2, j3, j4, j5⟩ := C.2.1 s' hs'
    rw [upN_row (show 1 ≠ 11 by omega), upN_row (show 1 ≠ 10 by omega), upN_row (show 2 ≠ 11 by omega), upN_row (show 2 ≠ 10 by omega)]
    refine ⟨?_, ?_, ?_⟩
    · rw [← j1]; simp only [ups_at]; simp
    · rw [← j2]; simp only [ups_at]; simp
    · by_cases e : s' = s
      · subst e
        simp only [upN_at, ups_at]
        refine ⟨by simp, fun _ => ⟨by simp, by simp⟩, fun k hk => ?_⟩
        have hk0 : k = 0 := by simp at hk; omega
        subst hk0
        simp
      · simp only [upN_at, ups_at]
        simp [e]
        refine ⟨j3, j4, fun k hk => ?_⟩
        have := j5 k hk
        have h8 := (I.2.1 s' hs').2.1
        rw [if_neg (by omega), if_neg (by omega), if_neg (by omega), if_neg (by omega)]
        exact this
  · intro s' hs'
    obtain ⟨j1, j2, j3, j4, j5⟩ := M.2.1 s' hs'
    rw [upN_row (show 1 ≠ 11 by omega), upN_row (show 1 ≠ 10 by omega), upN_row (show 2 ≠ 11 by omega), upN_row (show 2 ≠ 10 by omega)]
    refine ⟨?_, ?_, ?_⟩
    · rw [← j1]; simp only [ups_at]; simp
    · rw [← j2]; simp only [ups_at]; simp
    · by_cases e : s' = s
      · subst e
        simp only [upN_at, ups_at]
        refine ⟨?_, fun _ => ⟨?_, ?_⟩, fun k hk => ?_⟩
        · simp
        · simp
        · simp
        · have hk0 : k = 0 := by simp at hk; omega
          subst hk0
          simp
      · have h8 := (I.2.1 s' hs').2.1
        simp only [upN_at, ups_at]
        simp [e]
        refine ⟨?_, fun h0 => ?_, fun k hk => ?_⟩
        · rw [if_neg (by omega), if_neg (by omega), if_neg (by omega), if_neg (by omega), if_neg (by omega)]; exact j3
        · rw [if_neg (by omega), if_neg (by omega), if_neg (by omega), if_neg (by omega), if_neg (by omega), if_neg (by omega), if_neg (by omega), if_neg (by omega), if_neg (by omega), if_neg (by omega)]; exact j4 h0
        · rw [if_neg (by omega), if_neg (by omega), if_neg (by omega), if_neg (by omega), if_neg (by omega), if_neg (by omega), if_neg (by omega), if_neg (by omega), if_neg (by omega), if_neg (by omega), if_neg (by omega), if_neg (by omega)]; exact j5 k hk
