/-! Pens. -/
def upN (a : Ab) (k j x : Nat) : Ab := fun k' j' => if k' = k ∧ j' = j then x else a k' j'
theorem upN_at (a : Ab) (k j x k' j' : Nat) : upN a k j x k' j' = if k' = k ∧ j' = j then x else a k' j' := rfl
theorem upN_row {a : Ab} {k j x k' : Nat} (h : k' ≠ k) : upN a k j x k' = a k' := by
  funext j'
  rw [upN_at, if_neg (fun q => h q.1)]
theorem tot_row {a a' : Ab} (h : a' 1 = a 1) : tot a' = tot a := by unfold tot; rw [h]
theorem q_start {t s : Nat} (ht : t < 2) (hs : s < ns t) (c l : Int32) (σ : St) : mX1_start t (nI s) c l σ = some (ups (ups (ups σ (6 + 5 * t) s 0) (7 + 5 * t) s c) (8 + 5 * t) s l) := by
  obtain ⟨r1, r2, r3, -, -⟩ := rl_ink t ht
  unfold mX1_start mX1_empty
  rw [q_set _ _ (by rw [r1]; exact hs), bnv_s, bnv_s, q_set _ _ (by rw [r2]; exact hs), bnv_s, q_set _ _ (by rw [r3]; exact hs), bnv_s]
theorem q_add {t s n : Nat} (ht : t < 2) (hs : s < ns t) (hn : n < 8) {σ : St} (x y : Int32) (h : σ (6 + 5 * t) s = nI n) : mX1_addPoint t (nI s) x y σ = some (ups (ups (ups σ (9 + 5 * t) (8 * s + n) x) (10 + 5 * t) (8 * s + n) y) (6 + 5 * t) s (nI (n + 1))) := by
  obtain ⟨r1, r2, r3, r4, r5⟩ := rl_ink t ht
  unfold mX1_addPoint
  rw [q_get _ (by rw [r1]; exact hs), bnd_s, h, if_neg (show ¬ (8 : Int32) ≤ nI n from nI_ge (b := 8) hn (by omega)), il 8, pk_mul, nI_add, show s * 8 + n = 8 * s + n by omega, q_set _ _ (by rw [r4]; omega), bnv_s, q_set _ _ (by rw [r5]; omega), bnv_s, nI_1, q_set _ _ (by rw [r1]; exact hs), bnv_s]
theorem q_pc {t s : Nat} (ht : t < 2) (hs : s < ns t) (σ : St) : mX1_pointCount t (nI s) σ = some (σ (6 + 5 * t) s, σ) := by
  unfold mX1_pointCount
  rw [q_get _ (by rw [(rl_ink t ht).1]; exact hs), bnd_s]
theorem q_col {t s : Nat} (ht : t < 2) (hs : s < ns t) (σ : St) : mX1_colorOf t (nI s) σ = some (σ (7 + 5 * t) s, σ) := by
  unfold mX1_colorOf
  rw [q_get _ (by rw [(rl_ink t ht).2.1]; exact hs), bnd_s]
theorem q_lay {t s : Nat} (ht : t < 2) (hs : s < ns t) (σ : St) : mX1_layerOf t (nI s) σ = some (σ (8 + 5 * t) s, σ) := by
  unfold mX1_layerOf
  rw [q_get _ (by rw [(rl_ink t ht).2.2.1]; exact hs), bnd_s]
theorem q_x {t s k : Nat} (ht : t < 2) (hs : s < ns t) (hk : k < 8) (σ : St) : mX1_xOf t (nI s) (nI k) σ = some (σ (9 + 5 * t) (8 * s + k), σ) := by
  unfold mX1_xOf
  rw [il 8, pk_mul, nI_add, show s * 8 + k = 8 * s + k by omega, q_get _ (by rw [(rl_ink t ht).2.2.2.1]; omega), bnd_s]
theorem q_y {t s k : Nat} (ht : t < 2) (hs : s < ns t) (hk : k < 8) (σ : St) : mX1_yOf t (nI s) (nI k) σ = some (σ (10 + 5 * t) (8 * s + k), σ) := by
  unfold mX1_yOf
  rw [il 8, pk_mul, nI_add, show s * 8 + k = 8 * s + k by omega, q_get _ (by rw [(rl_ink t ht).2.2.2.2]; omega), bnd_s]
/-- the state with another pen at s -/
theorem Inv_pen {a : Ab} {v : St} (I : Inv a v) {s n L : Nat} {v' : St} (hs : s < a 0 0) (hn : n ≤ 8) (hL : L < 4) (hv : v' 6 = v 6) : Inv (upN (upN a 10 s n) 11 s L) v' := by
  obtain ⟨i1, i2, i3, i4, i5, i6, i7⟩ := I
  have r : ∀ k, k ≠ 10 → k ≠ 11 → (upN (upN a 10 s n) 11 s L) k = a k := fun k h1 h2 => by rw [upN_row h2, upN_row h1]
  generalize hA : upN (upN a 10 s n) 11 s L = a' at r ⊢
  have t := tot_row (r 1 (by omega) (by omega))
  refine ⟨?_, fun s' hs' => ?_, ?_, ?_, ?_, ?_, ?_⟩
  · unfold I_n; rw [r 0 (by omega) (by omega)]; exact i1
  · obtain ⟨j1, j2, j3, j4, j5⟩ := i2 s' hs'
    rw [r 1 (by omega) (by omega), r 2 (by omega) (by omega), r 0 (by omega) (by omega), t, ← hA]
    simp only [upN_at]
    by_cases e : s' = s
    · subst e
      simp
      exact ⟨j1, hn, hL, j4, fun h => absurd h (by omega)⟩
    · simp [e]
      exact ⟨j1, j2, j3, j4, j5⟩
  · unfold I_k mk; rw [r 0 (by omega) (by omega), r 1 (by omega) (by omega), r 2 (by omega) (by omega), r 3 (by omega) (by omega), r 5 (by omega) (by omega)]; exact i3
  · unfold I_o mk; rw [r 1 (by omega) (by omega), r 3 (by omega) (by omega), r 4 (by omega) (by omega), r 5 (by omega) (by omega), r 6 (by omega) (by omega), r 7 (by omega) (by omega), r 8 (by omega) (by omega), t, hv]; exact i4
  · unfold Tms mk; rw [r 1 (by omega) (by omega), r 5 (by omega) (by omega)]; exact i5
  · unfold Ord mk bf; rw [r 1 (by omega) (by omega), r 5 (by omega) (by omega), r 9 (by omega) (by omega), t]; exact i6
  · unfold I_l; rw [r 0 (by omega) (by omega), r 1 (by omega) (by omega), r 12 (by omega) (by omega), r 13 (by omega) (by omega)]; exact i7
theorem RepC_pen {a : Ab} {v σ : St} (C : RepC a v σ) {s n L : Nat} {v' σ' : St} (hv : ∀ k, k ≠ 3 → k ≠ 4 → k ≠ 5 → v' k = v k) (hσ : ∀ k, (k < 11 ∨ 15 < k) → σ' k = σ k) (hs : C_s (upN (upN a 10 s n) 11 s L) v' σ') : RepC (upN (upN a 10 s n) 11 s L) v' σ' := by
  obtain ⟨c1, c2, c3, c4, c5, c6⟩ := C
  have r : ∀ k, k ≠ 10 → k ≠ 11 → (upN (upN a 10 s n) 11 s L) k = a k := fun k h1 h2 => by rw [upN_row h2, upN_row h1]
  generalize hA : upN (upN a 10 s n) 11 s L = a' at r hs ⊢
  have t := tot_row (r 1 (by omega) (by omega))
  refine ⟨?_, hs, ?_, ?_, ?_, ?_⟩
  · rw [r 0 (by omega) (by omega), hσ 27 (by omega)]; exact c1
  · unfold C_k; rw [r 3 (by omega) (by omega), hσ 16 (by omega)]; exact c3
  · unfold C_o mk
    rw [r 1 (by omega) (by omega), r 4 (by omega) (by omega), r 5 (by omega) (by omega), r 6 (by omega) (by omega), r 7 (by omega) (by omega), hv 6 (by omega) (by omega) (by omega), hv 0 (by omega) (by omega) (by omega), hv 1 (by omega) (by omega) (by omega), hv 2 (by omega) (by omega) (by omega), hσ 1 (by omega), hσ 2 (by omega), hσ 4 (by omega), hσ 3 (by omega), hσ 6 (by omega), hσ 7 (by omega), hσ 9 (by omega), hσ 10 (by omega)]
    exact c4
  · unfold C_t; rw [r 9 (by omega) (by omega), t, hσ 28 (by omega), hσ 5 (by omega)]; exact c5
  · unfold C_l; rw [r 12 (by omega) (by omega), r 13 (by omega) (by omega), hσ 18 (by omega), hσ 19 (by omega)]; exact c6
