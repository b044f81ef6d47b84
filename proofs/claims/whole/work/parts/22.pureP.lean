/-! A message taken off a link; an operation learnt: deliver, lose. -/
def dropA (a : Ab) (L : Nat) : Ab := fun k j => if k = 12 ∧ j = L then a 12 L - 1 else if k = 13 ∧ j / 10 = L then a 13 (j + 1) else a k j
def learnA (a : Ab) (t i : Nat) : Ab := upN (upN a 3 (100 * t + i) 1) 2 t (if a 2 t < a 5 i then a 5 i else a 2 t)
theorem dropA_row {a : Ab} {L k : Nat} (h : k ≠ 12) (h2 : k ≠ 13) : dropA a L k = a k := by
  funext j
  unfold dropA
  rw [if_neg (fun q => h q.1), if_neg (fun q => h2 q.1)]
theorem learnA_row {a : Ab} {t i k : Nat} (h : k ≠ 2) (h2 : k ≠ 3) : learnA a t i k = a k := by
  unfold learnA
  rw [upN_row h, upN_row h2]
theorem learnA_3 (a : Ab) (t i j : Nat) : learnA a t i 3 j = if j = 100 * t + i then 1 else a 3 j := by
  unfold learnA
  rw [upN_row (by omega), upN_at]
  by_cases e : j = 100 * t + i
  · rw [if_pos ⟨rfl, e⟩, if_pos e]
  · rw [if_neg (fun q => e q.2), if_neg e]
theorem learnA_2 (a : Ab) (t i s : Nat) : learnA a t i 2 s = if s = t then (if a 2 t < a 5 i then a 5 i else a 2 t) else a 2 s := by
  unfold learnA
  rw [upN_at, upN_row (by omega)]
  by_cases e : s = t
  · rw [if_pos ⟨rfl, e⟩, if_pos e]
  · rw [if_neg (fun q => e q.2), if_neg e]
theorem drop_learn (a : Ab) (L t i : Nat) : dropA (learnA a t i) L = learnA (dropA a L) t i := by
  funext k j
  by_cases h2 : k = 2
  · subst h2
    rw [dropA_row (by omega) (by omega), learnA_2, learnA_2, dropA_row (by omega) (by omega), dropA_row (by omega) (by omega)]
  by_cases h3 : k = 3
  · subst h3
    rw [dropA_row (by omega) (by omega), learnA_3, learnA_3, dropA_row (by omega) (by omega)]
  rw [learnA_row h2 h3]
  unfold dropA
  rw [learnA_row (show 12 ≠ 2 by omega) (by omega), learnA_row (show 13 ≠ 2 by omega) (by omega), learnA_row h2 h3]
theorem Inv_drop {a : Ab} {v : St} (I : Inv a v) {L : Nat} (hL : L < 25) (h0 : a 12 L ≠ 0) : Inv (dropA a L) v := by
  obtain ⟨i1, i2, i3, i4, i5, i6, i7⟩ := I
  have r : ∀ k, k ≠ 12 → k ≠ 13 → dropA a L k = a k := fun k h1 h2 => dropA_row h1 h2
  have t := tot_row (r 1 (by omega) (by omega))
  refine ⟨?_, ?_, ?_, ?_, ?_, ?_, fun L' hL' => ?_⟩
  · unfold I_n; rw [r 0 (by omega) (by omega)]; exact i1
  · unfold I_s; rw [r 1 (by omega) (by omega), r 2 (by omega) (by omega), r 0 (by omega) (by omega), r 10 (by omega) (by omega), r 11 (by omega) (by omega), t]; exact i2
  · unfold I_k mk; rw [r 0 (by omega) (by omega), r 1 (by omega) (by omega), r 2 (by omega) (by omega), r 3 (by omega) (by omega), r 5 (by omega) (by omega)]; exact i3
  · unfold I_o mk; rw [r 1 (by omega) (by omega), r 3 (by omega) (by omega), r 4 (by omega) (by omega), r 5 (by omega) (by omega), r 6 (by omega) (by omega), r 7 (by omega) (by omega), r 8 (by omega) (by omega), t]; exact i4
  · unfold Tms mk; rw [r 1 (by omega) (by omega), r 5 (by omega) (by omega)]; exact i5
  · unfold Ord mk bf; rw [r 1 (by omega) (by omega), r 5 (by omega) (by omega), r 9 (by omega) (by omega), t]; exact i6
  · obtain ⟨j1, j2, j3⟩ := i7 L' hL'
    rw [r 0 (by omega) (by omega), r 1 (by omega) (by omega)]
    unfold dropA
    by_cases e : L' = L
    · subst e
      rw [if_pos ⟨rfl, rfl⟩]
      refine ⟨by omega, fun _ => j2 h0, fun k hk => ?_⟩
      rw [if_neg (by omega), if_pos ⟨rfl, by omega⟩]
      exact j3 (k + 1) (by omega)
    · rw [if_neg (fun q => e q.2), if_neg (by omega)]
      refine ⟨j1, j2, fun k hk => ?_⟩
      rw [if_neg (by omega), if_neg (by omega)]
      exact j3 k hk
theorem Inv_learn {a : Ab} {v : St} (I : Inv a v) {t i : Nat} (ht : t < a 0 0) (hi : mk a i) : Inv (learnA a t i) v := by
  obtain ⟨i1, i2, i3, i4, i5, i6, i7⟩ := I
  have h5 := i1.2
  have hi1 := hi.1
  have r : ∀ k, k ≠ 2 → k ≠ 3 → learnA a t i k = a k := fun k h1 h2 => learnA_row h1 h2
  have tt := tot_row (r 1 (by omega) (by omega))
  have hT := (i4 i hi).2.1
  have hmono : ∀ s, a 2 s ≤ learnA a t i 2 s := fun s => by
    rw [learnA_2]
    by_cases e : s = t
    · subst e; rw [if_pos rfl]; by_cases c : a 2 s < a 5 i
      · rw [if_pos c]; omega
      · rw [if_neg c]; omega
    · rw [if_neg e]; omega
  refine ⟨?_, fun s hs => ?_, fun s j hs hj => ?_, fun j hj => ?_, ?_, ?_, ?_⟩
  · unfold I_n; rw [r 0 (by omega) (by omega)]; exact i1
  · obtain ⟨j1, j2, j3, j4, j5⟩ := i2 s hs
    rw [r 1 (by omega) (by omega), r 0 (by omega) (by omega), r 10 (by omega) (by omega), r 11 (by omega) (by omega), tt, learnA_2]
    refine ⟨j1, j2, j3, ?_, fun h => ?_⟩
    · by_cases e : s = t
      · subst e; rw [if_pos rfl]; by_cases c : a 2 s < a 5 i
        · rw [if_pos c]; exact hT
        · rw [if_neg c]; exact j4
      · rw [if_neg e]; exact j4
    · rw [if_neg (by omega)]; exact j5 h
  · obtain ⟨j1, j2⟩ := i3 s j hs hj
    have hm := hmono s
    have hX : a 5 i ≤ learnA a t i 2 t := by
      rw [learnA_2, if_pos rfl]
      by_cases c : a 2 t < a 5 i
      · rw [if_pos c]; omega
      · rw [if_neg c]; omega
    unfold mk
    rw [r 1 (by omega) (by omega), r 0 (by omega) (by omega), r 5 (by omega) (by omega), learnA_3]
    by_cases e : 100 * s + j = 100 * t + i
    · have e1 : s = t := by omega
      have e2 : j = i := by omega
      subst e1; subst e2
      rw [if_pos rfl]
      exact ⟨by omega, fun _ => ⟨hi, ht, hX⟩⟩
    · rw [if_neg e]
      exact ⟨j1, fun h => ⟨(j2 h).1, (j2 h).2.1, by have := (j2 h).2.2; omega⟩⟩
  · have hj' : mk a j := by unfold mk at hj ⊢; rw [r 1 (by omega) (by omega)] at hj; exact hj
    have q := i4 j hj'
    unfold mk
    rw [r 1 (by omega) (by omega), r 4 (by omega) (by omega), r 5 (by omega) (by omega), r 6 (by omega) (by omega), r 7 (by omega) (by omega), r 8 (by omega) (by omega), tt, learnA_3]
    refine ⟨?_, q.2⟩
    by_cases e : 100 * (j / 20) + j = 100 * t + i
    · rw [if_pos e]
    · rw [if_neg e]; exact q.1
  · unfold Tms mk; rw [r 1 (by omega) (by omega), r 5 (by omega) (by omega)]; exact i5
  · unfold Ord mk bf; rw [r 1 (by omega) (by omega), r 5 (by omega) (by omega), r 9 (by omega) (by omega), tt]; exact i6
  · unfold I_l; rw [r 0 (by omega) (by omega), r 1 (by omega) (by omega), r 12 (by omega) (by omega), r 13 (by omega) (by omega)]; exact i7
theorem RepC_drop {a : Ab} {v σ σ' : St} (I : Inv a v) (C : RepC a v σ) {L : Nat} (hL : L < 25) (h0 : a 12 L ≠ 0) (h : ∀ k, k ≠ 18 → k ≠ 19 → σ' k = σ k) (h18 : σ' 18 = upd (σ 18) L (nI (a 12 L - 1))) (h19 : ∀ j, σ' 19 j = if 10 * L ≤ j ∧ j < 10 * L + (a 12 L - 1) then σ 19 (j + 1) else σ 19 j) : RepC (dropA a L) v σ' := by
  obtain ⟨c1, c2, c3, c4, c5, c6⟩ := C
  have r : ∀ k, k ≠ 12 → k ≠ 13 → dropA a L k = a k := fun k h1 h2 => dropA_row h1 h2
  have t := tot_row (r 1 (by omega) (by omega))
  refine ⟨?_, ?_, ?_, ?_, ?_, fun L' hL' => ?_⟩
  · rw [r 0 (by omega) (by omega), h 27 (by omega) (by omega)]; exact c1
  · unfold C_s
    rw [r 1 (by omega) (by omega), r 2 (by omega) (by omega), r 10 (by omega) (by omega), r 11 (by omega) (by omega), h 0 (by omega) (by omega), h 26 (by omega) (by omega), h 11 (by omega) (by omega), h 12 (by omega) (by omega), h 13 (by omega) (by omega), h 14 (by omega) (by omega), h 15 (by omega) (by omega)]; exact c2
  · unfold C_k; rw [r 3 (by omega) (by omega), h 16 (by omega) (by omega)]; exact c3
  · unfold C_o mk
    rw [r 1 (by omega) (by omega), r 4 (by omega) (by omega), r 5 (by omega) (by omega), r 6 (by omega) (by omega), r 7 (by omega) (by omega), h 1 (by omega) (by omega), h 2 (by omega) (by omega), h 3 (by omega) (by omega), h 4 (by omega) (by omega), h 6 (by omega) (by omega), h 7 (by omega) (by omega), h 9 (by omega) (by omega), h 10 (by omega) (by omega)]; exact c4
  · unfold C_t; rw [r 9 (by omega) (by omega), t, h 28 (by omega) (by omega), h 5 (by omega) (by omega)]; exact c5
  · obtain ⟨j1, j2⟩ := c6 L' hL'
    rw [h18, upd_at]
    unfold dropA
    by_cases e : L' = L
    · subst e
      rw [if_pos rfl, if_pos ⟨rfl, rfl⟩]
      refine ⟨rfl, fun k hk => ?_⟩
      rw [if_neg (by omega), if_pos ⟨rfl, by have := (I.2.2.2.2.2.2 L' hL').1; omega⟩, h19, if_pos (by omega)]
      exact j2 (k + 1) (by omega)
    · rw [if_neg e, if_neg (fun q => e q.2)]
      refine ⟨j1, fun k hk => ?_⟩
      have h10 := (I.2.2.2.2.2.2 L' hL').1
      have h11 := (I.2.2.2.2.2.2 L hL).1
      rw [if_neg (by omega)] at hk
      rw [if_neg (by omega), if_neg (by omega), h19, if_neg (by omega)]
      exact j2 k hk
theorem RepM_drop {a : Ab} {v τ τ' : St} (I : Inv a v) (M : RepM a v τ) {L : Nat} (hL : L < 25) (h0 : a 12 L ≠ 0) (h : ∀ k, k ≠ 5 → k ≠ 6 → τ' k = τ k) (h18 : τ' 6 = upd (τ 6) L (nI (a 12 L - 1))) (h19 : ∀ j, τ' 5 j = if 10 * L ≤ j ∧ j < 10 * L + (a 12 L - 1) then τ 5 (j + 1) else τ 5 j) : RepM (dropA a L) v τ' := by
  obtain ⟨c1, c2, c3, c4, c6⟩ := M
  have r : ∀ k, k ≠ 12 → k ≠ 13 → dropA a L k = a k := fun k h1 h2 => dropA_row h1 h2
  refine ⟨?_, ?_, ?_, ?_, fun L' hL' => ?_⟩
  · rw [r 0 (by omega) (by omega), h 12 (by omega) (by omega)]; exact c1
  · unfold M_s
    rw [r 1 (by omega) (by omega), r 2 (by omega) (by omega), r 10 (by omega) (by omega), r 11 (by omega) (by omega), h 1 (by omega) (by omega), h 2 (by omega) (by omega), h 4 (by omega) (by omega)]; exact c2
  · unfold M_k; rw [r 3 (by omega) (by omega), h 3 (by omega) (by omega)]; exact c3
  · unfold M_o mk
    rw [r 1 (by omega) (by omega), r 4 (by omega) (by omega), r 5 (by omega) (by omega), r 6 (by omega) (by omega), r 7 (by omega) (by omega), h 0 (by omega) (by omega)]; exact c4
  · obtain ⟨j1, j2⟩ := c6 L' hL'
    rw [h18, upd_at]
    unfold dropA
    by_cases e : L' = L
    · subst e
      rw [if_pos rfl, if_pos ⟨rfl, rfl⟩]
      refine ⟨rfl, fun k hk => ?_⟩
      rw [if_neg (by omega), if_pos ⟨rfl, by have := (I.2.2.2.2.2.2 L' hL').1; omega⟩, h19, if_pos (by omega)]
      exact j2 (k + 1) (by omega)
    · rw [if_neg e, if_neg (fun q => e q.2)]
      refine ⟨j1, fun k hk => ?_⟩
      have h10 := (I.2.2.2.2.2.2 L' hL').1
      have h11 := (I.2.2.2.2.2.2 L hL).1
      rw [if_neg (by omega)] at hk
      rw [if_neg (by omega), if_neg (by omega), h19, if_neg (by omega)]
      exact j2 k hk
theorem RepC_learn {a : Ab} {v σ : St} (C : RepC a v σ) (t i : Nat) : RepC (learnA a t i) v (ups (ups σ 16 (100 * t + i) 1) 26 t (nI (if a 2 t < a 5 i then a 5 i else a 2 t))) := by
  obtain ⟨c1, c2, c3, c4, c5, c6⟩ := C
  have r : ∀ k, k ≠ 2 → k ≠ 3 → learnA a t i k = a k := fun k h1 h2 => learnA_row h1 h2
  have tt := tot_row (r 1 (by omega) (by omega))
  refine ⟨?_, fun s hs => ?_, fun j hj => ?_, ?_, ?_, ?_⟩
  · rw [r 0 (by omega) (by omega), ups_row (by omega), ups_row (by omega)]; exact c1
  · obtain ⟨j1, j2, j3⟩ := c2 s hs
    rw [r 1 (by omega) (by omega), r 10 (by omega) (by omega), r 11 (by omega) (by omega), ups_row (show 0 ≠ 26 by omega), ups_row (show 0 ≠ 16 by omega), ups_row (show 11 ≠ 26 by omega), ups_row (show 11 ≠ 16 by omega), ups_row (show 12 ≠ 26 by omega), ups_row (show 12 ≠ 16 by omega), ups_row (show 13 ≠ 26 by omega), ups_row (show 13 ≠ 16 by omega), ups_row (show 14 ≠ 26 by omega), ups_row (show 14 ≠ 16 by omega), ups_row (show 15 ≠ 26 by omega), ups_row (show 15 ≠ 16 by omega), ups_at, learnA_2]
    refine ⟨j1, ?_, j3⟩
    by_cases e : s = t
    · rw [if_pos ⟨rfl, e⟩, if_pos e]
    · rw [if_neg (fun q => e q.2), if_neg e, ups_row (by omega)]; exact j2
  · rw [ups_row (by omega), ups_at, learnA_3]
    by_cases e : j = 100 * t + i
    · rw [if_pos ⟨rfl, e⟩, if_pos e]; rfl
    · rw [if_neg (fun q => e q.2), if_neg e]; exact c3 j hj
  · unfold C_o mk
    rw [r 1 (by omega) (by omega), r 4 (by omega) (by omega), r 5 (by omega) (by omega), r 6 (by omega) (by omega), r 7 (by omega) (by omega), ups_row (show 1 ≠ 26 by omega), ups_row (show 1 ≠ 16 by omega), ups_row (show 2 ≠ 26 by omega), ups_row (show 2 ≠ 16 by omega), ups_row (show 3 ≠ 26 by omega), ups_row (show 3 ≠ 16 by omega), ups_row (show 4 ≠ 26 by omega), ups_row (show 4 ≠ 16 by omega), ups_row (show 6 ≠ 26 by omega), ups_row (show 6 ≠ 16 by omega), ups_row (show 7 ≠ 26 by omega), ups_row (show 7 ≠ 16 by omega), ups_row (show 9 ≠ 26 by omega), ups_row (show 9 ≠ 16 by omega), ups_row (show 10 ≠ 26 by omega), ups_row (show 10 ≠ 16 by omega)]; exact c4
  · unfold C_t; rw [r 9 (by omega) (by omega), tt, ups_row (show 28 ≠ 26 by omega), ups_row (show 28 ≠ 16 by omega), ups_row (show 5 ≠ 26 by omega), ups_row (show 5 ≠ 16 by omega)]; exact c5
  · unfold C_l; rw [r 12 (by omega) (by omega), r 13 (by omega) (by omega), ups_row (show 18 ≠ 26 by omega), ups_row (show 18 ≠ 16 by omega), ups_row (show 19 ≠ 26 by omega), ups_row (show 19 ≠ 16 by omega)]; exact c6
theorem RepM_learn {a : Ab} {v τ : St} (M : RepM a v τ) (t i : Nat) : RepM (learnA a t i) v (ups (ups τ 3 (100 * t + i) 1) 2 t (nI (if a 2 t < a 5 i then a 5 i else a 2 t))) := by
  obtain ⟨c1, c2, c3, c4, c6⟩ := M
  have r : ∀ k, k ≠ 2 → k ≠ 3 → learnA a t i k = a k := fun k h1 h2 => learnA_row h1 h2
  refine ⟨?_, fun s hs => ?_, fun j hj => ?_, ?_, ?_⟩
  · rw [r 0 (by omega) (by omega), ups_row (by omega), ups_row (by omega)]; exact c1
  · obtain ⟨j1, j2, j3⟩ := c2 s hs
    rw [r 1 (by omega) (by omega), r 10 (by omega) (by omega), r 11 (by omega) (by omega), ups_row (show 1 ≠ 2 by omega), ups_row (show 1 ≠ 3 by omega), ups_row (show 4 ≠ 2 by omega), ups_row (show 4 ≠ 3 by omega), ups_at, learnA_2]
    refine ⟨j1, ?_, j3⟩
    by_cases e : s = t
    · rw [if_pos ⟨rfl, e⟩, if_pos e]
    · rw [if_neg (fun q => e q.2), if_neg e, ups_row (by omega)]; exact j2
  · rw [ups_row (by omega), ups_at, learnA_3]
    by_cases e : j = 100 * t + i
    · rw [if_pos ⟨rfl, e⟩, if_pos e]; rfl
    · rw [if_neg (fun q => e q.2), if_neg e]; exact c3 j hj
  · unfold M_o mk
    rw [r 1 (by omega) (by omega), r 4 (by omega) (by omega), r 5 (by omega) (by omega), r 6 (by omega) (by omega), r 7 (by omega) (by omega), ups_row (show 0 ≠ 2 by omega), ups_row (show 0 ≠ 3 by omega)]; exact c4
  · unfold M_l; rw [r 12 (by omega) (by omega), r 13 (by omega) (by omega), ups_row (show 6 ≠ 2 by omega), ups_row (show 6 ≠ 3 by omega), ups_row (show 5 ≠ 2 by omega), ups_row (show 5 ≠ 3 by omega)]; exact c6
/-- the class learns -/
theorem C_learn {a : Ab} {v σ : St} (I : Inv a v) (C : RepC a v σ) {t i : Nat} (ht : t < a 0 0) (hi : mk a i) : mX6_receive (nI t) (nI i) σ = some (ups (ups σ 16 (100 * t + i) 1) 26 t (nI (if a 2 t < a 5 i then a 5 i else a 2 t))) := by
  have h5 := I.1.2
  have hi1 := hi.1
  have hT := (I.2.2.2.1 i hi).2.1
  have h2 := (I.2.1 t (by omega)).2.2.2.1
  have h100 := tot_le I.2.1
  unfold mX6_receive mX2_learn
  rw [il 100, pk_mul, nI_add, q_set _ _ (show t * 100 + i < rl (16 + 0) by show _ < 500; omega), bnv_s, bnv_s, q_get _ (show t < rl 26 by show t < 5; omega), bnd_s, q_time _ hi1, bnd_s, ups_row (show 26 ≠ 16 + 0 by omega), ups_row (show 2 ≠ 16 + 0 by omega), (C.2.1 t (by omega)).2.1, (C.2.2.2.1 i hi).2.1, lti_s, show t * 100 + i = 100 * t + i by omega]
  by_cases c : a 2 t < a 5 i
  · rw [if_pos (nI_lt c (by omega)), if_pos c, q_set _ _ (show t < rl 26 by show t < 5; omega), bnv_s]
  · rw [if_neg (nI_nlt (by omega) (by omega)), if_neg c, q_set _ _ (show t < rl 26 by show t < 5; omega), bnv_s]
/-- the reference learns -/
theorem M_learn {a : Ab} {v τ : St} (I : Inv a v) (M : RepM a v τ) {t i : Nat} (ht : t < a 0 0) (hi : mk a i) : mX7_learns (nI t) (nI i) τ = some (ups (ups τ 3 (100 * t + i) 1) 2 t (nI (if a 2 t < a 5 i then a 5 i else a 2 t))) := by
  have h5 := I.1.2
  have hi1 := hi.1
  have hT := (I.2.2.2.1 i hi).2.1
  have h2 := (I.2.1 t (by omega)).2.2.2.1
  have h100 := tot_le I.2.1
  unfold mX7_learns mX7_learns_b47
  rw [il 100, pk_mul, nI_add, ix_n (show 100 * t + i < 500 by omega) (by decide), lts_s, nI_clamp (show 100 * t + i < 2 ^ 31 by omega), il 1, m_of _ (by omega), bnd_s, m_of _ (by omega), bnd_s]
  simp only [lts_s]
  rw [ix_n (show t < 5 by omega) (by decide), ix_n (show t < 5 by omega) (by decide), ix_n (show t < 5 by omega) (by decide), ix_n (show t < 5 by omega) (by decide), nI_clamp (show t < 2 ^ 31 by omega), ups_row (show 0 ≠ 3 by omega), ups_row (show 2 ≠ 3 by omega), (M.2.1 t (by omega)).2.1, (M.2.2.2.1 i hi).2.1]
  by_cases c : a 2 t < a 5 i
  · rw [if_neg (nI_ge c (by omega)), if_pos c]
  · rw [if_pos (nI_le (by omega) (by omega)), if_neg c]
theorem df_L {L c : Nat} (hL : L < 25) (hc : c < 10) : ∀ (d f k : Nat) (σ : St), k + d = c → d < f → ∃ σ', mX3_dropFirst_L27 f (nI L) (nI c) (nI (10 * L)) (nI k) σ = some σ' ∧ (∀ j, j ≠ 18 → j ≠ 19 → σ' j = σ j) ∧ σ' 18 = upd (σ 18) L (nI c) ∧ ∀ j, σ' 19 j = if 10 * L + k ≤ j ∧ j < 10 * L + c then σ 19 (j + 1) else σ 19 j := by
  intro d
  induction d with
  | zero =>
    intro f k σ h hf
    obtain ⟨f, rfl⟩ : ∃ g, f = g + 1 := ⟨f - 1, by omega⟩
    have : k = c := by omega
    subst this
    rw [mX3_dropFirst_L27, if_pos (nI_le (by omega) (by omega))]
    unfold mX3_dropFirst_b66
    rw [if_neg (nI_pos (by omega)), lti_s, q_set _ _ (show L < rl 18 from hL), bnv_s]
    exact ⟨_, rfl, fun j h1 h2 => ups_row h1, ups_same, fun j => by rw [ups_row (by omega), if_neg (by omega)]⟩
  | succ d ih =>
    intro f k σ h hf
    obtain ⟨f, rfl⟩ : ∃ g, f = g + 1 := ⟨f - 1, by omega⟩
    rw [mX3_dropFirst_L27, if_neg (nI_ge (by omega) (by omega)), nI_add, nI_1, q_get _ (show 10 * L + k + 1 < rl 19 by show _ < 250; omega), bnd_s, q_set _ _ (show 10 * L + k < rl 19 by show _ < 250; omega), bnv_s, nI_1]
    obtain ⟨σ', e1, e2, e3, e4⟩ := ih f (k + 1) (ups σ 19 (10 * L + k) (σ 19 (10 * L + k + 1))) (by omega) (by omega)
    refine ⟨σ', e1, fun j h1 h2 => by rw [e2 j h1 h2, ups_row h2], by rw [e3, ups_row (by omega)], fun j => ?_⟩
    rw [e4, ups_at, ups_at]
    by_cases c1 : 10 * L + (k + 1) ≤ j ∧ j < 10 * L + c
    · rw [if_pos c1, if_neg (by omega), if_pos (by omega)]
    · rw [if_neg c1]
      by_cases c2 : j = 10 * L + k
      · rw [if_pos ⟨rfl, c2⟩, if_pos (by omega), c2]
      · rw [if_neg (fun q => c2 q.2), if_neg (by omega)]
/-- the class takes the first message off -/
theorem C_drop {a : Ab} {v σ : St} (I : Inv a v) (C : RepC a v σ) {s t : Nat} (hs : s < 5) (ht : t < 5) (h0 : a 12 (5 * s + t) ≠ 0) : ∃ σ', mX3_dropFirst (nI s) (nI t) σ = some σ' ∧ RepC (dropA a (5 * s + t)) v σ' := by
  have hL : 5 * s + t < 25 := by omega
  have h10 := (I.2.2.2.2.2.2 _ hL).1
  unfold mX3_dropFirst
  rw [il 5, pk_mul, nI_add, show s * 5 + t = 5 * s + t by omega, q_get _ (show 5 * s + t < rl 18 from hL), bnd_s, (C.2.2.2.2.2 _ hL).1, il 1, pk_sub (by omega), il 10, pk_mul, show (5 * s + t) * 10 = 10 * (5 * s + t) by omega]
  obtain ⟨σ', e1, e2, e3, e4⟩ := df_L hL (show a 12 (5 * s + t) - 1 < 10 by omega) (a 12 (5 * s + t) - 1) fu 0 σ (by omega) (by rw [fu_eq]; omega)
  exact ⟨σ', e1, RepC_drop I C hL h0 e2 e3 (fun j => by rw [e4 j, Nat.add_zero])⟩
theorem tk_L {L c : Nat} {m : Int32} (hL : L < 25) (hc : c < 10) : ∀ (d f k : Nat) (τ : St), k + d = c → d < f → τ 6 L = nI c → ∃ τ', mX7_take_L22 f (nI L) m (nI k) τ = some (m, τ') ∧ (∀ j, j ≠ 5 → τ' j = τ j) ∧ ∀ j, τ' 5 j = if 10 * L + k ≤ j ∧ j < 10 * L + c then τ 5 (j + 1) else τ 5 j := by
  intro d
  induction d with
  | zero =>
    intro f k τ h hf h6
    obtain ⟨f, rfl⟩ : ∃ g, f = g + 1 := ⟨f - 1, by omega⟩
    have : k = c := by omega
    subst this
    rw [mX7_take_L22, ix_n hL (by decide), nI_clamp (by omega), h6, if_pos (nI_le (by omega) (by omega))]
    exact ⟨τ, rfl, fun _ _ => rfl, fun j => by rw [if_neg (by omega)]⟩
  | succ d ih =>
    intro f k τ h hf h6
    obtain ⟨f, rfl⟩ : ∃ g, f = g + 1 := ⟨f - 1, by omega⟩
    rw [mX7_take_L22, ix_n hL (by decide), nI_clamp (show L < 2 ^ 31 by omega), h6, if_neg (nI_ge (by omega) (by omega)), il 10, pk_mul, nI_add, nI_1, ix_n (show 10 * L + k + 1 < 250 by omega) (by decide), ix_n (show 10 * L + k < 250 by omega) (by decide), lts_s, nI_clamp (by omega), nI_clamp (by omega), nI_1]
    obtain ⟨τ', e1, e2, e4⟩ := ih f (k + 1) (ups τ 5 (10 * L + k) (τ 5 (10 * L + k + 1))) (by omega) (by omega) (by rw [ups_row (by omega)]; exact h6)
    refine ⟨τ', e1, fun j h2 => by rw [e2 j h2, ups_row h2], fun j => ?_⟩
    rw [e4, ups_at, ups_at]
    by_cases c1 : 10 * L + (k + 1) ≤ j ∧ j < 10 * L + c
    · rw [if_pos c1, if_neg (by omega), if_pos (by omega)]
    · rw [if_neg c1]
      by_cases c2 : j = 10 * L + k
      · rw [if_pos ⟨rfl, c2⟩, if_pos (by omega), c2]
      · rw [if_neg (fun q => c2 q.2), if_neg (by omega)]
theorem M_take {a : Ab} {v τ : St} (I : Inv a v) (M : RepM a v τ) {L : Nat} (hL : L < 25) (h0 : a 12 L ≠ 0) : ∃ τ', mX7_take (nI L) τ = some (nI (a 13 (10 * L)), τ') ∧ RepM (dropA a L) v τ' := by
  have h10 := (I.2.2.2.2.2.2 _ hL).1
  obtain ⟨m1, m2⟩ := M.2.2.2.2 L hL
  have m3 := m2 0 (by omega)
  rw [Nat.add_zero] at m3
  unfold mX7_take
  rw [il 10, pk_mul, ix_n (show 10 * L < 250 by omega) (by decide), ix_n hL (by decide), ix_n hL (by decide), lts_s, nI_clamp (by omega), nI_clamp (by omega), m1, m3, il 1, pk_sub (by omega)]
  obtain ⟨τ', e1, e2, e4⟩ := tk_L (m := nI (a 13 (10 * L))) hL (show a 12 L - 1 < 10 by omega) (a 12 L - 1) fu 0 (ups τ 6 L (nI (a 12 L - 1))) (by omega) (by rw [fu_eq]; omega) (by rw [ups_at, if_pos ⟨rfl, rfl⟩])
  refine ⟨τ', e1, RepM_drop I M hL h0 (fun k h1 h2 => by rw [e2 k h1, ups_row h2]) (by rw [e2 6 (by omega), ups_same]) (fun j => by rw [e4 j, ups_row (by omega), Nat.add_zero])⟩
theorem op_lose {σ τ : St} (R : Rel σ τ) (x y : Int32) : Same (mX6_lose x y σ) (mX7_lose x y τ) := by
  obtain ⟨a, v, I, C, M⟩ := id R
  have h5 := I.1.2
  unfold mX6_lose mX7_lose
  refine Same_pair I C M (fun s t hs ht hst ex ey => ?_)
  subst ex; subst ey
  have hL : 5 * s + t < 25 := by omega
  have h10 := (I.2.2.2.2.2.2 _ hL).1
  rw [q_cnt σ (by omega) (by omega), bnd_s, lk_i, ix_n hL (by decide), nI_clamp (by omega), (C.2.2.2.2.2 _ hL).1, (M.2.2.2.2 _ hL).1]
  by_cases h0 : a 12 (5 * s + t) = 0
  · rw [h0, if_pos (show nI 0 = (0 : Int32) from rfl), if_pos (show nI 0 = (0 : Int32) from rfl)]
    exact Same_r R
  obtain ⟨σ', e1, C'⟩ := C_drop I C (show s < 5 by omega) (show t < 5 by omega) h0
  obtain ⟨τ', g1, M'⟩ := M_take I M hL h0
  rw [if_neg (nz0 (by omega) h0), if_neg (nz0 (by omega) h0), e1, bnv_s, g1, bnd_s, q_cnt σ' (by omega) (by omega), bnd_s, ix_n hL (by decide), (C'.2.2.2.2.2 _ hL).1, (M'.2.2.2.2 _ hL).1]
  exact Same_r ⟨_, v, Inv_drop I hL h0, C', M'⟩
theorem op_deliver {σ τ : St} (R : Rel σ τ) (x y : Int32) : Same (mX6_deliver x y σ) (mX7_deliver x y τ) := by
  obtain ⟨a, v, I, C, M⟩ := id R
  have h5 := I.1.2
  unfold mX6_deliver mX7_deliver
  refine Same_pair I C M (fun s t hs ht hst ex ey => ?_)
  subst ex; subst ey
  have hL : 5 * s + t < 25 := by omega
  obtain ⟨h10, h11, h12⟩ := I.2.2.2.2.2.2 _ hL
  rw [q_cnt σ (by omega) (by omega), bnd_s, lk_i, ix_n hL (by decide), nI_clamp (by omega), (C.2.2.2.2.2 _ hL).1, (M.2.2.2.2 _ hL).1]
  by_cases h0 : a 12 (5 * s + t) = 0
  · rw [h0, if_pos (show nI 0 = (0 : Int32) from rfl), if_pos (show nI 0 = (0 : Int32) from rfl)]
    exact Same_r R
  obtain ⟨σ', e1, C'⟩ := C_drop I C (show s < 5 by omega) (show t < 5 by omega) h0
  obtain ⟨τ', g1, M'⟩ := M_take I M hL h0
  have I' := Inv_drop I hL h0
  have c19 := (C.2.2.2.2.2 _ hL).2 0 (by omega)
  obtain ⟨b1, b2⟩ := h12 0 (by omega)
  have hb := (I.2.1 s (by omega)).1
  rw [Nat.add_zero] at c19 b1 b2
  rw [show (5 * s + t) / 5 = s by omega] at c19 b2
  generalize hm : a 13 (10 * (5 * s + t)) = m at c19 b1 b2 g1
  have hk : mk (dropA a (5 * s + t)) (20 * s + m - 1) := by
    unfold mk
    rw [dropA_row (by omega) (by omega), show (20 * s + m - 1) / 20 = s by omega]
    omega
  have hn : t < dropA a (5 * s + t) 0 0 := by rw [dropA_row (by omega) (by omega)]; exact ht
  rw [if_neg (nz0 (by omega) h0), if_neg (nz0 (by omega) h0), show (mX3_messageIn (nI s) (nI t) 0 σ) = _ from q_msg (k := 0) σ (by omega) (by omega) (by omega), bnd_s, Nat.add_zero, c19, e1, bnv_s, C_learn I' C' hn hk, bnv_s, q_authorOf _ (by omega), bnd_s, q_numberOf _ (by omega), bnd_s, g1, bnd_s, m_place _ b1, bnd_s, M_learn I' M' hn hk, bnv_s, show (20 * s + m - 1) / 20 = s by omega, show (20 * s + m - 1) % 20 + 1 = m by omega]
  exact Same_r ⟨_, v, Inv_learn I' hn hk, RepC_learn C' t _, RepM_learn M' t _⟩
