/-! A message taken off a link; an operation learnt: deliver, lose. -/
def dropA (a : Ab) (L : Nat) : Ab := fun k j => if k = 12 ∧ j = L then a 12 L - 1 else if k = 13 ∧ j / 10 = L then a 13 (j + 1) else a k j
def learnA (a : Ab) (t i : Nat) : Ab := upN (upN a 3 (100 * t + i) 1) 2 t (if a 2 t < a 5 i then a 5 i else a 2 t)
theorem dropA_row {a : Ab} {L k : Nat} (h : k ≠ 12) (h2 : k ≠ 13) : dropA a L k = a k := by
  funext j
  unfold dropA
  rw [if_neg (fun q => h q.1), if_neg (fun q => h2 q.1)]
theorem learnA_row {a : Ab} {t i k : Nat} (h : k ≠ 2) (h2 : k ≠ 3) : learnA a t i k = a k := by
  unfold learnA
  rw [upN_row h, upN_row h2]
theorem learnA_3 (a : Ab) (t i j : Nat) : learnA a t i 3 j = if j = 100 * t + i then 1 else a 3 j := by
  unfold learnA
  rw [upN_row (by omega), upN_at]
  by_cases e : j = 100 * t + i
  · rw [if_pos ⟨rfl, e⟩, if_pos e]
  · rw [if_neg (fun q => e q.2), if_neg e]
theorem learnA_2 (a : Ab) (t i s : Nat) : learnA a t i 2 s = if s = t then (if a 2 t < a 5 i then a 5 i else a 2 t) else a 2 s := by
  unfold learnA
  rw [upN_at, upN_row (by omega)]
  by_cases e : s = t
  · rw [if_pos ⟨rfl, e⟩, if_pos e]
  · rw [if_neg (fun q => e q.2), if_neg e]
theorem drop_learn (a : Ab) (L t i : Nat) : dropA (learnA a t i) L = learnA (dropA a L) t i := by
  funext k j
  by_cases h2 : k = 2
  · subst h2
    rw [dropA_row (by omega) (by omega), learnA_2, learnA_2, dropA_row (by omega) (by omega), dropA_row (by omega) (by omega)]
  by_cases h3 : k = 3
  · subst h3
    rw [dropA_row (by omega) (by omega), learnA_3, learnA_3, dropA_row (by omega) (by omega)]
  rw [learnA_row h2 h3]
  unfold dropA
  rw [learnA_row (show 12 ≠ 2 by omega) (by omega), learnA_row (show 13 ≠ 2 by omega) (by omega), learnA_row h2 h3]
theorem Inv_drop {a : Ab} {v : St} (I : Inv a v) {L : Nat} (hL : L < 25) (h0 : a 12 L ≠ 0) : Inv (dropA a L) v := by
  obtain ⟨i1, i2, i3, i4, i5, i6, i7⟩ := I
  have r : ∀ k, k ≠ 12 → k ≠ 13 → dropA a L k = a k := fun k h1 h2 => dropA_row h1 h2
  have t := tot_row (r 1 (by omega) (by omega))
  refine ⟨?_, ?_, ?_, ?_, ?_, ?_, fun L' hL' => ?_⟩
  · unfold I_n; rw [r 0 (by omega) (by omega)]; exact i1
  · unfold I_s; rw [r 1 (by omega) (by omega), r 2 (by omega) (by omega), r 0 (by omega) (by omega), r 10 (by omega) (by omega), r 11 (by omega) (by omega), t]; exact i2
  · unfold I_k mk; rw [r 0 (by omega) (by omega), r 1 (by omega) (by omega), r 2 (by omega) (by omega), r 3 (by omega) (by omega), r 5 (by omega) (by omega)]; exact i3
  · unfold I_o mk; rw [r 1 (by omega) (by omega), r 3 (by omega) (by omega), r 4 (by omega) (by omega), r 5 (by omega) (by omega), r 6 (by omega) (by omega), r 7 (by omega) (by omega), r 8 (by omega) (by omega), t]; exact i4
  · unfold Tms mk; rw [r 1 (by omega) (by omega), r 5 (by omega) (by omega)]; exact i5
  · unfold Ord mk bf; rw [r 1 (by omega) (by omega), r 5 (by omega) (by omega), r 9 (by omega) (by omega), t]; exact i6
  · obtain ⟨j1, j2, j3⟩ := i7 L' hL'
    rw [r 0 (by omega) (by omega), r 1 (by omega) (by omega)]
    unfold dropA
    by_cases e : L' = L
    · subst e
      rw [if_pos ⟨rfl, rfl⟩]
      refine ⟨by omega, fun _ => j2 h0, fun k hk => ?_⟩
      rw [if_neg (by omega), if_pos ⟨rfl, by omega⟩]
      exact j3 (k + 1) (by omega)
    · rw [if_neg (fun q => e q.2), if_neg (by omega)]
      refine ⟨j1, j2, fun k hk => ?_⟩
      rw [if_neg (by omega), if_neg (by omega)]
      exact j3 k hk
theorem Inv_learn {a : Ab} {v : St} (I : Inv a v) {t i : Nat} (ht : t < a 0 0) (hi : mk a i) : Inv (learnA a t i) v := by
  obtain ⟨i1, i2, i3, i4, i5, i6, i7⟩ := I
  have h5 := i1.2
  have hi1 := hi.1
  have r : ∀ k, k ≠ 2 → k ≠ 3 → learnA a t i k = a k := fun k h1 h2 => learnA_row h1 h2
  have tt := tot_row (r 1 (by omega) (by omega))
  have hT := (i4 i hi).2.1
  have hmono : ∀ s, a 2 s ≤ learnA a t i 2 s := fun s => by
    rw [learnA_2]
    by_cases e : s = t
    · subst e; rw [if_pos rfl]; by_cases c : a 2 s < a 5 i
      · rw [if_pos c]; omega
      · rw [if_neg c]; omega
    · rw [if_neg e]; omega
  refine ⟨?_, fun s hs => ?_, fun s j hs hj => ?_, fun j hj => ?_, ?_, ?_, ?_⟩
  · unfold I_n; rw [r 0 (by omega) (by omega)]; exact i1
  · obtain ⟨j1, j2, j3, j4, j5⟩ := i2 s hs
    rw [r 1 (by omega) (by omega), r 0 (by omega) (by omega), r 10 (by omega) (by omega), r 11 (by omega) (by omega), tt, learnA_2]
    refine ⟨j1, j2, j3, ?_, fun h => ?_⟩
    · by_cases e : s = t
      · subst e; rw [if_pos rfl]; by_cases c : a 2 s < a 5 i
        · rw [if_pos c]; exact hT
        · rw [if_neg c]; exact j4
      · rw [if_neg e]; exact j4
    · rw [if_neg (by omega)]; exact j5 h
  · obtain ⟨j1, j2⟩ := i3 s j hs hj
    have hm := hmono s
    have hX : a 5 i ≤ learnA a t i 2 t := by
      rw [learnA_2, if_pos rfl]
      by_cases c : a 2 t < a 5 i
      · rw [if_pos c]; omega
      · rw [if_neg c]; omega
    unfold mk
    rw [r 1 (by omega) (by omega), r 0 (by omega) (by omega), r 5 (by omega) (by omega), learnA_3]
    by_cases e : 100 * s + j = 100 * t + i
    · have e1 : s = t := by omega
      have e2 : j = i := by omega
      subst e1; subst e2
      rw [if_pos rfl]
      exact ⟨by omega, fun _ => ⟨hi, ht, hX⟩⟩
    · rw [if_neg e]
      exact ⟨j1, fun h => ⟨(j2 h).1, (j2 h).2.1, by have := (j2 h).2.2; omega⟩⟩
  · have hj' : mk a j := by unfold mk at hj ⊢; rw [r 1 (by omega) (by omega)] at hj; exact hj
    have q := i4 j hj'
    unfold mk
    rw [r 1 (by omega) (by omega), r 4 (by omega) (by omega), r 5 (by omega) (by omega), r 6 (by omega) (by omega), r 7 (by omega) (by omega), r 8 (by omega) (by omega), tt, learnA_3]
    refine ⟨?_, q.2⟩
    by_cases e : 100 * (j / 20) + j = 100 * t + i
    · rw [if_pos e]
    · rw [if_neg e]; exact q.1
  · unfold Tms mk; rw [r 1 (by omega) (by omega), r 5 (by omega) (by omega)]; exact i5
  · unfold Ord mk bf; rw [r 1 (by omega) (by omega), r 5 (by omega) (by omega), r 9 (by omega) (by omega), tt]; exact i6
  · unfold I_l; rw [r 0 (by omega) (by omega), r 1 (by omega) (by omega), r 12 (by omega) (by omega), r 13 (by omega) (by omega)]; exact i7
theorem RepC_drop {a : Ab} {v σ σ' : St} (I : Inv a v) (C : RepC a v σ) {L : Nat} (hL : L < 25) (h0 : a 12 L ≠ 0) (h : ∀ k, k ≠ 18 → k ≠ 19 → σ' k = σ k) (h18 : σ' 18 = upd (σ 18) L (nI (a 12 L - 1))) (h19 : ∀ j, σ' 19 j = if 10 * L ≤ j ∧ j < 10 * L + (a 12 L - 1) then σ 19 (j + 1) else σ 19 j) : RepC (dropA a L) v σ' := by
  obtain ⟨c1, c2, c3, c4, c5, c6⟩ := C
  have r : ∀ k, k ≠ 12 → k ≠ 13 → dropA a L k = a k := fun k h1 h2 => dropA_row h1 h2
  have t := tot_row (r 1 (by omega) (by omega))
  refine ⟨?_, ?_, ?_, ?_, ?_, fun L' hL' => ?_⟩
  · rw [r 0 (by omega) (by omega), h 27 (by omega) (by omega)]; exact c1
  · unfold C_s
    rw [r 1 (by omega) (by omega), r 2 (by omega) (by omega), r 10 (by omega) (by omega), r 11 (by omega) (by omega), h 0 (by omega) (by omega), h 26 (by omega) (by omega), h 11 (by omega) (by omega), h 12 (by omega) (by omega), h 13 (by omega) (by omega), h 14 (by omega) (by omega), h 15 (by omega) (by omega)]; exact c2
  · unfold C_k; rw [r 3 (by omega) (by omega), h 16 (by omega) (by omega)]; exact c3
  · unfold C_o mk
    rw [r 1 (by omega) (by omega), r 4 (by omega) (by omega), r 5 (by omega) (by omega), r 6 (by omega) (by omega), r 7 (by omega) (by omega), h 1 (by omega) (by omega), h 2 (by omega) (by omega), h 3 (by omega) (by omega), h 4 (by omega) (by omega), h 6 (by omega) (by omega), h 7 (by omega) (by omega), h 9 (by omega) (by omega), h 10 (by omega) (by omega)]; exact c4
  · unfold C_t; rw [r 9 (by omega) (by omega), t, h 28 (by omega) (by omega), h 5 (by omega) (by omega)]; exact c5
  · obtain ⟨j1, j2⟩ := c6 L' hL'
    rw [h18, upd_at]
    unfold dropA
    by_cases e : L' = L
    · subst e
      rw [if_pos rfl, if_pos ⟨rfl, rfl⟩]
      refine ⟨rfl, fun k hk => ?_⟩
      rw [if_neg (by omega), if_pos ⟨rfl, by have := (I.2.2.2.2.2.2 L' hL').1; omega⟩, h19, if_pos (by omega)]
      exact j2 (k + 1) (by omega)
    · rw [if_neg e, if_neg (fun q => e q.2)]
      refine ⟨j1, fun k hk => ?_⟩
      have h10 := (I.2.2.2.2.2.2 L' hL').1
      have h11 := (I.2.2.2.2.2.2 L hL).1
      rw [if_neg (by omega)] at hk
      rw [if_neg (by omega), if_neg (by omega), h19, if_neg (by omega)]
      exact j2 k hk
theorem RepC_learn {a : Ab} {v σ : St} (C : RepC a v σ) (t i : Nat) : RepC (learnA a t i) v (ups (ups σ 16 (100 * t + i) 1) 26 t (nI (if a 2 t < a 5 i then a 5 i else a 2 t))) := by
  obtain ⟨c1, c2, c3, c4, c5, c6⟩ := C
  have r : ∀ k, k ≠ 2 → k ≠ 3 → learnA a t i k = a k := fun k h1 h2 => learnA_row h1 h2
  have tt := tot_row (r 1 (by omega) (by omega))
  refine ⟨?_, fun s hs => ?_, fun j hj => ?_, ?_, ?_, ?_⟩
  · rw [r 0 (by omega) (by omega), ups_row (by omega), ups_row (by omega)]; exact c1
  · obtain ⟨j1, j2, j3⟩ := c2 s hs
    rw [r 1 (by omega) (by omega), r 10 (by omega) (by omega), r 11 (by omega) (by omega), ups_row (show 0 ≠ 26 by omega), ups_row (show 0 ≠ 16 by omega), ups_row (show 11 ≠ 26 by omega), ups_row (show 11 ≠ 16 by omega), ups_row (show 12 ≠ 26 by omega), ups_row (show 12 ≠ 16 by omega), ups_row (show 13 ≠ 26 by omega), ups_row (show 13 ≠ 16 by omega), ups_row (show 14 ≠ 26 by omega), ups_row (show 14 ≠ 16 by omega), ups_row (show 15 ≠ 26 by omega), ups_row (show 15 ≠ 16 by omega), ups_at, learnA_2]
    refine ⟨j1, ?_, j3⟩
    by_cases e : s = t
    · rw [if_pos ⟨rfl, e⟩, if_pos e]
    · rw [if_neg (fun q => e q.2), if_neg e, ups_row (by omega)]; exact j2
  · rw [ups_row (by omega), ups_at, learnA_3]
    by_cases e : j = 100 * t + i
    · rw [if_pos ⟨rfl, e⟩, if_pos e]; rfl
    · rw [if_neg (fun q => e q.2), if_neg e]; exact c3 j hj
  · unfold C_o mk
    rw [r 1 (by omega) (by omega), r 4 (by omega) (by omega), r 5 (by omega) (by omega), r 6 (by omega) (by omega), r 7 (by omega) (by omega), ups_row (show 1 ≠ 26 by omega), ups_row (show 1 ≠ 16 by omega), ups_row (show 2 ≠ 26 by omega), ups_row (show 2 ≠ 16 by omega), ups_row (show 3 ≠ 26 by omega), ups_row (show 3 ≠ 16 by omega), ups_row (show 4 ≠ 26 by omega), ups_row (show 4 ≠ 16 by omega), ups_row (show 6 ≠ 26 by omega), ups_row (show 6 ≠ 16 by omega), ups_row (show 7 ≠ 26 by omega), ups_row (show 7 ≠ 16 by omega), ups_row (show 9 ≠ 26 by omega), ups_row (show 9 ≠ 16 by omega), ups_row (show 10 ≠ 26 by omega), ups_row (show 10 ≠ 16 by omega)]; exact c4
  · unfold C_t; rw [r 9 (by omega) (by omega), tt, ups_row (show 28 ≠ 26 by omega), ups_row (show 28 ≠ 16 by omega), ups_row (show 5 ≠ 26 by omega), ups_row (show 5 ≠ 16 by omega)]; exact c5
  · unfold C_l; rw [r 12 (by omega) (by omega), r 13 (by omega) (by omega), ups_row (show 18 ≠ 26 by omega), ups_row (show 18 ≠ 16 by omega), ups_row (show 19 ≠ 26 by omega), ups_row (show 19 ≠ 16 by omega)]; exact c6
/-- the class learns -/
theorem C_learn {a : Ab} {v σ : St} (I : Inv a v) (C : RepC a v σ) {t i : Nat} (ht : t < a 0 0) (hi : mk a i) : mX6_receive (nI t) (nI i) σ = some (ups (ups σ 16 (100 * t + i) 1) 26 t (nI (if a 2 t < a 5 i then a 5 i else a 2 t))) := by
  have h5 := I.1.2
  have hi1 := hi.1
  have hT := (I.2.2.2.1 i hi).2.1
  have h2 := (I.2.1 t (by omega)).2.2.2.1
  have h100 := tot_le I.2.1
  unfold mX6_receive mX2_learn
  rw [il 100, pk_mul, nI_add, q_set _ _ (show t * 100 + i < rl (16 + 0) by show _ < 500; omega), bnv_s, bnv_s, q_get _ (show t < rl 26 by show t < 5; omega), bnd_s, q_time _ hi1, bnd_s, ups_row (show 26 ≠ 16 + 0 by omega), ups_row (show 2 ≠ 16 + 0 by omega), (C.2.1 t (by omega)).2.1, (C.2.2.2.1 i hi).2.1, lti_s, show t * 100 + i = 100 * t + i by omega]
  by_cases c : a 2 t < a 5 i
  · rw [if_pos (nI_lt c (by omega)), if_pos c, q_set _ _ (show t < rl 26 by show t < 5; omega), bnv_s]
  · rw [if_neg (nI_nlt (by omega) (by omega)), if_neg c, q_set _ _ (show t < rl 26 by show t < 5; omega), bnv_s]
theorem df_L {L c : Nat} (hL : L < 25) (hc : c < 10) : ∀ (d f k : Nat) (σ : St), k + d = c → d < f → ∃ σ', mX3_dropFirst_L27 f (nI L) (nI c) (nI (10 * L)) (nI k) σ = some σ' ∧ (∀ j, j ≠ 18 → j ≠ 19 → σ' j = σ j) ∧ σ' 18 = upd (σ 18) L (nI c) ∧ ∀ j, σ' 19 j = if 10 * L + k ≤ j ∧ j < 10 * L + c then σ 19 (j + 1) else σ 19 j := by
  intro d
  induction d with
  | zero =>
    intro f k σ h hf
    obtain ⟨f, rfl⟩ : ∃ g, f = g + 1 := ⟨f - 1, by omega⟩
    have : k = c := by omega
    subst this
    rw [mX3_dropFirst_L27, if_pos (nI_le (by omega) (by omega))]
    unfold mX3_dropFirst_b66
    rw [if_neg (nI_pos (by omega)), lti_s, q_set _ _ (show L < rl 18 from hL), bnv_s]
    exact ⟨_, rfl, fun j h1 h2 => ups_row h1, ups_same, fun j => by rw [ups_row (by omega), if_neg (by omega)]⟩
  | succ d ih =>
    intro f k σ h hf
    obtain ⟨f, rfl⟩ : ∃ g, f = g + 1 := ⟨f - 1, by omega⟩
    rw [mX3_dropFirst_L27, if_neg (nI_ge (by omega) (by omega)), nI_add, nI_1, q_get _ (show 10 * L + k + 1 < rl 19 by show _ < 250; omega), bnd_s, q_set _ _ (show 10 * L + k < rl 19 by show _ < 250; omega), bnv_s, nI_1]
    obtain ⟨σ', e1, e2, e3, e4⟩ := ih f (k + 1) (ups σ 19 (10 * L + k) (σ 19 (10 * L + k + 1))) (by omega) (by omega)
    refine ⟨σ', e1, fun j h1 h2 => by rw [e2 j h1 h2, ups_row h2], by rw [e3, ups_row (by omega)], fun j => ?_⟩
    rw [e4, ups_at, ups_at]
    by_cases c1 : 10 * L + (k + 1) ≤ j ∧ j < 10 * L + c
    · rw [if_pos c1, if_neg (by omega), if_pos (by omega)]
    · rw [if_neg c1]
      by_cases c2 : j = 10 * L + k
      · rw [if_pos ⟨rfl, c2⟩, if_pos (by omega), c2]
      · rw [if_neg (fun q => c2 q.2), if_neg (by omega)]
/-- the class takes the first message off -/
theorem C_drop {a : Ab} {v σ : St} (I : Inv a v) (C : RepC a v σ) {s t : Nat} (hs : s < 5) (ht : t < 5) (h0 : a 12 (5 * s + t) ≠ 0) : ∃ σ', mX3_dropFirst (nI s) (nI t) σ = some σ' ∧ RepC (dropA a (5 * s + t)) v σ' := by
  have hL : 5 * s + t < 25 := by omega
  have h10 := (I.2.2.2.2.2.2 _ hL).1
  unfold mX3_dropFirst
  rw [il 5, pk_mul, nI_add, show s * 5 + t = 5 * s + t by omega, q_get _ (show 5 * s + t < rl 18 from hL), bnd_s, (C.2.2.2.2.2 _ hL).1, il 1, pk_sub (by omega), il 10, pk_mul, show (5 * s + t) * 10 = 10 * (5 * s + t) by omega]
  obtain ⟨σ', e1, e2, e3, e4⟩ := df_L hL (show a 12 (5 * s + t) - 1 < 10 by omega) (a 12 (5 * s + t) - 1) fu 0 σ (by omega) (by rw [fu_eq]; omega)
  exact ⟨σ', e1, RepC_drop I C hL h0 e2 e3 (fun j => by rw [e4 j, Nat.add_zero])⟩
