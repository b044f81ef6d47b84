/-! Sizes: operation, transfer. -/
/-- a clock set forward -/
theorem Inv_clk {a : Ab} {v : St} (I : Inv a v) {t x : Nat} (ht : t < a 0 0) (h1 : a 2 t ≤ x) (h2 : x ≤ tot a) : Inv (upN a 2 t x) v := by
  obtain ⟨i1, i2, i3, i4, i5, i6, i7⟩ := I
  have h5 := i1.2
  have r : ∀ k, k ≠ 2 → upN a 2 t x k = a k := fun k h => upN_row h
  have tt := tot_row (r 1 (by omega))
  refine ⟨?_, fun s hs => ?_, fun s j hs hj => ?_, ?_, ?_, ?_, ?_⟩
  · unfold I_n; rw [r 0 (by omega)]; exact i1
  · obtain ⟨j1, j2, j3, j4, j5⟩ := i2 s hs
    rw [r 1 (by omega), r 0 (by omega), r 10 (by omega), r 11 (by omega), tt, upN_at]
    by_cases e : s = t
    · rw [if_pos ⟨rfl, e⟩]
      exact ⟨j1, j2, j3, h2, fun h => by omega⟩
    · rw [if_neg (fun q => e q.2)]
      exact ⟨j1, j2, j3, j4, j5⟩
  · obtain ⟨j1, j2⟩ := i3 s j hs hj
    unfold mk
    rw [r 1 (by omega), r 0 (by omega), r 5 (by omega), r 3 (by omega), upN_at]
    refine ⟨j1, fun h => ⟨(j2 h).1, (j2 h).2.1, ?_⟩⟩
    have := (j2 h).2.2
    by_cases e : s = t
    · subst e; rw [if_pos ⟨rfl, rfl⟩]; omega
    · rw [if_neg (fun q => e q.2)]; exact this
  · unfold I_o mk; rw [r 1 (by omega), r 3 (by omega), r 4 (by omega), r 5 (by omega), r 6 (by omega), r 7 (by omega), r 8 (by omega), tt]; exact i4
  · unfold Tms mk; rw [r 1 (by omega), r 5 (by omega)]; exact i5
  · unfold Ord mk bf; rw [r 1 (by omega), r 5 (by omega), r 9 (by omega), tt]; exact i6
  · unfold I_l; rw [r 0 (by omega), r 1 (by omega), r 12 (by omega), r 13 (by omega)]; exact i7
theorem RepC_clk {a : Ab} {v σ : St} (C : RepC a v σ) (t x : Nat) : RepC (upN a 2 t x) v (ups σ 26 t (nI x)) := by
  obtain ⟨c1, c2, c3, c4, c5, c6⟩ := C
  have r : ∀ k, k ≠ 2 → upN a 2 t x k = a k := fun k h => upN_row h
  have q : ∀ k, k ≠ 26 → ups σ 26 t (nI x) k = σ k := fun k h => ups_row h
  have tt := tot_row (r 1 (by omega))
  refine ⟨?_, fun s hs => ?_, ?_, ?_, ?_, ?_⟩
  · rw [r 0 (by omega), q 27 (by omega)]; exact c1
  · obtain ⟨j1, j2, j3⟩ := c2 s hs
    rw [r 1 (by omega), r 10 (by omega), r 11 (by omega), q 0 (by omega), q 11 (by omega), q 12 (by omega), q 13 (by omega), q 14 (by omega), q 15 (by omega), ups_at, upN_at]
    refine ⟨j1, ?_, j3⟩
    by_cases e : s = t
    · rw [if_pos ⟨rfl, e⟩, if_pos ⟨rfl, e⟩]
    · rw [if_neg (fun q => e q.2), if_neg (fun q => e q.2)]; exact j2
  · unfold C_k; rw [r 3 (by omega), q 16 (by omega)]; exact c3
  · unfold C_o mk
    rw [r 1 (by omega), r 4 (by omega), r 5 (by omega), r 6 (by omega), r 7 (by omega), q 1 (by omega), q 2 (by omega), q 3 (by omega), q 4 (by omega), q 6 (by omega), q 7 (by omega), q 9 (by omega), q 10 (by omega)]; exact c4
  · unfold C_t; rw [r 9 (by omega), tt, q 28 (by omega), q 5 (by omega)]; exact c5
  · unfold C_l; rw [r 12 (by omega), r 13 (by omega), q 18 (by omega), q 19 (by omega)]; exact c6
