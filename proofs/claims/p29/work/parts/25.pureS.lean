/-! Gaps that another site can fill: repair, bestHelper. -/
theorem C_has {a : Ab} {v σ : St} (I : Inv a v) (C : RepC a v σ) {s i : Nat} (hs : s < 5) (hi : i < 100) : mX2_has 0 (nI s) (nI i) σ = some (bI (knF a s i), σ) := q_hasK (K := knF a s) (by omega) hs hi (by rw [show 16 + 0 = 16 from rfl, C.2.2.1 _ (by omega)]; exact knF_val I hs hi)
/-- the greatest number known of an author, of the first m -/
def gr (a : Ab) (s t : Nat) : Nat → Nat
  | 0 => 0
  | m + 1 => if knF a s (20 * t + m) = true then m + 1 else gr a s t m
theorem gr_s (a : Ab) (s t m : Nat) : gr a s t (m + 1) = if knF a s (20 * t + m) = true then m + 1 else gr a s t m := rfl
theorem gr_le (a : Ab) (s t : Nat) : ∀ m, gr a s t m ≤ m := by
  intro m
  induction m with
  | zero => exact Nat.le_refl 0
  | succ m ih =>
    rw [gr_s]
    by_cases c : knF a s (20 * t + m) = true
    · rw [if_pos c]; omega
    · rw [if_neg c]; omega
theorem gr_lt (a : Ab) (s t k : Nat) : ∀ m, k < gr a s t m ↔ ∃ j, k ≤ j ∧ j < m ∧ knF a s (20 * t + j) = true := by
  intro m
  induction m with
  | zero => exact ⟨fun h => absurd h (Nat.not_lt_zero _), fun ⟨j, _, h, _⟩ => absurd h (Nat.not_lt_zero _)⟩
  | succ m ih =>
    rw [gr_s]
    by_cases c : knF a s (20 * t + m) = true
    · rw [if_pos c]
      constructor
      · intro h; exact ⟨m, by omega, by omega, c⟩
      · rintro ⟨j, h1, h2, _⟩; omega
    · rw [if_neg c, ih]
      constructor
      · rintro ⟨j, h1, h2, h3⟩; exact ⟨j, h1, by omega, h3⟩
      · rintro ⟨j, h1, h2, h3⟩
        by_cases e : j = m
        · rw [e] at h3; exact absurd h3 c
        · exact ⟨j, h1, by omega, h3⟩
/-- s lacks i, knows a later one of its author, and h knows it -/
def gp (a : Ab) (s h i : Nat) : Bool := !knF a s i && knF a h i && decide (i % 20 + 1 < gr a s (i / 20) (a 1 (i / 20)))
theorem q_later {a : Ab} {v σ : St} (I : Inv a v) (C : RepC a v σ) {s t : Nat} (hs : s < 5) (ht : t < 5) : ∀ (d f k : Nat), k + d = 20 → d < f → mX2_hasLaterOfAuthor_L13 0 f (nI s) (nI t) (nI (k + 1)) σ = some (bI (decide (k < gr a s t (a 1 t))), σ) := by
  have h20 := (I.2.1 t ht).1
  have hle := gr_le a s t (a 1 t)
  intro d
  induction d with
  | zero =>
    intro f k h hf
    obtain ⟨f, rfl⟩ : ∃ g, f = g + 1 := ⟨f - 1, by omega⟩
    rw [mX2_hasLaterOfAuthor_L13, if_pos (show (20 : Int32) < nI (k + 1) from nI_lt (a := 20) (by omega) (by omega)), decide_eq_false (by omega)]
    rfl
  | succ d ih =>
    intro f k h hf
    obtain ⟨f, rfl⟩ : ∃ g, f = g + 1 := ⟨f - 1, by omega⟩
    rw [mX2_hasLaterOfAuthor_L13, if_neg (show ¬ (20 : Int32) < nI (k + 1) from nI_nlt (b := k + 1) (a := 20) (by omega) (by omega)), q_idOf σ (by omega), bnd_s, show 20 * t + (k + 1) - 1 = 20 * t + k by omega, C_has I C hs (by omega), bnd_s, nI_1]
    by_cases c : knF a s (20 * t + k) = true
    · have hm := knF_mk I hs c
      have hm2 := hm.2
      rw [show (20 * t + k) / 20 = t by omega] at hm2
      rw [c, bI_t, if_neg (by decide), decide_eq_true ((gr_lt a s t k (a 1 t)).mpr ⟨k, Nat.le_refl _, by omega, c⟩)]
      rfl
    · rw [Bool.eq_false_iff.mpr c, bI_f, if_pos rfl, ih f (k + 1) (by omega) (by omega)]
      congr 3
      rw [decide_eq_decide, gr_lt, gr_lt]
      constructor
      · rintro ⟨j, h1, h2, h3⟩; exact ⟨j, by omega, h2, h3⟩
      · rintro ⟨j, h1, h2, h3⟩
        by_cases e : j = k
        · rw [e] at h3; exact absurd h3 c
        · exact ⟨j, by omega, h2, h3⟩
theorem q_canRepair {a : Ab} {v σ : St} (I : Inv a v) (C : RepC a v σ) {s h i : Nat} (hs : s < 5) (hh : h < 5) (hi : i < 100) : mX6_canRepair (nI s) (nI h) (nI i) σ = some (bI (gp a s h i), σ) := by
  unfold mX6_canRepair mX2_isInGap mX2_hasLaterOfAuthor gp
  rw [C_has I C hs hi, bnd_s]
  by_cases c : knF a s i = true
  · rw [c, bI_t, if_neg (by decide)]
    rfl
  · rw [Bool.eq_false_iff.mpr c, bI_f, if_pos rfl, q_authorOf σ hi, bnd_s, q_numberOf σ hi, bnd_s, nI_1, q_later I C hs (show i / 20 < 5 by omega) (20 - (i % 20 + 1)) fu (i % 20 + 1) (by omega) (by rw [fu_eq]; omega), bnd_s]
    by_cases e : i % 20 + 1 < gr a s (i / 20) (a 1 (i / 20))
    · rw [decide_eq_true e, bI_t, if_neg (by decide)]
      show bnd (some ((1 : Int32), σ)) _ = _
      rw [bnd_s, if_neg (by decide), C_has I C hh hi, bnd_s]
      cases knF a h i <;> rfl
    · rw [decide_eq_false e, bI_f, if_pos rfl]
      cases knF a h i <;> rfl
