/-! Gaps that another site can fill: repair, bestHelper. -/
theorem C_has {a : Ab} {v σ : St} (I : Inv a v) (C : RepC a v σ) {s i : Nat} (hs : s < 5) (hi : i < 100) : mX2_has 0 (nI s) (nI i) σ = some (bI (knF a s i), σ) := q_hasK (K := knF a s) (by omega) hs hi (by rw [show 16 + 0 = 16 from rfl, C.2.2.1 _ (by omega)]; exact knF_val I hs hi)
theorem M_knows {a : Ab} {v τ : St} (I : Inv a v) (M : RepM a v τ) {s i : Nat} (hs : s < 5) (hi : i < 100) : mX7_doesKnow (nI s) (nI i) τ = some (bI (knF a s i), τ) := m_know (K := knF a s) hs hi (by rw [M.2.2.1 _ (by omega)]; exact knF_val I hs hi)
/-- the greatest number known of an author, of the first m -/
def gr (a : Ab) (s t : Nat) : Nat → Nat
  | 0 => 0
  | m + 1 => if knF a s (20 * t + m) = true then m + 1 else gr a s t m
theorem gr_s (a : Ab) (s t m : Nat) : gr a s t (m + 1) = if knF a s (20 * t + m) = true then m + 1 else gr a s t m := rfl
theorem gr_le (a : Ab) (s t : Nat) : ∀ m, gr a s t m ≤ m := by
  intro m
  induction m with
  | zero => exact Nat.le_refl 0
  | succ m ih =>
    rw [gr_s]
    by_cases c : knF a s (20 * t + m) = true
    · rw [if_pos c]; omega
    · rw [if_neg c]; omega
theorem gr_lt (a : Ab) (s t k : Nat) : ∀ m, k < gr a s t m ↔ ∃ j, k ≤ j ∧ j < m ∧ knF a s (20 * t + j) = true := by
  intro m
  induction m with
  | zero => exact ⟨fun h => absurd h (Nat.not_lt_zero _), fun ⟨j, _, h, _⟩ => absurd h (Nat.not_lt_zero _)⟩
  | succ m ih =>
    rw [gr_s]
    by_cases c : knF a s (20 * t + m) = true
    · rw [if_pos c]
      constructor
      · intro h; exact ⟨m, by omega, by omega, c⟩
      · rintro ⟨j, h1, h2, _⟩; omega
    · rw [if_neg c, ih]
      constructor
      · rintro ⟨j, h1, h2, h3⟩; exact ⟨j, h1, by omega, h3⟩
      · rintro ⟨j, h1, h2, h3⟩
        by_cases e : j = m
        · rw [e] at h3; exact absurd h3 c
        · exact ⟨j, h1, by omega, h3⟩
theorem m_great {a : Ab} {v τ : St} (I : Inv a v) (M : RepM a v τ) {s t : Nat} (hs : s < 5) (ht : t < 5) : mX7_greatest (nI s) (nI t) τ = some (nI (gr a s t (a 1 t)), τ) := by
  have h20 := (I.2.1 t ht).1
  have key : ∀ (d f k : Nat), k + d = a 1 t → d < f → mX7_greatest_L5 f (nI s) (nI t) (nI (gr a s t k)) (nI (k + 1)) τ = some (nI (gr a s t (a 1 t)), τ) := by
    intro d
    induction d with
    | zero =>
      intro f k h hf
      obtain ⟨f, rfl⟩ : ∃ g, f = g + 1 := ⟨f - 1, by omega⟩
      rw [mX7_greatest_L5, ix_n ht (by decide), nI_clamp (by omega), (M.2.1 t ht).1, if_pos (nI_lt (by omega) (by omega)), show k = a 1 t by omega]
    | succ d ih =>
      intro f k h hf
      obtain ⟨f, rfl⟩ : ∃ g, f = g + 1 := ⟨f - 1, by omega⟩
      have e := ih f (k + 1) (by omega) (by omega)
      rw [mX7_greatest_L5, ix_n ht (by decide), nI_clamp (by omega), (M.2.1 t ht).1, if_neg (nI_nlt (by omega) (by omega)), m_place τ (by omega), bnd_s, show 20 * t + (k + 1) - 1 = 20 * t + k by omega, M_knows I M hs (by omega), bnd_s, nI_1]
      rw [gr_s] at e
      by_cases c : knF a s (20 * t + k) = true
      · rw [if_pos c] at e
        rw [c, bI_t, if_neg (by decide)]; exact e
      · rw [if_neg c] at e
        rw [Bool.eq_false_iff.mpr c, bI_f, if_pos rfl]; exact e
  unfold mX7_greatest
  exact key (a 1 t) fu 0 (by omega) (by rw [fu_eq]; omega)
/-- s lacks i, knows a later one of its author, and h knows it -/
def gp (a : Ab) (s h i : Nat) : Bool := !knF a s i && knF a h i && decide (i % 20 + 1 < gr a s (i / 20) (a 1 (i / 20)))
theorem q_later {a : Ab} {v σ : St} (I : Inv a v) (C : RepC a v σ) {s t : Nat} (hs : s < 5) (ht : t < 5) : ∀ (d f k : Nat), k + d = 20 → d < f → mX2_hasLaterOfAuthor_L13 0 f (nI s) (nI t) (nI (k + 1)) σ = some (bI (decide (k < gr a s t (a 1 t))), σ) := by
  have h20 := (I.2.1 t ht).1
  have hle := gr_le a s t (a 1 t)
  intro d
  induction d with
  | zero =>
    intro f k h hf
    obtain ⟨f, rfl⟩ : ∃ g, f = g + 1 := ⟨f - 1, by omega⟩
    rw [mX2_hasLaterOfAuthor_L13, if_pos (show (20 : Int32) < nI (k + 1) from nI_lt (a := 20) (by omega) (by omega)), decide_eq_false (by omega)]
    rfl
  | succ d ih =>
    intro f k h hf
    obtain ⟨f, rfl⟩ : ∃ g, f = g + 1 := ⟨f - 1, by omega⟩
    rw [mX2_hasLaterOfAuthor_L13, if_neg (show ¬ (20 : Int32) < nI (k + 1) from nI_nlt (b := k + 1) (a := 20) (by omega) (by omega)), q_idOf σ (by omega), bnd_s, show 20 * t + (k + 1) - 1 = 20 * t + k by omega, C_has I C hs (by omega), bnd_s, nI_1]
    by_cases c : knF a s (20 * t + k) = true
    · have hm := knF_mk I hs c
      have hm2 := hm.2
      rw [show (20 * t + k) / 20 = t by omega] at hm2
      rw [c, bI_t, if_neg (by decide), decide_eq_true ((gr_lt a s t k (a 1 t)).mpr ⟨k, Nat.le_refl _, by omega, c⟩)]
      rfl
    · rw [Bool.eq_false_iff.mpr c, bI_f, if_pos rfl, ih f (k + 1) (by omega) (by omega)]
      congr 3
      rw [decide_eq_decide, gr_lt, gr_lt]
      constructor
      · rintro ⟨j, h1, h2, h3⟩; exact ⟨j, by omega, h2, h3⟩
      · rintro ⟨j, h1, h2, h3⟩
        by_cases e : j = k
        · rw [e] at h3; exact absurd h3 c
        · exact ⟨j, by omega, h2, h3⟩
theorem q_canRepair {a : Ab} {v σ : St} (I : Inv a v) (C : RepC a v σ) {s h i : Nat} (hs : s < 5) (hh : h < 5) (hi : i < 100) : mX6_canRepair (nI s) (nI h) (nI i) σ = some (bI (gp a s h i), σ) := by
  unfold mX6_canRepair mX2_isInGap mX2_hasLaterOfAuthor gp
  rw [C_has I C hs hi, bnd_s]
  by_cases c : knF a s i = true
  · rw [c, bI_t, if_neg (by decide)]
    rfl
  · rw [Bool.eq_false_iff.mpr c, bI_f, if_pos rfl, q_authorOf σ hi, bnd_s, q_numberOf σ hi, bnd_s, nI_1, q_later I C hs (show i / 20 < 5 by omega) (20 - (i % 20 + 1)) fu (i % 20 + 1) (by omega) (by rw [fu_eq]; omega), bnd_s]
    by_cases e : i % 20 + 1 < gr a s (i / 20) (a 1 (i / 20))
    · rw [decide_eq_true e, bI_t, if_neg (by decide)]
      show bnd (some ((1 : Int32), σ)) _ = _
      rw [bnd_s, if_neg (by decide), C_has I C hh hi, bnd_s]
      cases knF a h i <;> rfl
    · rw [decide_eq_false e, bI_f, if_pos rfl]
      cases knF a h i <;> rfl
theorem m_isGiven {a : Ab} {v τ : St} (I : Inv a v) (M : RepM a v τ) {s h i : Nat} (hs : s < 5) (hh : h < 5) (hi : i < 100) : mX7_isGiven (nI s) (nI h) (nI i) τ = some (bI (gp a s h i), τ) := by
  have hle := gr_le a s (i / 20) (a 1 (i / 20))
  have h20 := (I.2.1 (i / 20) (by omega)).1
  unfold mX7_isGiven gp
  rw [M_knows I M hs hi, bnd_s]
  by_cases c : knF a s i = true
  · rw [c, bI_t, if_neg (by decide)]; rfl
  · rw [Bool.eq_false_iff.mpr c, bI_f, if_pos rfl, M_knows I M hh hi, bnd_s]
    by_cases e : knF a h i = true
    · rw [e, bI_t, if_neg (by decide), il 20, pk_rem (by omega) (by omega) (by omega), pk_div (by omega) (by omega) (by omega), m_great I M hs (show i / 20 < 5 by omega), bnd_s, nI_1]
      by_cases g : i % 20 + 1 < gr a s (i / 20) (a 1 (i / 20))
      · rw [if_neg (nI_ge g (by omega)), decide_eq_true g]; rfl
      · rw [if_pos (nI_le (by omega) (by omega)), decide_eq_false g]; rfl
    · rw [Bool.eq_false_iff.mpr e, bI_f, if_pos rfl]; rfl
theorem repair_L {n s h : Nat} (hn : n ≤ 5) (hs : s < n) (hh : h < n) : ∀ (d f i : Nat) (x : Int32) (a : Ab) (v σ τ : St), i + d = 100 → d < f → Inv a v → RepC a v σ → RepM a v τ → a 0 0 = n → Same (mX6_repair_L17 f (nI s) (nI h) x (nI i) σ) (mX7_repair_L17 f (nI s) (nI h) x (nI i) τ) := by
  intro d
  induction d with
  | zero =>
    intro f i x a v σ τ hd hf I C M h0
    obtain ⟨f, rfl⟩ : ∃ g, f = g + 1 := ⟨f - 1, by omega⟩
    have : i = 100 := by omega
    subst this
    rw [mX6_repair_L17, mX7_repair_L17, if_pos (by decide), if_pos (by decide)]
    exact Same_r ⟨a, v, I, C, M⟩
  | succ d ih =>
    intro f i x a v σ τ hd hf I C M h0
    obtain ⟨f, rfl⟩ : ∃ g, f = g + 1 := ⟨f - 1, by omega⟩
    have h1 : ¬ (100 : Int32) ≤ nI i := nI_ge (b := 100) (by omega) (by omega)
    rw [mX6_repair_L17, mX7_repair_L17, if_neg h1, if_neg h1, q_canRepair I C (by omega) (by omega) (by omega), m_isGiven I M (by omega) (by omega) (by omega), bnd_s, bnd_s, nI_1]
    by_cases c : gp a s h i = true
    · have hk : knF a h i = true := by unfold gp at c; revert c; cases knF a h i <;> cases knF a s i <;> simp
      have hm := knF_mk I (show h < 5 by omega) hk
      rw [c, bI_t, if_neg (by decide), if_neg (by decide), C_learn I C (by omega) hm, M_learn I M (by omega) hm, bnv_s, bnv_s]
      exact ih f (i + 1) (x + 1) _ v _ _ (by omega) (by omega) (Inv_learn I (by omega) hm) (RepC_learn C s i) (RepM_learn M s i) (by rw [learnA_row (by omega) (by omega)]; exact h0)
    · rw [Bool.eq_false_iff.mpr c, bI_f, if_pos rfl, if_pos rfl]
      exact ih f (i + 1) x a v σ τ (by omega) (by omega) I C M h0
theorem op_repair {σ τ : St} (R : Rel σ τ) (x y : Int32) : Same (mX6_repair x y σ) (mX7_repair x y τ) := by
  obtain ⟨a, v, I, C, M⟩ := id R
  have h5 := I.1.2
  unfold mX6_repair mX7_repair
  refine Same_pair I C M (fun s t hs ht hst ex ey => ?_)
  subst ex; subst ey
  exact repair_L h5 hs ht 100 fu 0 0 a v σ τ (by omega) (by rw [fu_eq]; omega) I C M rfl
theorem many_L {a : Ab} {v σ τ : St} (I : Inv a v) (C : RepC a v σ) (M : RepM a v τ) {s h : Nat} (hs : s < 5) (hh : h < 5) : ∀ (d f i x : Nat), i + d = 100 → d < f → ∃ r, mX6_repairable_L5 f (nI s) (nI h) (nI x) (nI i) σ = some (nI r, σ) ∧ mX7_givenMany_L5 f (nI s) (nI h) (nI x) (nI i) τ = some (nI r, τ) ∧ r ≤ x + d ∧ (s = h → r = x) := by
  intro d
  induction d with
  | zero =>
    intro f i x hd hf
    obtain ⟨f, rfl⟩ : ∃ g, f = g + 1 := ⟨f - 1, by omega⟩
    have : i = 100 := by omega
    subst this
    rw [mX6_repairable_L5, mX7_givenMany_L5, if_pos (by decide), if_pos (by decide)]
    exact ⟨x, rfl, rfl, by omega, fun _ => rfl⟩
  | succ d ih =>
    intro f i x hd hf
    obtain ⟨f, rfl⟩ : ∃ g, f = g + 1 := ⟨f - 1, by omega⟩
    have h1 : ¬ (100 : Int32) ≤ nI i := nI_ge (b := 100) (by omega) (by omega)
    rw [mX6_repairable_L5, mX7_givenMany_L5, if_neg h1, if_neg h1, q_canRepair I C (by omega) (by omega) (by omega), m_isGiven I M (by omega) (by omega) (by omega), bnd_s, bnd_s, nI_1]
    by_cases c : gp a s h i = true
    · rw [c, bI_t, if_neg (by decide), if_neg (by decide), nI_1]
      obtain ⟨r, e1, e2, e3, e4⟩ := ih f (i + 1) (x + 1) (by omega) (by omega)
      refine ⟨r, e1, e2, by omega, fun hsh => ?_⟩
      subst hsh
      unfold gp at c
      revert c
      cases knF a s i <;> simp
    · rw [Bool.eq_false_iff.mpr c, bI_f, if_pos rfl, if_pos rfl, il 0, nI_add, Nat.add_zero]
      obtain ⟨r, e1, e2, e3, e4⟩ := ih f (i + 1) x (by omega) (by omega)
      exact ⟨r, e1, e2, by omega, e4⟩
theorem best_L {a : Ab} {v σ τ : St} (I : Inv a v) (C : RepC a v σ) (M : RepM a v τ) {s : Nat} (hs : s < 5) : ∀ (d f h x : Nat) (y : Int32), h + d = a 0 0 → d < f → x ≤ 100 → ∃ r, mX6_bestHelper_L19 f (nI s) y (nI x) (nI h) σ = some (r, σ) ∧ mX7_bestHelper_L19 f (nI s) y (nI x) (nI h) τ = some (r, τ) := by
  have h5 := I.1.2
  intro d
  induction d with
  | zero =>
    intro f h x y hd hf hx
    obtain ⟨f, rfl⟩ : ∃ g, f = g + 1 := ⟨f - 1, by omega⟩
    rw [mX6_bestHelper_L19, mX7_bestHelper_L19, C.1, M.1, if_pos (nI_le (by omega) (by omega)), if_pos (nI_le (by omega) (by omega))]
    exact ⟨y, rfl, rfl⟩
  | succ d ih =>
    intro f h x y hd hf hx
    obtain ⟨f, rfl⟩ : ∃ g, f = g + 1 := ⟨f - 1, by omega⟩
    obtain ⟨r, e1, e2, e3, e4⟩ := many_L I C M hs (show h < 5 by omega) 100 fu 0 0 (by omega) (by rw [fu_eq]; omega)
    have e1' : mX6_repairable (nI s) (nI h) σ = some (nI r, σ) := e1
    have e2' : mX7_givenMany (nI s) (nI h) τ = some (nI r, τ) := e2
    have hg : ¬ nI (a 0 0) ≤ nI h := nI_ge (by omega) (by omega)
    have fin : ∃ q, (if nI r ≤ nI x then mX6_bestHelper_L19 f (nI s) y (nI x) (nI (h + 1)) σ else mX6_bestHelper_L19 f (nI s) (nI h) (nI r) (nI (h + 1)) σ) = some (q, σ) ∧ mX7_bestHelper_b45 (mX7_bestHelper_L19 f) (nI s) y (nI x) (nI h) (nI r) τ = some (q, τ) := by
      unfold mX7_bestHelper_b45 mX7_bestHelper_b59
      rw [nI_1]
      by_cases c : r ≤ x
      · have c' : nI r ≤ nI x := nI_le c (by omega)
        rw [if_pos c', if_pos c', if_pos c']
        exact ih f (h + 1) x y (by omega) (by omega) hx
      · have c' : ¬ nI r ≤ nI x := nI_ge (by omega) (by omega)
        rw [if_neg c', if_neg c', if_neg c']
        exact ih f (h + 1) r (nI h) (by omega) (by omega) (by omega)
    rw [mX6_bestHelper_L19, mX7_bestHelper_L19, C.1, M.1, if_neg hg, if_neg hg, e1', bnd_s, nI_1]
    by_cases c : h = s
    · rw [e4 c.symm] at fin
      rw [if_pos (show nI h = nI s by rw [c]), e4 c.symm]
      exact fin
    · rw [if_neg (fun q => c ((nI_eq (by omega) (by omega)).mp q)), e2', bnd_s]
      exact fin
theorem op_bestHelper {σ τ : St} (R : Rel σ τ) (x : Int32) : Same (mX6_bestHelper x σ) (mX7_bestHelper x τ) := by
  obtain ⟨a, v, I, C, M⟩ := id R
  have h5 := I.1.2
  unfold mX6_bestHelper mX7_bestHelper
  refine Same_site I C M (fun s hs ex => ?_)
  subst ex
  obtain ⟨r, e1, e2⟩ := best_L I C M (show s < 5 by omega) (a 0 0) fu 0 0 (-1000000004) (by omega) (by rw [fu_eq]; omega) (by omega)
  rw [show nI 0 = (0 : Int32) from rfl] at e1 e2
  rw [e1, e2]
  exact Same_r R
