/-! gap. -/
theorem gap_C1 {a : Ab} {v σ : St} (I : Inv a v) (C : RepC a v σ) {s t : Nat} (hs : s < 5) (ht : t < 5) {x3 : Int32} {f j : Nat} (hj : j < 20) (x4 x5 : Int32) : mX6_gap_L32 (f + 1) (nI s) (nI t) x3 x4 x5 (nI (j + 1)) σ = if knF a s (20 * t + j) = true then (if x4 = 0 then mX6_gap_L32 f (nI s) (nI t) x3 x4 x5 (nI (j + 2)) σ else if x5 = x3 then some ((((100 * x4) + nI (j + 1)) - 1), σ) else mX6_gap_L32 f (nI s) (nI t) x3 0 (x5 + 1) (nI (j + 2)) σ) else mX6_gap_L32 f (nI s) (nI t) x3 (if x4 = 0 then nI (j + 1) else x4) x5 (nI (j + 2)) σ := by
  rw [mX6_gap_L32, if_neg (show ¬ (20 : Int32) < nI (j + 1) from nI_nlt (b := j + 1) (a := 20) (by omega) (by omega)), q_idOf σ (by omega), bnd_s, show 20 * t + (j + 1) - 1 = 20 * t + j by omega, C_has I C hs (by omega), bnd_s]
  unfold mX6_gap_b69
  rw [nI_1]
  by_cases c : knF a s (20 * t + j) = true
  · rw [c, bI_t, if_neg (by decide), if_neg (by decide), if_pos rfl]
  · rw [Bool.eq_false_iff.mpr c, bI_f, if_pos rfl, if_pos rfl, if_pos rfl, if_neg (show ¬ false = true from by decide)]
    by_cases e : x4 = 0
    · rw [if_pos e, if_pos e]
    · rw [if_neg e, if_neg e]
theorem gap_Ce {σ : St} {s t : Int32} {x3 x4 x5 : Int32} {f : Nat} : mX6_gap_L32 (f + 1) s t x3 x4 x5 (nI 21) σ = some (-1000000004, σ) := by
  rw [mX6_gap_L32, if_pos (by decide)]
theorem gap_C0 {a : Ab} {v σ : St} (I : Inv a v) (C : RepC a v σ) {s t : Nat} (hs : s < 5) (ht : t < 5) {x3 x5 : Int32} : ∀ (d f j : Nat) (x4 : Int32), j + d = 20 → d < f → (∀ i, j ≤ i → i < 20 → ¬ knF a s (20 * t + i) = true) → mX6_gap_L32 f (nI s) (nI t) x3 x4 x5 (nI (j + 1)) σ = some (-1000000004, σ) := by
  intro d
  induction d with
  | zero =>
    intro f j x4 h hf _
    obtain ⟨f, rfl⟩ : ∃ g, f = g + 1 := ⟨f - 1, by omega⟩
    rw [show j + 1 = 21 by omega, gap_Ce]
  | succ d ih =>
    intro f j x4 h hf hk
    obtain ⟨f, rfl⟩ : ∃ g, f = g + 1 := ⟨f - 1, by omega⟩
    rw [gap_C1 I C hs ht (by omega), if_neg (hk j (Nat.le_refl _) (by omega))]
    exact ih f (j + 1) _ (by omega) (by omega) (fun i h1 h2 => hk i (by omega) h2)
theorem gap_Cg {a : Ab} {v σ : St} (I : Inv a v) (C : RepC a v σ) {s t g j' : Nat} (hs : s < 5) (ht : t < 5) (hg : g < 20) (hj' : j' < 20) (hk' : knF a s (20 * t + j') = true) {x3 x5 : Int32} : ∀ (d f j : Nat), j + d = j' → (∀ i, j ≤ i → i < j' → ¬ knF a s (20 * t + i) = true) → mX6_gap_L32 (f + 1 + d) (nI s) (nI t) x3 (nI (g + 1)) x5 (nI (j + 1)) σ = if x5 = x3 then some (nI (100 * (g + 1) + j'), σ) else mX6_gap_L32 f (nI s) (nI t) x3 0 (x5 + 1) (nI (j' + 2)) σ := by
  intro d
  induction d with
  | zero =>
    intro f j h _
    have : j = j' := by omega
    subst this
    rw [Nat.add_zero, gap_C1 I C hs ht hj', if_pos hk', if_neg (nz0 (by omega) (by omega)), il 100, pk_mul, nI_add, il 1, pk_sub (by omega), show 100 * (g + 1) + (j + 1) - 1 = 100 * (g + 1) + j by omega]
  | succ d ih =>
    intro f j h hk
    rw [show f + 1 + (d + 1) = (f + 1 + d) + 1 by omega, gap_C1 I C hs ht (by omega), if_neg (hk j (Nat.le_refl _) (by omega)), if_neg (nz0 (by omega) (by omega))]
    exact ih f (j + 1) (by omega) (fun i h1 h2 => hk i (by omega) h2)
theorem gap_M0 {τ : St} {s t x3 : Int32} {G f c j : Nat} (hG : G < 2 ^ 30) (hj : G ≤ j) (hj2 : j < 2 ^ 30) : mX7_gap_L37 (f + 1) s t x3 (nI G) (nI c) (nI (j + 1)) τ = some (-1000000004, τ) := by
  rw [mX7_gap_L37, if_pos (nI_lt (by omega) (by omega))]
/-- inside a gap, or on a known one: nothing begins -/
theorem gap_M1 {a : Ab} {v τ : St} (I : Inv a v) (M : RepM a v τ) {s t : Nat} (hs : s < 5) (ht : t < 5) {x3 : Int32} {G f c j : Nat} (hG : G ≤ 20) (hj : j < G) (hk : knF a s (20 * t + j) = true ∨ (1 ≤ j ∧ ¬ knF a s (20 * t + (j - 1)) = true)) : mX7_gap_L37 (f + 1) (nI s) (nI t) x3 (nI G) (nI c) (nI (j + 1)) τ = mX7_gap_L37 f (nI s) (nI t) x3 (nI G) (nI c) (nI (j + 2)) τ := by
  rw [mX7_gap_L37, if_neg (nI_nlt (by omega) (by omega)), m_place τ (by omega), bnd_s, show 20 * t + (j + 1) - 1 = 20 * t + j by omega, M_knows I M hs (by omega), bnd_s]
  unfold mX7_gap_b80 mX7_gap_b84 mX7_gap_b85 mX7_gap_b99
  have e0 : nI c + 0 = nI c := by rw [il 0, nI_add]; rfl
  by_cases k : knF a s (20 * t + j) = true
  · rw [k, bI_t, if_neg (by decide), if_pos rfl, if_pos rfl, nI_1, e0]
  · rcases hk with hk | ⟨hk1, hk⟩
    · exact absurd hk k
    · rw [Bool.eq_false_iff.mpr k, bI_f, if_pos rfl, if_neg (show ¬ nI (j + 1) = (1 : Int32) from fun q => by have := (nI_eq (b := 1) (by omega) (by omega)).mp q; omega), il 1, pk_sub (by omega), m_place τ (by omega), bnd_s, show 20 * t + (j + 1 - 1) - 1 = 20 * t + (j - 1) by omega, M_knows I M hs (by omega), bnd_s, Bool.eq_false_iff.mpr hk, bI_f, if_pos rfl, if_pos rfl, if_pos rfl, nI_add, e0]
theorem gap_Mg {a : Ab} {v τ : St} (I : Inv a v) (M : RepM a v τ) {s t j' : Nat} (hs : s < 5) (ht : t < 5) {x3 : Int32} {G c : Nat} (hG : G ≤ 20) (hj' : j' < G) (hk' : knF a s (20 * t + j') = true) : ∀ (d f j : Nat), j + d = j' → 1 ≤ j → (∀ i, j - 1 ≤ i → i < j' → ¬ knF a s (20 * t + i) = true) → mX7_gap_L37 (f + 1 + d) (nI s) (nI t) x3 (nI G) (nI c) (nI (j + 1)) τ = mX7_gap_L37 f (nI s) (nI t) x3 (nI G) (nI c) (nI (j' + 2)) τ := by
  intro d
  induction d with
  | zero =>
    intro f j h _ _
    have : j = j' := by omega
    subst this
    rw [Nat.add_zero, gap_M1 I M hs ht hG hj' (Or.inl hk')]
  | succ d ih =>
    intro f j h h1 hk
    rw [show f + 1 + (d + 1) = (f + 1 + d) + 1 by omega, gap_M1 I M hs ht hG (by omega) (Or.inr ⟨h1, hk (j - 1) (Nat.le_refl _) (by omega)⟩)]
    exact ih f (j + 1) (by omega) (by omega) (fun i h1 h2 => hk i (by omega) h2)
theorem gap_Mf {a : Ab} {v τ : St} (I : Inv a v) (M : RepM a v τ) {s t g j' : Nat} (hs : s < 5) (ht : t < 5) (hj' : j' < 20) (hk' : knF a s (20 * t + j') = true) : ∀ (d f j : Nat), j + d = j' → d < f → (∀ i, j ≤ i → i < j' → ¬ knF a s (20 * t + i) = true) → mX7_gap_L119 f (nI s) (nI t) (nI (g + 1)) (nI j) τ = some (nI (100 * (g + 1) + j'), τ) := by
  intro d
  induction d with
  | zero =>
    intro f j h hf _
    obtain ⟨f, rfl⟩ : ∃ g, f = g + 1 := ⟨f - 1, by omega⟩
    have : j = j' := by omega
    subst this
    rw [mX7_gap_L119, nI_1, m_place τ (by omega), bnd_s, show 20 * t + (j + 1) - 1 = 20 * t + j by omega, M_knows I M hs (by omega), bnd_s, hk', bI_t, if_neg (by decide), il 100, pk_mul, nI_add]
  | succ d ih =>
    intro f j h hf hk
    obtain ⟨f, rfl⟩ : ∃ g, f = g + 1 := ⟨f - 1, by omega⟩
    rw [mX7_gap_L119, nI_1, m_place τ (by omega), bnd_s, show 20 * t + (j + 1) - 1 = 20 * t + j by omega, M_knows I M hs (by omega), bnd_s, Bool.eq_false_iff.mpr (hk j (Nat.le_refl _) (by omega)), bI_f, if_pos rfl]
    exact ih f (j + 1) (by omega) (by omega) (fun i h1 h2 => hk i (by omega) h2)
/-- the first one that satisfies, from j on -/
theorem first_of {P : Nat → Prop} : ∀ (d j k : Nat), k = j + d → P k → ∃ j', j ≤ j' ∧ j' ≤ k ∧ P j' ∧ ∀ i, j ≤ i → i < j' → ¬ P i := by
  intro d
  induction d with
  | zero =>
    intro j k h hp
    exact ⟨k, by omega, Nat.le_refl _, hp, fun i h1 h2 => by omega⟩
  | succ d ih =>
    intro j k h hp
    rcases Classical.em (P j) with e | e
    · exact ⟨j, Nat.le_refl _, by omega, e, fun i h1 h2 => by omega⟩
    · obtain ⟨j', h1, h2, h3, h4⟩ := ih (j + 1) k (by omega) hp
      refine ⟨j', by omega, h2, h3, fun i g1 g2 => ?_⟩
      by_cases q : i = j
      · rw [q]; exact e
      · exact h4 i (by omega) g2
theorem gap_all {a : Ab} {v σ τ : St} (I : Inv a v) (C : RepC a v σ) (M : RepM a v τ) {s t : Nat} (hs : s < 5) (ht : t < 5) (x3 : Int32) : ∀ (m j f c : Nat), 20 - j ≤ m → j ≤ 20 → 22 - j ≤ f → (j = 0 ∨ knF a s (20 * t + (j - 1)) = true) → ∃ r, mX6_gap_L32 f (nI s) (nI t) x3 0 (nI c) (nI (j + 1)) σ = some (r, σ) ∧ mX7_gap_L37 f (nI s) (nI t) x3 (nI (gr a s t (a 1 t))) (nI c) (nI (j + 1)) τ = some (r, τ) := by
  have h20 := (I.2.1 t ht).1
  have hle := gr_le a s t (a 1 t)
  have hun : ∀ i, gr a s t (a 1 t) ≤ i → i < 20 → ¬ knF a s (20 * t + i) = true := fun i h1 h2 h3 => by
    have hm := (knF_mk I hs h3).2
    rw [show (20 * t + i) / 20 = t by omega] at hm
    have := (gr_lt a s t i (a 1 t)).mpr ⟨i, Nat.le_refl _, by omega, h3⟩
    omega
  intro m
  induction m with
  | zero =>
    intro j f c h1 h2 h3 _
    obtain ⟨f, rfl⟩ : ∃ g, f = g + 1 := ⟨f - 1, by omega⟩
    have : j = 20 := by omega
    subst this
    exact ⟨_, gap_Ce, gap_M0 (by omega) (by omega) (by omega)⟩
  | succ m ih =>
    intro j f c h1 h2 h3 hb
    by_cases hj : j = 20
    · exact ih j f c (by omega) h2 h3 hb
    by_cases k : knF a s (20 * t + j) = true
    · obtain ⟨f, rfl⟩ : ∃ g, f = g + 1 := ⟨f - 1, by omega⟩
      have hjG : j < gr a s t (a 1 t) := Nat.lt_of_not_le (fun q => hun j q (by omega) k)
      rw [gap_C1 I C hs ht (by omega), if_pos k, if_pos rfl, gap_M1 I M hs ht (by omega) hjG (Or.inl k)]
      exact ih (j + 1) f c (by omega) (by omega) (by omega) (Or.inr (by rw [Nat.add_sub_cancel]; exact k))
    by_cases hjG : gr a s t (a 1 t) ≤ j
    · obtain ⟨f, rfl⟩ : ∃ g, f = g + 1 := ⟨f - 1, by omega⟩
      exact ⟨_, gap_C0 I C hs ht (20 - j) (f + 1) j 0 (by omega) (by omega) (fun i q1 q2 => hun i (by omega) q2), gap_M0 (by omega) hjG (by omega)⟩
    obtain ⟨k0, k1, k2, k3⟩ := (gr_lt a s t j (a 1 t)).mp (by omega)
    obtain ⟨j', p1, p2, p3, p4⟩ := first_of (P := fun i => knF a s (20 * t + i) = true) (k0 - j) j k0 (by omega) k3
    have hne : j ≠ j' := fun q => k (by rw [q]; exact p3)
    have hj'G : j' < gr a s t (a 1 t) := Nat.lt_of_not_le (fun q => hun j' q (by omega) p3)
    obtain ⟨f, rfl⟩ : ∃ g, f = (g + 1 + (j' - (j + 1))) + 1 := ⟨f - 2 - (j' - (j + 1)), by omega⟩
    rw [gap_C1 I C hs ht (by omega), if_neg k, if_pos rfl, gap_Cg (j := j + 1) I C hs ht (show j < 20 by omega) (show j' < 20 by omega) p3 (j' - (j + 1)) f (by omega) (fun i q1 q2 => p4 i (by omega) q2)]
    have hM : mX7_gap_L37 (f + 1 + (j' - (j + 1)) + 1) (nI s) (nI t) x3 (nI (gr a s t (a 1 t))) (nI c) (nI (j + 1)) τ = if nI c + 1 = x3 + 1 then mX7_gap_L119 fu (nI s) (nI t) (nI (j + 1)) (nI (j + 1)) τ else mX7_gap_L37 (f + 1 + (j' - (j + 1))) (nI s) (nI t) x3 (nI (gr a s t (a 1 t))) (nI (c + 1)) (nI (j + 1 + 1)) τ := by
      rw [mX7_gap_L37, if_neg (nI_nlt (by omega) (by omega)), m_place τ (by omega), bnd_s, show 20 * t + (j + 1) - 1 = 20 * t + j by omega, M_knows I M hs (by omega), bnd_s, Bool.eq_false_iff.mpr k, bI_f, if_pos rfl]
      unfold mX7_gap_b80 mX7_gap_b84 mX7_gap_b85 mX7_gap_b99
      by_cases j0 : j = 0
      · subst j0
        rw [if_pos (show nI (0 + 1) = (1 : Int32) from rfl), if_neg (by decide), if_neg (by decide), nI_1, nI_1]
      · rw [if_neg (show ¬ nI (j + 1) = (1 : Int32) from fun q => by have := (nI_eq (b := 1) (by omega) (by omega)).mp q; omega), il 1, pk_sub (by omega), m_place τ (by omega), bnd_s, show 20 * t + (j + 1 - 1) - 1 = 20 * t + (j - 1) by omega, M_knows I M hs (by omega), bnd_s, hb.resolve_left j0, bI_t, if_neg (by decide), if_neg (by decide), if_neg (by decide), nI_add, nI_add]
    rw [hM]
    by_cases hc : nI c = x3
    · rw [if_pos hc, if_pos (by rw [hc]), gap_Mf (g := j) (j := j + 1) I M hs ht (show j' < 20 by omega) p3 (j' - (j + 1)) fu (by omega) (by rw [fu_eq]; omega) (fun i q1 q2 => p4 i (by omega) q2)]
      exact ⟨_, rfl, rfl⟩
    · rw [if_neg hc, if_neg (fun q => hc ((Int32.add_left_inj 1).mp q)), gap_Mg (j := j + 1) I M hs ht (by omega) hj'G p3 (j' - (j + 1)) f (by omega) (by omega) (fun i q1 q2 => p4 i (by omega) q2), nI_1]
      exact ih (j' + 1) f (c + 1) (by omega) (by omega) (by omega) (Or.inr (by rw [Nat.add_sub_cancel]; exact p3))
theorem op_gap {σ τ : St} (R : Rel σ τ) (x y z : Int32) : Same (mX6_gap x y z σ) (mX7_gap x y z τ) := by
  obtain ⟨a, v, I, C, M⟩ := id R
  have h5 := I.1.2
  unfold mX6_gap mX7_gap
  refine Same_site I C M (fun s hs ex => ?_)
  refine Same_site I C M (fun t ht ey => ?_)
  subst ex; subst ey
  by_cases hz : 0 ≤ z
  · rw [if_pos hz, if_pos hz, m_great I M (by omega) (by omega), bnd_s]
    obtain ⟨r, e1, e2⟩ := gap_all I C M (show s < 5 by omega) (show t < 5 by omega) z 20 0 fu 0 (by omega) (by omega) (by rw [fu_eq]; omega) (Or.inl rfl)
    rw [show nI 0 = (0 : Int32) from rfl, show nI (0 + 1) = (1 : Int32) from rfl] at e1 e2
    rw [e1, e2]
    exact Same_r R
  · rw [if_neg hz, if_neg hz]; exact Same_r R
