/-! areSame. -/
theorem boardsB {a : Ab} {v σ τ : St} (I : Inv a v) (C : RepC a v σ) (M : RepM a v τ) {s b : Nat} (hb : b < 2) (hs : s < 5) : ∃ σ' τ' c fn, mX0_show b 0 (nI s) σ = some σ' ∧ mX7_workOut (nI s) τ = some τ' ∧ agB b σ σ' ∧ agM τ τ' ∧ hsB a (knF a s) b c fn σ' ∧ hsM a (knF a s) c fn τ' ∧ c ≤ 100 ∧ ∀ p, p < c → mk a (fn p) ∧ a 4 (fn p) = 0 := by
  have hK := fun i (h : knF a s i = true) => knF_mk I hs h
  have hB := shB_of (g := 0) (s := s) I C hK (fun i hi => by rw [show 16 + 0 = 16 from rfl, C.2.2.1 _ (by omega)]; exact knF_val I hs hi)
  have hm := shM_of (s := s) I M hK (fun i hi => by rw [M.2.2.1 _ (by omega)]; exact knF_val I hs hi)
  obtain ⟨σ', c, fn, e1, e2, e3, e4, e5⟩ := q_show (b := b) (by omega) hb hs hB
  obtain ⟨τ', c', fn', g1, g2, g3, g4⟩ := q_work hs hm
  obtain ⟨hc, hf⟩ := Lst_one okl_irr (fun _ _ _ => okl_trans) e4 g4
  subst hc
  refine ⟨σ', τ', c, fn, e1, g1, e2, g2, e3, ⟨g3.1, fun q hq => ?_⟩, e5, fun p hp => ⟨hK _ (e4.2.1 p hp).1, (e4.2.1 p hp).2.1⟩⟩
  rw [hf q hq]
  exact g3.2 q hq
/-- two lists, with layers, alike from q on -/
def eqL (f l f2 l2 : Nat → Nat) (q c : Nat) : Prop := ∀ p, q ≤ p → p < c → nI (f p) = nI (f2 p) ∧ nI (l p) = nI (l2 p)
theorem mat_L {σ : St} {c : Nat} {f l f2 l2 : Nat → Nat} (hc : c ≤ 100) (h29 : σ 29 0 = nI c) (h1 : ∀ q, q < c → σ 22 q = nI (f q) ∧ f q < 100 ∧ σ 21 (f q) = nI (l q)) (h2 : ∀ q, q < c → σ 25 q = nI (f2 q) ∧ f2 q < 100 ∧ σ 24 (f2 q) = nI (l2 q)) : ∀ (d g q : Nat), q + d = c → d < g → (eqL f l f2 l2 q c ∧ mX0_matches_L15 0 1 g (nI q) σ = some (1, σ)) ∨ (¬ eqL f l f2 l2 q c ∧ mX0_matches_L15 0 1 g (nI q) σ = some (0, σ)) := by
  intro d
  induction d with
  | zero =>
    intro g q h hg
    obtain ⟨g, rfl⟩ : ∃ x, g = x + 1 := ⟨g - 1, by omega⟩
    refine Or.inl ⟨fun p _ _ => by omega, ?_⟩
    rw [mX0_matches_L15, show σ (29 + 0) 0 = nI c from h29, if_pos (nI_le (by omega) (by omega))]
    rfl
  | succ d ih =>
    intro g q h hg
    obtain ⟨g, rfl⟩ : ∃ x, g = x + 1 := ⟨g - 1, by omega⟩
    obtain ⟨a1, a2, a3⟩ := h1 q (by omega)
    obtain ⟨b1, b2, b3⟩ := h2 q (by omega)
    rw [mX0_matches_L15, show σ (29 + 0) 0 = nI c from h29, if_neg (nI_ge (by omega) (by omega)), q_get σ (show q < rl (22 + 3 * 0) by show q < 100; omega), bnd_s]
    unfold mX0_strokeIn mX0_layerOf
    rw [q_get σ (show q < rl (22 + 3 * 1) by show q < 100; omega), bnd_s, bnd_s, show σ (22 + 3 * 0) q = _ from a1, show σ (22 + 3 * 1) q = _ from b1]
    by_cases e1 : nI (f q) = nI (f2 q)
    · have e1' : f q = f2 q := (nI_eq (by omega) (by omega)).mp e1
      rw [if_pos e1, q_get σ (show f q < rl (21 + 3 * 0) from a2), bnd_s, q_get σ (show f q < rl (21 + 3 * 1) from a2), bnd_s, bnd_s, show σ (21 + 3 * 0) (f q) = _ from a3, show σ (21 + 3 * 1) (f q) = nI (l2 q) by rw [e1']; exact b3]
      by_cases e2 : nI (l q) = nI (l2 q)
      · rw [if_pos e2, nI_1]
        rcases ih g (q + 1) (by omega) (by omega) with ⟨j1, j2⟩ | ⟨j1, j2⟩
        · refine Or.inl ⟨fun p p1 p2 => ?_, j2⟩
          by_cases ep : p = q
          · rw [ep]; exact ⟨e1, e2⟩
          · exact j1 p (by omega) p2
        · exact Or.inr ⟨fun z => j1 (fun p p1 p2 => z p (by omega) p2), j2⟩
      · rw [if_neg e2]
        exact Or.inr ⟨fun z => e2 (z q (Nat.le_refl _) (by omega)).2, rfl⟩
    · rw [if_neg e1]
      exact Or.inr ⟨fun z => e1 (z q (Nat.le_refl _) (by omega)).1, rfl⟩
theorem sam_0 {τ : St} {c q g : Nat} : mX7_doShowSame_L76 (g + 1) (nI c) 0 (nI q) τ = some (0, τ) := by
  rw [mX7_doShowSame_L76, if_pos rfl]
  by_cases h : nI c ≤ nI q
  · rw [if_pos h]; rfl
  · rw [if_neg h]; rfl
theorem sam_L {τ : St} {c : Nat} {f l f2 l2 : Nat → Nat} (hc : c ≤ 100) (h1 : ∀ q, q < c → τ 9 q = nI (f q) ∧ τ 10 q = nI (l q)) (h2 : ∀ q, q < c → τ 7 q = nI (f2 q) ∧ τ 8 q = nI (l2 q)) : ∀ (d g q : Nat), q + d = c → d + 1 < g → (eqL f l f2 l2 q c ∧ mX7_doShowSame_L76 g (nI c) 1 (nI q) τ = some (1, τ)) ∨ (¬ eqL f l f2 l2 q c ∧ mX7_doShowSame_L76 g (nI c) 1 (nI q) τ = some (0, τ)) := by
  intro d
  induction d with
  | zero =>
    intro g q h hg
    obtain ⟨g, rfl⟩ : ∃ x, g = x + 1 := ⟨g - 1, by omega⟩
    refine Or.inl ⟨fun p _ _ => by omega, ?_⟩
    rw [mX7_doShowSame_L76, if_pos (nI_le (by omega) (by omega))]
    rfl
  | succ d ih =>
    intro g q h hg
    obtain ⟨g, rfl⟩ : ∃ x, g = x + 1 + 1 := ⟨g - 2, by omega⟩
    obtain ⟨a1, a2⟩ := h1 q (by omega)
    obtain ⟨b1, b2⟩ := h2 q (by omega)
    have hx : ∀ {β : Type} (y : Option β), ix (nI q) 100 y = y := fun y => ix_n (by omega) (by decide)
    rw [mX7_doShowSame_L76, if_neg (nI_ge (by omega) (by omega)), if_neg (show ¬ (1 : Int32) = 0 by decide), hx, hx, hx, hx, nI_clamp (show q < 2 ^ 31 by omega), a1, a2, b1, b2, nI_1]
    by_cases e1 : nI (f q) = nI (f2 q)
    · rw [if_pos e1.symm]
      by_cases e2 : nI (l q) = nI (l2 q)
      · rw [if_pos e2.symm]
        rcases ih (g + 1) (q + 1) (by omega) (by omega) with ⟨j1, j2⟩ | ⟨j1, j2⟩
        · refine Or.inl ⟨fun p p1 p2 => ?_, j2⟩
          by_cases ep : p = q
          · rw [ep]; exact ⟨e1, e2⟩
          · exact j1 p (by omega) p2
        · exact Or.inr ⟨fun z => j1 (fun p p1 p2 => z p (by omega) p2), j2⟩
      · rw [if_neg (fun q => e2 q.symm), sam_0]
        exact Or.inr ⟨fun z => e2 (z q (Nat.le_refl _) (by omega)).2, rfl⟩
    · rw [if_neg (fun q => e1 q.symm), sam_0]
      exact Or.inr ⟨fun z => e1 (z q (Nat.le_refl _) (by omega)).1, rfl⟩
theorem cpy_L {c : Nat} (hc : c ≤ 100) {t : Int32} : ∀ (d f q : Nat) (τ : St), q + d = c → d < f → ∃ τ', mX7_doShowSame_L13 f t (nI c) (nI q) τ = mX7_doShowSame_b53 t (nI c) τ' ∧ (∀ k, k ≠ 9 → k ≠ 10 → τ' k = τ k) ∧ ∀ j, j < c → (τ' 9 j = if q ≤ j then τ 7 j else τ 9 j) ∧ τ' 10 j = if q ≤ j then τ 8 j else τ 10 j := by
  intro d
  induction d with
  | zero =>
    intro f q τ h hf
    obtain ⟨f, rfl⟩ : ∃ x, f = x + 1 := ⟨f - 1, by omega⟩
    rw [mX7_doShowSame_L13, if_pos (nI_le (by omega) (by omega))]
    exact ⟨τ, rfl, fun _ _ _ => rfl, fun j hj => by rw [if_neg (by omega), if_neg (by omega)]; exact ⟨rfl, rfl⟩⟩
  | succ d ih =>
    intro f q τ h hf
    obtain ⟨f, rfl⟩ : ∃ x, f = x + 1 := ⟨f - 1, by omega⟩
    have hx : ∀ {β : Type} (y : Option β), ix (nI q) 100 y = y := fun y => ix_n (by omega) (by decide)
    rw [mX7_doShowSame_L13, if_neg (nI_ge (by omega) (by omega)), hx, hx, lts_s, hx, hx, lts_s, nI_clamp (show q < 2 ^ 31 by omega), nI_1]
    obtain ⟨τ', e1, e2, e3⟩ := ih f (q + 1) (ups (ups τ 9 q (τ 7 q)) 10 q (ups τ 9 q (τ 7 q) 8 q)) (by omega) (by omega)
    refine ⟨τ', e1, fun k k1 k2 => by rw [e2 k k1 k2, ups_row k2, ups_row k1], fun j hj => ?_⟩
    obtain ⟨g1, g2⟩ := e3 j hj
    rw [g1, g2, ups_row (show 7 ≠ 10 by omega), ups_row (show 7 ≠ 9 by omega), ups_row (show 9 ≠ 10 by omega), ups_row (show 8 ≠ 10 by omega), ups_row (show 8 ≠ 9 by omega), ups_at, ups_at, ups_row (show 10 ≠ 9 by omega)]
    by_cases c1 : q + 1 ≤ j
    · rw [if_pos c1, if_pos c1, if_pos (by omega), if_pos (by omega)]; exact ⟨rfl, rfl⟩
    · rw [if_neg c1, if_neg c1]
      by_cases c2 : j = q
      · subst c2
        rw [if_pos ⟨rfl, rfl⟩, if_pos (Nat.le_refl _), if_pos ⟨rfl, rfl⟩, if_pos (Nat.le_refl _)]; exact ⟨rfl, rfl⟩
      · rw [if_neg (fun z => c2 z.2), if_neg (by omega), if_neg (fun z => c2 z.2), if_neg (by omega)]; exact ⟨rfl, rfl⟩
theorem same_two {a : Ab} {v σ τ : St} (I : Inv a v) (C : RepC a v σ) (M : RepM a v τ) {s t : Nat} (hs : s < 5) (ht : t < 5) : ∃ b σ' τ', mX6_showSame 0 (nI s) (nI t) σ = some (bI b, σ') ∧ mX7_doShowSame (nI s) (nI t) τ = some (bI b, τ') ∧ RepC a v σ' ∧ RepM a v τ' := by
  obtain ⟨σ1, τ1, c, fn, e1, e2, e3, e4, e5, e6, e7, e8⟩ := boardsB (b := 0) I C M (by omega) hs
  have C1 := RepC_ag C (agC_of (by omega) e3)
  have M1 := RepM_ag M (agN_of e4)
  obtain ⟨τ2, p1, p2, p3⟩ := cpy_L (t := nI t) e7 c fu 0 τ1 (by omega) (by rw [fu_eq]; omega)
  have M2 : RepM a v τ2 := RepM_ag M1 (fun k hk => p2 k (by omega) (by omega))
  obtain ⟨σ3, τ3, c2, fn2, g1, g2, g3, g4, g5, g6, g7, g8⟩ := boardsB (b := 1) I C1 M2 (by omega) ht
  have C3 := RepC_ag C1 (agC_of (by omega) g3)
  have M3 := RepM_ag M2 (agN_of g4)
  have k29 : σ3 29 0 = nI c := by rw [g3 29 (by omega) (by omega) (by omega) (by omega)]; exact e5.1
  have k30 : σ3 30 0 = nI c2 := g5.1
  have h1 : ∀ q, q < c → σ3 22 q = nI (fn q) ∧ fn q < 100 ∧ σ3 21 (fn q) = nI (lyK a (knF a s) (fn q)) := fun q hq => by
    rw [g3 22 (by omega) (by omega) (by omega) (by omega), g3 21 (by omega) (by omega) (by omega) (by omega)]
    exact ⟨e5.2.1 q hq, (e8 q hq).1.1, e5.2.2.2 (fn q) (e8 q hq).1 (e8 q hq).2⟩
  have h2 : ∀ q, q < c2 → σ3 25 q = nI (fn2 q) ∧ fn2 q < 100 ∧ σ3 24 (fn2 q) = nI (lyK a (knF a t) (fn2 q)) := fun q hq => ⟨g5.2.1 q hq, (g8 q hq).1.1, g5.2.2.2 (fn2 q) (g8 q hq).1 (g8 q hq).2⟩
  have h3 : ∀ q, q < c → τ3 9 q = nI (fn q) ∧ τ3 10 q = nI (lyK a (knF a s) (fn q)) := fun q hq => by
    obtain ⟨w1, w2⟩ := p3 q hq
    obtain ⟨w3, w4⟩ := e6.2 q hq
    rw [g4 9 (by omega) (by omega) (by omega), g4 10 (by omega) (by omega) (by omega), w1, w2, if_pos (Nat.zero_le _), if_pos (Nat.zero_le _)]
    exact ⟨w3, w4⟩
  unfold mX6_showSame mX7_doShowSame mX0_matches
  rw [e1, bnv_s, g1, bnv_s, show σ3 (29 + 0) 0 = _ from k29, show σ3 (29 + 1) 0 = _ from k30, e2, bnv_s, e6.1, show (mX7_doShowSame_L13 fu (nI t) (nI c) 0 τ1) = _ from p1]
  unfold mX7_doShowSame_b53
  rw [g2, bnv_s, g6.1]
  by_cases hcc : c = c2
  · subst hcc
    rw [if_pos rfl, if_pos rfl]
    have A := mat_L (l := fun q => lyK a (knF a s) (fn q)) (l2 := fun q => lyK a (knF a t) (fn2 q)) e7 k29 h1 h2 c fu 0 (by omega) (by rw [fu_eq]; omega)
    have B := sam_L (l := fun q => lyK a (knF a s) (fn q)) (l2 := fun q => lyK a (knF a t) (fn2 q)) e7 h3 g6.2 c fu 0 (by omega) (by rw [fu_eq]; omega)
    rw [show nI 0 = (0 : Int32) from rfl] at A B
    rcases A with ⟨j1, j2⟩ | ⟨j1, j2⟩
    · rcases B with ⟨u1, u2⟩ | ⟨u1, u2⟩
      · rw [j2, u2]; exact ⟨true, σ3, τ3, rfl, rfl, C3, M3⟩
      · exact absurd j1 u1
    · rcases B with ⟨u1, u2⟩ | ⟨u1, u2⟩
      · exact absurd u1 j1
      · rw [j2, u2]; exact ⟨false, σ3, τ3, rfl, rfl, C3, M3⟩
  · have hn : ¬ nI c = nI c2 := fun q => hcc ((nI_eq (by omega) (by omega)).mp q)
    rw [if_neg hn, if_neg hn, show (mX7_doShowSame_L76 fu (nI c) 0 0 τ3) = _ from sam_0 (c := c) (q := 0) (g := 3999)]
    exact ⟨false, σ3, τ3, rfl, rfl, C3, M3⟩
theorem op_areSame {σ τ : St} (R : Rel σ τ) (x y : Int32) : Same (mX6_areSame x y σ) (mX7_areSame x y τ) := by
  obtain ⟨a, v, I, C, M⟩ := id R
  have h5 := I.1.2
  unfold mX6_areSame mX7_areSame
  refine Same_site I C M (fun s hs ex => ?_)
  refine Same_site I C M (fun t ht ey => ?_)
  subst ex; subst ey
  obtain ⟨b, σ', τ', e1, e2, C', M'⟩ := same_two I C M (show s < 5 by omega) (show t < 5 by omega)
  rw [e1, e2, bnd_s, bnd_s]
  cases b with
  | true => exact Same_r ⟨a, v, I, C', M'⟩
  | false => exact Same_r ⟨a, v, I, C', M'⟩
