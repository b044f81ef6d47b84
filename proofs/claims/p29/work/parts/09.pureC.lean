/-! Getters of the class, and what a board shows. -/
theorem q_order {p : Nat} (σ : St) (h : p < 100) : mX4_inOrder (nI p) σ = some (σ 5 p, σ) := by unfold mX4_inOrder; rw [q_get σ (show p < rl 5 from h), bnd_s]
theorem q_kind {p : Nat} (σ : St) (h : p < 100) : mX4_kindOf (nI p) σ = some (σ 1 p, σ) := by unfold mX4_kindOf; rw [q_get σ (show p < rl 1 from h), bnd_s]
theorem q_time {p : Nat} (σ : St) (h : p < 100) : mX4_timeOf (nI p) σ = some (σ 2 p, σ) := by unfold mX4_timeOf; rw [q_get σ (show p < rl 2 from h), bnd_s]
theorem q_target {p : Nat} (σ : St) (h : p < 100) : mX4_targetOf (nI p) σ = some (σ 3 p, σ) := by unfold mX4_targetOf; rw [q_get σ (show p < rl 3 from h), bnd_s]
theorem q_layer {p : Nat} (σ : St) (h : p < 100) : mX4_layerOf (nI p) σ = some (σ 4 p, σ) := by unfold mX4_layerOf; rw [q_get σ (show p < rl 4 from h), bnd_s]
theorem q_made {p : Nat} (σ : St) (h : p < 5) : mX4_madeBy (nI p) σ = some (σ 0 p, σ) := by unfold mX4_madeBy; rw [q_get σ (show p < rl 0 from h), bnd_s]
theorem q_isStroke {p : Nat} (σ : St) (h : p < 100) : mX4_isStroke (nI p) σ = some (bI (decide (σ 1 p = 0)), σ) := by unfold mX4_isStroke; rw [q_get σ (show p < rl 1 from h), bnd_s, rz_if]
theorem q_undone {b p : Nat} (hb : b < 2) (σ : St) (h : p < 100) : mX0_isUndone b (nI p) σ = some (bI (decide (σ (20 + 3 * b) p = 1)), σ) := by unfold mX0_isUndone; rw [q_get σ (by rw [(rl_brd b hb).1]; exact h), bnd_s, rz_if]
theorem q_strokeIn {b p : Nat} (hb : b < 2) (σ : St) (h : p < 100) : mX0_strokeIn b (nI p) σ = some (σ (22 + 3 * b) p, σ) := by unfold mX0_strokeIn; rw [q_get σ (by rw [(rl_brd b hb).2.2]; exact h), bnd_s]
theorem q_blayer {b p : Nat} (hb : b < 2) (σ : St) (h : p < 100) : mX0_layerOf b (nI p) σ = some (σ (21 + 3 * b) p, σ) := by unfold mX0_layerOf; rw [q_get σ (by rw [(rl_brd b hb).2.1]; exact h), bnd_s]
theorem q_has {g s i : Nat} (hg : g < 2) (σ : St) (hs : s < 5) (hi : i < 100) : mX2_has g (nI s) (nI i) σ = some (bI (decide (σ (16 + g) (100 * s + i) = 1)), σ) := by
  unfold mX2_has
  rw [il 100, pk_mul, nI_add, q_get σ (by rw [rl_kno g hg]; omega), bnd_s, rz_if, Nat.mul_comm s 100]
theorem q_hasK {g s i : Nat} {K : Nat → Bool} (hg : g < 2) {σ : St} (hs : s < 5) (hi : i < 100) (h : σ (16 + g) (100 * s + i) = bI (K i)) : mX2_has g (nI s) (nI i) σ = some (bI (K i), σ) := by
  rw [q_has hg σ hs hi, h]
  cases K i <;> rfl
/-- all rows but those of board b -/
def agB (b : Nat) (σ σ' : St) : Prop := ∀ k, k ≠ 20 + 3 * b → k ≠ 21 + 3 * b → k ≠ 22 + 3 * b → k ≠ 29 + b → σ' k = σ k
theorem agB_refl {b : Nat} {σ : St} : agB b σ σ := fun _ _ _ _ _ => rfl
theorem agB_trans {b : Nat} {σ σ' σ2 : St} (h : agB b σ σ') (h2 : agB b σ' σ2) : agB b σ σ2 := fun k a b c d => (h2 k a b c d).trans (h k a b c d)
/-- what a board is made of: the operations in their order, and what the site s knows by the row 16 + g -/
def shB (a : Ab) (K : Nat → Bool) (g s : Nat) (σ : St) : Prop := (tot a ≤ 100 ∧ Ord a ∧ ∀ i, K i = true → mk a i) ∧ (σ 28 0 = nI (tot a) ∧ ∀ p, p < tot a → σ 5 p = nI (a 9 p)) ∧ (∀ i, mk a i → σ 1 i = nI (a 4 i) ∧ a 4 i ≤ 3 ∧ (a 4 i ≠ 0 → σ 3 i = nI (a 6 i) ∧ a 6 i < 100) ∧ (a 4 i = 0 ∨ a 4 i = 3 → σ 4 i = nI (a 8 i) ∧ a 8 i < 4)) ∧ ∀ i, i < 100 → σ (16 + g) (100 * s + i) = bI (K i)
theorem shB_ag {a : Ab} {K : Nat → Bool} {g s b : Nat} {σ σ' : St} (hg : g < 2) (hb : b < 2) (h : shB a K g s σ) (e : agB b σ σ') : shB a K g s σ' := by
  obtain ⟨h1, ⟨h2, h3⟩, h4, h5⟩ := h
  refine ⟨h1, ⟨?_, fun p hp => ?_⟩, fun i hi => ?_, fun i hi => ?_⟩
  · rw [e 28 (by omega) (by omega) (by omega) (by omega)]; exact h2
  · rw [e 5 (by omega) (by omega) (by omega) (by omega)]; exact h3 p hp
  · rw [e 1 (by omega) (by omega) (by omega) (by omega), e 3 (by omega) (by omega) (by omega) (by omega), e 4 (by omega) (by omega) (by omega) (by omega)]; exact h4 i hi
  · rw [e (16 + g) (by omega) (by omega) (by omega) (by omega)]; exact h5 i hi
theorem nz0 {n : Nat} (h : n < 2 ^ 31) (h0 : n ≠ 0) : ¬ nI n = (0 : Int32) := fun q => h0 ((nI_eq (b := 0) h (by omega)).mp q)
theorem nz1 {n : Nat} (h : n < 2 ^ 31) (h0 : n ≠ 1) : ¬ nI n = (1 : Int32) := fun q => h0 ((nI_eq (b := 1) h (by omega)).mp q)
theorem nz2 {n : Nat} (h : n < 2 ^ 31) (h0 : n ≠ 2) : ¬ nI n = (2 : Int32) := fun q => h0 ((nI_eq (b := 2) h (by omega)).mp q)
theorem nz3 {n : Nat} (h : n < 2 ^ 31) (h0 : n ≠ 3) : ¬ nI n = (3 : Int32) := fun q => h0 ((nI_eq (b := 3) h (by omega)).mp q)
theorem nI_inj {i j : Nat} (hi : i < 2 ^ 31) (hj : j < 2 ^ 31) : nI i = nI j ↔ i = j := nI_eq hi hj
/-- the first loop of show: undone and layers -/
theorem show_L33 {a : Ab} {K : Nat → Bool} {g s b : Nat} (hg : g < 2) (hb : b < 2) (hs : s < 5) : ∀ (d f p : Nat) (σ : St), p + d = tot a → d < f → shB a K g s σ → (∀ i, i < 100 → σ (20 + 3 * b) i = bI (undF a K p i)) → (∀ i, mk a i → a 4 i = 0 → σ (21 + 3 * b) i = nI (layF a K p i)) → ∃ σ', mX0_show_L33 b g f (nI s) (nI (tot a)) (nI p) σ = mX0_show_L74 b g fu (nI s) 0 σ' ∧ agB b σ σ' ∧ σ' (22 + 3 * b) = σ (22 + 3 * b) ∧ σ' (29 + b) = σ (29 + b) ∧ (∀ i, i < 100 → σ' (20 + 3 * b) i = bI (undF a K (tot a) i)) ∧ (∀ i, mk a i → a 4 i = 0 → σ' (21 + 3 * b) i = nI (layF a K (tot a) i)) := by
  intro d
  induction d with
  | zero =>
    intro f p σ h hf hB hu hl
    obtain ⟨f, rfl⟩ : ∃ g, f = g + 1 := ⟨f - 1, by omega⟩
    have ht := hB.1.1
    rw [mX0_show_L33, if_pos (nI_le (by omega) (by omega))]
    have hp : p = tot a := by omega
    subst hp
    exact ⟨σ, rfl, agB_refl, rfl, rfl, hu, hl⟩
  | succ d ih =>
    intro f p σ h hf hB hu hl
    obtain ⟨f, rfl⟩ : ∃ g, f = g + 1 := ⟨f - 1, by omega⟩
    obtain ⟨⟨ht, hO, hKm⟩, ⟨hT, ho⟩, hop, hk⟩ := id hB
    have hm := hO.1 p (by omega)
    have hid := hm.1
    generalize hod : a 9 p = o at hm hid
    rw [mX0_show_L33, if_neg (nI_ge (by omega) (by omega)), q_order σ (by omega), bnd_s, ho p (by omega), hod, q_hasK hg hs hid (hk o hid), bnd_s]
    by_cases hKo : K o = true
    · rw [hKo, bI_t, if_neg (by decide)]
      obtain ⟨h1, h2, h3, h4⟩ := hop o hm
      unfold mX0_apply
      rw [q_target σ hid, bnd_s, q_kind σ hid, bnd_s, h1]
      by_cases k1 : a 4 o = 1
      · obtain ⟨h3, h3'⟩ := h3 (by omega)
        rw [k1, if_pos (by decide), h3, q_set _ _ (by rw [(rl_brd b hb).1]; exact h3'), bnv_s, bnv_s, nI_1]
        have e : agB b σ (ups σ (20 + 3 * b) (a 6 o) 1) := fun k a1 a2 a3 a4 => ups_row a1
        obtain ⟨σ', e1, e2, e3, e4, e5⟩ := ih f (p + 1) _ (by omega) (by omega) (shB_ag hg hb hB e) (fun i hi => by
          rw [ups_at]
          unfold undF
          rw [hod]
          by_cases hi2 : i = a 6 o
          · rw [if_pos ⟨rfl, hi2⟩, if_pos ⟨hKo, hi2.symm, k1⟩]; rfl
          · rw [if_neg (fun q => hi2 q.2), if_neg (fun q => hi2 q.2.1.symm), if_neg (fun q => hi2 q.2.1.symm)]; exact hu i hi) (fun i hi hi0 => by
          rw [ups_row (by omega)]
          unfold layF
          rw [hod, if_neg (by omega)]; exact hl i hi hi0)
        exact ⟨σ', e1, agB_trans e e2, by rw [e3, ups_row (by omega)], by rw [e4, ups_row (by omega)], e5⟩
      · by_cases k2 : a 4 o = 2
        · obtain ⟨h3, h3'⟩ := h3 (by omega)
          rw [k2, if_neg (by decide), if_pos (by decide), h3, q_set _ _ (by rw [(rl_brd b hb).1]; exact h3'), bnv_s, bnv_s, nI_1]
          have e : agB b σ (ups σ (20 + 3 * b) (a 6 o) 0) := fun k a1 a2 a3 a4 => ups_row a1
          obtain ⟨σ', e1, e2, e3, e4, e5⟩ := ih f (p + 1) _ (by omega) (by omega) (shB_ag hg hb hB e) (fun i hi => by
            rw [ups_at]
            unfold undF
            rw [hod]
            by_cases hi2 : i = a 6 o
            · rw [if_pos ⟨rfl, hi2⟩, if_neg (fun q => k1 q.2.2), if_pos ⟨hKo, hi2.symm, k2⟩]; rfl
            · rw [if_neg (fun q => hi2 q.2), if_neg (fun q => hi2 q.2.1.symm), if_neg (fun q => hi2 q.2.1.symm)]; exact hu i hi) (fun i hi hi0 => by
            rw [ups_row (by omega)]
            unfold layF
            rw [hod, if_neg (by omega)]; exact hl i hi hi0)
          exact ⟨σ', e1, agB_trans e e2, by rw [e3, ups_row (by omega)], by rw [e4, ups_row (by omega)], e5⟩
        · by_cases k3 : a 4 o = 3
          · obtain ⟨h3, h3'⟩ := h3 (by omega)
            obtain ⟨h4, h4'⟩ := h4 (Or.inr k3)
            rw [k3, if_neg (by decide), if_neg (by decide), if_pos (by decide), q_layer σ hid, bnd_s, h3, h4, q_set _ _ (by rw [(rl_brd b hb).2.1]; exact h3'), bnv_s, bnv_s, nI_1]
            have e : agB b σ (ups σ (21 + 3 * b) (a 6 o) (nI (a 8 o))) := fun k a1 a2 a3 a4 => ups_row a2
            obtain ⟨σ', e1, e2, e3, e4, e5⟩ := ih f (p + 1) _ (by omega) (by omega) (shB_ag hg hb hB e) (fun i hi => by
              rw [ups_row (by omega)]
              unfold undF
              rw [hod, if_neg (fun q => k1 q.2.2), if_neg (fun q => k2 q.2.2)]; exact hu i hi) (fun i hi hi0 => by
              rw [ups_at]
              unfold layF
              rw [hod]
              by_cases hi2 : i = a 6 o
              · rw [if_pos ⟨rfl, hi2⟩, if_pos ⟨hKo, hi2.symm, k3⟩]
              · rw [if_neg (fun q => hi2 q.2), if_neg (fun q => hi2 q.2.1.symm)]; exact hl i hi hi0)
            exact ⟨σ', e1, agB_trans e e2, by rw [e3, ups_row (by omega)], by rw [e4, ups_row (by omega)], e5⟩
          · have k0 : a 4 o = 0 := by omega
            rw [k0, if_neg (by decide), if_neg (by decide), if_neg (by decide), bnv_s, nI_1]
            exact ih f (p + 1) σ (by omega) (by omega) hB (fun i hi => by
              unfold undF
              rw [hod, if_neg (fun q => k1 q.2.2), if_neg (fun q => k2 q.2.2)]; exact hu i hi) (fun i hi hi0 => by
              unfold layF
              rw [hod, if_neg (fun q => k3 q.2.2)]; exact hl i hi hi0)
    · have hKf : K o = false := by cases h9 : K o with
        | false => rfl
        | true => exact absurd h9 hKo
      rw [hKf, bI_f, if_pos rfl, nI_1]
      exact ih f (p + 1) σ (by omega) (by omega) hB (fun i hi => by
        unfold undF
        rw [hod, if_neg (fun q => hKo q.1), if_neg (fun q => hKo q.1)]; exact hu i hi) (fun i hi hi0 => by
        unfold layF
        rw [hod, if_neg (fun q => hKo q.1)]; exact hl i hi hi0)
/-- what board b holds: the sequence f of c strokes -/
def hsB (a : Ab) (K : Nat → Bool) (b c : Nat) (f : Nat → Nat) (σ : St) : Prop := σ (29 + b) 0 = nI c ∧ (∀ q, q < c → σ (22 + 3 * b) q = nI (f q)) ∧ (∀ i, i < 100 → σ (20 + 3 * b) i = bI (undF a K (tot a) i)) ∧ (∀ i, mk a i → a 4 i = 0 → σ (21 + 3 * b) i = nI (lyK a K i))
theorem collect_L9 {a : Ab} {K : Nat → Bool} {g s b y : Nat} (hg : g < 2) (hb : b < 2) (hs : s < 5) (hy : y < 4) : ∀ (d f p c : Nat) (fn : Nat → Nat) (σ : St), p + d = tot a → d < f → shB a K g s σ → (∀ i, mk a i → a 4 i = 0 → lyK a K i < 4) → hsB a K b c fn σ → Lst (okl a K) (fun x => vis a K x ∧ (lyK a K x < y ∨ (lyK a K x = y ∧ ∃ q, q < p ∧ a 9 q = x))) fn c → ∃ σ' c' fn', mX0_collect_L9 b g f (nI s) (nI y) (nI (tot a)) (nI p) σ = some σ' ∧ agB b σ σ' ∧ hsB a K b c' fn' σ' ∧ Lst (okl a K) (fun x => vis a K x ∧ lyK a K x < y + 1) fn' c' := by
  intro d
  induction d with
  | zero =>
    intro f p c fn σ h hf hB hl4 hH hL
    obtain ⟨f, rfl⟩ : ∃ g, f = g + 1 := ⟨f - 1, by omega⟩
    have ht := hB.1.1
    rw [mX0_collect_L9, if_pos (nI_le (by omega) (by omega))]
    refine ⟨σ, c, fn, rfl, agB_refl, hH, Lst_cong hL (fun x => ⟨fun q => ⟨q.1, by omega⟩, fun q => ⟨q.1, ?_⟩⟩)⟩
    by_cases h1 : lyK a K x < y
    · exact Or.inl h1
    · obtain ⟨r, hr, er⟩ := hB.1.2.1.2.2 x (hB.1.2.2 x q.1.1)
      exact Or.inr ⟨by omega, r, by omega, er⟩
  | succ d ih =>
    intro f p c fn σ h hf hB hl4 hH hL
    obtain ⟨f, rfl⟩ : ∃ g, f = g + 1 := ⟨f - 1, by omega⟩
    obtain ⟨⟨ht, hO, hKm⟩, ⟨hT, ho⟩, hop, hk⟩ := id hB
    obtain ⟨hc, hst, hun, hla⟩ := id hH
    have hm := hO.1 p (by omega)
    have hid := hm.1
    have same : ∀ (P : ¬ (vis a K (a 9 p) ∧ lyK a K (a 9 p) = y)), Lst (okl a K) (fun x => vis a K x ∧ (lyK a K x < y ∨ (lyK a K x = y ∧ ∃ q, q < p + 1 ∧ a 9 q = x))) fn c := fun P => Lst_cong hL (fun x => by
      constructor
      · rintro ⟨h1, h2 | ⟨h2, q, hq, e⟩⟩
        · exact ⟨h1, Or.inl h2⟩
        · exact ⟨h1, Or.inr ⟨h2, q, by omega, e⟩⟩
      · rintro ⟨h1, h2 | ⟨h2, q, hq, e⟩⟩
        · exact ⟨h1, Or.inl h2⟩
        · by_cases hqp : q = p
          · subst hqp; subst e; exact absurd ⟨h1, h2⟩ P
          · exact ⟨h1, Or.inr ⟨h2, q, by omega, e⟩⟩)
    generalize hod : a 9 p = o at hm hid same
    obtain ⟨h1, h2, h3, h4⟩ := hop o hm
    rw [mX0_collect_L9, if_neg (nI_ge (by omega) (by omega)), q_order σ (by omega), bnd_s, ho p (by omega), hod, q_isStroke σ hid, bnd_s, h1]
    by_cases k0 : a 4 o = 0
    · rw [k0, decide_eq_true (show nI 0 = (0 : Int32) from rfl), bI_t, if_neg (by decide), q_get σ (by rw [(rl_brd b hb).2.1]; exact hid), bnd_s, hla o hm k0]
      have hlo := hl4 o hm k0
      by_cases ky : lyK a K o = y
      · rw [ky, if_pos rfl, q_undone hb σ hid, bnd_s, hun o hid]
        cases hu : undF a K (tot a) o with
        | true =>
          rw [bI_t, decide_eq_true rfl, bI_t, if_neg (by decide), nI_1]
          exact ih f (p + 1) c fn σ (by omega) (by omega) hB hl4 hH (same (fun q => by have := q.1.2.2; rw [hu] at this; cases this))
        | false =>
          rw [bI_f, decide_eq_false (by decide), bI_f, if_pos rfl, q_hasK hg hs hid (hk o hid), bnd_s]
          cases hKo : K o with
          | false =>
            rw [bI_f, if_pos rfl, nI_1]
            exact ih f (p + 1) c fn σ (by omega) (by omega) hB hl4 hH (same (fun q => by have := q.1.1; rw [hKo] at this; cases this))
          | true =>
            have hV : vis a K o := ⟨hKo, k0, hu⟩
            have hL2 := Lst_add (x := o) hL (fun q hq => by
              obtain ⟨g1, g2⟩ := hL.2.1 q hq
              rcases g2 with g2 | ⟨g2, r, hr, er⟩
              · exact Or.inl (by rw [ky]; exact g2)
              · exact Or.inr ⟨by rw [ky]; exact g2, by rw [← er, ← hod]; exact hO.2.1 r p hr (by omega)⟩)
            have hlen := Lst_len okl_irr hL2 (m := 100) (fun x hx => by
              rcases hx with hx | hx
              · exact (hKm x hx.1.1).1
              · rw [hx]; exact hid)
            rw [bI_t, if_neg (by decide), hc, q_set _ _ (by rw [(rl_brd b hb).2.2]; omega), bnv_s]
            simp only [lts_s, lti_s]
            rw [ups_row (show 29 + b ≠ 22 + 3 * b by omega), hc, nI_1, nI_1]
            have e : agB b σ (ups (ups σ (22 + 3 * b) c (nI o)) (29 + b) 0 (nI (c + 1))) := fun k a1 a2 a3 a4 => by rw [ups_row a4, ups_row a3]
            obtain ⟨σ', c', fn', e1, e2, e3⟩ := ih f (p + 1) (c + 1) (fun q => if q = c then o else fn q) (ups (ups σ (22 + 3 * b) c (nI o)) (29 + b) 0 (nI (c + 1))) (by omega) (by omega) (shB_ag hg hb hB e) hl4 ⟨by rw [ups_at, if_pos ⟨rfl, rfl⟩], fun q hq => by
                rw [ups_row (by omega), ups_at]
                show _ = nI (if q = c then o else fn q)
                by_cases hqc : q = c
                · rw [if_pos ⟨rfl, hqc⟩, if_pos hqc]
                · rw [if_neg (fun z => hqc z.2), if_neg hqc]; exact hst q (by omega), fun i hi => by
                rw [ups_row (by omega), ups_row (by omega)]; exact hun i hi, fun i hi hi0 => by
                rw [ups_row (by omega), ups_row (by omega)]; exact hla i hi hi0⟩ (Lst_cong hL2 (fun x => by
                constructor
                · rintro (⟨g1, g2 | ⟨g2, q, hq, er⟩⟩ | rfl)
                  · exact ⟨g1, Or.inl g2⟩
                  · exact ⟨g1, Or.inr ⟨g2, q, by omega, er⟩⟩
                  · exact ⟨hV, Or.inr ⟨ky, p, by omega, hod⟩⟩
                · rintro ⟨g1, g2 | ⟨g2, q, hq, er⟩⟩
                  · exact Or.inl ⟨g1, Or.inl g2⟩
                  · by_cases hqp : q = p
                    · subst hqp; exact Or.inr (by rw [← er, hod])
                    · exact Or.inl ⟨g1, Or.inr ⟨g2, q, by omega, er⟩⟩))
            exact ⟨σ', c', fn', e1, agB_trans e e2, e3⟩
      · rw [if_neg (fun q => ky ((nI_inj (by omega) (by omega)).mp q)), nI_1]
        exact ih f (p + 1) c fn σ (by omega) (by omega) hB hl4 hH (same (fun q => ky q.2))
    · rw [decide_eq_false (nz0 (by omega) k0), bI_f, if_pos rfl, nI_1]
      exact ih f (p + 1) c fn σ (by omega) (by omega) hB hl4 hH (same (fun q => k0 q.1.2.1))
theorem layF_lt {a : Ab} {K : Nat → Bool} (h : ∀ i, mk a i → (a 4 i = 0 ∨ a 4 i = 3) → a 8 i < 4) (hK : ∀ i, K i = true → mk a i) {i : Nat} (hi : mk a i) (h0 : a 4 i = 0) : ∀ p, layF a K p i < 4 := by
  intro p
  induction p with
  | zero => exact h i hi (Or.inl h0)
  | succ p ih =>
    unfold layF
    by_cases hc : K (a 9 p) = true ∧ a 6 (a 9 p) = i ∧ a 4 (a 9 p) = 3
    · rw [if_pos hc]; exact h _ (hK _ hc.1) (Or.inr hc.2.2)
    · rw [if_neg hc]; exact ih
theorem show_L74 {a : Ab} {K : Nat → Bool} {g s b : Nat} (hg : g < 2) (hb : b < 2) (hs : s < 5) : ∀ (d f y c : Nat) (fn : Nat → Nat) (σ : St), y + d = 4 → d < f → shB a K g s σ → (∀ i, mk a i → a 4 i = 0 → lyK a K i < 4) → hsB a K b c fn σ → Lst (okl a K) (fun x => vis a K x ∧ lyK a K x < y) fn c → ∃ σ' c' fn', mX0_show_L74 b g f (nI s) (nI y) σ = some σ' ∧ agB b σ σ' ∧ hsB a K b c' fn' σ' ∧ Lst (okl a K) (fun x => vis a K x ∧ lyK a K x < 4) fn' c' := by
  intro d
  induction d with
  | zero =>
    intro f y c fn σ h hf hB hl4 hH hL
    obtain ⟨f, rfl⟩ : ∃ g, f = g + 1 := ⟨f - 1, by omega⟩
    have hy : y = 4 := by omega
    subst hy
    rw [mX0_show_L74, if_pos (by decide)]
    exact ⟨σ, c, fn, rfl, agB_refl, hH, hL⟩
  | succ d ih =>
    intro f y c fn σ h hf hB hl4 hH hL
    obtain ⟨f, rfl⟩ : ∃ g, f = g + 1 := ⟨f - 1, by omega⟩
    rw [mX0_show_L74, if_neg (show ¬ ((3 : Int32) < nI y) from nI_nlt (a := 3) (by omega) (by omega))]
    unfold mX0_collect mX4_totalCount
    rw [bnd_s, hB.2.1.1, show (0 : Int32) = nI 0 from rfl]
    obtain ⟨σ', c', fn', e1, e2, e3, e4⟩ := collect_L9 (y := y) hg hb hs (by omega) (tot a) fu 0 c fn σ (by omega) (by rw [fu_eq]; have := hB.1.1; omega) hB hl4 hH (Lst_cong hL (fun x => ⟨fun q => ⟨q.1, Or.inl q.2⟩, fun q => ⟨q.1, by rcases q.2 with h1 | ⟨_, r, hr, _⟩; exact h1; omega⟩⟩))
    rw [e1, bnv_s, nI_1]
    obtain ⟨σ2, c2, fn2, g1, g2, g3, g4⟩ := ih f (y + 1) c' fn' σ' (by omega) (by omega) (shB_ag hg hb hB e2) hl4 e3 e4
    exact ⟨σ2, c2, fn2, g1, agB_trans e2 g2, g3, g4⟩
theorem q_show {a : Ab} {K : Nat → Bool} {g s b : Nat} {σ : St} (hg : g < 2) (hb : b < 2) (hs : s < 5) (hB : shB a K g s σ) : ∃ σ' c fn, mX0_show b g (nI s) σ = some σ' ∧ agB b σ σ' ∧ hsB a K b c fn σ' ∧ Lst (okl a K) (vis a K) fn c ∧ c ≤ 100 := by
  obtain ⟨⟨ht, hO, hKm⟩, ⟨hT, ho⟩, hop, hk⟩ := id hB
  have hl4 : ∀ i, mk a i → a 4 i = 0 → lyK a K i < 4 := fun i hi h0 => layF_lt (fun j hj h => ((hop j hj).2.2.2 h).2) hKm hi h0 (tot a)
  unfold mX0_show mX4_totalCount
  have r1 := (rl_brd b hb).1
  have r2 := (rl_brd b hb).2.1
  rw [bnd_s, q_fill _ _ (by rw [r1, fu_eq]; omega), bnv_s, q_copy _ (by omega) (by rw [r2]; decide) (by rw [r2, fu_eq]; omega), bnv_s]
  simp only [lts_s, lti_s]
  rw [r1, r2, hT, show (0 : Int32) = nI 0 from rfl]
  generalize hσ : ups (cpS (flS σ (20 + 3 * b) 0 100 (nI 0)) (21 + 3 * b) 4 0 100) (29 + b) 0 (nI 0) = σ1
  have e : agB b σ σ1 := fun k a1 a2 a3 a4 => by
    rw [← hσ, ups_row a4]
    funext i
    unfold cpS flS
    rw [if_neg (fun q => a2 q.1), if_neg (fun q => a1 q.1)]
  have hB1 := shB_ag hg hb hB e
  obtain ⟨σ2, f1, f2, f3, f4, f5, f6⟩ := show_L33 hg hb hs (tot a) fu 0 σ1 (by omega) (by rw [fu_eq]; omega) hB1 (fun i hi => by
      rw [← hσ, ups_row (by omega)]
      unfold cpS flS
      rw [if_neg (by omega), if_pos (by omega)]
      rfl) (fun i hi h0 => by
      rw [← hσ, ups_row (by omega)]
      have := hi.1
      unfold cpS flS
      rw [if_pos (by omega), if_neg (by omega)]
      exact ((hop i hi).2.2.2 (Or.inl h0)).1)
  rw [f1, show (0 : Int32) = nI 0 from rfl]
  obtain ⟨σ3, c, fn, g1, g2, g3, g4⟩ := show_L74 hg hb hs 4 fu 0 0 (fun _ => 0) σ2 (by omega) (by rw [fu_eq]; omega) (shB_ag hg hb hB1 f2) hl4 ⟨by rw [f4, ← hσ, ups_at, if_pos ⟨rfl, rfl⟩], fun q h => by omega, f5, f6⟩ (Lst_nil (fun x h => by have := h.2; omega))
  have hL : Lst (okl a K) (vis a K) fn c := Lst_cong g4 (fun x => ⟨fun q => q.1, fun q => ⟨q, hl4 x (hKm x q.1) q.2.1⟩⟩)
  exact ⟨σ3, c, fn, g1, agB_trans e (agB_trans f2 g2), g3, hL, Lst_len okl_irr hL (fun x hx => (hKm x hx.1).1)⟩
