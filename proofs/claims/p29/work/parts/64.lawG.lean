/-! The law's loop, its end, and its start. -/
section LW
variable {xs : Nat → Int32} {L : Nat} {N : Nat} {a : Ab} {v σ : St} {l : Bool}
theorem z1_Fin (h : CC a v σ) : Fin1 (rz 1 σ) := h.z1.ok rfl
theorem en_890 (h : CC a v σ) : Fin1 (mL_law_b890 xs L σ) := by
  unfold mL_law_b890
  refine (c_pairs h).k (fun σ h => ?_)
  rw [if_neg (by decide)]
  refine (c_refuses h).k (fun σ h => ?_)
  rw [if_neg (by decide)]
  exact z1_Fin h
theorem one_sub (b : Bool) : (1 : Int32) - bI b = nI (if b = true then 0 else 1) := by cases b <;> decide
theorem en_808 (h : CC a v σ) (b : Bet N l a) : Fin1 (mL_law_b808 xs L (nI N) (bI l) σ) := by
  obtain ⟨b1, b2, b3⟩ := b
  have h1 := h.1.1.1
  have h5 := h.1.1.2
  have I := h.1
  obtain ⟨f1, f2, f3⟩ := fin_all I
  have n0 := f3.1 0 (by omega) (by omega) (by omega) (by omega)
  have cnt : (finA 25 a 0).2 < 2 ^ 31 := by
    have key : ∀ (d : Nat) (b : Ab) (x : Nat), d ≤ 25 → Inv b v → (finA d b x).2 ≤ x + 10 * d := by
      intro d
      induction d with
      | zero => intro b x _ _; exact Nat.le_refl _
      | succ d ih =>
        intro b x hd I
        have h10 := (I.2.2.2.2.2.2 (24 - d) (by omega)).1
        rw [finA_s]
        have := ih (delA b (24 - d) (b 12 (24 - d))) (x + b 12 (24 - d)) (by omega) (Inv_delA (by omega) _ b I (Nat.le_refl _)).1
        omega
    have := key 25 a 0 (by omega) I
    omega
  unfold mL_law_b808
  refine (c_differing h).k (fun σ h => ?_)
  refine (c_deliverAll h).k (fun σ h => ?_)
  generalize hW : dfW a (futK a) = W
  have hw : ∀ s t, W s t = if smB (finA 25 a 0).1 (knF (finA 25 a 0).1 s) (knF (finA 25 a 0).1 t) = true then 0 else 1 := fun s t => by rw [← hW]; exact dfW_fin I s t
  have hp : dO W (a 0 0) 0 0 = pO W N 0 0 := by
    rw [b2]
    exact pairs_eq (fun s t => by rw [← hW]; exact dfW_sy a (futK a) s t) (by omega) (by omega)
  have hz : l = false → pO W N 0 0 = 0 := fun q => by
    rw [← hp, ← hW]
    exact Conv_dif I (b3 q)
  have hw1 : ∀ s t, W s t ≤ 1 := fun s t => by
    rw [hw]
    by_cases c : smB (finA 25 a 0).1 (knF (finA 25 a 0).1 s) (knF (finA 25 a 0).1 t) = true
    · rw [if_pos c]; omega
    · rw [if_neg c]; omega
  have dIle : ∀ g s t x, dI W g s t x ≤ x + g := by
    intro g s
    induction g with
    | zero => intro t x; exact Nat.le_refl _
    | succ g ih =>
      intro t x
      rw [dI_s]
      have := ih (t + 1) (x + W s t)
      have := hw1 s t
      omega
  have out : ∀ (d f s x : Nat) (σ : St), s + d = N → d < f → x ≤ 10 * s → CC (finA 25 a 0).1 v σ → pO W d s x = pO W N 0 0 → Fin1 (mL_law_L826 xs L f (nI N) (bI l) (nI (dO W (a 0 0) 0 0)) (nI (finA 25 a 0).2) (nI x) (nI s) σ) := by
    intro d
    induction d with
    | zero =>
      intro f s x σ hs hf hx h q
      obtain ⟨f, rfl⟩ : ∃ g, f = g + 1 := ⟨f - 1, by omega⟩
      have q : x = pO W N 0 0 := q
      rw [mL_law_L826, if_pos (nI_le (by omega) (by omega))]
      unfold mL_law_b869
      rw [if_neg (nI_pos cnt), if_pos (by rw [hp, q]), if_bI]
      cases l with
      | true => rw [if_pos rfl]; exact en_890 h
      | false => rw [if_neg (by decide), q, hz rfl, if_pos (by decide)]; exact en_890 h
    | succ d ih =>
      intro f s x σ hs hf hx h q
      obtain ⟨f, rfl⟩ : ∃ g, f = g + 1 := ⟨f - 1, by omega⟩
      have inn : ∀ (e g t x : Nat) (σ : St), t + e = s → e < g → x + e ≤ 10 * (s + 1) → CC (finA 25 a 0).1 v σ → pO W d (s + 1) (dI W e s t x) = pO W N 0 0 → Fin1 (mL_law_L835 xs L (mL_law_L826 xs L f) g (nI N) (bI l) (nI (dO W (a 0 0) 0 0)) (nI (finA 25 a 0).2) (nI x) (nI s) (nI t) σ) := by
        intro e
        induction e with
        | zero =>
          intro g t x σ ht hg hx h q
          obtain ⟨g, rfl⟩ : ∃ z, g = z + 1 := ⟨g - 1, by omega⟩
          rw [mL_law_L835, if_pos (nI_le (by omega) (by omega)), nI_1]
          exact ih f (s + 1) x σ (by omega) (by omega) (by omega) h q
        | succ e ihe =>
          intro g t x σ ht hg hx h q
          obtain ⟨g, rfl⟩ : ∃ z, g = z + 1 := ⟨g - 1, by omega⟩
          rw [mL_law_L835, if_neg (nI_ge (by omega) (by omega))]
          refine (c_areSame h (show s < (finA 25 a 0).1 0 0 by rw [n0]; omega) (show t < (finA 25 a 0).1 0 0 by rw [n0]; omega)).k (fun σ h => ?_)
          have := hw1 s t
          rw [one_sub, ← hw s t, nI_add, nI_1]
          rw [dI_s] at q
          exact ihe g (t + 1) (x + W s t) σ (by omega) (by omega) (by omega) h q
      rw [mL_law_L826, if_neg (nI_ge (by omega) (by omega))]
      rw [pO_s] at q
      exact inn s fu 0 x σ (by omega) (by rw [fu_eq]; omega) (by omega) h q
  exact out N fu 0 0 σ (by omega) (by rw [fu_eq]; omega) (by omega) h rfl
theorem st_57 (hL : L ≤ 260) : ∀ (d f i : Nat) (l : Bool) (a : Ab) (v σ : St), i + d = 26 → d < f → CC a v σ → Bet N l a → Fin1 (mL_law_L57 xs L f (nI N) (bI l) (nI i) σ) := by
  intro d
  induction d with
  | zero =>
    intro f i l a v σ hi hf h b
    obtain ⟨f, rfl⟩ : ∃ g, f = g + 1 := ⟨f - 1, by omega⟩
    have : i = 26 := by omega
    subst this
    rw [mL_law_L57, if_pos (by decide)]
    exact en_808 h b
  | succ d ih =>
    intro f i l a v σ hi hf h b
    obtain ⟨f, rfl⟩ : ∃ g, f = g + 1 := ⟨f - 1, by omega⟩
    have h1 := h.1.1.1
    have h5 := h.1.1.2
    have hN := b.2.1
    obtain ⟨r, e⟩ := q_cell xs (k := 1 + i) hL (by omega)
    have d1 := lowV_lt (r >>> (4 &&& 31)) (m := N) (by omega)
    have d2 := lowV_lt (r >>> (7 &&& 31)) (m := 4) (by omega)
    have d3 := lowV_lt r (m := 14) (by omega)
    have hA : lowV (r >>> (4 &&& 31)) N < a 0 0 := by omega
    rw [mL_law_L57, if_neg (show ¬ (26 : Int32) ≤ nI i from nI_ge (b := 26) (by omega) (by omega)), il 1, nI_add, e, bni_s, q_low _ (m := N) (by omega) (by omega) σ, bnd_s, show (mL_low (r >>> (7 &&& 31)) 4 σ) = _ from q_low _ (m := 4) (by omega) (by omega) σ, bnd_s]
    unfold dz
    rw [if_neg (nI_ne0 (by omega) (by omega)), show (mL_low r 14 σ) = _ from q_low _ (m := 14) (by omega) (by omega) σ, bnd_s]
    refine (c_info0 h hA).k (fun σ h => ?_)
    have hB : rmI (nI (lowV (r >>> (4 &&& 31)) N) + nI 1 + nI (lowV (r >>> (7 &&& 31)) 4)) (nI N) = nI ((lowV (r >>> (4 &&& 31)) N + 1 + lowV (r >>> (7 &&& 31)) 4) % N) := by
      unfold rmI
      rw [nI_add, nI_add, pk_rem (by omega) (by omega) (by omega)]
    rw [hB]
    exact st_126 (fun l a v σ h b => ih f (i + 1) l a v σ (by omega) (by omega) h b) b d1 (Nat.mod_lt _ (by omega)) (Nat.le_refl _) d3 N fu 0 0 σ (by omega) (by rw [fu_eq]; omega) (Nat.le_refl _) h (fun _ r r1 _ => by omega)
theorem RepC_ini : RepC iniA (fun _ _ => 0) iniC := by
  have t0 : tot iniA = 0 := resetA_tot _ _
  refine ⟨?_, fun s hs => ?_, fun j hj => ?_, fun i hi => (iniA_mk hi).elim, ⟨?_, fun p hp => ?_⟩, fun L hL => ⟨?_, fun k hk => ?_⟩⟩
  · unfold iniC iniA; rw [if_pos rfl, resetA_0]; rfl
  · rw [iniA_z (k := 1) (by omega), iniA_z (k := 2) (by omega), iniA_z (k := 10) (by omega), iniC_z (by omega), iniC_z (by omega), iniC_z (by omega)]
    exact ⟨rfl, rfl, rfl, fun h => absurd rfl h, fun k hk => by omega⟩
  · rw [iniA_z (by omega), iniC_z (by omega)]; rfl
  · rw [t0, iniC_z (by omega)]; rfl
  · rw [t0] at hp; omega
  · rw [iniA_z (by omega), iniC_z (by omega)]; rfl
  · rw [iniA_z (by omega)] at hk; omega
theorem c_law (hL : L ≤ 260) : Fin1 (mL_law xs L iniC) := by
  have h : CC iniA (fun _ _ => 0) iniC := ⟨Inv_ini, RepC_ini⟩
  obtain ⟨r, e⟩ := q_cell xs (k := 0) hL (by omega)
  have d1 := lowV_lt r (m := 5) (by omega)
  have n2 : iniA 0 0 = 2 := resetA_0 _ _
  unfold mL_law
  rw [show (mL_cell xs L 0) = _ from e, bni_s, show (mL_low r 5 iniC) = _ from q_low _ (m := 5) (by omega) (by omega) iniC, bnd_s]
  refine (c_refuses h).k (fun σ h => ?_)
  rw [if_neg (by decide), il 1, nI_add]
  refine (c_reset h (show 1 ≤ 1 + lowV r 5 by omega) (by omega)).k (fun σ h => ?_)
  rw [n2, if_pos (show nI 2 = (2 : Int32) from rfl)]
  have cv : Conv (resetA iniA (1 + lowV r 5)) := fun s t i _ _ _ hi _ => (resetA_mk _ _ hi).elim
  have q := c_differing h
  rw [Conv_dif h.1 cv] at q
  refine q.k (fun σ h => ?_)
  rw [if_pos (show nI 0 = (0 : Int32) from rfl)]
  refine (c_refuses h).k (fun σ h => ?_)
  rw [if_neg (by decide)]
  exact st_57 hL 26 fu 0 false _ _ σ (by omega) (by rw [fu_eq]; omega) h ⟨fun i hi => (resetA_mk _ _ hi).elim, resetA_0 _ _, fun _ => cv⟩
end LW
