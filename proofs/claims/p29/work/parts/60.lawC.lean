/-! The law's repairs and transfers. -/
/-- what a step of the law keeps: s is the site that it looks at -/
def Sxp (a b : Ab) (s : Nat) : Prop := b 0 0 = a 0 0 ∧ Ie b ∧ a 2 s ≤ b 2 s ∧ (Conv a → Conv b)
section LW
variable {a : Ab} {v σ : St} {s h : Nat}
theorem Sxp_Lrn {b : Ab} {n : Nat} {Q : Nat → Prop} (L : Lrn a b s n Q) (e : Ie a) (h5 : a 0 0 ≤ 5) : Sxp a b s :=
  ⟨by rw [L.1 0 (by omega) (by omega)], Ie_row e (L.1 1 (by omega) (by omega)) (L.1 5 (by omega) (by omega)), L.2.2.2, fun q => Conv_Lrn q h5 L⟩
theorem Sxp_tr {b c : Ab} (h : Sxp a b s) (h2 : Sxp b c s) : Sxp a c s := ⟨h2.1.trans h.1, h2.2.1, Nat.le_trans h.2.2.1 h2.2.2.1, fun q => h2.2.2.2 (h.2.2.2 q)⟩
theorem Ok.any {P : Int32 → Ab → St → Prop} {o : Option (Int32 × St)} (h : ∃ b, Rd b v 1 o ∧ ∀ r, r = 1 → P r b v) : Ok P o := by
  obtain ⟨b, h1, h2⟩ := h
  exact h1.ok (h2 1 rfl)
/-- behind a repair no gap is left that the helper could fill -/
theorem gp_after {b : Ab} (L : Lrn a b s 100 (rpQ a s h)) (I : Inv a v) (hs : s < 5) (hh : h < 5) (hne : h ≠ s) {j : Nat} (hj : j < 100) : gp b s h j = false := by
  rw [Bool.eq_false_iff]
  intro q
  obtain ⟨q1, q2, q3⟩ := gp_iff.mp q
  rw [Lrn_kn2 L hh (Or.inl hne)] at q2
  rw [rp_gr L I hs (show j / 20 < 5 by omega)] at q3
  have n1 : knF a s j = false := by
    rw [Bool.eq_false_iff]
    intro z
    rw [(Lrn_kn L hs).mpr (Or.inl z)] at q1
    cases q1
  have := (Lrn_kn L hs).mpr (Or.inr ⟨hj, rfl, hj, gp_iff.mpr ⟨n1, q2, q3⟩⟩)
  rw [this] at q1
  cases q1
theorem c_repairs (H : CC a v σ) (e : Ie a) (hs : s < a 0 0) (hh : h < a 0 0) (hne : s ≠ h) : ∃ b, Sxp a b s ∧ Rd b v 1 (mL_repairs (nI s) (nI h) σ) := by
  have h5 := H.1.1.2
  have hs5 := H.s5 hs
  have hh5 := H.s5 hh
  have I := H.1
  obtain ⟨b, L, -⟩ := c_repair H hs hh hne
  have hb0 : ∀ σ, CC a v σ → ∃ b, Lrn a b s 100 (rpQ a s h) ∧ Rd b v (nI (gpN a s h 100)) (mX6_repair (nI s) (nI h) σ) := fun σ H => c_repair H hs hh hne
  clear L b
  have hgp := gpN_le a s h 100
  unfold mL_repairs
  obtain ⟨σ1, e1, H⟩ := c_info1 H hs
  rw [e1, bnd_s]
  obtain ⟨best, q1, q2, σ2, e2, H⟩ := c_best H hs
  rw [e2, bnd_s]
  obtain ⟨b, L, σ3, e3, Hb⟩ := hb0 _ H
  rw [e3, bnd_s, if_neg (nI_pos (by omega))]
  have hbn : b 0 0 = a 0 0 := by rw [L.1 0 (by omega) (by omega)]
  have hsb : s < b 0 0 := by omega
  have hhb : h < b 0 0 := by omega
  have no : ∀ j, j < 100 → gp b s h j = false := fun j hj => gp_after L I hs5 hh5 (Ne.symm hne) hj
  obtain ⟨b2, L2, -⟩ := c_repair Hb hsb hhb hne
  have h2b : ∀ σ, CC b v σ → ∃ b2, Lrn b b2 s 100 (rpQ b s h) ∧ Rd b2 v (nI (gpN b s h 100)) (mX6_repair (nI s) (nI h) σ) := fun σ H => c_repair H hsb hhb hne
  clear L2 b2
  have fin : ∀ σ, CC b v σ → ∃ b', Sxp a b' s ∧ Rd b' v 1 (mL_repairs_b153 (nI s) (nI h) σ) := by
    intro σ H
    obtain ⟨b2, L2, r2⟩ := h2b σ H
    refine ⟨b2, Sxp_tr (Sxp_Lrn L e h5) (Sxp_Lrn L2 (Sxp_Lrn L e h5).2.1 (by omega)), ?_⟩
    rw [gpN_0 b s h 100 no] at r2
    unfold mL_repairs_b153
    exact r2.eq (fun σ h => h.z1)
  have L57 : ∀ (d f t : Nat) (σ : St), t + d = b 0 0 → d < f → CC b v σ → ∃ b', Sxp a b' s ∧ Rd b' v 1 (mL_repairs_L57 f (nI s) (nI h) (nI t) σ) := by
    intro d
    induction d with
    | zero =>
      intro f t σ ht hf H
      obtain ⟨f, rfl⟩ : ∃ g, f = g + 1 := ⟨f - 1, by omega⟩
      rw [mL_repairs_L57]
      obtain ⟨σ1, g1, H⟩ := c_sites H
      rw [g1, bnd_s, if_pos (nI_le (by omega) (by omega))]
      exact fin _ H
    | succ d ih =>
      intro f t σ ht hf H
      obtain ⟨f, rfl⟩ : ∃ g, f = g + 1 := ⟨f - 1, by omega⟩
      have htb : t < b 0 0 := by omega
      have ht5 : t < 5 := by omega
      have h20 := (H.1.2.1 t ht5).1
      have L69 : ∀ (m g z : Nat) (σ : St), 21 ≤ z + m → m ≤ g → CC b v σ → ∃ b', Sxp a b' s ∧ Rd b' v 1 (mL_repairs_L69 (mL_repairs_L57 f) (g + 1) (nI s) (nI h) (nI t) (nI z) σ) ∨ 100 < z := by
        intro m
        induction m with
        | zero =>
          intro g z σ hz hg H
          by_cases w : 100 < z
          · exact ⟨a, Or.inr w⟩
          obtain ⟨r, r1, r2⟩ := c_gap (z := z) H hsb htb (by omega)
          rcases r1 with r1 | ⟨r1, -⟩
          · obtain ⟨σ1, g1, H⟩ := r2 σ H
            obtain ⟨b', p1, p2⟩ := ih f (t + 1) σ1 (by omega) (by omega) H
            refine ⟨b', Or.inl ⟨p1, ?_⟩⟩
            rw [mL_repairs_L69, g1, bnd_s, if_pos (by rw [r1]; decide), nI_1]
            exact p2
          · omega
        | succ m ihm =>
          intro g z σ hz hg H
          by_cases w : 100 < z
          · exact ⟨a, Or.inr w⟩
          obtain ⟨g, rfl⟩ : ∃ q, g = q + 1 := ⟨g - 1, by omega⟩
          obtain ⟨r, r1, r2⟩ := c_gap (z := z) H hsb htb (by omega)
          rcases r1 with r1 | ⟨hz20, x, y, ⟨g1, g2, g3, g4⟩, r1⟩
          · obtain ⟨σ1, k1, H⟩ := r2 σ H
            obtain ⟨b', p1, p2⟩ := ih f (t + 1) σ1 (by omega) (by omega) H
            refine ⟨b', Or.inl ⟨p1, ?_⟩⟩
            rw [mL_repairs_L69, k1, bnd_s, if_pos (by rw [r1]; decide), nI_1]
            exact p2
          · have hle := gr_le b s t (b 1 t)
            have L99 : ∀ (u g2 k : Nat) (σ : St), k + u = y + 1 → x ≤ k → u < g2 → CC b v σ → ∃ b', Sxp a b' s ∧ Rd b' v 1 (mL_repairs_L99 (mL_repairs_L57 f) (mL_repairs_L69 (mL_repairs_L57 f) (g + 1)) g2 (nI s) (nI h) (nI t) (nI z) (nI (100 * x + y)) (nI k) σ) := by
              intro u
              induction u with
              | zero =>
                intro g2 k σ hk hxk hg2 H
                obtain ⟨g2, rfl⟩ : ∃ q, g2 = q + 1 := ⟨g2 - 1, by omega⟩
                obtain ⟨b', p⟩ := ihm g (z + 1) σ (by omega) (by omega) H
                rcases p with ⟨p1, p2⟩ | p
                · refine ⟨b', p1, ?_⟩
                  rw [mL_repairs_L99, il 100, pk_rem (by omega) (by omega) (by omega), show (100 * x + y) % 100 = y by omega, if_pos (nI_lt (by omega) (by omega)), nI_1]
                  exact p2
                · omega
              | succ u ihu =>
                intro g2 k σ hk hxk hg2 H
                obtain ⟨g2, rfl⟩ : ∃ q, g2 = q + 1 := ⟨g2 - 1, by omega⟩
                have n1 := g4 k hxk (by omega)
                have n2 : knF b h (20 * t + k - 1) = false := by
                  rw [Bool.eq_false_iff]
                  intro q
                  have := no (20 * t + k - 1) (by omega)
                  rw [Bool.eq_false_iff] at this
                  refine this (gp_iff.mpr ⟨n1, q, ?_⟩)
                  rw [show (20 * t + k - 1) / 20 = t by omega, show (20 * t + k - 1) % 20 = k - 1 by omega]
                  omega
                have k1 := c_knows (k := k) H hsb htb (by omega) (by omega)
                rw [n1, bI_f] at k1
                obtain ⟨σ1, j1, H⟩ := k1
                have k2 := c_knows (k := k) H hhb htb (by omega) (by omega)
                rw [n2, bI_f] at k2
                obtain ⟨σ2, j2, H⟩ := k2
                obtain ⟨b', p1, p2⟩ := ihu g2 (k + 1) σ2 (by omega) (by omega) (by omega) H
                refine ⟨b', p1, ?_⟩
                rw [mL_repairs_L99, il 100, pk_rem (by omega) (by omega) (by omega), show (100 * x + y) % 100 = y by omega, if_neg (nI_nlt (by omega) (by omega)), j1, bnd_s, if_pos rfl, j2, bnd_s, if_pos rfl, nI_1]
                exact p2
            obtain ⟨σ1, k1, H⟩ := r2 σ H
            obtain ⟨σ2, k2, H⟩ := r2 σ1 H
            obtain ⟨b', p1, p2⟩ := L99 (y + 1 - x) fu x σ2 (by omega) (Nat.le_refl _) (by rw [fu_eq]; omega) H
            refine ⟨b', Or.inl ⟨p1, ?_⟩⟩
            rw [mL_repairs_L69, k1, bnd_s, r1, if_neg (nI_pos (by omega)), k2, bnd_s, r1, show (nI (100 * x + y) / 100 : Int32) = nI x by rw [il 100, pk_div (by omega) (by omega) (by omega), show (100 * x + y) / 100 = x by omega]]
            exact p2
      rw [mL_repairs_L57]
      obtain ⟨σ1, g1, H⟩ := c_sites H
      rw [g1, bnd_s, if_neg (nI_ge (by omega) (by omega))]
      obtain ⟨b', p⟩ := L69 21 3999 0 σ1 (by omega) (by omega) H
      rcases p with ⟨p1, p2⟩ | p
      · exact ⟨b', p1, p2⟩
      · omega
  obtain ⟨σ4, e4, Hb⟩ := c_info1 Hb hsb
  obtain ⟨b', p1, p2⟩ := L57 (b 0 0) fu 0 σ4 (by omega) (by rw [fu_eq]; omega) Hb
  refine ⟨b', p1, ?_⟩
  rw [e4, bnd_s, if_pos (by rw [cnt_L L I Hb.1 hs5 100 (Nat.le_refl _), nI_add])]
  by_cases c : best = -1000000004
  · rw [if_pos c, q2 c h hh, if_pos (by decide)]
    exact p2
  · rw [if_neg c]
    exact p2
end LW
