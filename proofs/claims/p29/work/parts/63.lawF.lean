/-! All steps of the law's loop. -/
section LW
variable {xs : Nat → Int32} {L : Nat} {k57 : Int32 → Int32 → Int32 → St → Option (Int32 × St)} {N i A B : Nat} {a : Ab} {v σ : St} {l : Bool}
theorem st_709 {w how : Nat} (nx : ∀ (l : Bool) (a : Ab) (v σ : St), CC a v σ → Bet N l a → Fin1 (k57 (nI N) (bI l) (nI (i + 1)) σ)) (h : CC a v σ) (b : Bet N l a) (hA : A < N) (hB : B < N) (hw : w ≤ a 2 A) (h14 : how < 14) : Fin1 (mL_law_b709 xs L k57 (nI N) (bI l) (nI i) (nI A) (nI B) (nI how) (nI w) 1 σ) := by
  have h5 := h.1.1.2
  have hAn : A < a 0 0 := by rw [b.2.1]; exact hA
  have hBn : B < a 0 0 := by rw [b.2.1]; exact hB
  unfold mL_law_b709 mL_law_b764
  by_cases c : A = B
  · rw [if_pos (by rw [c])]
    exact st_766 nx h b hA hw
  rw [if_neg (fun q => c ((nI_eq (by omega) (by omega)).mp q))]
  by_cases c11 : how = 11
  · rw [if_pos (by rw [c11]; rfl)]
    obtain ⟨b', S, σ1, e1, h1⟩ := c_repairs h b.1 hAn hBn c
    rw [e1, bnd_s]
    exact st_766 nx h1 (Bet_Sxp b S) hA (Nat.le_trans hw S.2.2.1)
  rw [if_neg (show ¬ nI how = (11 : Int32) from fun q => c11 ((nI_eq (b := 11) (by omega) (by omega)).mp q))]
  by_cases c12 : how = 12
  · rw [if_pos (by rw [c12]; rfl)]
    obtain ⟨b', S, σ1, e1, h1⟩ := c_transfers h b.1 hAn hBn c
    rw [e1, bnd_s]
    exact st_766 nx h1 (Bet_Sxp b S) hA (Nat.le_trans hw S.2.2.1)
  rw [if_neg (show ¬ nI how = (12 : Int32) from fun q => c12 ((nI_eq (b := 12) (by omega) (by omega)).mp q))]
  obtain ⟨σ1, e1, h1⟩ := c_deliverAll h
  obtain ⟨f1, f2, f3⟩ := fin_all h.1
  have big : ∀ (d : Nat) (b : Ab) (x : Nat), (finA d b x).2 ≤ x + 0 ∨ True := fun _ _ _ => Or.inr trivial
  have cnt : (finA 25 a 0).2 < 2 ^ 31 := by
    have key : ∀ (d : Nat) (b : Ab) (x : Nat), d ≤ 25 → Inv b v → (finA d b x).2 ≤ x + 10 * d := by
      intro d
      induction d with
      | zero => intro b x _ _; exact Nat.le_refl _
      | succ d ih =>
        intro b x hd I
        have h10 := (I.2.2.2.2.2.2 (24 - d) (by omega)).1
        rw [finA_s]
        have := ih (delA b (24 - d) (b 12 (24 - d))) (x + b 12 (24 - d)) (by omega) (Inv_delA (by omega) _ b I (Nat.le_refl _)).1
        omega
    have := key 25 a 0 (by omega) h.1
    omega
  rw [e1, bnd_s, if_neg (nI_pos cnt)]
  refine st_766 nx h1 ⟨Ie_row b.1 (f3.1 1 (by omega) (by omega) (by omega) (by omega)) (f3.1 5 (by omega) (by omega) (by omega) (by omega)), by rw [f3.1 0 (by omega) (by omega) (by omega) (by omega)]; exact b.2.1, fun q => Conv_finA 25 a 0 (by omega) h.1 (b.2.2 q)⟩ hA (Nat.le_trans hw (f3.2 A))
theorem st_682 {w how many : Nat} (nx : ∀ (l : Bool) (a : Ab) (v σ : St), CC a v σ → Bet N l a → Fin1 (k57 (nI N) (bI l) (nI (i + 1)) σ)) (h : CC a v σ) (b : Bet N (l || decide (how = 8 ∧ 0 < many)) a) (hA : A < N) (hw : w ≤ a 2 A) (h14 : how < 14) (hm : many < 100) : Fin1 (mL_law_b682 xs L k57 (nI N) (bI l) (nI i) (nI A) (nI how) (nI w) (nI many) 1 σ) := by
  have q := st_766 (xs := xs) (L := L) nx h b hA hw
  unfold mL_law_b682 mL_law_b700 mL_law_b704 mL_law_b705
  rw [if_bI]
  revert q
  cases l with
  | true => rw [Bool.true_or, if_pos rfl]; exact id
  | false =>
    rw [Bool.false_or, if_neg (by decide)]
    by_cases c8 : how = 8
    · rw [if_pos (show nI how = (8 : Int32) by rw [c8]; rfl)]
      by_cases c0 : 0 < many
      · rw [decide_eq_true ⟨c8, c0⟩, if_neg (nI_nle c0 (by omega))]; exact id
      · rw [decide_eq_false (fun z => c0 z.2), show many = 0 by omega, if_pos (by decide)]; exact id
    · rw [decide_eq_false (fun z => c8 z.1), if_neg (show ¬ nI how = (8 : Int32) from fun q => c8 ((nI_eq (b := 8) (by omega) (by omega)).mp q))]; exact id
theorem Bet_w {l l' : Bool} (b : Bet N l a) (h : l' = false → l = false) : Bet N l' a := ⟨b.1, b.2.1, fun q => b.2.2 (h q)⟩
theorem st_168 {w how F : Nat} {x5 : Int32} (nx : ∀ (l : Bool) (a : Ab) (v σ : St), CC a v σ → Bet N l a → Fin1 (k57 (nI N) (bI l) (nI (i + 1)) σ)) (h : CC a v σ) (b : Bet N l a) (hA : A < N) (hB : B < N) (hw : w ≤ a 2 A) (h14 : how < 14) (hF : F < 100) (hr : Roo a A F) : Fin1 (mL_law_b168 xs L k57 (nI N) (bI l) (nI i) x5 (nI A) (nI B) (nI how) (nI w) (nI F) σ) := by
  have h5 := h.1.1.2
  have hAn : A < a 0 0 := by rw [b.2.1]; exact hA
  have hBn : B < a 0 0 := by rw [b.2.1]; exact hB
  have hA5 := h.s5 hAn
  have hB5 := h.s5 hBn
  have h20 := (h.1.2.1 A hA5).1
  have ne : ∀ k, k < 100 → how ≠ k → ¬ nI how = nI k := fun k hk q z => q ((nI_eq (by omega) (by omega)).mp z)
  unfold mL_law_b168
  by_cases c5 : 5 ≤ how
  · rw [if_pos (show (5 : Int32) ≤ nI how from nI_le (a := 5) c5 (by omega))]
    by_cases e5 : how = 5
    · rw [if_pos (show nI how = (5 : Int32) by rw [e5]; rfl)]
      refine (c_turns h b.1 hAn).b (fun r1 σ a1 v1 h1 p => ?_)
      obtain ⟨p1, p2, p3, p4, p5⟩ := p
      have q := st_766 (xs := xs) (L := L) (l := l || decide (0 < F)) nx h1 ⟨p3, p2.trans b.2.1, fun q => by
        rw [Bool.or_eq_false_iff, decide_eq_false_iff_not] at q
        exact p5 (hr (by omega)) (b.2.2 q.1)⟩ hA (Nat.le_trans hw p4)
      unfold mL_law_b399 mL_law_b394 mL_law_b399
      rw [p1, l_of hF]
      revert q
      cases (l || decide (0 < F)) with
      | true => rw [if_pos rfl]; exact id
      | false => rw [if_neg (by decide)]; exact id
    rw [if_neg (show ¬ nI how = (5 : Int32) from ne 5 (by omega) e5)]
    by_cases e6 : how = 6
    · rw [if_pos (show nI how = (6 : Int32) by rw [e6]; rfl), show (mL_low (x5 >>> (9 &&& 31)) 3 σ) = _ from q_low _ (m := 3) (by omega) (by omega) σ, bnd_s, show (mL_low (x5 >>> (12 &&& 31)) 4 σ) = _ from q_low _ (m := 4) (by omega) (by omega) σ, bnd_s]
      have d1 := lowV_lt (x5 >>> (9 &&& 31)) (m := 3) (by omega)
      have d2 := lowV_lt (x5 >>> (12 &&& 31)) (m := 4) (by omega)
      obtain ⟨c, fn, hL, hc⟩ := ex_BL h hA5
      unfold mL_law_b455
      by_cases hp : lowV (x5 >>> (9 &&& 31)) 3 < c
      · by_cases f20 : a 1 A = 20
        · refine (c_liftF h hAn hL hp d2 f20).k (fun σ h => ?_)
          rw [if_neg (by decide), if_neg (by decide), if_pos rfl]
          exact st_460 hF nx h (Bet_or b) hA hw
        · have hlt : a 1 A < 20 := by omega
          refine (c_lift h hAn hL hp d2 hlt).b (fun r1 σ a1 v1 h1 p => ?_)
          obtain ⟨p1, pl, -, p2⟩ := p
          rw [p1, if_pos (show (0 : Int32) < nI (a 1 A + 1) from nI_lt (a := 0) (by omega) (by omega))]
          refine st_460 hF nx h1 ?_ hA ?_
          · rw [p2]; exact Bet_new b h hA hlt hr
          · rw [p2, nA2, if_pos rfl]; omega
      · refine (c_liftN h hAn hL (show c ≤ lowV (x5 >>> (9 &&& 31)) 3 by omega) (by omega) d2).k (fun σ h => ?_)
        rw [if_neg (by decide), if_pos rfl]
        exact st_460 hF nx h (Bet_or b) hA hw
    rw [if_neg (show ¬ nI how = (6 : Int32) from ne 6 (by omega) e6)]
    by_cases e7 : how = 7
    · rw [if_pos (show nI how = (7 : Int32) by rw [e7]; rfl)]
      unfold mL_law_b514
      by_cases hz : rTg a A = 0
      · refine (c_redo0 h hAn hz).k (fun σ h => ?_)
        rw [if_neg (by decide), if_pos rfl]
        exact st_519 hF nx h (Bet_or b) hA hw
      by_cases f20 : a 1 A = 20
      · refine (c_redoF h hAn hz f20).k (fun σ h => ?_)
        rw [if_neg (by decide), if_neg (by decide), if_pos rfl]
        exact st_519 hF nx h (Bet_or b) hA hw
      · have hlt : a 1 A < 20 := by omega
        obtain ⟨t1, -, t3, t4⟩ := rTg_ok h hAn hz
        refine (c_redo h hAn hz hlt).b (fun r1 σ a1 v1 h1 p => ?_)
        obtain ⟨p1, -, pl, -, p2⟩ := p
        have rle : rTg a A ≤ 20 := by omega
        rw [p1, if_pos (show (0 : Int32) < nI (rTg a A) from nI_lt (a := 0) (by omega) (by omega))]
        refine st_519 hF nx h1 ?_ hA ?_
        · rw [p2]; exact Bet_new b h hA hlt hr
        · rw [p2, nA2, if_pos rfl]; omega
    rw [if_neg (show ¬ nI how = (7 : Int32) from ne 7 (by omega) e7)]
    by_cases cAB : A = B
    · rw [if_pos (by rw [cAB])]
      exact st_709 nx h b hA hB hw h14
    rw [if_neg (fun q => cAB ((nI_eq (by omega) (by omega)).mp q))]
    by_cases c11 : 11 ≤ how
    · rw [if_pos (show (11 : Int32) ≤ nI how from nI_le (a := 11) c11 (by omega))]
      exact st_709 nx h b hA hB hw h14
    rw [if_neg (show ¬ (11 : Int32) ≤ nI how from nI_ge (b := 11) (by omega) (by omega))]
    have hL10 := (h.1.2.2.2.2.2.2 (5 * A + B) (by omega)).1
    refine (c_waiting h hAn hBn cAB).k (fun σ h => ?_)
    by_cases e8 : how = 8
    · rw [if_pos (show nI how = (8 : Int32) by rw [e8]; rfl)]
      unfold mL_law_b589
      by_cases h0 : a 12 (5 * A + B) = 0
      · refine (c_lose0 h hAn hBn cAB h0).k (fun σ h => ?_)
        rw [if_pos (show nI (a 12 (5 * A + B)) = (0 : Int32) by rw [h0]; rfl), if_pos rfl]
        exact st_682 nx h (Bet_w b (fun q => by rw [Bool.or_eq_false_iff] at q; exact q.1)) hA hw h14 (by omega)
      · refine (c_lose h hAn hBn cAB h0).k (fun σ h => ?_)
        rw [if_neg (nz0 (by omega) h0), if_pos (show nI how = (8 : Int32) by rw [e8]; rfl), if_pos (by rw [il 1, pk_sub (by omega)])]
        refine st_682 nx h ⟨Ie_row b.1 (dropA_row (by omega) (by omega)) (dropA_row (by omega) (by omega)), by rw [dropA_row (by omega) (by omega)]; exact b.2.1, fun q => ?_⟩ hA (by rw [dropA_row (by omega) (by omega)]; exact hw) h14 (by omega)
        rw [Bool.or_eq_false_iff, decide_eq_false_iff_not] at q
        exact absurd ⟨e8, by omega⟩ q.2
    · rw [if_neg (show ¬ nI how = (8 : Int32) from ne 8 (by omega) e8)]
      unfold mL_law_b589
      by_cases h0 : a 12 (5 * A + B) = 0
      · refine (c_deliver0 h hAn hBn cAB h0).k (fun σ h => ?_)
        rw [if_pos (show nI (a 12 (5 * A + B)) = (0 : Int32) by rw [h0]; rfl), if_pos rfl]
        exact st_682 nx h (Bet_w b (fun q => by rw [Bool.or_eq_false_iff] at q; exact q.1)) hA hw h14 (by omega)
      · have hL : 5 * A + B < 25 := by omega
        obtain ⟨m1, m2, m3, m4, m5⟩ := msg_ok h.1 hL h0
        have hmi : msgI a (5 * A + B) = 20 * A + a 13 (10 * (5 * A + B)) - 1 := by unfold msgI; rw [show (5 * A + B) / 5 = A by omega]
        have ma : a 13 (10 * (5 * A + B)) ≤ a 1 A := by
          have := m1.2
          rw [hmi, show (20 * A + a 13 (10 * (5 * A + B)) - 1) / 20 = A by omega] at this
          omega
        have I := h.1
        have r := fun k (k2 : k ≠ 2) (k3 : k ≠ 3) (k12 : k ≠ 12) (k13 : k ≠ 13) => del1_row (a := a) (L := 5 * A + B) k2 k3 k12 k13
        refine (c_deliver h hAn hBn cAB h0).k (fun σ h => ?_)
        rw [if_neg (nz0 (by omega) h0), if_neg (show ¬ nI how = (8 : Int32) from ne 8 (by omega) e8), il 100, pk_rem (by omega) (by omega) (by omega), pk_div (by omega) (by omega) (by omega), show (100 * A + a 13 (10 * (5 * A + B))) / 100 = A by omega, show (100 * A + a 13 (10 * (5 * A + B))) % 100 = a 13 (10 * (5 * A + B)) by omega, if_pos rfl]
        have kn := c_knows (s := B) (t := A) (k := a 13 (10 * (5 * A + B))) h (by rw [r 0 (by omega) (by omega) (by omega) (by omega)]; exact hBn) (by rw [r 0 (by omega) (by omega) (by omega) (by omega)]; exact hAn) m4 (by rw [r 1 (by omega) (by omega) (by omega) (by omega)]; exact ma)
        rw [show knF (del1 a (5 * A + B)) B (20 * A + a 13 (10 * (5 * A + B)) - 1) = true from knF_iff.mpr ⟨by omega, by rw [del1_3, if_pos (by rw [hmi]; omega)]⟩, bI_t] at kn
        refine kn.k (fun σ h => ?_)
        rw [if_pos rfl]
        have wt := c_waiting (s := A) (t := B) h (by rw [r 0 (by omega) (by omega) (by omega) (by omega)]; exact hAn) (by rw [r 0 (by omega) (by omega) (by omega) (by omega)]; exact hBn) cAB
        rw [del1_12] at wt
        refine wt.k (fun σ h => ?_)
        rw [if_pos (by rw [il 1, pk_sub (by omega)])]
        refine st_682 nx h ⟨Ie_row b.1 (r 1 (by omega) (by omega) (by omega) (by omega)) (r 5 (by omega) (by omega) (by omega) (by omega)), by rw [r 0 (by omega) (by omega) (by omega) (by omega)]; exact b.2.1, fun q => ?_⟩ hA (Nat.le_trans hw (del1_2 a _ A)) h14 (by omega)
        rw [Bool.or_eq_false_iff] at q
        exact Conv_del1 (b.2.2 q.1) I hL h0
  · rw [if_neg (show ¬ (5 : Int32) ≤ nI how from nI_ge (b := 5) (by omega) (by omega))]
    have d1 := lowV_lt (x5 >>> (9 &&& 31)) (m := 4) (by omega)
    have d2 := lowV_lt (x5 >>> (11 &&& 31)) (m := 4) (by omega)
    have d3 := lowV_lt (x5 >>> (13 &&& 31)) (m := 8) (by omega)
    have d4 := lowV_lt (x5 >>> (16 &&& 31)) (m := 4) (by omega)
    rw [show (mL_low (x5 >>> (9 &&& 31)) 4 σ) = _ from q_low _ (m := 4) (by omega) (by omega) σ, bnd_s, show (mL_low (x5 >>> (11 &&& 31)) 4 σ) = _ from q_low _ (m := 4) (by omega) (by omega) σ, bnd_s, show (mL_low (x5 >>> (13 &&& 31)) 8 σ) = _ from q_low _ (m := 8) (by omega) (by omega) σ, bnd_s, show (mL_low (x5 >>> (16 &&& 31)) 4 σ) = _ from q_low _ (m := 4) (by omega) (by omega) σ, bnd_s]
    refine (c_penDown h hAn (by omega) (by omega) (by omega) (by omega)).b (fun r1 σ a1 v1 h1 p => ?_)
    obtain ⟨p1, p2⟩ := p
    rw [p1, if_pos rfl]
    exact st_draw hF nx hA h b hr hw 4 fu 0 a1 v1 σ (by omega) (by rw [fu_eq]; omega) h1 (fun j j1 j2 => by rw [p2, penA_row j1 j2]) (by rw [p2, penA_10, if_pos rfl]) (Nat.zero_le _)
/-- how many links of A are nearly full -/
theorem st_126 {w how : Nat} {x5 : Int32} (nx : ∀ (l : Bool) (a : Ab) (v σ : St), CC a v σ → Bet N l a → Fin1 (k57 (nI N) (bI l) (nI (i + 1)) σ)) (b : Bet N l a) (hA : A < N) (hB : B < N) (hw : w ≤ a 2 A) (h14 : how < 14) : ∀ (d f t F : Nat) (σ : St), t + d = N → d < f → F ≤ t → CC a v σ → (F = 0 → ∀ r, r < t → r ≠ A → a 12 (5 * A + r) ≤ 8) → Fin1 (mL_law_L126 xs L k57 f (nI N) (bI l) (nI i) x5 (nI A) (nI B) (nI how) (nI w) (nI F) (nI t) σ) := by
  intro d
  induction d with
  | zero =>
    intro f t F σ ht hf hFt h hr
    have h5 := h.1.1.2
    have hN := b.2.1
    obtain ⟨f, rfl⟩ : ∃ g, f = g + 1 := ⟨f - 1, by omega⟩
    rw [mL_law_L126, if_pos (nI_le (by omega) (by omega))]
    exact st_168 nx h b hA hB hw h14 (by omega) (fun q r r1 r2 => hr q r (by omega) r2)
  | succ d ih =>
    intro f t F σ ht hf hFt h hr
    have h5 := h.1.1.2
    have hN := b.2.1
    obtain ⟨f, rfl⟩ : ∃ g, f = g + 1 := ⟨f - 1, by omega⟩
    rw [mL_law_L126, if_neg (nI_ge (by omega) (by omega)), nI_1, nI_1, Int32.add_zero]
    by_cases c : t = A
    · rw [if_pos (by rw [c])]
      refine ih f (t + 1) F σ (by omega) (by omega) (by omega) h (fun q r r1 r2 => hr q r ?_ r2)
      omega
    · rw [if_neg (fun q => c ((nI_eq (by omega) (by omega)).mp q))]
      have h10 := (h.1.2.2.2.2.2.2 (5 * A + t) (by omega)).1
      refine (c_waiting h (show A < a 0 0 by omega) (show t < a 0 0 by omega) (fun q => c q.symm)).k (fun σ h => ?_)
      by_cases c8 : a 12 (5 * A + t) ≤ 8
      · rw [if_pos (show nI (a 12 (5 * A + t)) ≤ (8 : Int32) from nI_le (b := 8) c8 (by omega))]
        refine ih f (t + 1) F σ (by omega) (by omega) (by omega) h (fun q r r1 r2 => ?_)
        by_cases z : r = t
        · rw [z]; exact c8
        · exact hr q r (by omega) r2
      · rw [if_neg (show ¬ nI (a 12 (5 * A + t)) ≤ (8 : Int32) from nI_ge (a := 8) (by omega) (by omega))]
        exact ih f (t + 1) (F + 1) σ (by omega) (by omega) (by omega) h (fun q => by omega)
end LW
