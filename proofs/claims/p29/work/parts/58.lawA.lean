/-! The law's refused calls: all are refused, and nothing changes. -/
theorem Rd.eq {a a2 : Ab} {v v2 : St} {e r2 : Int32} {o : Option (Int32 × St)} {F G : St → Option (Int32 × St)} (h : Rd a v e o) (k : ∀ σ, CC a v σ → Rd a2 v2 r2 (F σ)) : Rd a2 v2 r2 (bnd o (fun r s => if r = e then F s else G s)) := h.r (fun σ h => by rw [if_pos rfl]; exact k σ h)
section LW
variable {a : Ab} {v σ : St}
theorem ex_dgs (h : CC a v σ) : ∃ dg : Nat → Int32, ∀ s, s < a 0 0 → ∀ σ, CC a v σ → Rd a v (dg s) (mX6_digest (nI s) σ) := by
  have q : ∀ s, ∃ r, s < a 0 0 → ∀ σ, CC a v σ → Rd a v r (mX6_digest (nI s) σ) := fun s => by
    by_cases e : s < a 0 0
    · obtain ⟨r, e⟩ := ex_dg h e
      exact ⟨r, fun _ => e⟩
    · exact ⟨0, fun z => absurd z e⟩
  exact ⟨fun s => Classical.choose (q s), fun s => Classical.choose_spec (q s)⟩
/-- the law's sum over the sites -/
def rfS (a : Ab) (dg : Nat → Int32) : Nat → Nat → Int32 → Int32
  | 0, _, z => z
  | d + 1, s, z => rfS a dg d (s + 1) ((((31 * z + dg s) + (7 * nI (a 2 s))) + nI (cntK a s 100)) + (100 * nI (a 10 s)))
theorem rfS_s (a : Ab) (dg : Nat → Int32) (d s : Nat) (z : Int32) : rfS a dg (d + 1) s z = rfS a dg d (s + 1) ((((31 * z + dg s) + (7 * nI (a 2 s))) + nI (cntK a s 100)) + (100 * nI (a 10 s))) := rfl
theorem ref_L9 {dg : Nat → Int32} (hd : ∀ s, s < a 0 0 → ∀ σ, CC a v σ → Rd a v (dg s) (mX6_digest (nI s) σ)) : ∀ (d f s : Nat) (z : Int32) (σ : St), s + d = a 0 0 → d < f → CC a v σ → (∀ σ, CC a v σ → Rd a v 1 (mL_refuses_b58 (nI (a 0 0)) (rfS a dg d s z) σ)) → Rd a v 1 (mL_refuses_L9 f (nI (a 0 0)) z (nI s) σ) := by
  intro d
  induction d with
  | zero =>
    intro f s z σ h hf H k
    have h5 := H.1.1.2
    obtain ⟨f, rfl⟩ : ∃ g, f = g + 1 := ⟨f - 1, by omega⟩
    rw [mL_refuses_L9, if_pos (nI_le (by omega) (by omega))]
    exact k σ H
  | succ d ih =>
    intro f s z σ h hf H k
    have h5 := H.1.1.2
    have hs : s < a 0 0 := by omega
    obtain ⟨f, rfl⟩ : ∃ g, f = g + 1 := ⟨f - 1, by omega⟩
    rw [mL_refuses_L9, if_neg (nI_ge (by omega) (by omega))]
    refine (hd s hs σ H).r (fun σ H => ?_)
    refine (c_info0 H hs).r (fun σ H => ?_)
    refine (c_info1 H hs).r (fun σ H => ?_)
    refine (c_info4 H hs).r (fun σ H => ?_)
    rw [lti_s, nI_1]
    exact ih f (s + 1) _ σ (by omega) (by omega) H k
theorem ref_L406 {dg : Nat → Int32} (hd : ∀ s, s < a 0 0 → ∀ σ, CC a v σ → Rd a v (dg s) (mX6_digest (nI s) σ)) : ∀ (d f s : Nat) (z w : Int32) (σ : St), s + d = a 0 0 → d < f → CC a v σ → rfS a dg d s w = z → Rd a v 1 (mL_refuses_L406 f (nI (a 0 0)) z 1 w (nI s) σ) := by
  intro d
  induction d with
  | zero =>
    intro f s z w σ h hf H k
    have h5 := H.1.1.2
    obtain ⟨f, rfl⟩ : ∃ g, f = g + 1 := ⟨f - 1, by omega⟩
    rw [mL_refuses_L406, if_pos (nI_le (by omega) (by omega))]
    unfold mL_refuses_b462
    rw [if_neg (by decide), if_pos (show w = z from k)]
    exact H.z1
  | succ d ih =>
    intro f s z w σ h hf H k
    have h5 := H.1.1.2
    have hs : s < a 0 0 := by omega
    obtain ⟨f, rfl⟩ : ∃ g, f = g + 1 := ⟨f - 1, by omega⟩
    rw [mL_refuses_L406, if_neg (nI_ge (by omega) (by omega))]
    refine (hd s hs σ H).r (fun σ H => ?_)
    refine (c_info0 H hs).r (fun σ H => ?_)
    refine (c_info1 H hs).r (fun σ H => ?_)
    refine (c_info4 H hs).r (fun σ H => ?_)
    rw [lti_s, nI_1]
    exact ih f (s + 1) _ _ σ (by omega) (by omega) H k
theorem c_refuses (h : CC a v σ) : Rd a v 1 (mL_refuses σ) := by
  have h1 := h.1.1.1
  have h5 := h.1.1.2
  have hs0 : 0 < a 0 0 := by omega
  have nS : ¬ isS (a 0 0) (nI (a 0 0)) := notS_n h5
  have mS : ¬ isS (a 0 0) (-1) := notS_m h5
  have h20 := (h.1.2.1 0 (by omega)).1
  obtain ⟨dg, hd⟩ := ex_dgs h
  obtain ⟨c, fn, hL, hc⟩ := ex_BL h (show 0 < 5 by omega)
  unfold mL_refuses
  refine (c_sites h).r (fun σ h => ?_)
  refine ref_L9 hd (a 0 0) fu 0 0 σ (by omega) (by rw [fu_eq]; omega) h (fun σ h => ?_)
  generalize hZ : rfS a dg (a 0 0) 0 0 = Z
  unfold mL_refuses_b58
  refine (c_reset6 h).eq (fun σ h => ?_)
  refine (c_infoE h nS).eq (fun σ h => ?_)
  refine (c_infoM (s := 0) h hs0).eq (fun σ h => ?_)
  refine (c_penDownE h nS).eq (fun σ h => ?_)
  refine (c_penDownY (s := 0) h hs0).eq (fun σ h => ?_)
  refine (c_penDownL (s := 0) h hs0).eq (fun σ h => ?_)
  refine (c_penMoveE (s := 0) h hs0).eq (fun σ h => ?_)
  refine (c_penUpE h nS).eq (fun σ h => ?_)
  refine (c_undoE h mS).eq (fun σ h => ?_)
  refine (c_redoE h nS).eq (fun σ h => ?_)
  refine (c_liftE h nS).eq (fun σ h => ?_)
  refine (c_liftN (s := 0) (j := 100) (y := 0) h hs0 hL hc (by omega) (by omega)).eq (fun σ h => ?_)
  unfold mL_refuses_b207
  rw [if_neg (by decide)]
  refine (c_deliverE h (notPr_r nS)).eq (fun σ h => ?_)
  refine (c_loseE h (notPr_l nS)).eq (fun σ h => ?_)
  refine (c_waitingE h notPr_e).eq (fun σ h => ?_)
  refine (c_gapE (s := 0) h hs0 nS).eq (fun σ h => ?_)
  refine (c_repairE h notPr_e).eq (fun σ h => ?_)
  refine (c_transferE h (notPr_r nS)).eq (fun σ h => ?_)
  refine (c_operationE h nS).eq (fun σ h => ?_)
  refine (c_opN (s := 0) (k := 21) h hs0 (by omega) (by omega) (by omega)).eq (fun σ h => ?_)
  refine (c_knowsN (s := 0) (t := 0) (k := 21) h hs0 hs0 (by omega) (by omega) (by omega)).eq (fun σ h => ?_)
  refine (c_strokeE h nS).eq (fun σ h => ?_)
  refine (c_strokeN (s := 0) (j := 100) h hs0 hL hc (by omega)).eq (fun σ h => ?_)
  refine (c_strokeAtE (s := 0) h hs0).eq (fun σ h => ?_)
  refine (c_digestE h mS).eq (fun σ h => ?_)
  refine (c_areSameE h nS).eq (fun σ h => ?_)
  refine (c_bestHelperE h mS).eq (fun σ h => ?_)
  refine (c_endangeredE h nS).eq (fun σ h => ?_)
  exact ref_L406 hd (a 0 0) fu 0 Z 0 σ (by omega) (by rw [fu_eq]; omega) h hZ
/-- the law's look at one site -/
theorem c_sound {s k : Nat} (h : CC a v σ) (e : Ie a) (hs : s < a 0 0) (hk : k ≤ a 2 s) : Rd a v 1 (mL_sound (nI s) (nI k) σ) := by
  have h1 := h.1.1.1
  have h5 := h.1.1.2
  have hs5 := h.s5 hs
  obtain ⟨h20, h8, hl4, hck, -⟩ := h.1.2.1 s hs5
  have h100 := tot_le h.1.2.1
  obtain ⟨c, fn, hL, hc⟩ := ex_BL h hs5
  obtain ⟨x, hx, hend⟩ : ∃ x, x ≤ a 1 s ∧ ∀ σ, CC a v σ → ∃ y, y ≤ a 1 s ∧ Rd a v (nI y) (mX6_endangered (nI s) σ) := ⟨0, Nat.zero_le _, fun σ h => c_endangered h hs⟩
  have cnt : a 1 s ≤ cntK a s 100 := by
    have key : ∀ x, x ≤ 100 → (20 * s ≤ x → min (x - 20 * s) (a 1 s) ≤ cntK a s x) := by
      intro x
      induction x with
      | zero => intro _ hx; omega
      | succ x ih =>
        intro hx1 hx2
        unfold cntK
        by_cases q : 20 * s ≤ x
        · have := ih (by omega) q
          by_cases w : x - 20 * s < a 1 s
          · have := (knF_iff.mp (own_known h hs5 w)).2
            rw [show 20 * s + (x - 20 * s) = x by omega] at this
            omega
          · omega
        · omega
    have := key 100 (Nat.le_refl _) (by omega)
    omega
  unfold mL_sound
  refine (c_info2 h hs).r (fun σ h => ?_)
  have b185 : ∀ σ, CC a v σ → Rd a v 1 (mL_sound_b185 (nI s) (nI k) (nI (a 1 s)) σ) := by
    intro σ h
    obtain ⟨y, hy, he⟩ := hend σ h
    unfold mL_sound_b185
    refine he.r (fun σ h => ?_)
    refine (c_info0 h hs).r (fun σ h => ?_)
    rw [if_neg (nI_nlt hk (by omega)), if_neg (show ¬ (20 : Int32) < nI (a 1 s) from nI_nlt (b := a 1 s) (a := 20) h20 (by omega))]
    refine (c_info1 h hs).r (fun σ h => ?_)
    have hcl := cntK_le h.1 hs5 100 (Nat.le_refl _)
    rw [if_neg (nI_nlt cnt (by omega))]
    refine (c_gapO h hs).eq (fun σ h => ?_)
    rw [if_neg (nI_pos (by omega)), if_neg (nI_nlt hy (by omega))]
    obtain ⟨r, r1, -, r3⟩ := c_best h hs
    refine r3.r (fun σ h => ?_)
    rw [if_neg r1]
    have q := c_areSame h hs hs
    rw [smB_rf, bI_t] at q
    refine q.eq (fun σ h => ?_)
    exact h.z1
  have L82 : ∀ (d f j : Nat) (σ : St), j + d = c → d < f → CC a v σ → Rd a v 1 (mL_sound_L82 f (nI s) (nI k) (nI (a 1 s)) (nI c) (nI j) σ) := by
    intro d
    induction d with
    | zero =>
      intro f j σ hj hf h
      obtain ⟨f, rfl⟩ : ∃ g, f = g + 1 := ⟨f - 1, by omega⟩
      rw [mL_sound_L82, if_pos (nI_le (by omega) (by omega))]
      exact b185 σ h
    | succ d ih =>
      intro f j σ hj hf h
      obtain ⟨f, rfl⟩ : ∃ g, f = g + 1 := ⟨f - 1, by omega⟩
      have hjc : j < c := by omega
      obtain ⟨hm, h0, hkn⟩ := hL.mk h.1 hs5 hjc
      have hm1 := hm.1
      have hm2 := hm.2
      have hn : fn j / 20 < a 0 0 := by
        apply Nat.lt_of_not_le
        intro q
        have := ((h.1.2.1 (fn j / 20) (by omega)).2.2.2.2 q).1
        omega
      have hid : 20 * (fn j / 20) + (fn j % 20 + 1) - 1 = fn j := by omega
      have p8 := ((h.1.2.2.2.1 _ hm).2.2.2.2.2 h0).2
      have ly := layF_lt (K := knF a s) (fun i hi q => ((h.1.2.2.2.1 i hi).2.2.2.2.1 q).2) (fun i q => knF_mk h.1 hs5 q) hm h0 (tot a)
      rw [mL_sound_L82, if_neg (nI_ge (by omega) (by omega))]
      refine (c_stroke0 h hs hL hjc hc).r (fun σ h => ?_)
      refine (c_stroke1 h hs hL hjc hc).r (fun σ h => ?_)
      have q0 := c_op0 (s := fn j / 20) (k := fn j % 20 + 1) h hn (by omega) (by omega)
      rw [hid, h0] at q0
      refine q0.eq (fun σ h => ?_)
      have q1 := c_knows (s := s) (t := fn j / 20) (k := fn j % 20 + 1) h hs hn (by omega) (by omega)
      rw [hid, hkn, bI_t] at q1
      refine q1.eq (fun σ h => ?_)
      refine (c_stroke4 h hs hL hjc hc).r (fun σ h => ?_)
      have q3 := c_op3s (s := fn j / 20) (k := fn j % 20 + 1) h hn (by omega) (by omega) (by rw [hid]; exact h0)
      rw [hid] at q3
      refine q3.r (fun σ h => ?_)
      rw [if_pos rfl]
      refine (c_stroke2 h hs hL hjc hc).r (fun σ h => ?_)
      rw [if_neg (nI_pos (by unfold lyK; omega))]
      refine (c_stroke2 h hs hL hjc hc).r (fun σ h => ?_)
      rw [if_pos (show nI (lyK a (knF a s) (fn j)) ≤ (3 : Int32) from nI_le (b := 3) (by unfold lyK; omega) (by omega)), nI_1]
      exact ih f (j + 1) σ (by omega) (by omega) h
  have L13 : ∀ (d f i t : Nat) (σ : St), i + d = a 1 s + 1 → 1 ≤ i → d < f → CC a v σ → (i = 1 → t = 0) → (∀ _ : 2 ≤ i, t = a 5 (20 * s + (i - 1) - 1)) → Rd a v 1 (mL_sound_L13 f (nI s) (nI k) (nI (a 1 s)) (nI t) (nI i) σ) := by
    intro d
    induction d with
    | zero =>
      intro f i t σ hi h1i hf h _ _
      obtain ⟨f, rfl⟩ : ∃ g, f = g + 1 := ⟨f - 1, by omega⟩
      rw [mL_sound_L13, if_pos (nI_lt (by omega) (by omega))]
      unfold mL_sound_b71
      refine (c_info3 h hs hL).r (fun σ h => ?_)
      exact L82 c fu 0 σ (by omega) (by rw [fu_eq]; omega) h
    | succ d ih =>
      intro f i t σ hi h1i hf h t1 t2
      obtain ⟨f, rfl⟩ : ∃ g, f = g + 1 := ⟨f - 1, by omega⟩
      have hm := mk_of h hs5 h1i (show i ≤ a 1 s by omega)
      have hkn := own_known h hs5 (show i - 1 < a 1 s by omega)
      have ht := (h.1.2.2.1 s _ hs5 hm.1).2 (knF_iff.mp (by rw [show 20 * s + i - 1 = 20 * s + (i - 1) by omega]; exact hkn)).2
      have hti := (h.1.2.2.2.1 _ hm).2.1
      have hlt : t < a 5 (20 * s + i - 1) := by
        by_cases e1 : i = 1
        · rw [t1 e1]
          have := e _ hm
          omega
        · rw [t2 (by omega)]
          have hm2 := mk_of (k := i - 1) h hs5 (by omega) (by omega)
          exact h.1.2.2.2.2.1 _ _ hm2 hm (by omega) (by omega)
      rw [mL_sound_L13, if_neg (nI_nlt (by omega) (by omega))]
      refine (c_op1 h hs h1i (by omega)).r (fun σ h => ?_)
      have q1 := c_knows h hs hs h1i (show i ≤ a 1 s by omega)
      rw [show 20 * s + i - 1 = 20 * s + (i - 1) by omega, hkn, bI_t] at q1
      refine q1.eq (fun σ h => ?_)
      rw [if_neg (nI_ge hlt (by omega))]
      refine (c_info0 h hs).r (fun σ h => ?_)
      rw [if_pos (nI_le ht.2.2 (by omega)), nI_1]
      exact ih f (i + 1) _ σ (by omega) (by omega) (by omega) h (fun q => by omega) (fun _ => by rw [Nat.add_sub_cancel])
  exact L13 (a 1 s) fu 1 0 σ (by omega) (by omega) (by rw [fu_eq]; omega) h (fun _ => rfl) (fun q => by omega)
end LW
