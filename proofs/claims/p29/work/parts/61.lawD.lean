/-! The law's transfers; undo and redo. -/
section LW
variable {a : Ab} {v σ : St} {s h : Nat}
theorem c_transfers (H : CC a v σ) (e : Ie a) (hs : s < a 0 0) (hh : h < a 0 0) (hne : s ≠ h) : ∃ b, Sxp a b s ∧ Rd b v 1 (mL_transfers (nI s) (nI h) σ) := by
  have h5 := H.1.1.2
  have hs5 := H.s5 hs
  have hh5 := H.s5 hh
  obtain ⟨sz, S⟩ := ex_SZ H
  have n1 : ∀ t, t < 5 → ∀ j, a 1 t ≤ j → j < 20 → trB a s h (20 * t + j) = false := fun t ht j j1 j2 => by
    rw [Bool.eq_false_iff]
    intro q
    have := (knF_mk H.1 hh5 (trB_iff.mp q).1).2
    rw [show (20 * t + j) / 20 = t by omega] at this
    omega
  have b176 : ∀ (b : Ab) (σ : St), Lrn a b s 100 (trQ a s h) → CC b v σ → ∃ b', Sxp a b' s ∧ Rd b' v 1 (mL_transfers_b176 (nI s) (nI h) σ) := by
    intro b σ L Hb
    have hbn : b 0 0 = a 0 0 := by rw [L.1 0 (by omega) (by omega)]
    have Sb : SZ b v sz := S.keep (L.1 1 (by omega) (by omega)) (L.1 4 (by omega) (by omega)) (L.1 7 (by omega) (by omega))
    obtain ⟨b2, L2, -, r2⟩ := c_transfer Sb Hb (show s < b 0 0 by omega) (show h < b 0 0 by omega) hne
    have z : sumF b sz s h 100 = 0 := by
      have := sumF_skip b sz s h 0 100 (fun j _ hj => by
        rw [Bool.eq_false_iff]
        intro q
        obtain ⟨q1, q2⟩ := trB_iff.mp q
        rw [Lrn_kn2 L hh5 (Or.inl (Ne.symm hne))] at q1
        by_cases w : knF a s j = true
        · rw [(Lrn_kn L hs5).mpr (Or.inl w)] at q2
          cases q2
        · rw [(Lrn_kn L hs5).mpr (Or.inr ⟨by omega, rfl, by omega, q1, Bool.eq_false_iff.mpr w⟩)] at q2
          cases q2)
      rw [Nat.zero_add] at this
      exact this
    rw [z] at r2
    refine ⟨b2, Sxp_tr (Sxp_Lrn L e h5) (Sxp_Lrn L2 (Sxp_Lrn L e h5).2.1 (by omega)), ?_⟩
    unfold mL_transfers_b176
    exact r2.eq (fun σ h => h.z1)
  have L112 : ∀ (b : Ab), Lrn a b s 100 (trQ a s h) → ∀ (d f t : Nat) (σ : St), t + d = b 0 0 → d < f → CC b v σ → ∃ b', Sxp a b' s ∧ Rd b' v 1 (mL_transfers_L112 f (nI s) (nI h) (nI t) σ) := by
    intro b L d
    have hbn : b 0 0 = a 0 0 := by rw [L.1 0 (by omega) (by omega)]
    induction d with
    | zero =>
      intro f t σ ht hf Hb
      obtain ⟨f, rfl⟩ : ∃ g, f = g + 1 := ⟨f - 1, by omega⟩
      rw [mL_transfers_L112]
      obtain ⟨σ1, g1, Hb⟩ := c_sites Hb
      rw [g1, bnd_s, if_pos (nI_le (by omega) (by omega))]
      exact b176 b σ1 L Hb
    | succ d ih =>
      intro f t σ ht hf Hb
      obtain ⟨f, rfl⟩ : ∃ g, f = g + 1 := ⟨f - 1, by omega⟩
      have htb : t < b 0 0 := by omega
      have h20 := (Hb.1.2.1 t (by omega)).1
      have inn : ∀ (u g k : Nat) (σ : St), k + u = b 1 t + 1 → 1 ≤ k → u < g → CC b v σ → ∃ b', Sxp a b' s ∧ Rd b' v 1 (mL_transfers_L124 (mL_transfers_L112 f) g (nI s) (nI h) (nI t) (nI k) σ) := by
        intro u
        induction u with
        | zero =>
          intro g k σ hk k1 hg Hb
          obtain ⟨g, rfl⟩ : ∃ q, g = q + 1 := ⟨g - 1, by omega⟩
          rw [mL_transfers_L124]
          obtain ⟨σ1, g1, Hb⟩ := c_info2 Hb htb
          rw [g1, bnd_s, if_pos (nI_lt (by omega) (by omega)), nI_1]
          exact ih f (t + 1) σ1 (by omega) (by omega) Hb
        | succ u ihu =>
          intro g k σ hk k1 hg Hb
          obtain ⟨g, rfl⟩ : ∃ q, g = q + 1 := ⟨g - 1, by omega⟩
          rw [mL_transfers_L124]
          obtain ⟨σ1, g1, Hb⟩ := c_info2 Hb htb
          rw [g1, bnd_s, if_neg (nI_nlt (by omega) (by omega)), nI_1]
          obtain ⟨σ2, g2, Hb⟩ := c_knows (k := k) Hb (show h < b 0 0 by omega) htb k1 (by omega)
          rw [g2, bnd_s]
          by_cases c : knF b h (20 * t + k - 1) = true
          · have ks : knF b s (20 * t + k - 1) = true := by
              have c' := c
              rw [Lrn_kn2 L hh5 (Or.inl (Ne.symm hne))] at c'
              by_cases w : knF a s (20 * t + k - 1) = true
              · exact (Lrn_kn L hs5).mpr (Or.inl w)
              · exact (Lrn_kn L hs5).mpr (Or.inr ⟨by omega, rfl, by omega, c', Bool.eq_false_iff.mpr w⟩)
            obtain ⟨σ3, g3, Hb⟩ := c_knows (k := k) Hb (show s < b 0 0 by omega) htb k1 (by omega)
            rw [c, bI_t, if_pos rfl, g3, bnd_s, ks, bI_t, if_pos rfl]
            exact ihu g (k + 1) σ3 (by omega) (by omega) (by omega) Hb
          · rw [Bool.eq_false_iff.mpr c, bI_f, if_neg (by decide)]
            exact ihu g (k + 1) σ2 (by omega) (by omega) (by omega) Hb
      rw [mL_transfers_L112]
      obtain ⟨σ1, g1, Hb⟩ := c_sites Hb
      rw [g1, bnd_s, if_neg (nI_ge (by omega) (by omega))]
      exact inn (b 1 t) fu 1 σ1 (by omega) (by omega) (by rw [fu_eq]; omega) Hb
  have L5 : ∀ (d f t : Nat) (σ : St), t + d = a 0 0 → d < f → CC a v σ → ∃ b', Sxp a b' s ∧ Rd b' v 1 (mL_transfers_L5 f (nI s) (nI h) (sumF a sz s h (20 * t)) (nI t) σ) := by
    intro d
    induction d with
    | zero =>
      intro f t σ ht hf H
      obtain ⟨f, rfl⟩ : ∃ g, f = g + 1 := ⟨f - 1, by omega⟩
      rw [mL_transfers_L5]
      obtain ⟨σ1, g1, H⟩ := c_sites H
      rw [g1, bnd_s, if_pos (nI_le (by omega) (by omega))]
      obtain ⟨b, L, hc, σ2, g2, Hb⟩ := c_transfer S H hs hh hne
      have hbn : b 0 0 = a 0 0 := by rw [L.1 0 (by omega) (by omega)]
      have c1 := (Hb.1.2.1 s hs5).2.2.2.1
      have c2 := tot_le Hb.1.2.1
      have sk : sumF a sz s h 100 = sumF a sz s h (20 * t) := by
        have := sumF_skip a sz s h (20 * t) (100 - 20 * t) (fun j j1 j2 => by
          rw [Bool.eq_false_iff]
          intro q
          have := site_of H.1 (knF_mk H.1 hh5 (trB_iff.mp q).1)
          omega)
        rw [show 20 * t + (100 - 20 * t) = 100 by omega] at this
        exact this
      unfold mL_transfers_b82
      rw [g2, bnd_s, if_pos sk]
      obtain ⟨σ3, g3, Hb⟩ := c_info0 Hb (show s < b 0 0 by omega)
      obtain ⟨σ4, g4, Hb⟩ := c_info0 Hb (show h < b 0 0 by omega)
      rw [g3, bnd_s, g4, bnd_s, if_pos (nI_le hc (by omega))]
      exact L112 b L (b 0 0) fu 0 σ4 (by omega) (by rw [fu_eq]; omega) Hb
    | succ d ih =>
      intro f t σ ht hf H
      obtain ⟨f, rfl⟩ : ∃ g, f = g + 1 := ⟨f - 1, by omega⟩
      have hta : t < a 0 0 := by omega
      have h20 := (H.1.2.1 t (by omega)).1
      have inn : ∀ (u g k : Nat) (σ : St), k + u = a 1 t → u < g → CC a v σ → ∃ b', Sxp a b' s ∧ Rd b' v 1 (mL_transfers_L17 (mL_transfers_L5 f) g (nI s) (nI h) (sumF a sz s h (20 * t + k)) (nI t) (nI (k + 1)) σ) := by
        intro u
        induction u with
        | zero =>
          intro g k σ hk hg H
          obtain ⟨g, rfl⟩ : ∃ q, g = q + 1 := ⟨g - 1, by omega⟩
          rw [mL_transfers_L17]
          obtain ⟨σ1, g1, H⟩ := c_info2 H hta
          rw [g1, bnd_s, if_pos (nI_lt (by omega) (by omega)), nI_1]
          have := sumF_skip a sz s h (20 * t + k) (20 - k) (fun j j1 j2 => by
            have := n1 t (by omega) (j - 20 * t) (by omega) (by omega)
            rw [show 20 * t + (j - 20 * t) = j by omega] at this
            exact this)
          rw [show 20 * t + k + (20 - k) = 20 * (t + 1) by omega] at this
          rw [← this]
          exact ih f (t + 1) σ1 (by omega) (by omega) H
        | succ u ihu =>
          intro g k σ hk hg H
          obtain ⟨g, rfl⟩ : ∃ q, g = q + 1 := ⟨g - 1, by omega⟩
          have nx : ∀ (x : Int32) (σ : St), CC a v σ → x = sumF a sz s h (20 * t + (k + 1)) → ∃ b', Sxp a b' s ∧ Rd b' v 1 (mL_transfers_L17 (mL_transfers_L5 f) g (nI s) (nI h) x (nI t) (nI (k + 1 + 1)) σ) := fun x σ H q => by
            rw [q]
            exact ihu g (k + 1) σ (by omega) (by omega) H
          have ss := sumF_s a sz s h (20 * t + k)
          rw [mL_transfers_L17]
          obtain ⟨σ1, g1, H⟩ := c_info2 H hta
          rw [g1, bnd_s, if_neg (nI_nlt (by omega) (by omega)), nI_1]
          obtain ⟨σ2, g2, H⟩ := c_knows (k := k + 1) H hh hta (by omega) (by omega)
          rw [g2, bnd_s, show 20 * t + (k + 1) - 1 = 20 * t + k by omega]
          by_cases c : knF a h (20 * t + k) = true
          · obtain ⟨σ3, g3, H⟩ := c_knows (k := k + 1) H hs hta (by omega) (by omega)
            rw [c, bI_t, if_pos rfl, g3, bnd_s, show 20 * t + (k + 1) - 1 = 20 * t + k by omega]
            by_cases w : knF a s (20 * t + k) = true
            · rw [w, bI_t, if_neg (by decide)]
              rw [if_neg (fun q => by have := (trB_iff.mp q).2; rw [w] at this; cases this)] at ss
              exact nx _ _ H ss.symm
            · rw [Bool.eq_false_iff.mpr w, bI_f, if_pos rfl]
              rw [if_pos (trB_iff.mpr ⟨c, Bool.eq_false_iff.mpr w⟩)] at ss
              obtain ⟨σ4, g4, H⟩ := c_op2 (k := k + 1) S H hta (by omega) (by omega)
              rw [g4, bnd_s, show 20 * t + (k + 1) - 1 = 20 * t + k by omega]
              exact nx _ _ H ss.symm
          · rw [Bool.eq_false_iff.mpr c, bI_f, if_neg (by decide)]
            rw [if_neg (fun q => c (trB_iff.mp q).1)] at ss
            exact nx _ _ H ss.symm
      rw [mL_transfers_L5]
      obtain ⟨σ1, g1, H⟩ := c_sites H
      rw [g1, bnd_s, if_neg (nI_ge (by omega) (by omega))]
      exact inn (a 1 t) fu 0 σ1 (by omega) (by rw [fu_eq]; omega) H
  unfold mL_transfers
  exact L5 (a 0 0) fu 0 σ (by omega) (by rw [fu_eq]; omega) H
/-- a stroke undone and made visible again; lost says whether links may have been full -/
theorem c_turns (H : CC a v σ) (e : Ie a) (hs : s < a 0 0) : Ok (fun r b _ => r = 1 ∧ b 0 0 = a 0 0 ∧ Ie b ∧ a 2 s ≤ b 2 s ∧ ((∀ r, r < a 0 0 → r ≠ s → a 12 (5 * s + r) ≤ 8) → Conv a → Conv b)) (mL_turns (nI s) σ) := by
  have h5 := H.1.1.2
  have hs5 := H.s5 hs
  have h20 := (H.1.2.1 s hs5).1
  obtain ⟨c, fn, hL, hc⟩ := ex_BL H hs5
  have nc : ∀ x : Int32, (x = -1000000002 ∨ x = -1000000003) → ¬ (0 : Int32) ≤ x := fun x q => by
    rcases q with q | q <;> rw [q] <;> decide
  have same : ∀ σ, CC a v σ → Ok (fun r b _ => r = 1 ∧ b 0 0 = a 0 0 ∧ Ie b ∧ a 2 s ≤ b 2 s ∧ ((∀ r, r < a 0 0 → r ≠ s → a 12 (5 * s + r) ≤ 8) → Conv a → Conv b)) (mL_turns_b53 (nI s) (hsF a v (lyK a (knF a s)) fn c 0 17) (nI (a 1 s)) σ) := by
    intro σ H
    unfold mL_turns_b53
    obtain ⟨σ1, g1, H⟩ := c_digest H hs hL
    obtain ⟨σ2, g2, H⟩ := c_info2 H hs
    rw [g1, bnd_s, if_pos rfl, g2, bnd_s, if_pos rfl]
    exact H.z1.ok ⟨rfl, rfl, e, Nat.le_refl _, fun _ q => q⟩
  unfold mL_turns
  refine (c_digest H hs hL).k (fun σ H => ?_)
  refine (c_info2 H hs).k (fun σ H => ?_)
  refine (c_info3 H hs hL).k (fun σ H => ?_)
  by_cases hz : uTg a s = 0
  · refine (c_undo0 H hs hz).k (fun σ H => ?_)
    rw [if_neg (nc _ (Or.inl rfl)), if_pos rfl]
    exact same σ H
  by_cases f20 : a 1 s = 20
  · refine (c_undoF H hs hz f20).k (fun σ H => ?_)
    rw [if_neg (nc _ (Or.inr rfl)), if_neg (by decide), if_pos rfl, if_pos (by rw [f20]; rfl)]
    exact same σ H
  have hlt : a 1 s < 20 := by omega
  obtain ⟨t1, t2, t3, t4⟩ := uTg_ok H hs hz
  have I := H.1
  refine (c_undo H hs hz hlt).b (fun r1 σ a1 v1 H1 p1 => ?_)
  obtain ⟨p1, p2, pl, P, p3⟩ := p1
  rw [p1, if_pos (nI_pos' (by omega))]
  have m0 : ∀ i, mk a i → i ≠ 20 * s + a 1 s := fun i hi q => nA_not (a := a) hs5 hlt (by rw [← q]; exact hi)
  have n1 : a1 0 0 = a 0 0 := by rw [p3, nA0]
  have n2 : a1 1 s = a 1 s + 1 := by rw [p3, nA1, if_pos rfl]
  have hs1 : s < a1 0 0 := by omega
  obtain ⟨c1, fn1, hL1, hc1⟩ := ex_BL H1 hs5
  have cc : c = c1 + 1 := nw_cnt1 (tg := 20 * s + uTg a s - 1) (ly := 0) (ct := 0) I hs5 hlt P hL (by rw [← p3]; exact hL1) t2
  subst cc
  refine (c_info3 H1 hs1 hL1).k (fun σ H1 => ?_)
  rw [nI_pred, if_pos rfl, nI_1]
  have q0 := c_op0 (k := a 1 s + 1) H1 hs1 (by omega) (by omega)
  rw [show 20 * s + (a 1 s + 1) - 1 = 20 * s + a 1 s by omega, show a1 4 (20 * s + a 1 s) = 1 by rw [p3, nA4, if_pos rfl]] at q0
  refine q0.k (fun σ H1 => ?_)
  rw [if_pos (show nI 1 = (1 : Int32) from rfl)]
  have q3 := c_op3u (k := a 1 s + 1) H1 hs1 (by omega) (by omega) (by rw [show 20 * s + (a 1 s + 1) - 1 = 20 * s + a 1 s by omega, p3, nA4, if_pos rfl]; omega)
  rw [show 20 * s + (a 1 s + 1) - 1 = 20 * s + a 1 s by omega, show a1 6 (20 * s + a 1 s) = 20 * s + uTg a s - 1 by rw [p3, nA6, if_pos rfl], t4] at q3
  refine q3.k (fun σ H1 => ?_)
  rw [if_pos rfl]
  have rt : rTg a1 s = uTg a s := by rw [p3, nw_rTg I hs5 hlt P t2, t4]
  have e1 : Ie a1 := by rw [p3]; exact Ie_new e hs5 hlt
  have k1 : a1 2 s = a 2 s + 1 := by rw [p3, nA2, if_pos rfl]
  have conv1 : (∀ r, r < a 0 0 → r ≠ s → a 12 (5 * s + r) ≤ 8) → Conv a → Conv a1 := fun hr hc => by
    rw [p3]
    exact Conv_new hc I hs hlt (fun r q1 q2 => by have := hr r q1 q2; omega)
  by_cases f19 : a 1 s = 19
  · refine (c_redoF H1 hs1 (by rw [rt]; exact hz) (by omega)).k (fun σ H1 => ?_)
    rw [if_pos (show nI (a 1 s) = (19 : Int32) by rw [f19]; rfl), if_pos rfl]
    exact H1.z1.ok ⟨rfl, n1, e1, by omega, conv1⟩
  have hlt1 : a1 1 s < 20 := by omega
  have I1 := H1.1
  refine (c_redo H1 hs1 (by rw [rt]; exact hz) hlt1).b (fun r2 σ a2 v2 H2 p4 => ?_)
  obtain ⟨p4, p5, pl2, P2, p6⟩ := p4
  rw [rt] at p4 p6
  rw [p4, if_neg (show ¬ nI (a 1 s) = (19 : Int32) from fun q => f19 ((nI_eq (b := 19) (by omega) (by omega)).mp q)), if_pos rfl]
  have n4 : a2 0 0 = a 0 0 := by rw [p6, nA0, n1]
  have hs2 : s < a2 0 0 := by omega
  obtain ⟨L2, ly2⟩ := nw_twice (tg := 20 * s + uTg a s - 1) (tg2 := 0) (ly := 0) (ct := 0) (ly2 := 0) (ct2 := 0) I hs5 hlt P p3 I1 hlt1 P2 hL t2
  rw [← p6] at L2 ly2
  have m1 : ∀ i, mk a i → mk a1 i := fun i hi => by rw [p3]; exact (nA_mk hs5 hlt i).mpr (Or.inl hi)
  have m01 : ∀ i, mk a i → i ≠ 20 * s + a1 1 s := fun i hi q => nA_not (a := a1) hs5 hlt1 (by rw [← q]; exact m1 i hi)
  have dg : hsF a2 v2 (lyK a2 (knF a2 s)) fn (c1 + 1) 0 17 = hsF a v (lyK a (knF a s)) fn (c1 + 1) 0 17 := by
    refine hsF_cong (c := c1 + 1) (fun q hq => ?_) (c1 + 1) 0 17 (by omega)
    obtain ⟨hm, h0, -⟩ := hL.mk I hs5 hq
    have w1 := p2 _ hm
    have w2 := p5 _ (m1 _ hm)
    refine ⟨rfl, ly2 _ (hL.2.1 q hq), ?_, ((I.2.2.2.1 _ hm).2.2.2.2.2 h0).2, by rw [w2.1, w1.1], fun k hk => ⟨by rw [(w2.2 k hk).1, (w1.2 k hk).1], by rw [(w2.2 k hk).2, (w1.2 k hk).2]⟩⟩
    rw [p6, nA7, if_neg (m01 _ hm), p3, nA7, if_neg (m0 _ hm)]
  refine (c_digest H2 hs2 L2).k (fun σ H2 => ?_)
  rw [if_pos dg]
  refine (c_info3 H2 hs2 L2).k (fun σ H2 => ?_)
  rw [if_pos rfl]
  refine H2.z1.ok ⟨rfl, n4, by rw [p6]; exact Ie_new e1 hs5 hlt1, by rw [p6, nA2, if_pos rfl]; omega, fun hr hc => ?_⟩
  rw [p6]
  refine Conv_new (conv1 hr hc) I1 hs1 hlt1 (fun r q1 q2 => ?_)
  have w1 := hr r (by omega) q2
  have w2 := nw_12 (a := a) (s := s) (kd := 1) (tg := 20 * s + uTg a s - 1) (ly := 0) (ct := 0) (pl := pl) (5 * s + r)
  rw [← p3] at w2
  omega
end LW
