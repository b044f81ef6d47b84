/-! The law's look at all pairs of sites. -/
section LW
variable {a : Ab} {v σ : St}
/-- an answer 0 or 1 that says, where it is 1, that x and y know the same -/
def KS (a : Ab) (v : St) (x y : Nat) (o : Option (Int32 × St)) : Prop := ∃ b : Bool, Rd a v (bI b) o ∧ (b = true → ∀ i, mk a i → knF a x i = knF a y i)
theorem KS.b {x y : Nat} {r : Int32} {o : Option (Int32 × St)} {f : Int32 → St → Option (Int32 × St)} (h : Rd a v r o) (k : ∀ σ, CC a v σ → KS a v x y (f r σ)) : KS a v x y (bnd o f) := by
  obtain ⟨σ, e, h1⟩ := h
  rw [e, bnd_s]
  exact k σ h1
theorem site_of (I : Inv a v) {i : Nat} (hi : mk a i) : i / 20 < a 0 0 := by
  have h1 := hi.1
  have h2 := hi.2
  apply Nat.lt_of_not_le
  intro q
  have := ((I.2.1 (i / 20) (by omega)).2.2.2.2 q).1
  omega
theorem c_knowSame {x y : Nat} (h : CC a v σ) (hx : x < a 0 0) (hy : y < a 0 0) : KS a v x y (mL_knowSame (nI x) (nI y) σ) := by
  have h5 := h.1.1.2
  have out : ∀ (d f t : Nat) (b : Bool) (σ : St), t + d = a 0 0 → d < f → CC a v σ → (b = true → ∀ i, mk a i → i / 20 < t → knF a x i = knF a y i) → KS a v x y (mL_knowSame_L5 f (nI x) (nI y) (bI b) (nI t) σ) := by
    intro d
    induction d with
    | zero =>
      intro f t b σ ht hf h hb
      obtain ⟨f, rfl⟩ : ∃ g, f = g + 1 := ⟨f - 1, by omega⟩
      rw [mL_knowSame_L5]
      refine KS.b (c_sites h) (fun σ h => ?_)
      rw [if_pos (nI_le (by omega) (by omega)), rz_b]
      exact ⟨b, h.rd, fun q i hi => hb q i hi (by have := site_of h.1 hi; omega)⟩
    | succ d ih =>
      intro f t b σ ht hf h hb
      obtain ⟨f, rfl⟩ : ∃ g, f = g + 1 := ⟨f - 1, by omega⟩
      have ht' : t < a 0 0 := by omega
      have h20 := (h.1.2.1 t (by omega)).1
      have inn : ∀ (e g k : Nat) (b : Bool) (σ : St), k + e = a 1 t + 1 → 1 ≤ k → e < g → CC a v σ → (b = true → ∀ i, mk a i → (i / 20 < t ∨ (i / 20 = t ∧ i % 20 + 1 < k)) → knF a x i = knF a y i) → KS a v x y (mL_knowSame_L17 (mL_knowSame_L5 f) g (nI x) (nI y) (bI b) (nI t) (nI k) σ) := by
        intro e
        induction e with
        | zero =>
          intro g k b σ hk k1 hg h hb
          obtain ⟨g, rfl⟩ : ∃ z, g = z + 1 := ⟨g - 1, by omega⟩
          rw [mL_knowSame_L17]
          refine KS.b (c_info2 h ht') (fun σ h => ?_)
          rw [if_pos (nI_lt (by omega) (by omega)), nI_1]
          refine ih f (t + 1) b σ (by omega) (by omega) h (fun q i hi hit => hb q i hi ?_)
          by_cases w : i / 20 = t
          · have := hi.2
            rw [w] at this
            exact Or.inr ⟨w, by omega⟩
          · exact Or.inl (by omega)
        | succ e ihe =>
          intro g k b σ hk k1 hg h hb
          obtain ⟨g, rfl⟩ : ∃ z, g = z + 1 := ⟨g - 1, by omega⟩
          rw [mL_knowSame_L17]
          refine KS.b (c_info2 h ht') (fun σ h => ?_)
          rw [if_neg (nI_nlt (by omega) (by omega)), nI_1, if_bI]
          cases b with
          | false =>
            rw [if_neg (by decide)]
            exact ihe g (k + 1) false σ (by omega) (by omega) (by omega) h (fun q => by cases q)
          | true =>
            rw [if_pos rfl]
            refine KS.b (c_knows h hx ht' k1 (by omega)) (fun σ h => ?_)
            refine KS.b (c_knows h hy ht' k1 (by omega)) (fun σ h => ?_)
            by_cases w : knF a x (20 * t + k - 1) = knF a y (20 * t + k - 1)
            · rw [if_pos (by rw [w])]
              refine ihe g (k + 1) true σ (by omega) (by omega) (by omega) h (fun _ i hi q => ?_)
              by_cases z : i = 20 * t + k - 1
              · rw [z]; exact w
              · refine hb rfl i hi ?_
                rcases q with q | ⟨q1, q2⟩
                · exact Or.inl q
                · exact Or.inr ⟨q1, by omega⟩
            · rw [if_neg (fun q => w (by revert q; cases knF a x (20 * t + k - 1) <;> cases knF a y (20 * t + k - 1) <;> simp [bI]))]
              exact ihe g (k + 1) false σ (by omega) (by omega) (by omega) h (fun q => by cases q)
      rw [mL_knowSame_L5]
      refine KS.b (c_sites h) (fun σ h => ?_)
      rw [if_neg (nI_ge (by omega) (by omega))]
      refine inn (a 1 t) fu 1 b σ (by omega) (by omega) (by rw [fu_eq]; omega) h (fun q i hi z => hb q i hi ?_)
      rcases z with z | ⟨-, z⟩
      · exact z
      · omega
  exact out (a 0 0) fu 0 true σ (by omega) (by rw [fu_eq]; omega) h (fun _ i _ q => by omega)
theorem same_kn {x y : Nat} (I : Inv a v) (hx : x < 5) (hy : y < 5) (h : ∀ i, mk a i → knF a x i = knF a y i) : knF a x = knF a y := by
  funext i
  rcases Classical.em (mk a i) with e | e
  · exact h i e
  · rw [Bool.eq_iff_iff]
    exact ⟨fun q => absurd (knF_mk I hx q) e, fun q => absurd (knF_mk I hy q) e⟩
theorem dg_same {x y c : Nat} {fn : Nat → Nat} (I : Inv a v) (hx : x < 5) (hL : BL a (knF a x) c fn) (h : sm a (knF a x) (knF a y)) : hsF a v (lyK a (knF a y)) fn c 0 17 = hsF a v (lyK a (knF a x)) fn c 0 17 := by
  refine hsF_cong (c := c) (fun q hq => ⟨rfl, ?_, rfl, ?_, rfl, fun _ _ => ⟨rfl, rfl⟩⟩) c 0 17 (by omega)
  · exact ((h _).2 (hL.2.1 q hq)).symm
  · obtain ⟨hm, h0, -⟩ := hL.mk I hx hq
    exact ((I.2.2.2.1 _ hm).2.2.2.2.2 h0).2
theorem c_pairs (h : CC a v σ) : Rd a v 1 (mL_pairs σ) := by
  have h5 := h.1.1.2
  have out : ∀ (d f x : Nat) (σ : St), x + d = a 0 0 → d < f → CC a v σ → Rd a v 1 (mL_pairs_L2 f (nI x) σ) := by
    intro d
    induction d with
    | zero =>
      intro f x σ hx hf h
      obtain ⟨f, rfl⟩ : ∃ g, f = g + 1 := ⟨f - 1, by omega⟩
      rw [mL_pairs_L2]
      refine (c_sites h).r (fun σ h => ?_)
      rw [if_pos (nI_le (by omega) (by omega))]
      exact h.z1
    | succ d ih =>
      intro f x σ hx hf h
      obtain ⟨f, rfl⟩ : ∃ g, f = g + 1 := ⟨f - 1, by omega⟩
      have hx' : x < a 0 0 := by omega
      have inn : ∀ (e g y : Nat) (σ : St), y + e = a 0 0 → e < g → CC a v σ → Rd a v 1 (mL_pairs_L12 (mL_pairs_L2 f) g (nI x) (nI y) σ) := by
        intro e
        induction e with
        | zero =>
          intro g y σ hy hg h
          obtain ⟨g, rfl⟩ : ∃ z, g = z + 1 := ⟨g - 1, by omega⟩
          rw [mL_pairs_L12]
          refine (c_sites h).r (fun σ h => ?_)
          rw [if_pos (nI_le (by omega) (by omega)), nI_1]
          exact ih f (x + 1) σ (by omega) (by omega) h
        | succ e ihe =>
          intro g y σ hy hg h
          obtain ⟨g, rfl⟩ : ∃ z, g = z + 1 := ⟨g - 1, by omega⟩
          have hy' : y < a 0 0 := by omega
          have b66 : ∀ σ, CC a v σ → Rd a v 1 (mL_pairs_b66 (mL_pairs_L2 f) (mL_pairs_L12 (mL_pairs_L2 f) g) (nI x) (nI y) σ) := by
            intro σ h
            unfold mL_pairs_b66
            rw [nI_1]
            by_cases c : x = y
            · rw [if_pos (by rw [c])]
              exact ihe g (y + 1) σ (by omega) (by omega) h
            · rw [if_neg (fun q => c ((nI_eq (by omega) (by omega)).mp q))]
              have h10 := (h.1.2.2.2.2.2.2 (5 * x + y) (by omega)).1
              refine (c_waiting h hx' hy' c).r (fun σ h => ?_)
              rw [if_neg (nI_pos (by omega))]
              refine (c_waiting h hx' hy' c).r (fun σ h => ?_)
              rw [if_pos (show nI (a 12 (5 * x + y)) ≤ (10 : Int32) from nI_le (b := 10) h10 (by omega))]
              exact ihe g (y + 1) σ (by omega) (by omega) h
          have b49 : ∀ σ, CC a v σ → Rd a v 1 (mL_pairs_b49 (mL_pairs_L2 f) (mL_pairs_L12 (mL_pairs_L2 f) g) (nI x) (nI y) (bI (smB a (knF a x) (knF a y))) σ) := by
            intro σ h
            unfold mL_pairs_b49
            rw [if_bI]
            by_cases c : smB a (knF a x) (knF a y) = true
            · rw [if_pos c]
              obtain ⟨n, fn, hL, -⟩ := ex_BL h (show x < 5 by omega)
              have hs := smB_t.mp c
              refine (c_digest h hx' hL).r (fun σ h => ?_)
              refine (c_digest h hy' (BL_sm hs hL)).r (fun σ h => ?_)
              rw [if_pos (dg_same h.1 (by omega) hL hs).symm]
              exact b66 σ h
            · rw [if_neg c]
              exact b66 σ h
          have b35 : ∀ σ, CC a v σ → Rd a v 1 (mL_pairs_b35 (mL_pairs_L2 f) (mL_pairs_L12 (mL_pairs_L2 f) g) (nI x) (nI y) (bI (smB a (knF a x) (knF a y))) σ) := by
            intro σ h
            unfold mL_pairs_b35
            obtain ⟨b, k1, k2⟩ := c_knowSame h hx' hy'
            refine k1.r (fun σ h => ?_)
            rw [if_bI]
            cases b with
            | false =>
              rw [if_neg (by decide)]
              exact b49 σ h
            | true =>
              have : smB a (knF a x) (knF a y) = true := by
                rw [same_kn h.1 (by omega) (by omega) (k2 rfl)]
                exact smB_rf _ _
              rw [if_pos rfl, if_neg (by rw [this]; decide)]
              exact b49 σ h
          rw [mL_pairs_L12]
          refine (c_sites h).r (fun σ h => ?_)
          rw [if_neg (nI_ge (by omega) (by omega))]
          refine (c_areSame h hx' hy').r (fun σ h => ?_)
          have := b35 σ h
          revert this
          cases smB a (knF a x) (knF a y) with
          | false => rw [bI_f, if_neg (by decide)]; exact id
          | true => rw [bI_t, if_pos rfl]; exact id
      rw [mL_pairs_L2]
      refine (c_sites h).r (fun σ h => ?_)
      rw [if_neg (nI_ge (by omega) (by omega))]
      exact inn (a 0 0) fu 0 σ (by omega) (by rw [fu_eq]; omega) h
  exact out (a 0 0) fu 0 σ (by omega) (by rw [fu_eq]; omega) h
end LW
