/-! Boards alike, digests, differing. -/
/-- who knows K and who knows K' see the same -/
def sm (a : Ab) (K K' : Nat → Bool) : Prop := ∀ i, (vis a K i ↔ vis a K' i) ∧ (vis a K i → lyK a K i = lyK a K' i)
noncomputable def smB (a : Ab) (K K' : Nat → Bool) : Bool := @decide (sm a K K') (Classical.propDecidable _)
theorem smB_t {a : Ab} {K K' : Nat → Bool} : smB a K K' = true ↔ sm a K K' := by
  unfold smB
  exact @decide_eq_true_iff _ (Classical.propDecidable _)
theorem sm_rf {a : Ab} {K : Nat → Bool} : sm a K K := fun _ => ⟨Iff.rfl, fun _ => rfl⟩
theorem sm_sy {a : Ab} {K K' : Nat → Bool} (h : sm a K K') : sm a K' K := fun i => ⟨(h i).1.symm, fun q => ((h i).2 ((h i).1.mpr q)).symm⟩
theorem smB_sy (a : Ab) (K K' : Nat → Bool) : smB a K K' = smB a K' K := by
  rw [Bool.eq_iff_iff, smB_t, smB_t]
  exact ⟨sm_sy, sm_sy⟩
theorem smB_rf (a : Ab) (K : Nat → Bool) : smB a K K = true := smB_t.mpr sm_rf
theorem BL_sm {a : Ab} {K K' : Nat → Bool} {c : Nat} {fn : Nat → Nat} (h : sm a K K') (hL : BL a K c fn) : BL a K' c fn := by
  obtain ⟨h1, h2, h3⟩ := hL
  refine ⟨fun p q hp hq => ?_, fun p hp => (h _).1.mp (h2 p hp), fun x hx => h3 x ((h _).1.mpr hx)⟩
  have e1 := (h _).2 (h2 p (by omega))
  have e2 := (h _).2 (h2 q hq)
  have := h1 p q hp hq
  unfold okl at *
  rw [← e1, ← e2]
  exact this
/-- what a board shows, told from the list -/
theorem sm_of {a : Ab} {K K' : Nat → Bool} {c : Nat} {fn : Nat → Nat} (hL : BL a K c fn) (hL' : BL a K' c fn) (h : ∀ p, p < c → lyK a K (fn p) = lyK a K' (fn p)) : sm a K K' := by
  intro i
  refine ⟨⟨fun q => ?_, fun q => ?_⟩, fun q => ?_⟩
  · obtain ⟨p, hp, rfl⟩ := hL.2.2 i q
    exact hL'.2.1 p hp
  · obtain ⟨p, hp, rfl⟩ := hL'.2.2 i q
    exact hL.2.1 p hp
  · obtain ⟨p, hp, rfl⟩ := hL.2.2 i q
    exact h p hp
section CS
variable {a : Ab} {v σ : St} {s t : Nat}
theorem same_G {g : Nat} {K K' : Nat → Bool} (hg : g < 2) (hs : s < 5) (ht : t < 5) (B1 : shB a K g s σ) (B2 : shB a K' g t σ) : ∃ σ1 σ', mX6_showSame g (nI s) (nI t) σ = some (bI (smB a K K'), σ') ∧ agB 0 σ σ1 ∧ agB 1 σ1 σ' := by
  obtain ⟨σ1, c, fn, e1, e2, e3, e4, e5⟩ := q_show (b := 0) hg (by omega) hs B1
  have B2' : shB a K' g t σ1 := shB_ag hg (by omega) B2 e2
  obtain ⟨σ3, c2, fn2, g1, g2, g3, g4, g5⟩ := q_show (b := 1) hg (by omega) ht B2'
  refine ⟨σ1, σ3, ?_, e2, g2⟩
  have hK := B1.1.2.2
  have hK' := B2.1.2.2
  have hl4 : ∀ (K : Nat → Bool), (∀ i, K i = true → mk a i) → ∀ i, mk a i → a 4 i = 0 → lyK a K i < 4 := fun K hK i hi h0 => layF_lt (fun j hj q => ((B1.2.2.1 j hj).2.2.2 q).2) hK hi h0 _
  have k29 : σ3 29 0 = nI c := by rw [g2 29 (by omega) (by omega) (by omega) (by omega)]; exact e3.1
  have k30 : σ3 30 0 = nI c2 := g3.1
  have m1 : ∀ q, q < c → mk a (fn q) ∧ a 4 (fn q) = 0 := fun q hq => ⟨hK _ (e4.2.1 q hq).1, (e4.2.1 q hq).2.1⟩
  have m2 : ∀ q, q < c2 → mk a (fn2 q) ∧ a 4 (fn2 q) = 0 := fun q hq => ⟨hK' _ (g4.2.1 q hq).1, (g4.2.1 q hq).2.1⟩
  have h1 : ∀ q, q < c → σ3 22 q = nI (fn q) ∧ fn q < 100 ∧ σ3 21 (fn q) = nI (lyK a K (fn q)) := fun q hq => by
    rw [g2 22 (by omega) (by omega) (by omega) (by omega), g2 21 (by omega) (by omega) (by omega) (by omega)]
    exact ⟨e3.2.1 q hq, (m1 q hq).1.1, e3.2.2.2 (fn q) (m1 q hq).1 (m1 q hq).2⟩
  have h2 : ∀ q, q < c2 → σ3 25 q = nI (fn2 q) ∧ fn2 q < 100 ∧ σ3 24 (fn2 q) = nI (lyK a K' (fn2 q)) := fun q hq => ⟨g3.2.1 q hq, (m2 q hq).1.1, g3.2.2.2 (fn2 q) (m2 q hq).1 (m2 q hq).2⟩
  have no : ∀ (P : Prop), ¬ P → (P ↔ sm a K K') → smB a K K' = false := fun P hP e => Bool.eq_false_iff.mpr (fun q => hP (e.mpr (smB_t.mp q)))
  unfold mX6_showSame mX0_matches
  rw [e1, bnv_s, g1, bnv_s, show σ3 (29 + 0) 0 = _ from k29, show σ3 (29 + 1) 0 = _ from k30]
  by_cases hcc : c = c2
  · subst hcc
    rw [if_pos rfl]
    have A := mat_L (l := fun q => lyK a K (fn q)) (l2 := fun q => lyK a K' (fn2 q)) e5 k29 h1 h2 c fu 0 (by omega) (by rw [fu_eq]; omega)
    rw [show nI 0 = (0 : Int32) from rfl] at A
    have key : eqL fn (fun q => lyK a K (fn q)) fn2 (fun q => lyK a K' (fn2 q)) 0 c ↔ sm a K K' := by
      constructor
      · intro q
        have w : ∀ p, p < c → fn p = fn2 p ∧ lyK a K (fn p) = lyK a K' (fn2 p) := fun p hp => by
          obtain ⟨q1, q2⟩ := q p (Nat.zero_le _) hp
          have b1 := (m1 p hp).1.1
          have b2 := (m2 p hp).1.1
          have b3 := hl4 K hK _ (m1 p hp).1 (m1 p hp).2
          have b4 := hl4 K' hK' _ (m2 p hp).1 (m2 p hp).2
          exact ⟨(nI_eq (by omega) (by omega)).mp q1, (nI_eq (by omega) (by omega)).mp q2⟩
        refine sm_of (c := c) (fn := fn) e4 ⟨fun p q hp hq => ?_, fun p hp => ?_, fun x hx => ?_⟩ (fun p hp => by rw [(w p hp).2, (w p hp).1])
        · rw [(w p (by omega)).1, (w q hq).1]; exact g4.1 p q hp hq
        · rw [(w p hp).1]; exact g4.2.1 p hp
        · obtain ⟨p, hp, e⟩ := g4.2.2 x hx
          exact ⟨p, hp, by rw [(w p hp).1]; exact e⟩
      · intro q p _ hp
        have L2 := BL_sm q e4
        have f := (BL.one g4 L2).2 p hp
        have w := (q (fn p)).2 (e4.2.1 p hp)
        rw [f]
        exact ⟨rfl, by show nI (lyK a K (fn p)) = nI (lyK a K' (fn2 p)); rw [f, w]⟩
    rcases A with ⟨j1, j2⟩ | ⟨j1, j2⟩
    · rw [j2, bnd_s, smB_t.mpr (key.mp j1)]; rfl
    · rw [j2, bnd_s, no _ j1 key]; rfl
  · have hn : ¬ nI c = nI c2 := fun q => hcc ((nI_eq (by omega) (by omega)).mp q)
    rw [if_neg hn, no (c = c2) hcc ⟨fun q => absurd q hcc, fun q => ((BL.one g4 (BL_sm q e4)).1).symm⟩]
    rfl
theorem c_areSame (h : CC a v σ) (hs : s < a 0 0) (ht : t < a 0 0) : Rd a v (bI (smB a (knF a s) (knF a t))) (mX6_areSame (nI s) (nI t) σ) := by
  have hs5 := h.s5 hs
  have ht5 := h.s5 ht
  obtain ⟨σ1, σ', e1, e2, e3⟩ := same_G (g := 0) (by omega) hs5 ht5 (shB_at h hs5) (shB_at h ht5)
  have h' : CC a v σ' := ⟨h.1, RepC_ag (RepC_ag h.2 (agC_of (by omega) e2)) (agC_of (by omega) e3)⟩
  unfold mX6_areSame
  rw [cs_y h.2.1 h.1.1.2 hs, cs_y h.2.1 h.1.1.2 ht, e1, bnd_s, if_bI]
  cases smB a (knF a s) (knF a t)
  · rw [if_neg (by decide)]; exact h'.rd
  · rw [if_pos rfl]; exact h'.rd
/-- the points of a stroke taken into a digest -/
def hpF (v : St) (i : Nat) : Nat → Nat → Int32 → Int32
  | 0, _, z => z
  | d + 1, k, z => hpF v i d (k + 1) (31 * (31 * z + v 1 (8 * i + k)) + v 2 (8 * i + k))
theorem hpF_s (v : St) (i d k : Nat) (z : Int32) : hpF v i (d + 1) k z = hpF v i d (k + 1) (31 * (31 * z + v 1 (8 * i + k)) + v 2 (8 * i + k)) := rfl
/-- the digest of a list of strokes: ly tells their layers -/
def hsF (a : Ab) (v : St) (ly fn : Nat → Nat) : Nat → Nat → Int32 → Int32
  | 0, _, z => z
  | d + 1, q, z => hsF a v ly fn d (q + 1) (hpF v (fn q) (a 7 (fn q)) 0 (31 * (31 * (31 * (31 * z + nI (fn q / 20)) + nI (fn q % 20 + 1)) + nI (ly (fn q))) + v 0 (fn q)))
theorem hsF_s (a : Ab) (v : St) (ly fn : Nat → Nat) (d q : Nat) (z : Int32) : hsF a v ly fn (d + 1) q z = hsF a v ly fn d (q + 1) (hpF v (fn q) (a 7 (fn q)) 0 (31 * (31 * (31 * (31 * z + nI (fn q / 20)) + nI (fn q % 20 + 1)) + nI (ly (fn q))) + v 0 (fn q))) := rfl
theorem hpF_cong {v' : St} {i : Nat} (h : ∀ k, k < 8 → v' 1 (8 * i + k) = v 1 (8 * i + k) ∧ v' 2 (8 * i + k) = v 2 (8 * i + k)) : ∀ (d k : Nat) (z : Int32), k + d ≤ 8 → hpF v' i d k z = hpF v i d k z := by
  intro d
  induction d with
  | zero => intro k z _; rfl
  | succ d ih =>
    intro k z hk
    rw [hpF_s, hpF_s, (h k (by omega)).1, (h k (by omega)).2]
    exact ih _ _ (by omega)
theorem hsF_cong {a' : Ab} {v' : St} {ly ly' fn fn' : Nat → Nat} {c : Nat} (h : ∀ q, q < c → fn' q = fn q ∧ ly' (fn q) = ly (fn q) ∧ a' 7 (fn q) = a 7 (fn q) ∧ a 7 (fn q) ≤ 8 ∧ v' 0 (fn q) = v 0 (fn q) ∧ ∀ k, k < 8 → v' 1 (8 * fn q + k) = v 1 (8 * fn q + k) ∧ v' 2 (8 * fn q + k) = v 2 (8 * fn q + k)) : ∀ (d q : Nat) (z : Int32), q + d = c → hsF a' v' ly' fn' d q z = hsF a v ly fn d q z := by
  intro d
  induction d with
  | zero => intro q z _; rfl
  | succ d ih =>
    intro q z hq
    obtain ⟨h1, h2, h3, h4, h5, h6⟩ := h q (by omega)
    rw [hsF_s, hsF_s, h1, h2, h3, h5, hpF_cong h6 _ _ _ (by omega)]
    exact ih _ _ (by omega)
theorem hpt_C (h : CC a v σ) {i : Nat} (hi : mk a i) (h0 : a 4 i = 0) : ∀ (d f k : Nat) (z : Int32), k + d = a 7 i → d < f → mX0_hashPoints_L6 0 0 f (nI i) z (nI k) σ = some (hpF v i d k z, σ) := by
  have hi1 := hi.1
  obtain ⟨c6, c7, c8⟩ := (h.2.2.2.2.1 i hi).2.2.2.2 h0
  have p8 := ((h.1.2.2.2.1 i hi).2.2.2.2.2 h0).2
  have hn : i < ns 0 := hi1
  intro d
  induction d with
  | zero =>
    intro f k z hd hf
    obtain ⟨f, rfl⟩ : ∃ g, f = g + 1 := ⟨f - 1, by omega⟩
    rw [mX0_hashPoints_L6, q_pc (t := 0) (by omega) hn, bnd_s, show σ (6 + 5 * 0) i = nI (a 7 i) from c6, if_pos (nI_le (by omega) (by omega))]
    rfl
  | succ d ih =>
    intro f k z hd hf
    obtain ⟨f, rfl⟩ : ∃ g, f = g + 1 := ⟨f - 1, by omega⟩
    obtain ⟨x1, y1⟩ := c8 k (by omega)
    rw [mX0_hashPoints_L6, q_pc (t := 0) (by omega) hn, bnd_s, show σ (6 + 5 * 0) i = nI (a 7 i) from c6, if_neg (nI_ge (by omega) (by omega)), q_x (t := 0) (by omega) hn (by omega), bnd_s, q_y (t := 0) (by omega) hn (by omega), bnd_s, nI_1, show σ (9 + 5 * 0) (8 * i + k) = _ from x1, show σ (10 + 5 * 0) (8 * i + k) = _ from y1, hpF_s]
    exact ih f (k + 1) _ (by omega) (by omega)
theorem hash_C (h : CC a v σ) {K : Nat → Bool} {c : Nat} {fn : Nat → Nat} (hc : c ≤ 100) (B : hsB a K 0 c fn σ) (hm : ∀ p, p < c → mk a (fn p) ∧ a 4 (fn p) = 0) : ∀ (d f q : Nat) (z : Int32), q + d = c → d < f → mX0_hash_L5 0 f z (nI q) σ = some (hsF a v (lyK a K) fn d q z, σ) := by
  intro d
  induction d with
  | zero =>
    intro f q z hd hf
    obtain ⟨f, rfl⟩ : ∃ g, f = g + 1 := ⟨f - 1, by omega⟩
    rw [mX0_hash_L5, B.1, if_pos (nI_le (by omega) (by omega))]
    rfl
  | succ d ih =>
    intro f q z hd hf
    obtain ⟨f, rfl⟩ : ∃ g, f = g + 1 := ⟨f - 1, by omega⟩
    obtain ⟨hi, h0⟩ := hm q (by omega)
    have hi1 := hi.1
    have p8 := ((h.1.2.2.2.1 _ hi).2.2.2.2.2 h0).2
    have h1 := B.2.1 q (by omega)
    have h2 := B.2.2.2 (fn q) hi h0
    have c7 := (((h.2.2.2.2.1 _ hi).2.2.2.2) h0).2.1
    have e1 := hpt_C h hi h0 (a 7 (fn q)) fu 0 (31 * (31 * (31 * (31 * z + nI (fn q / 20)) + nI (fn q % 20 + 1)) + nI (lyK a K (fn q))) + v 0 (fn q)) (by omega) (by rw [fu_eq]; omega)
    rw [mX0_hash_L5, B.1, if_neg (nI_ge (by omega) (by omega)), q_get σ (show q < rl (22 + 3 * 0) by show q < 100; omega), bnd_s, h1, q_authorOf σ hi1, bnd_s, q_numberOf σ hi1, bnd_s, q_get σ (show fn q < rl (21 + 3 * 0) from hi1), bnd_s, h2, lti_s, q_col (t := 0) (by omega) (show fn q < ns 0 from hi1), bnd_s, show σ (7 + 5 * 0) (fn q) = _ from c7]
    unfold mX0_hashPoints
    rw [show (mX0_hashPoints_L6 0 0 fu (nI (fn q)) (31 * (31 * (31 * (31 * z + nI (fn q / 20)) + nI (fn q % 20 + 1)) + nI (lyK a K (fn q))) + v 0 (fn q)) 0 σ) = _ from e1, bnd_s, nI_1, hsF_s]
    exact ih f (q + 1) _ (by omega) (by omega)
theorem c_digest {c : Nat} {fn : Nat → Nat} (h : CC a v σ) (hs : s < a 0 0) (hL : BL a (knF a s) c fn) : Rd a v (hsF a v (lyK a (knF a s)) fn c 0 17) (mX6_digest (nI s) σ) := by
  have hs5 := h.s5 hs
  obtain ⟨σ', e1, e2, e3, h', e5⟩ := c_show (b := 0) h (by omega) hs5 hL
  unfold mX6_digest mX0_hash
  rw [cs_y h.2.1 h.1.1.2 hs, e1, bnv_s, show (mX0_hash_L5 0 fu 17 0 σ') = _ from hash_C h' e5 e3 (fun p hp => ⟨(hL.mk h.1 hs5 hp).1, (hL.mk h.1 hs5 hp).2.1⟩) c fu 0 17 (by omega) (by rw [fu_eq]; omega), bnd_s]
  exact h'.rd
/-- a digest is a number of the state alone -/
theorem ex_dg (h : CC a v σ) (hs : s < a 0 0) : ∃ r, ∀ σ, CC a v σ → Rd a v r (mX6_digest (nI s) σ) := by
  obtain ⟨c, fn, hL, -⟩ := ex_BL h (h.s5 hs)
  exact ⟨_, fun σ h => c_digest h hs hL⟩
/-- the pairs that differ: the t of one s, from t on -/
def dI (w : Nat → Nat → Nat) : Nat → Nat → Nat → Nat → Nat
  | 0, _, _, x => x
  | g + 1, s, t, x => dI w g s (t + 1) (x + w s t)
def dO (w : Nat → Nat → Nat) : Nat → Nat → Nat → Nat
  | 0, _, x => x
  | e + 1, s, x => dO w e (s + 1) (dI w e s (s + 1) x)
theorem dI_s (w : Nat → Nat → Nat) (g s t x : Nat) : dI w (g + 1) s t x = dI w g s (t + 1) (x + w s t) := rfl
theorem dO_s (w : Nat → Nat → Nat) (e s x : Nat) : dO w (e + 1) s x = dO w e (s + 1) (dI w e s (s + 1) x) := rfl
noncomputable def dfW (a : Ab) (kk : Nat → Nat) (s t : Nat) : Nat := if smB a (kkF kk s) (kkF kk t) = true then 0 else 1
theorem shB_K {kk : Nat → Nat} (I : Inv a v) (hk : kkOk a kk) (C : CK a v kk σ) (hs : s < 5) : shB a (kkF kk s) 1 s σ := shB_of (g := 1) (s := s) I C.1 (fun i q => kkF_mk hk hs q) (fun i hi => by rw [show 16 + 1 = 17 from rfl, C.2 _ (by omega)]; exact kkF_val hk hs hi)
theorem dif_L {kk : Nat → Nat} (I : Inv a v) (hk : kkOk a kk) : ∀ (e f s x : Nat) (σ : St), s + e = a 0 0 → e < f → CK a v kk σ → ∃ σ', mX6_differing_L8 f (nI x) (nI s) σ = some (nI (dO (dfW a kk) e s x), σ') ∧ RepC a v σ' := by
  have h5 := I.1.2
  intro e
  induction e with
  | zero =>
    intro f s x σ h hf C
    obtain ⟨f, rfl⟩ : ∃ g, f = g + 1 := ⟨f - 1, by omega⟩
    rw [mX6_differing_L8, C.1.1, if_pos (nI_le (by omega) (by omega))]
    exact ⟨σ, rfl, C.1⟩
  | succ e ih =>
    intro f s x σ h hf C
    obtain ⟨f, rfl⟩ : ∃ g, f = g + 1 := ⟨f - 1, by omega⟩
    have inner : ∀ (g f2 t x : Nat) (σ : St), t + g = a 0 0 → g < f2 → CK a v kk σ → ∃ σ', mX6_differing_L20 (mX6_differing_L8 f) f2 (nI x) (nI s) (nI t) σ = some (nI (dO (dfW a kk) e (s + 1) (dI (dfW a kk) g s t x)), σ') ∧ RepC a v σ' := by
      intro g
      induction g with
      | zero =>
        intro f2 t x σ h2 hf2 C
        obtain ⟨f2, rfl⟩ : ∃ g, f2 = g + 1 := ⟨f2 - 1, by omega⟩
        rw [mX6_differing_L20, C.1.1, if_pos (nI_le (by omega) (by omega)), nI_1]
        exact ih f (s + 1) x σ (by omega) (by omega) C
      | succ g ihg =>
        intro f2 t x σ h2 hf2 C
        obtain ⟨f2, rfl⟩ : ∃ g, f2 = g + 1 := ⟨f2 - 1, by omega⟩
        obtain ⟨σ1, σ2, e1, e2, e3⟩ := same_G (g := 1) (by omega) (show s < 5 by omega) (show t < 5 by omega) (shB_K I hk C (by omega)) (shB_K I hk C (by omega))
        have C2 := CK_ag (b := 1) (by omega) (CK_ag (b := 0) (by omega) C e2) e3
        rw [mX6_differing_L20, C.1.1, if_neg (nI_ge (by omega) (by omega)), e1, bnd_s, if_bI, nI_1, nI_1, dI_s, show dfW a kk s t = (if smB a (kkF kk s) (kkF kk t) = true then 0 else 1) from rfl]
        cases smB a (kkF kk s) (kkF kk t)
        · rw [if_neg (by decide), if_neg (by decide)]
          exact ihg f2 (t + 1) (x + 1) σ2 (by omega) (by omega) C2
        · rw [if_pos rfl, if_pos rfl]
          exact ihg f2 (t + 1) x σ2 (by omega) (by omega) C2
    rw [mX6_differing_L8, C.1.1, if_neg (nI_ge (by omega) (by omega)), nI_1, dO_s]
    exact inner e fu (s + 1) x σ (by omega) (by rw [fu_eq]; omega) C
/-- what would be known with all links emptied -/
def futK (a : Ab) : Nat → Nat := fnK a 25 (a 3)
theorem kk_a3 (I : Inv a v) : kkOk a (a 3) := fun s i hs hi => ⟨(I.2.2.1 s i hs hi).1, fun h => ((I.2.2.1 s i hs hi).2 h).1⟩
theorem c_differing (h : CC a v σ) : Rd a v (nI (dO (dfW a (futK a)) (a 0 0) 0 0)) (mX6_differing σ) := by
  obtain ⟨I, C⟩ := id h
  have h5 := I.1.2
  have hk := kk_a3 I
  have C0 : CK a v (a 3) (cpS σ 17 16 0 500) := ⟨RepC_ag C (fun k h1 _ _ _ => by funext i; unfold cpS; rw [if_neg (fun q => h1 q.1)]), fun j hj => by unfold cpS; rw [if_pos ⟨rfl, Nat.zero_le _, hj⟩]; exact C.2.2.1 j hj⟩
  obtain ⟨σ2, j1, C2⟩ := lkC_L I (a 0 0) fu 0 (a 3) _ (by omega) (by rw [fu_eq]; omega) hk C0
  obtain ⟨σ3, p1, C3⟩ := dif_L I (fnK_ok I 25 (a 3) (by omega) hk) (a 0 0) fu 0 0 σ2 (by omega) (by rw [fu_eq]; omega) C2
  unfold mX6_differing mX6_lookAhead mX2_copyFrom
  rw [q_copy σ (by omega) (by show 500 ≤ 500; omega) (by rw [fu_eq]; show 500 < 4000; omega), bnv_s, bnv_s, show rl (16 + 1) = 500 from rl_kno 1 (by omega), show (mX6_lookAhead_L13 fu 0 (cpS σ (16 + 1) (16 + 0) 0 500)) = _ from j1, bnv_s, show (mX6_differing_L8 fu 0 0 σ2) = _ from p1]
  exact ⟨σ3, rfl, I, C3⟩
end CS
