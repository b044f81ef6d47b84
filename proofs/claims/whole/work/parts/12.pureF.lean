/-! Calls that change nothing, or a pen. -/
theorem iv {x : Int32} {lo hi : Nat} (h1 : nI lo ≤ x) (h2 : x ≤ nI hi) (hh : hi < 2 ^ 31) (hl : lo < 2 ^ 31) : ∃ k, lo ≤ k ∧ k ≤ hi ∧ x = nI k := by
  rw [Int32.le_iff_toInt_le, nI_toInt hl] at h1
  rw [Int32.le_iff_toInt_le, nI_toInt hh] at h2
  refine ⟨x.toInt.toNat, by omega, by omega, ?_⟩
  apply Int32.toInt_inj.mp
  rw [nI_toInt (by omega)]
  omega
theorem lk_i (s t : Nat) : (5 : Int32) * nI s + nI t = nI (5 * s + t) := by rw [il 5, pk_mul, nI_add]
theorem q_cnt {s t : Nat} (σ : St) (hs : s < 5) (ht : t < 5) : mX3_countIn (nI s) (nI t) σ = some (σ 18 (5 * s + t), σ) := by
  unfold mX3_countIn
  rw [il 5, pk_mul, nI_add, q_get σ (show s * 5 + t < rl 18 by show _ < 25; omega), bnd_s, Nat.mul_comm]
theorem q_msg {s t k : Nat} (σ : St) (hs : s < 5) (ht : t < 5) (hk : k < 10) : mX3_messageIn (nI s) (nI t) (nI k) σ = some (σ 19 (10 * (5 * s + t) + k), σ) := by
  unfold mX3_messageIn
  rw [il 5, il 10, pk_mul, nI_add, pk_mul, nI_add, q_get σ (show (s * 5 + t) * 10 + k < rl 19 by show _ < 250; omega), bnd_s, show (s * 5 + t) * 10 + k = 10 * (5 * s + t) + k by omega]
theorem q_idOf {s k : Nat} (σ : St) (hk : 1 ≤ k) : mX6_idOf (nI s) (nI k) σ = some (nI (20 * s + k - 1), σ) := by
  unfold mX6_idOf
  rw [il 20, pk_mul, nI_add, il 1, pk_sub (by omega), Nat.mul_comm]
theorem q_authorOf {i : Nat} (σ : St) (hi : i < 100) : mX6_authorOf (nI i) σ = some (nI (i / 20), σ) := by
  unfold mX6_authorOf
  rw [il 20, pk_div (by omega) (by omega) (by omega)]
theorem q_numberOf {i : Nat} (σ : St) (hi : i < 100) : mX6_numberOf (nI i) σ = some (nI (i % 20 + 1), σ) := by
  unfold mX6_numberOf
  rw [il 20, pk_rem (by omega) (by omega) (by omega), nI_1]
theorem op_sites {σ τ : St} (R : Rel σ τ) : Same (mX6_sites σ) (mX7_sites τ) := by
  obtain ⟨a, v, I, C, M⟩ := R
  exact Same_e (C.1.trans M.1.symm) ⟨a, v, I, C, M⟩
theorem op_waiting {σ τ : St} (R : Rel σ τ) (x y : Int32) : Same (mX6_waiting x y σ) (mX7_waiting x y τ) := by
  obtain ⟨a, v, I, C, M⟩ := id R
  have h5 := I.1.2
  unfold mX6_waiting mX7_waiting
  refine Same_pair I C M (fun s t hs ht hst ex ey => ?_)
  subst ex; subst ey
  rw [q_cnt σ (by omega) (by omega), bnd_s, lk_i, ix_n (by omega) (by decide), nI_clamp (by omega), (C.2.2.2.2.2 _ (show 5 * s + t < 25 by omega)).1, (M.2.2.2.2 _ (show 5 * s + t < 25 by omega)).1]
  exact Same_r R
theorem op_knows {σ τ : St} (R : Rel σ τ) (x y z : Int32) : Same (mX6_knows x y z σ) (mX7_knows x y z τ) := by
  obtain ⟨a, v, I, C, M⟩ := id R
  have h5 := I.1.2
  unfold mX6_knows mX7_knows
  refine Same_site I C M (fun s hs ex => ?_)
  refine Same_site I C M (fun t ht ey => ?_)
  subst ex; subst ey
  by_cases hz : 1 ≤ z
  · rw [if_pos hz, if_pos hz, q_made σ (by omega), bnd_s, ix_n (by omega) (by decide), nI_clamp (by omega), (C.2.1 t (by omega)).1, (M.2.1 t (by omega)).1]
    have h20 := (I.2.1 t (by omega)).1
    by_cases hk : z ≤ nI (a 1 t)
    · obtain ⟨k, k1, k2, rfl⟩ := iv (lo := 1) hz hk (by omega) (by omega)
      rw [if_pos hk, if_pos hk, q_idOf σ k1, bnd_s, m_place τ k1, bnd_s, q_hasK (K := knF a s) (by omega) (by omega) (by omega) (by rw [show 16 + 0 = 16 from rfl, C.2.2.1 _ (by omega)]; exact knF_val I (by omega) (by omega)), bnd_s, il 100, pk_mul, nI_add, ix_n (by omega) (by decide), nI_clamp (by omega), M.2.2.1 _ (by omega), knF_val I (by omega) (by omega)]
      cases knF a s (20 * t + k - 1)
      · exact Same_r R
      · exact Same_r R
    · rw [if_neg hk, if_neg hk]; exact Same_r R
  · rw [if_neg hz, if_neg hz]; exact Same_r R
/-- how many operations a site knows, of the first x -/
def cntK (a : Ab) (s : Nat) : Nat → Nat
  | 0 => 0
  | x + 1 => cntK a s x + a 3 (100 * s + x)
theorem cntK_le {a : Ab} {v : St} (I : Inv a v) {s : Nat} (hs : s < 5) : ∀ x, x ≤ 100 → cntK a s x ≤ x := by
  intro x
  induction x with
  | zero => intro _; exact Nat.le_refl 0
  | succ x ih =>
    intro h
    have h1 := ih (by omega)
    have h2 := (I.2.2.1 s x hs (by omega)).1
    unfold cntK
    omega
theorem q_countOf {a : Ab} {v σ : St} (I : Inv a v) (C : RepC a v σ) {s : Nat} (hs : s < 5) : ∀ (d f x : Nat), x + d = 100 → d < f → mX2_countOf_L4 0 f (nI s) (nI (cntK a s x)) (nI x) σ = some (nI (cntK a s 100), σ) := by
  intro d
  induction d with
  | zero =>
    intro f x h hf
    obtain ⟨f, rfl⟩ : ∃ g, f = g + 1 := ⟨f - 1, by omega⟩
    have : x = 100 := by omega
    subst this
    rw [mX2_countOf_L4, if_pos (by decide)]
  | succ d ih =>
    intro f x h hf
    obtain ⟨f, rfl⟩ : ∃ g, f = g + 1 := ⟨f - 1, by omega⟩
    have h2 := (I.2.2.1 s x hs (by omega)).1
    have e := ih f (x + 1) (by omega) (by omega)
    rw [mX2_countOf_L4, if_neg (show ¬ (100 : Int32) ≤ nI x from nI_ge (b := 100) (by omega) (by omega)), q_hasK (K := knF a s) (by omega) hs (by omega) (by rw [show 16 + 0 = 16 from rfl, C.2.2.1 _ (by omega)]; exact knF_val I hs (by omega)), bnd_s, ← knF_val I hs (by omega), nI_1 x]
    by_cases h0 : a 3 (100 * s + x) = 0
    · rw [h0, if_pos (show nI 0 = (0 : Int32) from rfl), il 0, nI_add]
      unfold cntK at e
      rw [h0] at e
      exact e
    · rw [show a 3 (100 * s + x) = 1 by omega, if_neg (by decide), nI_1]
      unfold cntK at e
      rw [show a 3 (100 * s + x) = 1 by omega] at e
      exact e
theorem m_countOf {a : Ab} {v τ : St} (I : Inv a v) (M : RepM a v τ) {s : Nat} (hs : s < 5) : ∀ (d f x : Nat), x + d = 100 → d < f → mX7_knownMany_L4 f (nI s) (nI (cntK a s x)) (nI x) τ = some (nI (cntK a s 100), τ) := by
  intro d
  induction d with
  | zero =>
    intro f x h hf
    obtain ⟨f, rfl⟩ : ∃ g, f = g + 1 := ⟨f - 1, by omega⟩
    have : x = 100 := by omega
    subst this
    rw [mX7_knownMany_L4, if_pos (by decide)]
  | succ d ih =>
    intro f x h hf
    obtain ⟨f, rfl⟩ : ∃ g, f = g + 1 := ⟨f - 1, by omega⟩
    have e := ih f (x + 1) (by omega) (by omega)
    rw [mX7_knownMany_L4, if_neg (show ¬ (100 : Int32) ≤ nI x from nI_ge (b := 100) (by omega) (by omega)), il 100, pk_mul, nI_add, ix_n (by omega) (by decide), nI_clamp (by omega), M.2.2.1 _ (by omega)]
    simp only [lts_s, lti_s]
    rw [nI_add, nI_1]
    exact e
theorem op_siteInfo {σ τ : St} (R : Rel σ τ) (x y : Int32) : Same (mX6_siteInfo x y σ) (mX7_siteInfo x y τ) := by
  obtain ⟨a, v, I, C, M⟩ := id R
  have h5 := I.1.2
  unfold mX6_siteInfo mX7_siteInfo
  refine Same_site I C M (fun s hs ex => ?_)
  subst ex
  obtain ⟨c1, c2, c3, c4, c5⟩ := C.2.1 s (by omega)
  obtain ⟨m1, m2, m3, m4, m5⟩ := M.2.1 s (by omega)
  rw [q_in, bnd_s]
  simp only [if_b0]
  by_cases y0 : y = 0
  · subst y0
    rw [if_pos rfl, if_pos (by decide), if_pos rfl, q_get σ (show s < rl 26 by show s < 5; omega), bnd_s, ix_n (by omega) (by decide), nI_clamp (by omega), c2, m2]
    exact Same_r R
  by_cases y1 : y = 1
  · subst y1
    rw [if_neg (by decide), if_pos rfl, if_pos (by decide), if_neg (by decide), if_pos rfl]
    unfold mX2_countOf mX7_knownMany
    rw [show (mX2_countOf_L4 0 fu (nI s) 0 0 σ) = _ from q_countOf I C (by omega) 100 fu 0 (by omega) (by rw [fu_eq]; omega), show (mX7_knownMany_L4 fu (nI s) 0 0 τ) = _ from m_countOf I M (by omega) 100 fu 0 (by omega) (by rw [fu_eq]; omega), bnd_s, bnd_s]
    exact Same_r R
  by_cases y2 : y = 2
  · subst y2
    rw [if_neg (by decide), if_neg (by decide), if_pos rfl, if_pos (by decide), if_neg (by decide), if_neg (by decide), if_pos rfl, q_made σ (by omega), bnd_s, ix_n (by omega) (by decide), nI_clamp (by omega), c1, m1]
    exact Same_r R
  by_cases y3 : y = 3
  · subst y3
    rw [if_neg (by decide), if_neg (by decide), if_neg (by decide), if_pos rfl, if_pos (by decide), if_neg (by decide), if_neg (by decide), if_neg (by decide), if_pos rfl]
    obtain ⟨σ', τ', c, fn, e1, e2, e3, e4, e5, e6, -⟩ := boards I C M (show s < 5 by omega)
    unfold mX0_strokeCount
    rw [e1, bnv_s, bnd_s, e2, bnv_s, e6.1, show σ' (29 + 0) 0 = nI c from e5.1]
    exact Same_r (Rel_ag I C M (agC_of (by omega) e3) (agN_of e4))
  by_cases y4 : y = 4
  · subst y4
    rw [if_neg (by decide), if_neg (by decide), if_neg (by decide), if_neg (by decide), if_pos rfl, if_pos (by decide), if_neg (by decide), if_neg (by decide), if_neg (by decide), if_neg (by decide)]
    unfold mX1_pointCount
    rw [q_get σ (show s < rl (6 + 5 * 1) by show s < 5; omega), bnd_s, bnd_s, il 19, pk_mul, ix_n (by omega) (by decide), nI_clamp (by omega), show σ (6 + 5 * 1) s = nI (a 10 s) from c3, m3]
    exact Same_r R
  · have hn : ¬ (0 ≤ y ∧ y ≤ 4) := by
      rintro ⟨h1, h2⟩
      obtain ⟨k, -, k2, rfl⟩ := iv (lo := 0) (hi := 4) h1 h2 (by omega) (by omega)
      rcases (show k = 0 ∨ k = 1 ∨ k = 2 ∨ k = 3 ∨ k = 4 by omega) with rfl | rfl | rfl | rfl | rfl
      · exact y0 rfl
      · exact y1 rfl
      · exact y2 rfl
      · exact y3 rfl
      · exact y4 rfl
    rw [if_neg y0, if_neg y1, if_neg y2, if_neg y3, if_neg y4, if_neg hn]
    exact Same_r R
