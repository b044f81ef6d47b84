/-! reset. -/
def resetA (a : Ab) (n : Nat) : Ab := fun k j => if k = 0 ∧ j = 0 then n else if k = 1 ∨ k = 2 ∨ k = 3 ∨ k = 10 ∨ k = 12 then 0 else a k j
theorem resetA_0 (a : Ab) (n : Nat) : resetA a n 0 0 = n := by unfold resetA; rw [if_pos ⟨rfl, rfl⟩]
theorem resetA_z (a : Ab) (n : Nat) {k j : Nat} (h : k = 1 ∨ k = 2 ∨ k = 3 ∨ k = 10 ∨ k = 12) : resetA a n k j = 0 := by unfold resetA; rw [if_neg (by omega), if_pos h]
theorem resetA_mk (a : Ab) (n : Nat) {i : Nat} (h : mk (resetA a n) i) : False := by
  have := h.2
  rw [resetA_z a n (by omega)] at this
  omega
theorem resetA_tot (a : Ab) (n : Nat) : tot (resetA a n) = 0 := by unfold tot; rw [resetA_z a n (by omega), resetA_z a n (by omega), resetA_z a n (by omega), resetA_z a n (by omega), resetA_z a n (by omega)]
theorem Inv_reset {a : Ab} {v : St} (I : Inv a v) {n : Nat} (h1 : 1 ≤ n) (h5 : n ≤ 5) : Inv (resetA a n) v := by
  refine ⟨?_, fun s hs => ?_, fun s i hs hi => ?_, fun i hi => (resetA_mk a n hi).elim, fun i j hi => (resetA_mk a n hi).elim, ⟨fun p hp => ?_, fun p q _ hq => ?_, fun i hi => (resetA_mk a n hi).elim⟩, fun L hL => ?_⟩
  · unfold I_n; rw [resetA_0]; omega
  · rw [resetA_z a n (k := 1) (by omega), resetA_z a n (k := 2) (by omega), resetA_z a n (k := 10) (by omega)]
    refine ⟨by omega, by omega, ?_, by omega, fun _ => ⟨rfl, rfl, rfl⟩⟩
    unfold resetA
    rw [if_neg (by omega), if_neg (by omega)]
    exact (I.2.1 s hs).2.2.1
  · rw [resetA_z a n (k := 3) (by omega)]
    exact ⟨by omega, fun h => by omega⟩
  · rw [resetA_tot] at hp; omega
  · rw [resetA_tot] at hq; omega
  · rw [resetA_z a n (k := 12) (by omega)]
    exact ⟨by omega, fun h => absurd rfl h, fun k hk => by omega⟩
theorem rs_L {m : Int32} : ∀ (d f s : Nat) (τ : St), s + d = 5 → d < f → ∃ τ', mX7_reset_L24 f m (nI s) τ = some (m, τ') ∧ τ' 12 = τ 12 ∧ (∀ s', s' < 5 → τ' 1 s' = if s ≤ s' then 0 else τ 1 s') ∧ (∀ s', s' < 5 → τ' 2 s' = if s ≤ s' then 0 else τ 2 s') ∧ (∀ s', s' < 5 → τ' 4 (19 * s') = if s ≤ s' then 0 else τ 4 (19 * s')) ∧ (∀ j, j < 500 → τ' 3 j = if s ≤ j / 100 then 0 else τ 3 j) ∧ ∀ L, L < 25 → τ' 6 L = if s ≤ L / 5 ∨ s ≤ L % 5 then 0 else τ 6 L := by
  intro d
  induction d with
  | zero =>
    intro f s τ h hf
    obtain ⟨f, rfl⟩ : ∃ g, f = g + 1 := ⟨f - 1, by omega⟩
    have : s = 5 := by omega
    subst this
    rw [mX7_reset_L24, if_pos (by decide)]
    exact ⟨τ, rfl, rfl, fun s' h => by rw [if_neg (by omega)], fun s' h => by rw [if_neg (by omega)], fun s' h => by rw [if_neg (by omega)], fun j h => by rw [if_neg (by omega)], fun L h => by rw [if_neg (by omega)]⟩
  | succ d ih =>
    intro f s τ h hf
    obtain ⟨f, rfl⟩ : ∃ g, f = g + 1 := ⟨f - 1, by omega⟩
    obtain ⟨τ1, e1, r, r1, r2, r4, r3, r6⟩ := m_clear (s := s) (by omega) τ
    rw [mX7_reset_L24, if_neg (show ¬ (5 : Int32) ≤ nI s from nI_ge (b := 5) (by omega) (by omega)), e1, bnv_s, nI_1]
    obtain ⟨τ', g1, g2, g3, g4, g5, g6, g7⟩ := ih f (s + 1) τ1 (by omega) (by omega)
    refine ⟨τ', g1, by rw [g2, r 12 (by omega)], fun s' h' => ?_, fun s' h' => ?_, fun s' h' => ?_, fun j h' => ?_, fun L h' => ?_⟩
    · rw [g3 s' h', r1, upd_at]
      by_cases c : s + 1 ≤ s'
      · rw [if_pos c, if_pos (by omega)]
      · rw [if_neg c]
        by_cases c2 : s' = s
        · rw [if_pos c2, if_pos (by omega)]
        · rw [if_neg c2, if_neg (by omega)]
    · rw [g4 s' h', r2, upd_at]
      by_cases c : s + 1 ≤ s'
      · rw [if_pos c, if_pos (by omega)]
      · rw [if_neg c]
        by_cases c2 : s' = s
        · rw [if_pos c2, if_pos (by omega)]
        · rw [if_neg c2, if_neg (by omega)]
    · rw [g5 s' h', r4, upd_at]
      by_cases c : s + 1 ≤ s'
      · rw [if_pos c, if_pos (by omega)]
      · rw [if_neg c]
        by_cases c2 : s' = s
        · rw [if_pos (by omega), if_pos (by omega)]
        · rw [if_neg (by omega), if_neg (by omega)]
    · rw [g6 j h', r3]
      by_cases c : s + 1 ≤ j / 100
      · rw [if_pos c, if_pos (by omega)]
      · rw [if_neg c]
        by_cases c2 : j / 100 = s
        · rw [if_pos c2, if_pos (by omega)]
        · rw [if_neg c2, if_neg (by omega)]
    · rw [g7 L h', r6 L h']
      by_cases c : s + 1 ≤ L / 5 ∨ s + 1 ≤ L % 5
      · rw [if_pos c, if_pos (by omega)]
      · rw [if_neg c]
        by_cases c2 : L / 5 = s ∨ L % 5 = s
        · rw [if_pos c2, if_pos (by omega)]
        · rw [if_neg c2, if_neg (by omega)]
theorem rl_v : rl 0 = 5 ∧ rl (6 + 5 * 1) = 5 ∧ rl (16 + 0) = 500 ∧ rl 18 = 25 ∧ rl 26 = 5 := by decide
theorem q_clear4 (σ : St) : mX4_clear σ = some (ups (flS σ 0 0 5 0) 28 0 0) := by
  unfold mX4_clear
  rw [q_fill _ _ (by rw [rl_v.1, fu_eq]; omega), bnv_s, lts_s, rl_v.1]
theorem q_clear1 (σ : St) : mX1_clear 1 σ = some (flS σ 11 0 5 0) := by
  unfold mX1_clear
  rw [q_fill _ _ (by rw [rl_v.2.1, fu_eq]; omega), bnv_s, rl_v.2.1]
theorem q_clear2 (σ : St) : mX2_clear 0 σ = some (flS σ 16 0 500 0) := by
  unfold mX2_clear
  rw [q_fill _ _ (by rw [rl_v.2.2.1, fu_eq]; omega), bnv_s, rl_v.2.2.1]
theorem q_clear3 (σ : St) : mX3_clear σ = some (flS σ 18 0 25 0) := by
  unfold mX3_clear
  rw [q_fill _ _ (by rw [rl_v.2.2.2.1, fu_eq]; omega), bnv_s, rl_v.2.2.2.1]
theorem q_clear26 (σ : St) : mX5_fill 26 0 σ = some (flS σ 26 0 5 0) := by
  rw [q_fill _ _ (by rw [rl_v.2.2.2.2, fu_eq]; omega), rl_v.2.2.2.2]
theorem M_resets (m : Int32) (τ : St) : ∃ τ', mX7_reset_L24 fu m 0 τ = some (m, τ') ∧ τ' 12 = τ 12 ∧ (∀ s', s' < 5 → τ' 1 s' = 0) ∧ (∀ s', s' < 5 → τ' 2 s' = 0) ∧ (∀ s', s' < 5 → τ' 4 (19 * s') = 0) ∧ (∀ j, j < 500 → τ' 3 j = 0) ∧ ∀ L, L < 25 → τ' 6 L = 0 := by
  obtain ⟨τ', g1, g2, g3, g4, g5, g6, g7⟩ := rs_L (m := m) 5 fu 0 τ (by omega) (by rw [fu_eq]; omega)
  rw [show nI 0 = (0 : Int32) from rfl] at g1
  exact ⟨τ', g1, g2, fun s h => by rw [g3 s h, if_pos (by omega)], fun s h => by rw [g4 s h, if_pos (by omega)], fun s h => by rw [g5 s h, if_pos (by omega)], fun s h => by rw [g6 s h, if_pos (by omega)], fun s h => by rw [g7 s h, if_pos (by omega)]⟩
def rstC (σ : St) (n : Nat) : St := ups (flS (flS (flS (flS (ups (flS σ 0 0 5 0) 28 0 0) 11 0 5 0) 16 0 500 0) 18 0 25 0) 26 0 5 0) 27 0 (nI n)
theorem flS_at (σ : St) (k j m k' i : Nat) (v : Int32) : flS σ k j m v k' i = if k' = k ∧ j ≤ i ∧ i < m then v else σ k' i := rfl
theorem RepC_reset (a : Ab) (v σ : St) (n : Nat) : RepC (resetA a n) v (rstC σ n) := by
  unfold rstC
  refine ⟨?_, fun s hs => ?_, fun j hj => ?_, fun i hi => (resetA_mk a n hi).elim, ⟨?_, fun p hp => ?_⟩, fun L hL => ⟨?_, fun k hk => ?_⟩⟩
  · rw [resetA_0, ups_at, if_pos ⟨rfl, rfl⟩]
  · rw [resetA_z a n (k := 1) (by omega), resetA_z a n (k := 2) (by omega), resetA_z a n (k := 10) (by omega)]
    refine ⟨?_, ?_, ?_, fun h => absurd rfl h, fun k hk => by omega⟩
    · rw [ups_row (by omega), flS_at, if_neg (by omega), flS_at, if_neg (by omega), flS_at, if_neg (by omega), flS_at, if_neg (by omega), ups_row (by omega), flS_at, if_pos (by omega)]; rfl
    · rw [ups_row (by omega), flS_at, if_pos (by omega)]; rfl
    · rw [ups_row (by omega), flS_at, if_neg (by omega), flS_at, if_neg (by omega), flS_at, if_neg (by omega), flS_at, if_pos (by omega)]; rfl
  · rw [resetA_z a n (by omega), ups_row (by omega), flS_at, if_neg (by omega), flS_at, if_neg (by omega), flS_at, if_pos (by omega)]; rfl
  · rw [resetA_tot, ups_row (by omega), flS_at, if_neg (by omega), flS_at, if_neg (by omega), flS_at, if_neg (by omega), flS_at, if_neg (by omega), ups_at, if_pos ⟨rfl, rfl⟩]; rfl
  · rw [resetA_tot] at hp; omega
  · rw [resetA_z a n (by omega), ups_row (by omega), flS_at, if_neg (by omega), flS_at, if_pos (by omega)]; rfl
  · rw [resetA_z a n (by omega)] at hk; omega
theorem RepM_reset (a : Ab) (v : St) {τ τ' : St} (n : Nat) (g2 : τ' 12 = ups τ 12 0 (nI n) 12) (g3 : ∀ s', s' < 5 → τ' 1 s' = 0) (g4 : ∀ s', s' < 5 → τ' 2 s' = 0) (g5 : ∀ s', s' < 5 → τ' 4 (19 * s') = 0) (g6 : ∀ j, j < 500 → τ' 3 j = 0) (g7 : ∀ L, L < 25 → τ' 6 L = 0) : RepM (resetA a n) v τ' := by
  refine ⟨?_, fun s hs => ?_, fun j hj => ?_, fun i hi => (resetA_mk a n hi).elim, fun L hL => ⟨?_, fun k hk => ?_⟩⟩
  · rw [resetA_0, g2, ups_at, if_pos ⟨rfl, rfl⟩]
  · rw [resetA_z a n (k := 1) (by omega), resetA_z a n (k := 2) (by omega), resetA_z a n (k := 10) (by omega)]
    exact ⟨g3 s hs, g4 s hs, g5 s hs, fun h => absurd rfl h, fun k hk => by omega⟩
  · rw [resetA_z a n (by omega)]; exact g6 j hj
  · rw [resetA_z a n (by omega)]; exact g7 L hL
  · rw [resetA_z a n (by omega)] at hk; omega
theorem q_resets (σ : St) (n : Nat) : mX6_reset (nI n) σ = bnd (mX6_isWithin (nI n) 1 5 σ) (fun r3 σ2 => if r3 = 0 then some ((-1000000001), σ2) else some (σ2 27 0, rstC σ2 n)) := by
  unfold mX6_reset rstC
  refine congrArg (bnd _) (funext fun r => funext fun s => ?_)
  rw [q_clear4, bnv_s, q_clear1, bnv_s, q_clear2, bnv_s, q_clear3, bnv_s, q_clear26, bnv_s, lts_s]
theorem op_reset {σ τ : St} (R : Rel σ τ) (x : Int32) : Same (mX6_reset x σ) (mX7_reset x τ) := by
  obtain ⟨a, v, I, C, M⟩ := id R
  by_cases hc : (1 : Int32) ≤ x ∧ x ≤ 5
  · obtain ⟨n, n1, n2, rfl⟩ := iv (lo := 1) (hi := 5) hc.1 hc.2 (by omega) (by omega)
    rw [q_resets]
    unfold mX7_reset
    refine Same_in R (fun _ _ => ?_)
    rw [C.1, M.1, lts_s]
    obtain ⟨τ', g1, g2, g3, g4, g5, g6, g7⟩ := M_resets (nI (a 0 0)) (ups τ 12 0 (nI n))
    rw [g1]
    exact Same_r ⟨resetA a n, v, Inv_reset I n1 n2, RepC_reset a v σ n, RepM_reset a v n g2 g3 g4 g5 g6 g7⟩
  · unfold mX6_reset mX7_reset
    rw [q_within, q_in, bnd_s, bnd_s, decide_eq_false hc, bI_f, if_pos rfl, if_pos rfl]
    exact Same_r R
