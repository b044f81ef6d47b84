/-! reset. -/
def resetA (a : Ab) (n : Nat) : Ab := fun k j => if k = 0 ∧ j = 0 then n else if k = 1 ∨ k = 2 ∨ k = 3 ∨ k = 10 ∨ k = 12 then 0 else a k j
theorem resetA_0 (a : Ab) (n : Nat) : resetA a n 0 0 = n := by unfold resetA; rw [if_pos ⟨rfl, rfl⟩]
theorem resetA_z (a : Ab) (n : Nat) {k j : Nat} (h : k = 1 ∨ k = 2 ∨ k = 3 ∨ k = 10 ∨ k = 12) : resetA a n k j = 0 := by unfold resetA; rw [if_neg (by omega), if_pos h]
theorem resetA_mk (a : Ab) (n : Nat) {i : Nat} (h : mk (resetA a n) i) : False := by
  have := h.2
  rw [resetA_z a n (by omega)] at this
  omega
theorem resetA_tot (a : Ab) (n : Nat) : tot (resetA a n) = 0 := by unfold tot; rw [resetA_z a n (by omega), resetA_z a n (by omega), resetA_z a n (by omega), resetA_z a n (by omega), resetA_z a n (by omega)]
theorem Inv_reset {a : Ab} {v : St} (I : Inv a v) {n : Nat} (h1 : 1 ≤ n) (h5 : n ≤ 5) : Inv (resetA a n) v := by
  refine ⟨?_, fun s hs => ?_, fun s i hs hi => ?_, fun i hi => (resetA_mk a n hi).elim, fun i j hi => (resetA_mk a n hi).elim, ⟨fun p hp => ?_, fun p q _ hq => ?_, fun i hi => (resetA_mk a n hi).elim⟩, fun L hL => ?_⟩
  · unfold I_n; rw [resetA_0]; omega
  · rw [resetA_z a n (k := 1) (by omega), resetA_z a n (k := 2) (by omega), resetA_z a n (k := 10) (by omega)]
    refine ⟨by omega, by omega, ?_, by omega, fun _ => ⟨rfl, rfl, rfl⟩⟩
    unfold resetA
    rw [if_neg (by omega), if_neg (by omega)]
    exact (I.2.1 s hs).2.2.1
  · rw [resetA_z a n (k := 3) (by omega)]
    exact ⟨by omega, fun h => by omega⟩
  · rw [resetA_tot] at hp; omega
  · rw [resetA_tot] at hq; omega
  · rw [resetA_z a n (k := 12) (by omega)]
    exact ⟨by omega, fun h => absurd rfl h, fun k hk => by omega⟩
theorem rl_v : rl 0 = 5 ∧ rl (6 + 5 * 1) = 5 ∧ rl (16 + 0) = 500 ∧ rl 18 = 25 ∧ rl 26 = 5 := by decide
theorem q_clear4 (σ : St) : mX4_clear σ = some (ups (flS σ 0 0 5 0) 28 0 0) := by
  unfold mX4_clear
  rw [q_fill _ _ (by rw [rl_v.1, fu_eq]; omega), bnv_s, lts_s, rl_v.1]
theorem q_clear1 (σ : St) : mX1_clear 1 σ = some (flS σ 11 0 5 0) := by
  unfold mX1_clear
  rw [q_fill _ _ (by rw [rl_v.2.1, fu_eq]; omega), bnv_s, rl_v.2.1]
theorem q_clear2 (σ : St) : mX2_clear 0 σ = some (flS σ 16 0 500 0) := by
  unfold mX2_clear
  rw [q_fill _ _ (by rw [rl_v.2.2.1, fu_eq]; omega), bnv_s, rl_v.2.2.1]
theorem q_clear3 (σ : St) : mX3_clear σ = some (flS σ 18 0 25 0) := by
  unfold mX3_clear
  rw [q_fill _ _ (by rw [rl_v.2.2.2.1, fu_eq]; omega), bnv_s, rl_v.2.2.2.1]
theorem q_clear26 (σ : St) : mX5_fill 26 0 σ = some (flS σ 26 0 5 0) := by
  rw [q_fill _ _ (by rw [rl_v.2.2.2.2, fu_eq]; omega), rl_v.2.2.2.2]
def rstC (σ : St) (n : Nat) : St := ups (flS (flS (flS (flS (ups (flS σ 0 0 5 0) 28 0 0) 11 0 5 0) 16 0 500 0) 18 0 25 0) 26 0 5 0) 27 0 (nI n)
theorem flS_at (σ : St) (k j m k' i : Nat) (v : Int32) : flS σ k j m v k' i = if k' = k ∧ j ≤ i ∧ i < m then v else σ k' i := rfl
theorem RepC_reset (a : Ab) (v σ : St) (n : Nat) : RepC (resetA a n) v (rstC σ n) := by
  unfold rstC
  refine ⟨?_, fun s hs => ?_, fun j hj => ?_, fun i hi => (resetA_mk a n hi).elim, ⟨?_, fun p hp => ?_⟩, fun L hL => ⟨?_, fun k hk => ?_⟩⟩
  · rw [resetA_0, ups_at, if_pos ⟨rfl, rfl⟩]
  · rw [resetA_z a n (k := 1) (by omega), resetA_z a n (k := 2) (by omega), resetA_z a n (k := 10) (by omega)]
    refine ⟨?_, ?_, ?_, fun h => absurd rfl h, fun k hk => by omega⟩
    · rw [ups_row (by omega), flS_at, if_neg (by omega), flS_at, if_neg (by omega), flS_at, if_neg (by omega), flS_at, if_neg (by omega), ups_row (by omega), flS_at, if_pos (by omega)]; rfl
    · rw [ups_row (by omega), flS_at, if_pos (by omega)]; rfl
    · rw [ups_row (by omega), flS_at, if_neg (by omega), flS_at, if_neg (by omega), flS_at, if_neg (by omega), flS_at, if_pos (by omega)]; rfl
  · rw [resetA_z a n (by omega), ups_row (by omega), flS_at, if_neg (by omega), flS_at, if_neg (by omega), flS_at, if_pos (by omega)]; rfl
  · rw [resetA_tot, ups_row (by omega), flS_at, if_neg (by omega), flS_at, if_neg (by omega), flS_at, if_neg (by omega), flS_at, if_neg (by omega), ups_at, if_pos ⟨rfl, rfl⟩]; rfl
  · rw [resetA_tot] at hp; omega
  · rw [resetA_z a n (by omega), ups_row (by omega), flS_at, if_neg (by omega), flS_at, if_pos (by omega)]; rfl
  · rw [resetA_z a n (by omega)] at hk; omega
theorem q_resets (σ : St) (n : Nat) : mX6_reset (nI n) σ = bnd (mX6_isWithin (nI n) 1 5 σ) (fun r3 σ2 => if r3 = 0 then some ((-1000000001), σ2) else some (σ2 27 0, rstC σ2 n)) := by
  unfold mX6_reset rstC
  refine congrArg (bnd _) (funext fun r => funext fun s => ?_)
  rw [q_clear4, bnv_s, q_clear1, bnv_s, q_clear2, bnv_s, q_clear3, bnv_s, q_clear26, bnv_s, lts_s]
