/-! Calls that change nothing, or a pen. -/
theorem iv {x : Int32} {lo hi : Nat} (h1 : nI lo ≤ x) (h2 : x ≤ nI hi) (hh : hi < 2 ^ 31) (hl : lo < 2 ^ 31) : ∃ k, lo ≤ k ∧ k ≤ hi ∧ x = nI k := by
  rw [Int32.le_iff_toInt_le, nI_toInt hl] at h1
  rw [Int32.le_iff_toInt_le, nI_toInt hh] at h2
  refine ⟨x.toInt.toNat, by omega, by omega, ?_⟩
  apply Int32.toInt_inj.mp
  rw [nI_toInt (by omega)]
  omega
theorem lk_i (s t : Nat) : (5 : Int32) * nI s + nI t = nI (5 * s + t) := by rw [il 5, pk_mul, nI_add]
theorem q_cnt {s t : Nat} (σ : St) (hs : s < 5) (ht : t < 5) : mX3_countIn (nI s) (nI t) σ = some (σ 18 (5 * s + t), σ) := by
  unfold mX3_countIn
  rw [il 5, pk_mul, nI_add, q_get σ (show s * 5 + t < rl 18 by show _ < 25; omega), bnd_s, Nat.mul_comm]
theorem q_msg {s t k : Nat} (σ : St) (hs : s < 5) (ht : t < 5) (hk : k < 10) : mX3_messageIn (nI s) (nI t) (nI k) σ = some (σ 19 (10 * (5 * s + t) + k), σ) := by
  unfold mX3_messageIn
  rw [il 5, il 10, pk_mul, nI_add, pk_mul, nI_add, q_get σ (show (s * 5 + t) * 10 + k < rl 19 by show _ < 250; omega), bnd_s, show (s * 5 + t) * 10 + k = 10 * (5 * s + t) + k by omega]
theorem q_idOf {s k : Nat} (σ : St) (hk : 1 ≤ k) : mX6_idOf (nI s) (nI k) σ = some (nI (20 * s + k - 1), σ) := by
  unfold mX6_idOf
  rw [il 20, pk_mul, nI_add, il 1, pk_sub (by omega), Nat.mul_comm]
theorem q_authorOf {i : Nat} (σ : St) (hi : i < 100) : mX6_authorOf (nI i) σ = some (nI (i / 20), σ) := by
  unfold mX6_authorOf
  rw [il 20, pk_div (by omega) (by omega) (by omega)]
theorem q_numberOf {i : Nat} (σ : St) (hi : i < 100) : mX6_numberOf (nI i) σ = some (nI (i % 20 + 1), σ) := by
  unfold mX6_numberOf
  rw [il 20, pk_rem (by omega) (by omega) (by omega), nI_1]
/-- how many operations a site knows, of the first x -/
def cntK (a : Ab) (s : Nat) : Nat → Nat
  | 0 => 0
  | x + 1 => cntK a s x + a 3 (100 * s + x)
theorem cntK_le {a : Ab} {v : St} (I : Inv a v) {s : Nat} (hs : s < 5) : ∀ x, x ≤ 100 → cntK a s x ≤ x := by
  intro x
  induction x with
  | zero => intro _; exact Nat.le_refl 0
  | succ x ih =>
    intro h
    have h1 := ih (by omega)
    have h2 := (I.2.2.1 s x hs (by omega)).1
    unfold cntK
    omega
theorem q_countOf {a : Ab} {v σ : St} (I : Inv a v) (C : RepC a v σ) {s : Nat} (hs : s < 5) : ∀ (d f x : Nat), x + d = 100 → d < f → mX2_countOf_L4 0 f (nI s) (nI (cntK a s x)) (nI x) σ = some (nI (cntK a s 100), σ) := by
  intro d
  induction d with
  | zero =>
    intro f x h hf
    obtain ⟨f, rfl⟩ : ∃ g, f = g + 1 := ⟨f - 1, by omega⟩
    have : x = 100 := by omega
    subst this
    rw [mX2_countOf_L4, if_pos (by decide)]
  | succ d ih =>
    intro f x h hf
    obtain ⟨f, rfl⟩ : ∃ g, f = g + 1 := ⟨f - 1, by omega⟩
    have h2 := (I.2.2.1 s x hs (by omega)).1
    have e := ih f (x + 1) (by omega) (by omega)
    rw [mX2_countOf_L4, if_neg (show ¬ (100 : Int32) ≤ nI x from nI_ge (b := 100) (by omega) (by omega)), q_hasK (K := knF a s) (by omega) hs (by omega) (by rw [show 16 + 0 = 16 from rfl, C.2.2.1 _ (by omega)]; exact knF_val I hs (by omega)), bnd_s, ← knF_val I hs (by omega), nI_1 x]
    by_cases h0 : a 3 (100 * s + x) = 0
    · rw [h0, if_pos (show nI 0 = (0 : Int32) from rfl), il 0, nI_add]
      unfold cntK at e
      rw [h0] at e
      exact e
    · rw [show a 3 (100 * s + x) = 1 by omega, if_neg (by decide), nI_1]
      unfold cntK at e
      rw [show a 3 (100 * s + x) = 1 by omega] at e
      exact e
