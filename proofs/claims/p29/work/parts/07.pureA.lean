/-! Plain facts of the mirrors: rows, getters, small loops. -/
theorem lts_s {β : Type} (a : St) (f : St → Option β) : lts a f = f a := rfl
theorem lti_s {β : Type} (a : Int32) (f : Int32 → Option β) : lti a f = f a := rfl
theorem il (n : Nat) : (OfNat.ofNat n : Int32) = nI n := rfl
def bI (b : Bool) : Int32 := if b then 1 else 0
theorem bI_t : bI true = 1 := rfl
theorem bI_f : bI false = 0 := rfl
theorem bI_0 (b : Bool) : bI b = 0 ↔ b = false := by cases b <;> decide
theorem bI_1 (b : Bool) : bI b = 1 ↔ b = true := by cases b <;> decide
theorem rz_b (b : Bool) (σ : St) : rz (bI b) σ = some (bI b, σ) := by cases b <;> rfl
theorem rz_if (c : Prop) [Decidable c] (σ : St) : (if c then rz 1 σ else rz 0 σ) = some (bI (decide c), σ) := by
  by_cases h : c
  · rw [if_pos h, decide_eq_true h]; rfl
  · rw [if_neg h, decide_eq_false h]; rfl
theorem rl_lt (k : Nat) : rl k < 2 ^ 31 := by
  by_cases h : k < 27
  · exact (by decide : ∀ k, k < 27 → rl k < 2 ^ 31) k h
  · unfold rl
    rw [List.getD_eq_getElem?_getD, List.getElem?_eq_none (by show 27 ≤ k; omega)]
    decide
theorem q_get {k i : Nat} (σ : St) (h : i < rl k) : mX5_get k (nI i) σ = some (σ k i, σ) := by
  have hk := rl_lt k
  unfold mX5_get
  rw [if_neg (nI_pos (by omega)), if_neg (nI_ge h hk), ix_n h hk, nI_clamp (by omega)]
theorem q_set {k i : Nat} (v : Int32) (σ : St) (h : i < rl k) : mX5_set k (nI i) v σ = some (ups σ k i v) := by
  have hk := rl_lt k
  unfold mX5_set
  rw [if_neg (nI_pos (by omega)), if_neg (nI_ge h hk), ix_n h hk, nI_clamp (by omega)]
  rfl
/-- row k filled, from j on -/
def flS (σ : St) (k j n : Nat) (v : Int32) : St := fun k' i => if k' = k ∧ j ≤ i ∧ i < n then v else σ k' i
theorem fill_L {k : Nat} {v : Int32} : ∀ (d f j : Nat) (σ : St), j + d = rl k → d < f → mX5_fill_L2 k f v (nI j) σ = some (flS σ k j (rl k) v) := by
  have hk := rl_lt k
  intro d
  induction d with
  | zero =>
    intro f j σ h hf
    obtain ⟨f, rfl⟩ : ∃ g, f = g + 1 := ⟨f - 1, by omega⟩
    rw [mX5_fill_L2, if_pos (nI_le (by omega) (by omega))]
    congr 1
    funext k' i
    unfold flS
    rw [if_neg (by omega)]
  | succ d ih =>
    intro f j σ h hf
    obtain ⟨f, rfl⟩ : ∃ g, f = g + 1 := ⟨f - 1, by omega⟩
    rw [mX5_fill_L2, if_neg (nI_ge (by omega) hk), ix_n (by omega) hk, nI_clamp (by omega)]
    rw [lts_s, nI_1, ih f (j + 1) _ (by omega) (by omega)]
    congr 1
    funext k' i
    unfold flS
    rw [ups_at]
    by_cases hk' : k' = k
    · by_cases hi : i = j
      · subst hi; subst hk'; simp; intro h1; omega
      · simp only [hk', hi, true_and, and_false, if_false]
        by_cases h1 : j ≤ i ∧ i < rl k
        · rw [if_pos h1, if_pos (by omega)]
        · rw [if_neg h1, if_neg (by omega)]
    · simp [hk']
theorem fu_eq : fu = 4000 := rfl
theorem q_fill {k : Nat} (v : Int32) (σ : St) (h : rl k < fu) : mX5_fill k v σ = some (flS σ k 0 (rl k) v) := by
  unfold mX5_fill
  rw [show (0 : Int32) = nI 0 from rfl]
  exact fill_L (rl k) fu 0 σ (by omega) h
/-- row k copied from row k2, from j on -/
def cpS (σ : St) (k k2 j n : Nat) : St := fun k' i => if k' = k ∧ j ≤ i ∧ i < n then σ k2 i else σ k' i
theorem copy_L {k k2 : Nat} (hne : k ≠ k2) (hle : rl k ≤ rl k2) : ∀ (d f j : Nat) (σ : St), j + d = rl k → d < f → mX5_copyFrom_L2 k k2 f (nI j) σ = some (cpS σ k k2 j (rl k)) := by
  have hk := rl_lt k
  have hk2 := rl_lt k2
  intro d
  induction d with
  | zero =>
    intro f j σ h hf
    obtain ⟨f, rfl⟩ : ∃ g, f = g + 1 := ⟨f - 1, by omega⟩
    rw [mX5_copyFrom_L2, if_pos (nI_le (by omega) (by omega))]
    congr 1
    funext k' i
    unfold cpS
    rw [if_neg (by omega)]
  | succ d ih =>
    intro f j σ h hf
    obtain ⟨f, rfl⟩ : ∃ g, f = g + 1 := ⟨f - 1, by omega⟩
    rw [mX5_copyFrom_L2, if_neg (nI_ge (by omega) hk), q_get σ (by omega), bnd_s, ix_n (by omega) hk, nI_clamp (by omega)]
    rw [lts_s, nI_1, ih f (j + 1) _ (by omega) (by omega)]
    congr 1
    funext k' i
    unfold cpS
    rw [ups_at, ups_at]
    by_cases hk' : k' = k
    · by_cases hi : i = j
      · subst hi; subst hk'; simp; intro h1; omega
      · simp only [hk', hi, true_and, and_false, if_false]
        by_cases h1 : j ≤ i ∧ i < rl k
        · rw [if_pos h1, if_pos (by omega)]
        · rw [if_neg h1, if_neg (by omega)]
    · simp [hk']
theorem q_copy {k k2 : Nat} (σ : St) (hne : k ≠ k2) (hle : rl k ≤ rl k2) (h : rl k < fu) : mX5_copyFrom k k2 σ = some (cpS σ k k2 0 (rl k)) := by
  unfold mX5_copyFrom
  rw [show (0 : Int32) = nI 0 from rfl]
  exact copy_L hne hle (rl k) fu 0 σ (by omega) h
/-- how many slots an ink has -/
def ns (t : Nat) : Nat := if t = 0 then 100 else 5
theorem rl_ink : ∀ t, t < 2 → rl (6 + 5 * t) = ns t ∧ rl (7 + 5 * t) = ns t ∧ rl (8 + 5 * t) = ns t ∧ rl (9 + 5 * t) = 8 * ns t ∧ rl (10 + 5 * t) = 8 * ns t := by decide
theorem rl_brd : ∀ b, b < 2 → rl (20 + 3 * b) = 100 ∧ rl (21 + 3 * b) = 100 ∧ rl (22 + 3 * b) = 100 := by decide
theorem rl_kno : ∀ g, g < 2 → rl (16 + g) = 500 := by decide
theorem q_within (x lo hi : Int32) (σ : St) : mX6_isWithin x lo hi σ = some (bI (decide (lo ≤ x ∧ x ≤ hi)), σ) := by
  unfold mX6_isWithin
  by_cases h1 : x < lo
  · rw [if_pos h1, decide_eq_false (by rw [Int32.lt_iff_toInt_lt] at h1; simp only [Int32.le_iff_toInt_le]; omega)]; rfl
  · rw [if_neg h1]
    by_cases h2 : hi < x
    · rw [if_pos h2, decide_eq_false (by rw [Int32.lt_iff_toInt_lt] at h2; simp only [Int32.le_iff_toInt_le]; omega)]; rfl
    · rw [if_neg h2, decide_eq_true (by rw [Int32.lt_iff_toInt_lt] at h1 h2; simp only [Int32.le_iff_toInt_le]; omega)]; rfl
/-- x is one of the first n sites -/
def isS (n : Nat) (x : Int32) : Prop := ∃ s, s < n ∧ x = nI s
theorem isS_iff {n : Nat} (h1 : 1 ≤ n) (h5 : n ≤ 5) (x : Int32) : (0 ≤ x ∧ x ≤ nI n - 1) ↔ isS n x := by
  have e : nI n - 1 = nI (n - 1) := by rw [show (1 : Int32) = nI 1 from rfl, pk_sub h1]
  rw [e, Int32.le_iff_toInt_le, Int32.le_iff_toInt_le, nI_toInt (n := n - 1) (by omega)]
  constructor
  · rintro ⟨a, b⟩
    have a : (0 : Int) ≤ x.toInt := a
    refine ⟨x.toInt.toNat, by omega, ?_⟩
    apply Int32.toInt_inj.mp
    rw [nI_toInt (by omega)]
    omega
  · rintro ⟨s, hs, rfl⟩
    rw [nI_toInt (by omega)]
    have : (0 : Int32).toInt = 0 := rfl
    omega
theorem q_site {n : Nat} {σ : St} (hn : σ 27 0 = nI n) (h1 : 1 ≤ n) (h5 : n ≤ 5) (x : Int32) [Decidable (isS n x)] : mX6_isSite x σ = some (bI (decide (isS n x)), σ) := by
  unfold mX6_isSite
  rw [hn, q_within, bnd_s, rz_b]
  congr 2
  rw [decide_eq_decide.mpr (isS_iff h1 h5 x)]
theorem q_site_y {n s : Nat} {σ : St} (hn : σ 27 0 = nI n) (h5 : n ≤ 5) (hs : s < n) : mX6_isSite (nI s) σ = some (1, σ) := by
  have := Classical.propDecidable (isS n (nI s))
  rw [q_site hn (by omega) h5, decide_eq_true ⟨s, hs, rfl⟩]; rfl
theorem q_site_n {n : Nat} {σ : St} {x : Int32} (hn : σ 27 0 = nI n) (h1 : 1 ≤ n) (h5 : n ≤ 5) (hs : ¬ isS n x) : mX6_isSite x σ = some (0, σ) := by
  have := Classical.propDecidable (isS n x)
  rw [q_site hn h1 h5, decide_eq_false hs]; rfl
