/-! undo, redo, lift. -/
theorem q_madeAll {s n : Nat} {σ : St} (hs : s < 5) (hn : n ≤ 20) (h : σ 0 s = nI n) : mX6_hasMadeAll (nI s) σ = some (bI (decide (n = 20)), σ) := by
  unfold mX6_hasMadeAll
  rw [q_made σ hs, bnd_s, h]
  by_cases e : n < 20
  · rw [if_pos (show nI n < (20 : Int32) from nI_lt (b := 20) e (by omega)), decide_eq_false (by omega)]; rfl
  · rw [if_neg (show ¬ nI n < (20 : Int32) from nI_nlt (b := 20) (by omega) (by omega)), decide_eq_true (by omega)]; rfl
theorem mI (s i : Nat) (hs : s < 5) {β : Type} (x : Option β) : ix (nI s) 5 x = x := ix_n hs (by decide)
/-- visible, as a Bool -/
def visB (a : Ab) (K : Nat → Bool) (i : Nat) : Bool := K i && (decide (a 4 i = 0) && !(undF a K (tot a) i))
theorem visB_iff {a : Ab} {K : Nat → Bool} {i : Nat} : visB a K i = true ↔ vis a K i := by
  unfold visB vis
  simp
/-- the number of the last visible stroke among the first k of s -/
def lvS (a : Ab) (K : Nat → Bool) (s : Nat) : Nat → Nat
  | 0 => 0
  | k + 1 => if visB a K (20 * s + k) = true then k + 1 else lvS a K s k
theorem lvS_le {a : Ab} {K : Nat → Bool} {s : Nat} : ∀ k, lvS a K s k ≤ k := by
  intro k
  induction k with
  | zero => exact Nat.le_refl 0
  | succ k ih =>
    unfold lvS
    by_cases h : visB a K (20 * s + k) = true
    · rw [if_pos h]; omega
    · rw [if_neg h]; omega
theorem lvS_vis {a : Ab} {K : Nat → Bool} {s : Nat} : ∀ k, 0 < lvS a K s k → vis a K (20 * s + lvS a K s k - 1) := by
  intro k
  induction k with
  | zero => intro h; exact absurd h (by unfold lvS; omega)
  | succ k ih =>
    unfold lvS
    by_cases h : visB a K (20 * s + k) = true
    · rw [if_pos h]; intro _; exact visB_iff.mp h
    · rw [if_neg h]; exact ih
theorem und_L25 {a : Ab} {v σ : St} {s c : Nat} {fn : Nat → Nat} (I : Inv a v) (C : RepC a v σ) (hs : s < 5) (hH : hsB a (knF a s) 0 c fn σ) : ∀ (k f : Nat), k ≤ a 1 s → k < f → mX6_lastVisibleOwn_L25 f (nI s) (nI k) σ = some (if lvS a (knF a s) s k = 0 then -1 else nI (20 * s + lvS a (knF a s) s k - 1), σ) := by
  have h20 := (I.2.1 s hs).1
  intro k
  induction k with
  | zero =>
    intro f hk hf
    obtain ⟨f, rfl⟩ : ∃ g, f = g + 1 := ⟨f - 1, by omega⟩
    rw [mX6_lastVisibleOwn_L25, if_pos (by decide)]
    rfl
  | succ k ih =>
    intro f hk hf
    obtain ⟨f, rfl⟩ : ∃ g, f = g + 1 := ⟨f - 1, by omega⟩
    have hm : mk a (20 * s + k) := ⟨by omega, by rw [show (20 * s + k) / 20 = s by omega]; omega⟩
    have hK : knF a s (20 * s + k) = true := by
      have := (I.2.2.2.1 _ hm).1
      rw [show (20 * s + k) / 20 = s by omega] at this
      exact decide_eq_true ⟨hm.1, this⟩
    have hid := hm.1
    have h3 := (I.2.2.2.1 _ hm).2.2.1
    rw [mX6_lastVisibleOwn_L25, if_neg (show ¬ nI (k + 1) < (1 : Int32) from nI_nlt (b := 1) (by omega) (by omega)), q_idOf σ (by omega), bnd_s, show 20 * s + (k + 1) - 1 = 20 * s + k by omega, q_isStroke σ hid, bnd_s, (C.2.2.2.1 _ hm).1, pk_m1]
    unfold lvS visB
    rw [hK]
    by_cases k0 : a 4 (20 * s + k) = 0
    · rw [k0, decide_eq_true (show nI 0 = (0 : Int32) from rfl), bI_t, if_neg (by decide), q_undone (by omega) σ hid, bnd_s, hH.2.2.1 _ hid]
      cases hu : undF a (knF a s) (tot a) (20 * s + k) with
      | true =>
        rw [show bI (decide (bI true = 1)) = 1 from rfl, if_neg (by decide), ih f (by omega) (by omega)]
        simp
      | false =>
        rw [show bI (decide (bI false = 1)) = 0 from rfl, if_pos rfl]
        simp
    · rw [decide_eq_false (nz0 (by omega) k0), bI_f, if_pos rfl, ih f (by omega) (by omega)]
      simp [k0]
/-- the number of the stroke of the last UNDO among the first k of s whose stroke is undone -/
def luS (a : Ab) (K : Nat → Bool) (s : Nat) : Nat → Nat
  | 0 => 0
  | k + 1 => if a 4 (20 * s + k) = 1 ∧ undF a K (tot a) (a 6 (20 * s + k)) = true then a 6 (20 * s + k) % 20 + 1 else luS a K s k
theorem luS_s {a : Ab} {K : Nat → Bool} {s k : Nat} : luS a K s (k + 1) = if a 4 (20 * s + k) = 1 ∧ undF a K (tot a) (a 6 (20 * s + k)) = true then a 6 (20 * s + k) % 20 + 1 else luS a K s k := rfl
theorem luS_ok {a : Ab} {v : St} (I : Inv a v) {s : Nat} (hs : s < 5) : ∀ k, k ≤ a 1 s → 0 < luS a (knF a s) s k → mk a (20 * s + luS a (knF a s) s k - 1) ∧ a 4 (20 * s + luS a (knF a s) s k - 1) = 0 ∧ luS a (knF a s) s k ≤ 20 := by
  have h20 := (I.2.1 s hs).1
  intro k
  induction k with
  | zero => intro _ h; exact absurd h (by unfold luS; omega)
  | succ k ih =>
    intro hk
    have hm : mk a (20 * s + k) := ⟨by omega, by rw [show (20 * s + k) / 20 = s by omega]; omega⟩
    unfold luS
    by_cases h : a 4 (20 * s + k) = 1 ∧ undF a (knF a s) (tot a) (a 6 (20 * s + k)) = true
    · rw [if_pos h]
      intro _
      obtain ⟨g1, g2, g3⟩ := (I.2.2.2.1 _ hm).2.2.2.1 (by omega)
      have g4 := (g3 (by omega)).1
      rw [show 20 * s + (a 6 (20 * s + k) % 20 + 1) - 1 = a 6 (20 * s + k) by omega]
      exact ⟨g1, g2, by omega⟩
    · rw [if_neg h]; exact ih (by omega)
theorem red_L25 {a : Ab} {v σ : St} {s c : Nat} {fn : Nat → Nat} (I : Inv a v) (C : RepC a v σ) (hs : s < 5) (hH : hsB a (knF a s) 0 c fn σ) : ∀ (k f : Nat), k ≤ a 1 s → k < f → mX6_lastUndoneOwn_L25 f (nI s) (nI k) σ = some (if luS a (knF a s) s k = 0 then -1 else nI (20 * s + luS a (knF a s) s k - 1), σ) := by
  have h20 := (I.2.1 s hs).1
  intro k
  induction k with
  | zero =>
    intro f hk hf
    obtain ⟨f, rfl⟩ : ∃ g, f = g + 1 := ⟨f - 1, by omega⟩
    rw [mX6_lastUndoneOwn_L25, if_pos (by decide)]
    rfl
  | succ k ih =>
    intro f hk hf
    obtain ⟨f, rfl⟩ : ∃ g, f = g + 1 := ⟨f - 1, by omega⟩
    have hm : mk a (20 * s + k) := ⟨by omega, by rw [show (20 * s + k) / 20 = s by omega]; omega⟩
    have hid := hm.1
    have h3 := (I.2.2.2.1 _ hm).2.2.1
    rw [mX6_lastUndoneOwn_L25, if_neg (show ¬ nI (k + 1) < (1 : Int32) from nI_nlt (b := 1) (by omega) (by omega)), q_idOf σ (by omega), bnd_s, show 20 * s + (k + 1) - 1 = 20 * s + k by omega, q_kind σ hid, bnd_s, (C.2.2.2.1 _ hm).1, pk_m1]
    unfold luS
    by_cases k1 : a 4 (20 * s + k) = 1
    · obtain ⟨g1, g2, g3⟩ := (I.2.2.2.1 _ hm).2.2.2.1 (by omega)
      have g4 := (g3 (by omega)).1
      have g5 := g1.1
      rw [k1, if_pos (show nI 1 = (1 : Int32) from rfl), q_target σ hid, bnd_s, (C.2.2.2.1 _ hm).2.2.2.1 (by omega), q_undone (by omega) σ g5, bnd_s, hH.2.2.1 _ g5]
      cases hu : undF a (knF a s) (tot a) (a 6 (20 * s + k)) with
      | true =>
        unfold mX6_lastUndoneOwn_b66
        rw [show bI (decide (bI true = 1)) = 1 from rfl, if_neg (by decide), q_target σ hid, bnd_s, (C.2.2.2.1 _ hm).2.2.2.1 (by omega), if_pos (show 1 = 1 ∧ true = true from ⟨rfl, rfl⟩), if_neg (by omega), show 20 * s + (a 6 (20 * s + k) % 20 + 1) - 1 = a 6 (20 * s + k) by omega]
      | false =>
        rw [show bI (decide (bI false = 1)) = 0 from rfl, if_pos rfl, ih f (by omega) (by omega), if_neg (fun q : 1 = 1 ∧ false = true => by cases q.2)]
    · rw [if_neg (nz1 (by omega) k1), ih f (by omega) (by omega), if_neg (show ¬ (a 4 (20 * s + k) = 1 ∧ undF a (knF a s) (tot a) (a 6 (20 * s + k)) = true) from fun q => k1 q.1)]
