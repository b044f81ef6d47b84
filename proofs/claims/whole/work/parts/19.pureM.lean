/-! undo, redo, lift. -/
theorem q_madeAll {s n : Nat} {σ : St} (hs : s < 5) (hn : n ≤ 20) (h : σ 0 s = nI n) : mX6_hasMadeAll (nI s) σ = some (bI (decide (n = 20)), σ) := by
  unfold mX6_hasMadeAll
  rw [q_made σ hs, bnd_s, h]
  by_cases e : n < 20
  · rw [if_pos (show nI n < (20 : Int32) from nI_lt (b := 20) e (by omega)), decide_eq_false (by omega)]; rfl
  · rw [if_neg (show ¬ nI n < (20 : Int32) from nI_nlt (b := 20) (by omega) (by omega)), decide_eq_true (by omega)]; rfl
theorem mI (s i : Nat) (hs : s < 5) {β : Type} (x : Option β) : ix (nI s) 5 x = x := ix_n hs (by decide)
theorem Same_change {σ τ : St} {a : Ab} {v : St} (I : Inv a v) (C : RepC a v σ) (M : RepM a v τ) {s kd tg m : Nat} {kI : Int32} (hk : kI = nI kd) (hs : s < a 0 0) (h1 : 1 ≤ kd) (h2 : kd ≤ 2) (htg : mk a tg) (h0 : a 4 tg = 0) (hts : tg / 20 = s) (hm : m = tg % 20 + 1) : Same (mX6_changeOwn (nI s) kI (nI tg) σ) (ix (nI s) 5 (if τ 1 (Int32.toNatClampNeg (nI s)) = 20 then some ((-1000000003), τ) else bnd (mX7_make (nI s) kI (nI s) (-1) (nI m) τ) (fun r6 σ5 => if r6 ≤ 0 then some (0, σ5) else some (nI m, σ5)))) := by
  have h5 := I.1.2
  have h20 := (I.2.1 s (by omega)).1
  have htl := htg.1
  subst hk
  subst hm
  unfold mX6_changeOwn
  rw [if_neg (nI_m1 (by omega)), q_madeAll (s := s) (by omega) h20 (C.2.1 s (by omega)).1, bnd_s, ix_n (show s < 5 by omega) (by decide), nI_clamp (by omega), (M.2.1 s (by omega)).1]
  by_cases e : a 1 s = 20
  · rw [decide_eq_true e, bI_t, if_neg (by decide), e, if_pos (show nI 20 = (20 : Int32) from rfl)]
    exact Same_r ⟨a, v, I, C, M⟩
  · have hlt : a 1 s < 20 := by omega
    obtain ⟨pl, σ1, σ2, σ3, e1, e2, e3, -, C', p1, p2, p3⟩ := C_change (kd := kd) (tg := tg) (ly := 0) I C (-1) hs hlt (by omega) htl
    obtain ⟨τ', f1, M'⟩ := M_change (kd := kd) (tg := tg) (ly := 0) I M (-1) pl hs hlt (by omega)
    rw [decide_eq_false e, bI_f, if_pos rfl, if_neg (show ¬ nI (a 1 s) = (20 : Int32) from fun q => e ((nI_eq (b := 20) (by omega) (by omega)).mp q)), e1, bnd_s, e2, bnd_s, e3, bnv_s, q_numberOf _ htl, bnd_s]
    rw [hts] at f1
    rw [f1, bnd_s, if_neg (show ¬ nI (a 1 s + 1) ≤ (0 : Int32) from nI_ge (a := 0) (by omega) (by omega))]
    exact Same_r ⟨_, _, Inv_change I hs hlt (by omega) (by omega) ⟨htg, h0, fun _ => ⟨hts, rfl⟩⟩ (fun h => by omega) p1 p2 p3, C', M'⟩
/-- visible, as a Bool -/
def visB (a : Ab) (K : Nat → Bool) (i : Nat) : Bool := K i && (decide (a 4 i = 0) && !(undF a K (tot a) i))
theorem visB_iff {a : Ab} {K : Nat → Bool} {i : Nat} : visB a K i = true ↔ vis a K i := by
  unfold visB vis
  simp
/-- the number of the last visible stroke among the first k of s -/
def lvS (a : Ab) (K : Nat → Bool) (s : Nat) : Nat → Nat
  | 0 => 0
  | k + 1 => if visB a K (20 * s + k) = true then k + 1 else lvS a K s k
theorem lvS_le {a : Ab} {K : Nat → Bool} {s : Nat} : ∀ k, lvS a K s k ≤ k := by
  intro k
  induction k with
  | zero => exact Nat.le_refl 0
  | succ k ih =>
    unfold lvS
    by_cases h : visB a K (20 * s + k) = true
    · rw [if_pos h]; omega
    · rw [if_neg h]; omega
theorem lvS_vis {a : Ab} {K : Nat → Bool} {s : Nat} : ∀ k, 0 < lvS a K s k → vis a K (20 * s + lvS a K s k - 1) := by
  intro k
  induction k with
  | zero => intro h; exact absurd h (by unfold lvS; omega)
  | succ k ih =>
    unfold lvS
    by_cases h : visB a K (20 * s + k) = true
    · rw [if_pos h]; intro _; exact visB_iff.mp h
    · rw [if_neg h]; exact ih
theorem und_L25 {a : Ab} {v σ : St} {s c : Nat} {fn : Nat → Nat} (I : Inv a v) (C : RepC a v σ) (hs : s < 5) (hH : hsB a (knF a s) 0 c fn σ) : ∀ (k f : Nat), k ≤ a 1 s → k < f → mX6_lastVisibleOwn_L25 f (nI s) (nI k) σ = some (if lvS a (knF a s) s k = 0 then -1 else nI (20 * s + lvS a (knF a s) s k - 1), σ) := by
  have h20 := (I.2.1 s hs).1
  intro k
  induction k with
  | zero =>
    intro f hk hf
    obtain ⟨f, rfl⟩ : ∃ g, f = g + 1 := ⟨f - 1, by omega⟩
    rw [mX6_lastVisibleOwn_L25, if_pos (by decide)]
    rfl
  | succ k ih =>
    intro f hk hf
    obtain ⟨f, rfl⟩ : ∃ g, f = g + 1 := ⟨f - 1, by omega⟩
    have hm : mk a (20 * s + k) := ⟨by omega, by rw [show (20 * s + k) / 20 = s by omega]; omega⟩
    have hK : knF a s (20 * s + k) = true := by
      have := (I.2.2.2.1 _ hm).1
      rw [show (20 * s + k) / 20 = s by omega] at this
      exact decide_eq_true ⟨hm.1, this⟩
    have hid := hm.1
    have h3 := (I.2.2.2.1 _ hm).2.2.1
    rw [mX6_lastVisibleOwn_L25, if_neg (show ¬ nI (k + 1) < (1 : Int32) from nI_nlt (b := 1) (by omega) (by omega)), q_idOf σ (by omega), bnd_s, show 20 * s + (k + 1) - 1 = 20 * s + k by omega, q_isStroke σ hid, bnd_s, (C.2.2.2.1 _ hm).1, pk_m1]
    unfold lvS visB
    rw [hK]
    by_cases k0 : a 4 (20 * s + k) = 0
    · rw [k0, decide_eq_true (show nI 0 = (0 : Int32) from rfl), bI_t, if_neg (by decide), q_undone (by omega) σ hid, bnd_s, hH.2.2.1 _ hid]
      cases hu : undF a (knF a s) (tot a) (20 * s + k) with
      | true =>
        rw [show bI (decide (bI true = 1)) = 1 from rfl, if_neg (by decide), ih f (by omega) (by omega)]
        simp
      | false =>
        rw [show bI (decide (bI false = 1)) = 0 from rfl, if_pos rfl]
        simp
    · rw [decide_eq_false (nz0 (by omega) k0), bI_f, if_pos rfl, ih f (by omega) (by omega)]
      simp [k0]
theorem und_L18 {a : Ab} {v τ : St} {s : Nat} (I : Inv a v) (hs : s < 5) (hM : shM a (knF a s) s τ) : ∀ (k f : Nat), k ≤ 20 → k < f → mX7_undo_L18 f (nI s) (nI k) τ = mX7_undo_b41 (nI s) (nI (lvS a (knF a s) s k)) τ := by
  intro k
  induction k with
  | zero =>
    intro f hk hf
    obtain ⟨f, rfl⟩ : ∃ g, f = g + 1 := ⟨f - 1, by omega⟩
    rw [mX7_undo_L18, if_pos (by decide)]
    rfl
  | succ k ih =>
    intro f hk hf
    obtain ⟨f, rfl⟩ : ∃ g, f = g + 1 := ⟨f - 1, by omega⟩
    have := Classical.propDecidable (vis a (knF a s) (20 * s + k))
    rw [mX7_undo_L18, if_neg (show ¬ nI (k + 1) ≤ (0 : Int32) from nI_ge (a := 0) (by omega) (by omega)), m_place τ (by omega), bnd_s, show 20 * s + (k + 1) - 1 = 20 * s + k by omega, m_vis hs hM (by omega), bnd_s, pk_m1]
    unfold lvS
    by_cases h : vis a (knF a s) (20 * s + k)
    · rw [decide_eq_true h, if_pos (visB_iff.mpr h), bI_t, if_neg (by decide)]
    · rw [decide_eq_false h, if_neg (fun q => h (visB_iff.mp q)), bI_f, if_pos rfl]
      exact ih f (by omega) (by omega)
theorem shM_at {a : Ab} {v τ : St} (I : Inv a v) (M : RepM a v τ) {s : Nat} (hs : s < 5) : shM a (knF a s) s τ := shM_of I M (fun i h => knF_mk I hs h) (fun i hi => by rw [M.2.2.1 _ (by omega)]; exact knF_val I hs hi)
theorem op_undo {σ τ : St} (R : Rel σ τ) (x : Int32) : Same (mX6_undo x σ) (mX7_undo x τ) := by
  obtain ⟨a, v, I, C, M⟩ := id R
  have h5 := I.1.2
  unfold mX6_undo mX7_undo
  refine Same_site I C M (fun s hs ex => ?_)
  subst ex
  have hs5 : s < 5 := by omega
  have h20 := (I.2.1 s hs5).1
  obtain ⟨σ', τ', c, fn, e1, -, e3, -, e5, -⟩ := boards I C M hs5
  have C' := RepC_ag C (agC_of (by omega) e3)
  unfold mX6_lastVisibleOwn
  rw [e1, bnv_s, q_made σ' hs5, bnd_s, (C'.2.1 s hs5).1, und_L25 I C' hs5 e5 (a 1 s) fu (Nat.le_refl _) (by rw [fu_eq]; omega), bnd_s, ix_n hs5 (by decide), nI_clamp (by omega), (M.2.1 s hs5).1, und_L18 I hs5 (shM_at I M hs5) (a 1 s) fu h20 (by rw [fu_eq]; omega)]
  have hle := lvS_le (a := a) (K := knF a s) (s := s) (a 1 s)
  by_cases hz : lvS a (knF a s) s (a 1 s) = 0
  · unfold mX6_changeOwn mX7_undo_b41
    rw [hz, if_pos rfl, if_pos rfl, bnd_s, if_pos (show nI 0 = (0 : Int32) from rfl)]
    exact Same_r ⟨a, v, I, C', M⟩
  · have hv := lvS_vis (a := a) (K := knF a s) (s := s) (a 1 s) (by omega)
    have hm := knF_mk I hs5 hv.1
    unfold mX7_undo_b41
    rw [if_neg hz, if_neg (nz0 (by omega) hz)]
    obtain ⟨r, σ2, τ2, g1, g2, g3⟩ := Same_change (kd := 1) (m := lvS a (knF a s) s (a 1 s)) (kI := 1) I C' M rfl hs (by omega) (by omega) hm hv.2.1 (by omega) (by omega)
    exact ⟨r, σ2, τ2, by rw [g1, bnd_s], g2, g3⟩
/-- the number of the stroke of the last UNDO among the first k of s whose stroke is undone -/
def luS (a : Ab) (K : Nat → Bool) (s : Nat) : Nat → Nat
  | 0 => 0
  | k + 1 => if a 4 (20 * s + k) = 1 ∧ undF a K (tot a) (a 6 (20 * s + k)) = true then a 6 (20 * s + k) % 20 + 1 else luS a K s k
theorem luS_s {a : Ab} {K : Nat → Bool} {s k : Nat} : luS a K s (k + 1) = if a 4 (20 * s + k) = 1 ∧ undF a K (tot a) (a 6 (20 * s + k)) = true then a 6 (20 * s + k) % 20 + 1 else luS a K s k := rfl
theorem luS_ok {a : Ab} {v : St} (I : Inv a v) {s : Nat} (hs : s < 5) : ∀ k, k ≤ a 1 s → 0 < luS a (knF a s) s k → mk a (20 * s + luS a (knF a s) s k - 1) ∧ a 4 (20 * s + luS a (knF a s) s k - 1) = 0 ∧ luS a (knF a s) s k ≤ 20 := by
  have h20 := (I.2.1 s hs).1
  intro k
  induction k with
  | zero => intro _ h; exact absurd h (by unfold luS; omega)
  | succ k ih =>
    intro hk
    have hm : mk a (20 * s + k) := ⟨by omega, by rw [show (20 * s + k) / 20 = s by omega]; omega⟩
    unfold luS
    by_cases h : a 4 (20 * s + k) = 1 ∧ undF a (knF a s) (tot a) (a 6 (20 * s + k)) = true
    · rw [if_pos h]
      intro _
      obtain ⟨g1, g2, g3⟩ := (I.2.2.2.1 _ hm).2.2.2.1 (by omega)
      have g4 := (g3 (by omega)).1
      rw [show 20 * s + (a 6 (20 * s + k) % 20 + 1) - 1 = a 6 (20 * s + k) by omega]
      exact ⟨g1, g2, by omega⟩
    · rw [if_neg h]; exact ih (by omega)
theorem red_L25 {a : Ab} {v σ : St} {s c : Nat} {fn : Nat → Nat} (I : Inv a v) (C : RepC a v σ) (hs : s < 5) (hH : hsB a (knF a s) 0 c fn σ) : ∀ (k f : Nat), k ≤ a 1 s → k < f → mX6_lastUndoneOwn_L25 f (nI s) (nI k) σ = some (if luS a (knF a s) s k = 0 then -1 else nI (20 * s + luS a (knF a s) s k - 1), σ) := by
  have h20 := (I.2.1 s hs).1
  intro k
  induction k with
  | zero =>
    intro f hk hf
    obtain ⟨f, rfl⟩ : ∃ g, f = g + 1 := ⟨f - 1, by omega⟩
    rw [mX6_lastUndoneOwn_L25, if_pos (by decide)]
    rfl
  | succ k ih =>
    intro f hk hf
    obtain ⟨f, rfl⟩ : ∃ g, f = g + 1 := ⟨f - 1, by omega⟩
    have hm : mk a (20 * s + k) := ⟨by omega, by rw [show (20 * s + k) / 20 = s by omega]; omega⟩
    have hid := hm.1
    have h3 := (I.2.2.2.1 _ hm).2.2.1
    rw [mX6_lastUndoneOwn_L25, if_neg (show ¬ nI (k + 1) < (1 : Int32) from nI_nlt (b := 1) (by omega) (by omega)), q_idOf σ (by omega), bnd_s, show 20 * s + (k + 1) - 1 = 20 * s + k by omega, q_kind σ hid, bnd_s, (C.2.2.2.1 _ hm).1, pk_m1]
    unfold luS
    by_cases k1 : a 4 (20 * s + k) = 1
    · obtain ⟨g1, g2, g3⟩ := (I.2.2.2.1 _ hm).2.2.2.1 (by omega)
      have g4 := (g3 (by omega)).1
      have g5 := g1.1
      rw [k1, if_pos (show nI 1 = (1 : Int32) from rfl), q_target σ hid, bnd_s, (C.2.2.2.1 _ hm).2.2.2.1 (by omega), q_undone (by omega) σ g5, bnd_s, hH.2.2.1 _ g5]
      cases hu : undF a (knF a s) (tot a) (a 6 (20 * s + k)) with
      | true =>
        unfold mX6_lastUndoneOwn_b66
        rw [show bI (decide (bI true = 1)) = 1 from rfl, if_neg (by decide), q_target σ hid, bnd_s, (C.2.2.2.1 _ hm).2.2.2.1 (by omega), if_pos (show 1 = 1 ∧ true = true from ⟨rfl, rfl⟩), if_neg (by omega), show 20 * s + (a 6 (20 * s + k) % 20 + 1) - 1 = a 6 (20 * s + k) by omega]
      | false =>
        rw [show bI (decide (bI false = 1)) = 0 from rfl, if_pos rfl, ih f (by omega) (by omega), if_neg (fun q : 1 = 1 ∧ false = true => by cases q.2)]
    · rw [if_neg (nz1 (by omega) k1), ih f (by omega) (by omega), if_neg (show ¬ (a 4 (20 * s + k) = 1 ∧ undF a (knF a s) (tot a) (a 6 (20 * s + k)) = true) from fun q => k1 q.1)]
theorem red_L15 {a : Ab} {v τ : St} {s : Nat} (I : Inv a v) (M : RepM a v τ) (hs : s < 5) : ∀ (d f k : Nat), k + d = a 1 s → d < f → mX7_redo_L15 f (nI s) (nI (luS a (knF a s) s k)) (nI (k + 1)) τ = mX7_redo_b87 (nI s) (nI (luS a (knF a s) s (a 1 s))) τ := by
  have h20 := (I.2.1 s hs).1
  have hM := shM_at I M hs
  intro d
  induction d with
  | zero =>
    intro f k h hf
    obtain ⟨f, rfl⟩ : ∃ g, f = g + 1 := ⟨f - 1, by omega⟩
    have hk : k = a 1 s := by omega
    rw [mX7_redo_L15, ix_n hs (by decide), nI_clamp (by omega), (M.2.1 s hs).1, if_pos (nI_lt (by omega) (by omega)), hk]
  | succ d ih =>
    intro f k h hf
    obtain ⟨f, rfl⟩ : ∃ g, f = g + 1 := ⟨f - 1, by omega⟩
    have hm : mk a (20 * s + k) := ⟨by omega, by rw [show (20 * s + k) / 20 = s by omega]; omega⟩
    have hid := hm.1
    have h3 := (I.2.2.2.1 _ hm).2.2.1
    have e := ih f (k + 1) (by omega) (by omega)
    rw [mX7_redo_L15, ix_n hs (by decide), nI_clamp (by omega), (M.2.1 s hs).1, if_neg (nI_nlt (by omega) (by omega)), m_place τ (by omega), bnd_s, show 20 * s + (k + 1) - 1 = 20 * s + k by omega, m_kind hM hm, bnd_s]
    rw [luS_s] at e
    by_cases k1 : a 4 (20 * s + k) = 1
    · obtain ⟨g1, g2, g3⟩ := (I.2.2.2.1 _ hm).2.2.2.1 (by omega)
      have g4 := (g3 (by omega)).1
      have hKt : knF a s (a 6 (20 * s + k)) = true := by
        have := (I.2.2.2.1 _ g1).1
        rw [g4, show (20 * s + k) / 20 = s by omega] at this
        exact decide_eq_true ⟨g1.1, this⟩
      have := Classical.propDecidable (vis a (knF a s) (a 6 (20 * s + k)))
      rw [k1, if_pos (show nI 1 = (1 : Int32) from rfl), m_aim hM hm (by omega), bnd_s, m_vis hs hM g1.1, bnd_s]
      rw [k1] at e
      cases hu : undF a (knF a s) (tot a) (a 6 (20 * s + k)) with
      | true =>
        rw [hu, if_pos (show 1 = 1 ∧ true = true from ⟨rfl, rfl⟩)] at e
        unfold mX7_redo_b62
        rw [decide_eq_false (fun q : vis a (knF a s) (a 6 (20 * s + k)) => by have := q.2.2; rw [hu] at this; cases this), bI_f, if_pos rfl, if_neg (by decide), il 4, m_of τ (by omega), bnd_s, ((M.2.2.2.1 _ hm).2.2.2.1 (by omega)).2, nI_1]
        exact e
      | false =>
        rw [hu, if_neg (fun q : 1 = 1 ∧ false = true => by cases q.2)] at e
        unfold mX7_redo_b61 mX7_redo_b62
        rw [decide_eq_true (show vis a (knF a s) (a 6 (20 * s + k)) from ⟨hKt, g2, hu⟩), bI_t, if_neg (by decide), if_pos rfl, nI_1]
        exact e
    · rw [if_neg (fun q => k1 q.1)] at e
      unfold mX7_redo_b61 mX7_redo_b62
      rw [if_neg (nz1 (by omega) k1), if_pos rfl, nI_1]
      exact e
theorem op_redo {σ τ : St} (R : Rel σ τ) (x : Int32) : Same (mX6_redo x σ) (mX7_redo x τ) := by
  obtain ⟨a, v, I, C, M⟩ := id R
  have h5 := I.1.2
  unfold mX6_redo mX7_redo
  refine Same_site I C M (fun s hs ex => ?_)
  subst ex
  have hs5 : s < 5 := by omega
  have h20 := (I.2.1 s hs5).1
  obtain ⟨σ', τ', c, fn, e1, -, e3, -, e5, -⟩ := boards I C M hs5
  have C' := RepC_ag C (agC_of (by omega) e3)
  unfold mX6_lastUndoneOwn
  rw [e1, bnv_s, q_made σ' hs5, bnd_s, (C'.2.1 s hs5).1, red_L25 I C' hs5 e5 (a 1 s) fu (Nat.le_refl _) (by rw [fu_eq]; omega), bnd_s, show mX7_redo_L15 fu (nI s) 0 1 τ = _ from red_L15 I M hs5 (a 1 s) fu 0 (by omega) (by rw [fu_eq]; omega)]
  by_cases hz : luS a (knF a s) s (a 1 s) = 0
  · unfold mX6_changeOwn mX7_redo_b87
    rw [hz, if_pos rfl, if_pos rfl, bnd_s, if_pos (show nI 0 = (0 : Int32) from rfl)]
    exact Same_r ⟨a, v, I, C', M⟩
  · obtain ⟨hm, h0, hle⟩ := luS_ok I hs5 (a 1 s) (Nat.le_refl _) (by omega)
    unfold mX7_redo_b87
    rw [if_neg hz, if_neg (nz0 (by omega) hz)]
    obtain ⟨r, σ2, τ2, g1, g2, g3⟩ := Same_change (kd := 2) (m := luS a (knF a s) s (a 1 s)) (kI := 2) I C' M rfl hs (by omega) (by omega) hm h0 (by omega) (by omega)
    exact ⟨r, σ2, τ2, by rw [g1, bnd_s], g2, g3⟩
