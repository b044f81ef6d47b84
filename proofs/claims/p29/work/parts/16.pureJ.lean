/-! The class's new operations, put together. -/
theorem upd_at (f : Nat → Int32) (i : Nat) (v : Int32) (j : Nat) : upd f i v j = if j = i then v else f j := rfl
theorem q_addChange {a : Ab} {v σ : St} (I : Inv a v) {s kd tg : Nat} (lv : Int32) (hs : s < a 0 0) (h20 : a 1 s < 20) (htg : tg < 100) (c0 : σ 0 s = nI (a 1 s)) (c2 : ∀ i, mk a i → σ 2 i = nI (a 5 i)) (ct : C_t a σ) : ∃ pl σ', mX4_addChange (nI s) (nI (a 2 s + 1)) (nI kd) (nI tg) lv σ = some (nI (20 * s + a 1 s), σ') ∧ pl ≤ tot a ∧ (∀ p, pl ≤ p → p < tot a → aft a s (a 9 p)) ∧ (0 < pl → ¬ aft a s (a 9 (pl - 1))) ∧ (∀ k, 5 < k → k ≠ 28 → σ' k = σ k) ∧ σ' 0 = upd (σ 0) s (nI (a 1 s + 1)) ∧ σ' 1 = upd (σ 1) (20 * s + a 1 s) (nI kd) ∧ σ' 2 = upd (σ 2) (20 * s + a 1 s) (nI (a 2 s + 1)) ∧ σ' 3 = upd (σ 3) (20 * s + a 1 s) (nI tg) ∧ σ' 4 = upd (σ 4) (20 * s + a 1 s) lv ∧ σ' 28 0 = nI (tot a + 1) ∧ ∀ p, p < tot a + 1 → σ' 5 p = nI (insF (a 9) pl (20 * s + a 1 s) p) := by
  have h5 := I.1.2
  obtain ⟨pl, σ1, e, p1, p2, p3, r, r0, r1, r2, r28, r5⟩ := q_addOp (kd := kd) I hs h20 c0 c2 ct
  unfold mX4_addChange
  rw [e, bnd_s, q_set _ _ (show 20 * s + a 1 s < rl 3 by show 20 * s + a 1 s < 100; omega), bnv_s, q_set _ _ (show 20 * s + a 1 s < rl 4 by show 20 * s + a 1 s < 100; omega), bnv_s]
  refine ⟨pl, _, rfl, p1, p2, p3, fun k h1 h2 => by rw [ups_row (by omega), ups_row (by omega), r k (by omega) (by omega) (by omega) (by omega) h2], ?_, ?_, ?_, ?_, ?_, ?_, fun p hp => ?_⟩
  · rw [ups_row (by omega), ups_row (by omega), r0]
  · rw [ups_row (by omega), ups_row (by omega), r1]
  · rw [ups_row (by omega), ups_row (by omega), r2]
  · rw [ups_row (by omega), ups_same, r 3 (by omega) (by omega) (by omega) (by omega) (by omega)]
  · rw [ups_same, ups_row (by omega), r 4 (by omega) (by omega) (by omega) (by omega) (by omega)]
  · rw [ups_row (by omega), ups_row (by omega), r28]
  · rw [ups_row (by omega), ups_row (by omega)]; exact r5 p hp
theorem copy_L25 {s i n : Nat} (hs : s < 5) (hi : i < 100) (hn : n ≤ 8) : ∀ (d f k : Nat) (σ : St), k + d = n → d < f → σ 6 i = nI k → ∃ σ', mX1_copyFrom_L25 0 1 f (nI s) (nI i) (nI n) (nI k) σ = some σ' ∧ (∀ j, j ≠ 6 → j ≠ 9 → j ≠ 10 → σ' j = σ j) ∧ (∀ j, σ' 6 j = if j = i then nI n else σ 6 j) ∧ (∀ j, (j / 8 ≠ i ∨ j % 8 < k) → σ' 9 j = σ 9 j ∧ σ' 10 j = σ 10 j) ∧ ∀ j, k ≤ j → j < n → σ' 9 (8 * i + j) = σ 14 (8 * s + j) ∧ σ' 10 (8 * i + j) = σ 15 (8 * s + j) := by
  intro d
  induction d with
  | zero =>
    intro f k σ h hf h6
    obtain ⟨f, rfl⟩ : ∃ g, f = g + 1 := ⟨f - 1, by omega⟩
    have : k = n := by omega
    subst this
    rw [mX1_copyFrom_L25, if_pos (nI_le (by omega) (by omega))]
    refine ⟨σ, rfl, fun _ _ _ _ => rfl, fun j => ?_, fun _ _ => ⟨rfl, rfl⟩, fun j h1 h2 => by omega⟩
    by_cases e : j = i
    · rw [if_pos e, e, h6]
    · rw [if_neg e]
  | succ d ih =>
    intro f k σ h hf h6
    obtain ⟨f, rfl⟩ : ∃ g, f = g + 1 := ⟨f - 1, by omega⟩
    rw [mX1_copyFrom_L25, if_neg (nI_ge (by omega) (by omega)), q_x (by omega) (show s < ns 1 from hs) (by omega), bnd_s, q_y (by omega) (show s < ns 1 from hs) (by omega), bnd_s, q_add (t := 0) (n := k) (by omega) (show i < ns 0 from hi) (by omega) _ _ h6, bnv_s, nI_1]
    obtain ⟨σ', e1, e2, e3, e4, e5⟩ := ih f (k + 1) (ups (ups (ups σ (9 + 5 * 0) (8 * i + k) (σ (9 + 5 * 1) (8 * s + k))) (10 + 5 * 0) (8 * i + k) (σ (10 + 5 * 1) (8 * s + k))) (6 + 5 * 0) i (nI (k + 1))) (by omega) (by omega) (by rw [show 6 + 5 * 0 = 6 from rfl, ups_at, if_pos ⟨rfl, rfl⟩])
    refine ⟨σ', e1, fun j h1 h2 h3 => by rw [e2 j h1 h2 h3, ups_row (by omega), ups_row (by omega), ups_row (by omega)], fun j => ?_, fun j hj => ?_, fun j h1 h2 => ?_⟩
    · rw [e3 j]
      by_cases e : j = i
      · rw [if_pos e, if_pos e]
      · rw [if_neg e, if_neg e, ups_at, if_neg (fun q => e q.2), ups_row (by omega), ups_row (by omega)]
    · obtain ⟨g1, g2⟩ := e4 j (by omega)
      rw [g1, g2, ups_row (by omega), ups_row (show 9 ≠ 10 + 5 * 0 by omega), ups_at, if_neg (by omega), ups_row (by omega), ups_at, if_neg (by omega), ups_row (by omega)]
      exact ⟨rfl, rfl⟩
    · by_cases e : j = k
      · obtain ⟨g1, g2⟩ := e4 (8 * i + j) (by omega)
        rw [g1, g2, ups_row (by omega), ups_row (show 9 ≠ 10 + 5 * 0 by omega), ups_at, if_pos (by omega), ups_row (by omega), ups_at, if_pos (by omega), e]
        exact ⟨rfl, rfl⟩
      · obtain ⟨g1, g2⟩ := e5 j (by omega) h2
        rw [g1, g2, ups_row (show 14 ≠ 6 + 5 * 0 by omega), ups_row (show 14 ≠ 10 + 5 * 0 by omega), ups_row (show 14 ≠ 9 + 5 * 0 by omega), ups_row (show 15 ≠ 6 + 5 * 0 by omega), ups_row (show 15 ≠ 10 + 5 * 0 by omega), ups_row (show 15 ≠ 9 + 5 * 0 by omega)]
        exact ⟨rfl, rfl⟩
theorem q_inkCopy {s i n : Nat} {σ : St} (hs : s < 5) (hi : i < 100) (hn : n ≤ 8) (h : σ 11 s = nI n) : ∃ σ', mX1_copyFrom 0 1 (nI s) (nI i) σ = some σ' ∧ (∀ j, (j < 6 ∨ 10 < j) → σ' j = σ j) ∧ (∀ j, σ' 6 j = if j = i then nI n else σ 6 j) ∧ (∀ j, σ' 7 j = if j = i then σ 12 s else σ 7 j) ∧ (∀ j, σ' 8 j = if j = i then σ 13 s else σ 8 j) ∧ (∀ j, j / 8 ≠ i → σ' 9 j = σ 9 j ∧ σ' 10 j = σ 10 j) ∧ ∀ j, j < n → σ' 9 (8 * i + j) = σ 14 (8 * s + j) ∧ σ' 10 (8 * i + j) = σ 15 (8 * s + j) := by
  unfold mX1_copyFrom
  have hs1 : s < ns 1 := hs
  have hi0 : i < ns 0 := hi
  rw [q_pc (by omega) hs1, bnd_s, q_col (by omega) hs1, bnd_s, q_lay (by omega) hs1, bnd_s, q_start (by omega) hi0, bnv_s, show σ (6 + 5 * 1) s = nI n from h]
  obtain ⟨σ', e1, e2, e3, e4, e5⟩ := copy_L25 hs hi hn n fu 0 (ups (ups (ups σ (6 + 5 * 0) i 0) (7 + 5 * 0) i (σ (7 + 5 * 1) s)) (8 + 5 * 0) i (σ (8 + 5 * 1) s)) (by omega) (by rw [fu_eq]; omega) (by rw [ups_row (by omega), ups_row (by omega), show 6 + 5 * 0 = 6 from rfl, ups_at, if_pos ⟨rfl, rfl⟩]; rfl)
  refine ⟨σ', e1, fun j hj => by rw [e2 j (by omega) (by omega) (by omega), ups_row (by omega), ups_row (by omega), ups_row (by omega)], fun j => ?_, fun j => ?_, fun j => ?_, fun j hj => ?_, fun j hj => ?_⟩
  · rw [e3 j]
    by_cases e : j = i
    · rw [if_pos e, if_pos e]
    · rw [if_neg e, if_neg e, ups_row (by omega), ups_row (by omega), ups_at, if_neg (fun q => e q.2)]
  · rw [e2 7 (by omega) (by omega) (by omega), ups_row (by omega), ups_at, ups_row (by omega)]
    by_cases e : j = i
    · rw [if_pos ⟨rfl, e⟩, if_pos e]
    · rw [if_neg (fun q => e q.2), if_neg e]
  · rw [e2 8 (by omega) (by omega) (by omega), ups_at, ups_row (by omega), ups_row (by omega)]
    by_cases e : j = i
    · rw [if_pos ⟨rfl, e⟩, if_pos e]
    · rw [if_neg (fun q => e q.2), if_neg e]
  · obtain ⟨g1, g2⟩ := e4 j (Or.inl hj)
    rw [g1, g2, ups_row (by omega), ups_row (by omega), ups_row (by omega), ups_row (by omega), ups_row (by omega), ups_row (by omega)]
    exact ⟨rfl, rfl⟩
  · obtain ⟨g1, g2⟩ := e5 j (by omega) hj
    rw [g1, g2, ups_row (show 14 ≠ 8 + 5 * 0 by omega), ups_row (show 14 ≠ 7 + 5 * 0 by omega), ups_row (show 14 ≠ 6 + 5 * 0 by omega), ups_row (show 15 ≠ 8 + 5 * 0 by omega), ups_row (show 15 ≠ 7 + 5 * 0 by omega), ups_row (show 15 ≠ 6 + 5 * 0 by omega)]
    exact ⟨rfl, rfl⟩
theorem q_addStroke {a : Ab} {v σ : St} (I : Inv a v) {s n : Nat} (hs : s < a 0 0) (h20 : a 1 s < 20) (hn : n ≤ 8) (h11 : σ 11 s = nI n) (c0 : σ 0 s = nI (a 1 s)) (c2 : ∀ i, mk a i → σ 2 i = nI (a 5 i)) (ct : C_t a σ) : ∃ pl σ', mX4_addStroke 1 (nI s) (nI (a 2 s + 1)) σ = some (nI (20 * s + a 1 s), σ') ∧ pl ≤ tot a ∧ (∀ p, pl ≤ p → p < tot a → aft a s (a 9 p)) ∧ (0 < pl → ¬ aft a s (a 9 (pl - 1))) ∧ (∀ k, 10 < k → k ≠ 28 → σ' k = σ k) ∧ σ' 3 = σ 3 ∧ σ' 0 = upd (σ 0) s (nI (a 1 s + 1)) ∧ σ' 1 = upd (σ 1) (20 * s + a 1 s) (nI 0) ∧ σ' 2 = upd (σ 2) (20 * s + a 1 s) (nI (a 2 s + 1)) ∧ σ' 4 = upd (σ 4) (20 * s + a 1 s) (σ 13 s) ∧ σ' 28 0 = nI (tot a + 1) ∧ (∀ p, p < tot a + 1 → σ' 5 p = nI (insF (a 9) pl (20 * s + a 1 s) p)) ∧ (∀ j, σ' 6 j = if j = 20 * s + a 1 s then nI n else σ 6 j) ∧ (∀ j, σ' 7 j = if j = 20 * s + a 1 s then σ 12 s else σ 7 j) ∧ (∀ j, j / 8 ≠ 20 * s + a 1 s → σ' 9 j = σ 9 j ∧ σ' 10 j = σ 10 j) ∧ ∀ j, j < n → σ' 9 (8 * (20 * s + a 1 s) + j) = σ 14 (8 * s + j) ∧ σ' 10 (8 * (20 * s + a 1 s) + j) = σ 15 (8 * s + j) := by
  have h5 := I.1.2
  obtain ⟨pl, σ1, e, p1, p2, p3, r, r0, r1, r2, r28, r5⟩ := q_addOp (kd := 0) I hs h20 c0 c2 ct
  have hid : 20 * s + a 1 s < 100 := by omega
  obtain ⟨σ2, e2, f1, f6, f7, f8, f9, f10⟩ := q_inkCopy (s := s) (i := 20 * s + a 1 s) (σ := σ1) (by omega) hid hn (by rw [r 11 (by omega) (by omega) (by omega) (by omega) (by omega)]; exact h11)
  have R : ∀ k, 5 < k → k ≠ 28 → σ1 k = σ k := fun k h1 h2 => r k (by omega) (by omega) (by omega) (by omega) h2
  unfold mX4_addStroke
  rw [show (0 : Int32) = nI 0 from rfl, e, bnd_s, e2, bnv_s, q_lay (t := 0) (by omega) (show 20 * s + a 1 s < ns 0 from hid), bnd_s, q_set _ _ (show 20 * s + a 1 s < rl 4 from hid), bnv_s]
  refine ⟨pl, _, rfl, p1, p2, p3, fun k h1 h2 => by rw [ups_row (by omega), f1 k (by omega), R k (by omega) h2], ?_, ?_, ?_, ?_, ?_, ?_, fun p hp => ?_, fun j => ?_, fun j => ?_, fun j hj => ?_, fun j hj => ?_⟩
  · rw [ups_row (by omega), f1 3 (by omega), r 3 (by omega) (by omega) (by omega) (by omega) (by omega)]
  · rw [ups_row (by omega), f1 0 (by omega), r0]
  · rw [ups_row (by omega), f1 1 (by omega), r1]
  · rw [ups_row (by omega), f1 2 (by omega), r2]
  · rw [ups_same, f1 4 (by omega), r 4 (by omega) (by omega) (by omega) (by omega) (by omega), show σ2 (8 + 5 * 0) (20 * s + a 1 s) = σ 13 s from by rw [show 8 + 5 * 0 = 8 from rfl, f8, if_pos rfl, R 13 (by omega) (by omega)]]
  · rw [ups_row (by omega), f1 28 (by omega), r28]
  · rw [ups_row (by omega), f1 5 (by omega)]; exact r5 p hp
  · rw [ups_row (by omega), f6 j, R 6 (by omega) (by omega)]
  · rw [ups_row (by omega), f7 j, R 7 (by omega) (by omega), R 12 (by omega) (by omega)]
  · obtain ⟨g1, g2⟩ := f9 j hj
    rw [ups_row (show 9 ≠ 4 by omega), ups_row (show 10 ≠ 4 by omega), g1, g2, R 9 (by omega) (by omega), R 10 (by omega) (by omega)]
    exact ⟨rfl, rfl⟩
  · obtain ⟨g1, g2⟩ := f10 j hj
    rw [ups_row (show 9 ≠ 4 by omega), ups_row (show 10 ≠ 4 by omega), g1, g2, R 14 (by omega) (by omega), R 15 (by omega) (by omega)]
    exact ⟨rfl, rfl⟩
