/-! New operations: both sides behind undo, redo, lift. -/
theorem C_new {a : Ab} {v σ σ' : St} (I : Inv a v) (C : RepC a v σ) {s kd tg ly ct pl : Nat} {lv col : Int32} {xs ys : Nat → Int32} (hs : s < a 0 0) (h20 : a 1 s < 20) (r27 : σ' 27 = σ 27) (r0 : σ' 0 = upd (σ 0) s (nI (a 1 s + 1))) (r26 : σ' 26 = upd (σ 26) s (nI (a 2 s + 1))) (r11 : ∀ k, 11 ≤ k → k ≤ 15 → σ' k = σ k) (r16 : σ' 16 = upd (σ 16) (100 * s + (20 * s + a 1 s)) 1) (r1 : σ' 1 = upd (σ 1) (20 * s + a 1 s) (nI kd)) (r2 : σ' 2 = upd (σ 2) (20 * s + a 1 s) (nI (a 2 s + 1))) (r4 : σ' 4 = upd (σ 4) (20 * s + a 1 s) lv) (r3o : ∀ j, j ≠ 20 * s + a 1 s → σ' 3 j = σ 3 j) (r3 : kd ≠ 0 → σ' 3 (20 * s + a 1 s) = nI tg) (r6o : ∀ j, j ≠ 20 * s + a 1 s → σ' 6 j = σ 6 j ∧ σ' 7 j = σ 7 j) (r9o : ∀ j, j / 8 ≠ 20 * s + a 1 s → σ' 9 j = σ 9 j ∧ σ' 10 j = σ 10 j) (r6 : kd = 0 → σ' 6 (20 * s + a 1 s) = nI ct ∧ σ' 7 (20 * s + a 1 s) = col ∧ ∀ k, k < ct → σ' 9 (8 * (20 * s + a 1 s) + k) = xs k ∧ σ' 10 (8 * (20 * s + a 1 s) + k) = ys k) (hct : kd = 0 → ct ≤ 8) (r28 : σ' 28 0 = nI (tot a + 1)) (r5 : ∀ p, p < tot a + 1 → σ' 5 p = nI (insF (a 9) pl (20 * s + a 1 s) p)) (rl : lkS a s (a 0 0) σ') : RepC (newA a s kd tg ly ct pl) (newV v (20 * s + a 1 s) lv col xs ys) σ' := by
  obtain ⟨c1, c2, c3, c4, c5, c6⟩ := C
  have h5 := I.1.2
  have hs5 : s < 5 := by omega
  have hnm := nA_not (a := a) hs5 h20
  refine ⟨?_, fun s' hs' => ?_, fun j hj => ?_, fun i hi => ?_, ⟨?_, fun p hp => ?_⟩, lkS_C (fun L hL => (I.2.2.2.2.2.2 L hL).1) rl⟩
  · rw [r27]; exact c1
  · obtain ⟨j1, j2, j3, j4, j5⟩ := c2 s' hs'
    rw [r0, r26, r11 11 (by omega) (by omega), r11 12 (by omega) (by omega), r11 13 (by omega) (by omega), r11 14 (by omega) (by omega), r11 15 (by omega) (by omega), nA1, nA2, nA10, nA11, upd_at, upd_at]
    by_cases e : s' = s
    · rw [if_pos e, if_pos e, if_pos e, if_pos e]; exact ⟨rfl, rfl, j3, j4, j5⟩
    · rw [if_neg e, if_neg e, if_neg e, if_neg e]; exact ⟨j1, j2, j3, j4, j5⟩
  · rw [r16, upd_at, nA3]
    by_cases e : j = 100 * s + (20 * s + a 1 s)
    · rw [if_pos e, if_pos e]; rfl
    · rw [if_neg e, if_neg e]; exact c3 j hj
  · rw [r1, r2, r4, upd_at, upd_at, upd_at, nA4, nA5, nA6, nA7]
    have v6 : newV v (20 * s + a 1 s) lv col xs ys 6 i = if i = 20 * s + a 1 s then lv else v 6 i := rfl
    have v0 : newV v (20 * s + a 1 s) lv col xs ys 0 i = if i = 20 * s + a 1 s then col else v 0 i := rfl
    have v1 : ∀ j, newV v (20 * s + a 1 s) lv col xs ys 1 j = if j / 8 = 20 * s + a 1 s then xs (j % 8) else v 1 j := fun j => rfl
    have v2 : ∀ j, newV v (20 * s + a 1 s) lv col xs ys 2 j = if j / 8 = 20 * s + a 1 s then ys (j % 8) else v 2 j := fun j => rfl
    rw [v6, v0]
    by_cases e : i = 20 * s + a 1 s
    · rw [if_pos e, if_pos e, if_pos e, if_pos e, if_pos e, if_pos e, if_pos e, if_pos e, if_pos e, e]
      refine ⟨rfl, rfl, rfl, r3, fun h0 => ?_⟩
      obtain ⟨g1, g2, g3⟩ := r6 h0
      have hc := hct h0
      refine ⟨g1, g2, fun k hk => ?_⟩
      rw [v1, v2, if_pos (by omega), if_pos (by omega), show (8 * (20 * s + a 1 s) + k) % 8 = k by omega]
      exact g3 k hk
    · have him : mk a i := by
        rcases (nA_mk hs5 h20 i).mp hi with h | h
        · exact h
        · exact absurd h e
      obtain ⟨g1, g2, g3, g4, g5⟩ := c4 i him
      rw [if_neg e, if_neg e, if_neg e, if_neg e, if_neg e, if_neg e, if_neg e, if_neg e, if_neg e, r3o i e, (r6o i e).1, (r6o i e).2]
      refine ⟨g1, g2, g3, g4, fun h0 => ?_⟩
      obtain ⟨f1, f2, f3⟩ := g5 h0
      have h8 := ((I.2.2.2.1 i him).2.2.2.2.2 h0).2
      refine ⟨f1, f2, fun k hk => ?_⟩
      rw [v1, v2, if_neg (by omega), if_neg (by omega), (r9o _ (by omega)).1, (r9o _ (by omega)).2]
      exact f3 k hk
  · rw [nA_tot hs5]; exact r28
  · rw [nA_tot hs5] at hp
    exact r5 p hp
/-- the class makes an UNDO, REDO or LIFT -/
theorem C_change {a : Ab} {v σ : St} (I : Inv a v) (C : RepC a v σ) {s kd tg ly : Nat} (lv : Int32) (hs : s < a 0 0) (h20 : a 1 s < 20) (hkd : kd ≠ 0) (htg : tg < 100) : ∃ pl σ1 σ2 σ3, mX6_tick (nI s) σ = some (nI (a 2 s + 1), σ1) ∧ mX4_addChange (nI s) (nI (a 2 s + 1)) (nI kd) (nI tg) lv σ1 = some (nI (20 * s + a 1 s), σ2) ∧ mX6_publish (nI s) (nI (20 * s + a 1 s)) σ2 = some σ3 ∧ (∀ k, k ≠ 26 → σ1 k = σ k) ∧ RepC (newA a s kd tg ly 0 pl) (newV v (20 * s + a 1 s) lv 0 (fun _ => 0) (fun _ => 0)) σ3 ∧ pl ≤ tot a ∧ (∀ p, pl ≤ p → p < tot a → aft a s (a 9 p)) ∧ (0 < pl → ¬ aft a s (a 9 (pl - 1))) := by
  have h5 := I.1.2
  obtain ⟨j1, j2, j3, j4, j5⟩ := C.2.1 s (by omega)
  have e1 := q_tick (s := s) (c := a 2 s) (σ := σ) (by omega) j2
  generalize hσ1 : ups σ 26 s (nI (a 2 s + 1)) = σ1 at e1
  have r : ∀ k, k ≠ 26 → σ1 k = σ k := fun k hk => by rw [← hσ1, ups_row hk]
  obtain ⟨pl, σ2, e2, p1, p2, p3, rr, r0, r1, r2, r3, r4, r28, r5⟩ := q_addChange (σ := σ1) (kd := kd) (tg := tg) I lv hs h20 htg (by rw [r 0 (by omega)]; exact j1) (fun i hi => by rw [r 2 (by omega)]; exact (C.2.2.2.1 i hi).2.1) ⟨by rw [r 28 (by omega)]; exact C.2.2.2.2.1.1, fun p hp => by rw [r 5 (by omega)]; exact C.2.2.2.2.1.2 p hp⟩
  obtain ⟨σ3, e3, g1, g16, g⟩ := q_publish (σ := σ2) I hs h20 (by rw [rr 27 (by omega) (by omega), r 27 (by omega)]; exact C.1) (fun L hL => by rw [rr 18 (by omega) (by omega), rr 19 (by omega) (by omega), r 18 (by omega), r 19 (by omega)]; exact C.2.2.2.2.2 L hL)
  refine ⟨pl, σ1, σ2, σ3, e1, e2, e3, r, C_new I C hs h20 ?_ ?_ ?_ (fun k h1 h2 => ?_) ?_ ?_ ?_ ?_ (fun j hj => ?_) (fun _ => ?_) (fun j hj => ?_) (fun j hj => ?_) (fun h => absurd h hkd) (fun h => absurd h hkd) ?_ (fun p hp => ?_) g1, p1, p2, p3⟩
  · rw [g 27 (by omega) (by omega) (by omega), rr 27 (by omega) (by omega), r 27 (by omega)]
  · rw [g 0 (by omega) (by omega) (by omega), r0, r 0 (by omega)]
  · rw [g 26 (by omega) (by omega) (by omega), rr 26 (by omega) (by omega), ← hσ1, ups_same]
  · rw [g k (by omega) (by omega) (by omega), rr k (by omega) (by omega), r k (by omega)]
  · rw [g16, rr 16 (by omega) (by omega), r 16 (by omega)]
  · rw [g 1 (by omega) (by omega) (by omega), r1, r 1 (by omega)]
  · rw [g 2 (by omega) (by omega) (by omega), r2, r 2 (by omega)]
  · rw [g 4 (by omega) (by omega) (by omega), r4, r 4 (by omega)]
  · rw [g 3 (by omega) (by omega) (by omega), r3, upd_at, if_neg hj, r 3 (by omega)]
  · rw [g 3 (by omega) (by omega) (by omega), r3, upd_at, if_pos rfl]
  · rw [g 6 (by omega) (by omega) (by omega), g 7 (by omega) (by omega) (by omega), rr 6 (by omega) (by omega), rr 7 (by omega) (by omega), r 6 (by omega), r 7 (by omega)]; exact ⟨rfl, rfl⟩
  · rw [g 9 (by omega) (by omega) (by omega), g 10 (by omega) (by omega) (by omega), rr 9 (by omega) (by omega), rr 10 (by omega) (by omega), r 9 (by omega), r 10 (by omega)]; exact ⟨rfl, rfl⟩
  · rw [g 28 (by omega) (by omega) (by omega)]; exact r28
  · rw [g 5 (by omega) (by omega) (by omega)]; exact r5 p hp
theorem Inv_change {a : Ab} {v : St} (I : Inv a v) {s kd tg ly pl : Nat} {lv : Int32} (hs : s < a 0 0) (h20 : a 1 s < 20) (hkd : kd ≠ 0) (hk3 : kd ≤ 3) (htg : mk a tg ∧ a 4 tg = 0 ∧ (kd ≠ 3 → tg / 20 = s ∧ lv = -1)) (hly : kd = 3 → lv = nI ly ∧ ly < 4) (p1 : pl ≤ tot a) (p2 : ∀ p, pl ≤ p → p < tot a → aft a s (a 9 p)) (p3 : 0 < pl → ¬ aft a s (a 9 (pl - 1))) : Inv (newA a s kd tg ly 0 pl) (newV v (20 * s + a 1 s) lv 0 (fun _ => 0) (fun _ => 0)) := by
  have h5 := I.1.2
  have hne : ∀ p, p < tot a → a 9 p ≠ 20 * s + a 1 s := fun p hp e => nA_not (a := a) (s := s) (by omega) h20 (by rw [← e]; exact I.2.2.2.2.2.1.1 p hp)
  exact Inv_new I hs h20 hk3 (fun _ => htg) (fun h => hly (by omega)) (fun h => absurd h hkd) p1 (fun p h1 h2 => (aft_bf (hne p h2) h20).mpr (p2 p h1 h2)) (fun h => fun q => p3 h ((aft_bf (hne (pl - 1) (by omega)) h20).mp q))
