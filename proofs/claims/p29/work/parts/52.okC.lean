/-! Pens; new operations; lose, deliver, deliverAll, reset. -/
section CS
variable {a : Ab} {v σ : St} {s t : Nat}
theorem within_y {β : Type} {σ : St} {x lo hi : Int32} {A F : St → Option β} (h : lo ≤ x ∧ x ≤ hi) : bnd (mX6_isWithin x lo hi σ) (fun r s => if r = 0 then A s else F s) = F σ := by rw [q_within, bnd_s, if_b0, if_pos h]
/-- the state with another pen at s -/
def penA (a : Ab) (s n L : Nat) : Ab := upN (upN a 10 s n) 11 s L
theorem penA_row {n L k : Nat} (h : k ≠ 10) (h2 : k ≠ 11) : penA a s n L k = a k := by
  unfold penA
  rw [upN_row h2, upN_row h]
theorem penA_10 {n L : Nat} (j : Nat) : penA a s n L 10 j = if j = s then n else a 10 j := by
  unfold penA
  rw [upN_row (by omega), upN_at]
  by_cases e : j = s
  · rw [if_pos ⟨rfl, e⟩, if_pos e]
  · rw [if_neg (fun q => e q.2), if_neg e]
theorem c_penDown {x y c L : Nat} (h : CC a v σ) (hs : s < a 0 0) (hx : x ≤ 63) (hy : y ≤ 63) (hc : c ≤ 7) (hL : L ≤ 3) : Ok (fun r a' _ => r = 1 ∧ a' = penA a s 1 L) (mX6_penDown (nI s) (nI x) (nI y) (nI c) (nI L) σ) := by
  obtain ⟨I, C⟩ := id h
  have h5 := I.1.2
  have hn1 : s < ns 1 := by show s < 5; omega
  unfold mX6_penDown
  rw [cs_y h.2.1 h5 hs, within_y (lo := 0) (hi := 63) ⟨nI_pos' (by omega), nI_le (b := 63) hx (by omega)⟩, within_y (lo := 0) (hi := 63) ⟨nI_pos' (by omega), nI_le (b := 63) hy (by omega)⟩, within_y (lo := 0) (hi := 7) ⟨nI_pos' (by omega), nI_le (b := 7) hc (by omega)⟩, within_y (lo := 0) (hi := 3) ⟨nI_pos' (by omega), nI_le (b := 3) hL (by omega)⟩]
  rw [q_start (by omega) hn1, bnv_s, q_add (n := 0) (by omega) hn1 (by omega) _ _ (by simp only [ups_at]; simp; rfl), bnv_s, q_pc (by omega) hn1, bnd_s]
  refine ⟨_, _, penA a s 1 L, ups (ups (ups v 3 s (nI c)) 4 (8 * s) (nI x)) 5 (8 * s) (nI y), rfl, ⟨Inv_pen I hs (by omega) (by omega) (by rw [ups_row (by omega), ups_row (by omega), ups_row (by omega)]), RepC_pen C (fun k h1 h2 h3 => by rw [ups_row h3, ups_row h2, ups_row h1]) (fun k hk => by rw [ups_row (by omega), ups_row (by omega), ups_row (by omega), ups_row (by omega), ups_row (by omega), ups_row (by omega)]) ?_⟩, by simp only [ups_at]; simp; rfl, rfl⟩
  intro s' hs'
  obtain ⟨j1, j2, j3, j4, j5⟩ := C.2.1 s' hs'
  rw [upN_row (show 1 ≠ 11 by omega), upN_row (show 1 ≠ 10 by omega), upN_row (show 2 ≠ 11 by omega), upN_row (show 2 ≠ 10 by omega)]
  refine ⟨?_, ?_, ?_⟩
  · rw [← j1]; simp only [ups_at]; simp
  · rw [← j2]; simp only [ups_at]; simp
  · by_cases e : s' = s
    · subst e
      simp only [upN_at, ups_at]
      refine ⟨by simp, fun _ => ⟨by simp, by simp⟩, fun k hk => ?_⟩
      have hk0 : k = 0 := by simp at hk; omega
      subst hk0
      simp
    · simp only [upN_at, ups_at]
      simp [e]
      refine ⟨j3, j4, fun k hk => ?_⟩
      have := j5 k hk
      have h8 := (I.2.1 s' hs').2.1
      rw [if_neg (by omega), if_neg (by omega), if_neg (by omega), if_neg (by omega)]
      exact this
theorem c_penMove {n : Nat} {dx dy : Int32} (h : CC a v σ) (hs : s < a 0 0) (hn : a 10 s = n + 1) (hn8 : n + 1 < 8) (hx : (-8 : Int32) ≤ dx ∧ dx ≤ 8) (hy : (-8 : Int32) ≤ dy ∧ dy ≤ 8) : Ok (fun r a' _ => r = nI (n + 2) ∧ a' = penA a s (n + 2) (a 11 s)) (mX6_penMove (nI s) dx dy σ) := by
  obtain ⟨I, C⟩ := id h
  have h5 := I.1.2
  have hs5 : s < 5 := by omega
  have hn1 : s < ns 1 := hs5
  obtain ⟨h20, h8, hpl, hck, -⟩ := I.2.1 s hs5
  obtain ⟨c1, c2, c3, c4, c5⟩ := C.2.1 s hs5
  have hz : a 10 s ≠ 0 := by omega
  obtain ⟨k1, k2⟩ := c5 n (by omega)
  unfold mX6_penMove
  rw [cs_y h.2.1 h5 hs, within_y hx, within_y hy, q_pc (by omega) hn1, bnd_s, show σ (6 + 5 * 1) s = nI (a 10 s) from c3, if_neg (nz0 (by omega) hz), if_pos (show nI (a 10 s) < (8 : Int32) from nI_lt (b := 8) (by omega) (by omega))]
  rw [hn, nI_pred, q_x (by omega) hn1 (by omega), bnd_s, q_y (by omega) hn1 (by omega), bnd_s, q_add (t := 1) (n := n + 1) (by omega) hn1 (by omega) _ _ (by rw [show 6 + 5 * 1 = 11 from rfl, c3, hn]), bnv_s, q_pc (by omega) hn1, bnd_s]
  rw [show σ (9 + 5 * 1) (8 * s + n) = v 4 (8 * s + n) from k1, show σ (10 + 5 * 1) (8 * s + n) = v 5 (8 * s + n) from k2]
  refine ⟨_, _, penA a s (n + 2) (a 11 s), ups (ups v 4 (8 * s + (n + 1)) (v 4 (8 * s + n) + dx)) 5 (8 * s + (n + 1)) (v 5 (8 * s + n) + dy), rfl, ⟨Inv_pen I hs (by omega) hpl (by rw [ups_row (by omega), ups_row (by omega)]), RepC_pen C (fun k g1 g2 g3 => by rw [ups_row g3, ups_row g2]) (fun k hk => by rw [ups_row (by omega), ups_row (by omega), ups_row (by omega)]) ?_⟩, by rw [show 6 + 5 * 1 = 11 from rfl, ups_at, if_pos ⟨rfl, rfl⟩], rfl⟩
  intro s' hs'
  obtain ⟨j1, j2, j3, j4, j5⟩ := C.2.1 s' hs'
  have h8' := (I.2.1 s' hs').2.1
  rw [upN_row (show 1 ≠ 11 by omega), upN_row (show 1 ≠ 10 by omega), upN_row (show 2 ≠ 11 by omega), upN_row (show 2 ≠ 10 by omega)]
  refine ⟨?_, ?_, ?_⟩
  · rw [ups_row (by omega), ups_row (by omega), ups_row (by omega)]; exact j1
  · rw [ups_row (by omega), ups_row (by omega), ups_row (by omega)]; exact j2
  · simp only [upN_at, ups_at]
    by_cases q : s' = s
    · subst q
      simp
      refine ⟨⟨(c4 hz).1, (c4 hz).2⟩, fun k hk => ?_⟩
      by_cases e : k = n + 1
      · subst e; simp
      · simp [e]
        exact c5 k (by omega)
    · simp [q]
      refine ⟨j3, j4, fun k hk => ?_⟩
      rw [if_neg (by omega), if_neg (by omega), if_neg (by omega), if_neg (by omega)]
      exact j5 k hk
/-- where a new operation of s is put in the total order -/
def plOk (a : Ab) (s pl : Nat) : Prop := pl ≤ tot a ∧ (∀ p, pl ≤ p → p < tot a → aft a s (a 9 p)) ∧ (0 < pl → ¬ aft a s (a 9 (pl - 1)))
theorem c_penUpF (h : CC a v σ) (hs : s < a 0 0) (hn : a 10 s ≠ 0) (h20 : a 1 s = 20) : Rd a v (-1000000003) (mX6_penUp (nI s) σ) := by
  obtain ⟨I, C⟩ := id h
  have hs5 := h.s5 hs
  have h8 := (I.2.1 s hs5).2.1
  obtain ⟨c1, c2, c3, c4, c5⟩ := C.2.1 s hs5
  unfold mX6_penUp
  rw [cs_y h.2.1 I.1.2 hs, q_pc (by omega) (show s < ns 1 from hs5), bnd_s, show σ (6 + 5 * 1) s = nI (a 10 s) from c3, if_neg (nz0 (by omega) hn), q_madeAll hs5 (by omega) c1, bnd_s, decide_eq_true h20, bI_t, if_neg (by decide)]
  exact h.rd
theorem c_penUp (h : CC a v σ) (hs : s < a 0 0) (hn : a 10 s ≠ 0) (hlt : a 1 s < 20) : Ok (fun r a' v' => r = nI (a 1 s + 1) ∧ ∃ pl, plOk a s pl ∧ a' = penA (newA a s 0 0 (a 11 s) (a 10 s) pl) s 0 (a 11 s)) (mX6_penUp (nI s) σ) := by
  obtain ⟨I, C⟩ := id h
  have h5 := I.1.2
  have hs5 : s < 5 := by omega
  obtain ⟨h20, h8, hpl, hck, -⟩ := I.2.1 s hs5
  obtain ⟨c1, c2, c3, c4, c5⟩ := C.2.1 s hs5
  have hn1 : s < ns 1 := hs5
  obtain ⟨c4a, c4b⟩ := c4 hn
  unfold mX6_penUp
  rw [cs_y h.2.1 h5 hs, q_pc (by omega) hn1, bnd_s, show σ (6 + 5 * 1) s = nI (a 10 s) from c3, if_neg (nz0 (by omega) hn), q_madeAll hs5 h20 c1, bnd_s, decide_eq_false (by omega), bI_f, if_pos rfl]
  have e1 := q_tick (s := s) (c := a 2 s) (σ := σ) hs5 c2
  generalize hσ1 : ups σ 26 s (nI (a 2 s + 1)) = σ1 at e1
  have r : ∀ k, k ≠ 26 → σ1 k = σ k := fun k hk => by rw [← hσ1, ups_row hk]
  obtain ⟨pl, σ2, e2, p1, p2, p3, rr, rr3, r0, r1, r2, r4, r28, r5, r6, r7, r9, r10⟩ := q_addStroke (σ := σ1) (n := a 10 s) I hs hlt h8 (by rw [r 11 (by omega)]; exact c3) (by rw [r 0 (by omega)]; exact c1) (fun i hi => by rw [r 2 (by omega)]; exact (C.2.2.2.1 i hi).2.1) ⟨by rw [r 28 (by omega)]; exact C.2.2.2.2.1.1, fun p hp => by rw [r 5 (by omega)]; exact C.2.2.2.2.1.2 p hp⟩
  obtain ⟨σ3, e3, g1, g16, g⟩ := q_publish (σ := ups σ2 11 s 0) I hs hlt (by rw [ups_row (by omega), rr 27 (by omega) (by omega), r 27 (by omega)]; exact C.1) (fun L hL => by rw [ups_row (by omega), ups_row (by omega), rr 18 (by omega) (by omega), rr 19 (by omega) (by omega), r 18 (by omega), r 19 (by omega)]; exact C.2.2.2.2.2 L hL)
  have hne : ∀ p, p < tot a → a 9 p ≠ 20 * s + a 1 s := fun p hp e => nA_not (a := a) (s := s) (by omega) hlt (by rw [← e]; exact I.2.2.2.2.2.1.1 p hp)
  have hI : Inv (newA a s 0 0 (a 11 s) (a 10 s) pl) (newV v (20 * s + a 1 s) (nI (a 11 s)) (v 3 s) (fun k => v 4 (8 * s + k)) (fun k => v 5 (8 * s + k))) := Inv_new I hs hlt (by omega) (fun h => absurd rfl h) (fun _ => ⟨rfl, hpl⟩) (fun _ => ⟨by omega, h8⟩) p1 (fun p h1 h2 => (aft_bf (hne p h2) hlt).mpr (p2 p h1 h2)) (fun h => fun q => p3 h ((aft_bf (hne (pl - 1) (by omega)) hlt).mp q))
  have hC : RepC (newA a s 0 0 (a 11 s) (a 10 s) pl) (newV v (20 * s + a 1 s) (nI (a 11 s)) (v 3 s) (fun k => v 4 (8 * s + k)) (fun k => v 5 (8 * s + k))) (ups σ3 11 s (nI (a 10 s))) := by
    have u : ∀ k, k ≠ 11 → ups σ3 11 s (nI (a 10 s)) k = σ3 k := fun k hk => ups_row hk
    refine C_new I C hs hlt ?_ ?_ ?_ (fun k h1 h2 => ?_) ?_ ?_ ?_ ?_ (fun j hj => ?_) (fun h => absurd rfl h) (fun j hj => ?_) (fun j hj => ?_) (fun _ => ⟨?_, ?_, fun k hk => ?_⟩) (fun _ => h8) ?_ (fun p hp => ?_) (fun L hL => ?_)
    · rw [u 27 (by omega), g 27 (by omega) (by omega) (by omega), ups_row (by omega), rr 27 (by omega) (by omega), r 27 (by omega)]
    · rw [u 0 (by omega), g 0 (by omega) (by omega) (by omega), ups_row (by omega), r0, r 0 (by omega)]
    · rw [u 26 (by omega), g 26 (by omega) (by omega) (by omega), ups_row (by omega), rr 26 (by omega) (by omega), ← hσ1, ups_same]
    · by_cases hk : k = 11
      · rw [hk]
        funext j
        rw [ups_at, g 11 (by omega) (by omega) (by omega), ups_at, rr 11 (by omega) (by omega), r 11 (by omega)]
        by_cases q : j = s
        · rw [if_pos ⟨rfl, q⟩, q, c3]
        · rw [if_neg (fun z => q z.2), if_neg (fun z => q z.2)]
      · rw [u k hk, g k (by omega) (by omega) (by omega), ups_row hk, rr k (by omega) (by omega), r k (by omega)]
    · rw [u 16 (by omega), g16, ups_row (by omega), rr 16 (by omega) (by omega), r 16 (by omega)]
    · rw [u 1 (by omega), g 1 (by omega) (by omega) (by omega), ups_row (by omega), r1, r 1 (by omega)]
    · rw [u 2 (by omega), g 2 (by omega) (by omega) (by omega), ups_row (by omega), r2, r 2 (by omega)]
    · rw [u 4 (by omega), g 4 (by omega) (by omega) (by omega), ups_row (by omega), r4, r 4 (by omega), r 13 (by omega), c4b]
    · rw [u 3 (by omega), g 3 (by omega) (by omega) (by omega), ups_row (by omega), rr3, r 3 (by omega)]
    · rw [u 6 (by omega), u 7 (by omega), g 6 (by omega) (by omega) (by omega), g 7 (by omega) (by omega) (by omega), ups_row (by omega), ups_row (by omega), r6, r7, if_neg hj, if_neg hj, r 6 (by omega), r 7 (by omega)]
      exact ⟨rfl, rfl⟩
    · rw [u 9 (by omega), u 10 (by omega), g 9 (by omega) (by omega) (by omega), g 10 (by omega) (by omega) (by omega), ups_row (by omega), ups_row (by omega), (r9 j hj).1, (r9 j hj).2, r 9 (by omega), r 10 (by omega)]
      exact ⟨rfl, rfl⟩
    · rw [u 6 (by omega), g 6 (by omega) (by omega) (by omega), ups_row (by omega), r6, if_pos rfl]
    · rw [u 7 (by omega), g 7 (by omega) (by omega) (by omega), ups_row (by omega), r7, if_pos rfl, r 12 (by omega), c4a]
    · rw [u 9 (by omega), u 10 (by omega), g 9 (by omega) (by omega) (by omega), g 10 (by omega) (by omega) (by omega), ups_row (by omega), ups_row (by omega), (r10 k hk).1, (r10 k hk).2, r 14 (by omega), r 15 (by omega)]
      exact c5 k hk
    · rw [u 28 (by omega), g 28 (by omega) (by omega) (by omega), ups_row (by omega)]; exact r28
    · rw [u 5 (by omega), g 5 (by omega) (by omega) (by omega), ups_row (by omega)]; exact r5 p hp
    · rw [u 18 (by omega), u 19 (by omega)]; exact g1 L hL
  unfold mX1_empty
  rw [e1, bnd_s, e2, bnd_s, q_set _ _ (show s < rl (6 + 5 * 1) from hs5), bnv_s, bnv_s, show 6 + 5 * 1 = 11 from rfl, e3, bnv_s, q_numberOf _ (by omega), bnd_s]
  refine ⟨_, _, penA (newA a s 0 0 (a 11 s) (a 10 s) pl) s 0 (a 11 s), newV v (20 * s + a 1 s) (nI (a 11 s)) (v 3 s) (fun k => v 4 (8 * s + k)) (fun k => v 5 (8 * s + k)), rfl, ⟨Inv_pen hI hs (by omega) hpl rfl, RepC_pen hC (fun _ _ _ _ => rfl) (fun k hk => by rw [ups_row (by omega)]) ?_⟩, by rw [show (20 * s + a 1 s) % 20 = a 1 s by omega], pl, ⟨p1, p2, p3⟩, rfl⟩
  intro s' hs'
  obtain ⟨j1, j2, j3, j4, j5⟩ := hC.2.1 s' hs'
  rw [ups_row (by omega)] at j1 j2
  rw [upN_row (show 1 ≠ 11 by omega), upN_row (show 1 ≠ 10 by omega), upN_row (show 2 ≠ 11 by omega), upN_row (show 2 ≠ 10 by omega)]
  refine ⟨j1, j2, ?_⟩
  rw [ups_row (show 12 ≠ 11 by omega), ups_row (show 13 ≠ 11 by omega), ups_row (show 14 ≠ 11 by omega), ups_row (show 15 ≠ 11 by omega)] at *
  simp only [upN_at]
  by_cases q : s' = s
  · subst q
    simp
    rw [g 11 (by omega) (by omega) (by omega), ups_at, if_pos ⟨rfl, rfl⟩]
    rfl
  · rw [ups_at, if_neg (fun z => q z.2)] at j3
    simp [q]
    exact ⟨j3, j4, j5⟩
/-- the number of the stroke that undo takes: of the last visible own one -/
def uTg (a : Ab) (s : Nat) : Nat := lvS a (knF a s) s (a 1 s)
/-- the number of the stroke that redo takes -/
def rTg (a : Ab) (s : Nat) : Nat := luS a (knF a s) s (a 1 s)
theorem c_changeF {kd tg : Nat} (h : CC a v σ) (hs : s < a 0 0) (htg : tg < 100) (e : a 1 s = 20) : Rd a v (-1000000003) (mX6_changeOwn (nI s) (nI kd) (nI tg) σ) := by
  have h20 := (h.1.2.1 s (h.s5 hs)).1
  unfold mX6_changeOwn
  rw [if_neg (nI_m1 (by omega)), q_madeAll (s := s) (h.s5 hs) h20 (h.2.2.1 s (h.s5 hs)).1, bnd_s, decide_eq_true e, bI_t, if_neg (by decide)]
  exact h.rd
/-- values that no UNDO, REDO or LIFT touches, at strokes that are there -/
def vOk (a : Ab) (v v' : St) : Prop := ∀ i, mk a i → v' 0 i = v 0 i ∧ ∀ k, k < 8 → v' 1 (8 * i + k) = v 1 (8 * i + k) ∧ v' 2 (8 * i + k) = v 2 (8 * i + k)
theorem vOk_new {i : Nat} {lv col : Int32} {xs ys : Nat → Int32} (hi : ¬ mk a i) : vOk a v (newV v i lv col xs ys) := by
  intro j hj
  have e : j ≠ i := fun q => hi (q ▸ hj)
  refine ⟨if_neg e, fun k hk => ⟨?_, ?_⟩⟩
  · show (if (8 * j + k) / 8 = i then _ else _) = _
    rw [if_neg (by omega)]
  · show (if (8 * j + k) / 8 = i then _ else _) = _
    rw [if_neg (by omega)]
theorem c_changeN {kd tg : Nat} (h : CC a v σ) (hs : s < a 0 0) (h1 : 1 ≤ kd) (h2 : kd ≤ 2) (htg : mk a tg) (h0 : a 4 tg = 0) (hts : tg / 20 = s) (hlt : a 1 s < 20) : Ok (fun r a' v' => r = nI (tg % 20 + 1) ∧ vOk a v v' ∧ ∃ pl, plOk a s pl ∧ a' = newA a s kd tg 0 0 pl) (mX6_changeOwn (nI s) (nI kd) (nI tg) σ) := by
  have hs5 := h.s5 hs
  have htl := htg.1
  obtain ⟨pl, σ1, σ2, σ3, e1, e2, e3, -, C', p1, p2, p3⟩ := C_change (kd := kd) (tg := tg) (ly := 0) h.1 h.2 (-1) hs hlt (by omega) htl
  unfold mX6_changeOwn
  rw [if_neg (nI_m1 (by omega)), q_madeAll (s := s) hs5 (by omega) (h.2.2.1 s hs5).1, bnd_s, decide_eq_false (by omega), bI_f, if_pos rfl, e1, bnd_s, e2, bnd_s, e3, bnv_s, q_numberOf _ htl, bnd_s]
  exact ⟨_, _, _, _, rfl, ⟨Inv_change h.1 hs hlt (by omega) (by omega) ⟨htg, h0, fun _ => ⟨hts, rfl⟩⟩ (fun h => by omega) p1 p2 p3, C'⟩, rfl, vOk_new (nA_not hs5 hlt), pl, ⟨p1, p2, p3⟩, rfl⟩
end CS
