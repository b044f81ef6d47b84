/-! undo, redo, lift, lose, deliver, deliverAll, reset, endangered. -/
theorem bnd_id (o : Option (Int32 × St)) : bnd o (fun r s => some (r, s)) = o := by
  cases o with
  | none => rfl
  | some q => rfl
section CS
variable {a : Ab} {v σ : St} {s t : Nat}
theorem c_last (h : CC a v σ) (hs : s < a 0 0) : ∃ σ', CC a v σ' ∧ mX6_lastVisibleOwn (nI s) σ = some (if uTg a s = 0 then -1 else nI (20 * s + uTg a s - 1), σ') := by
  have hs5 := h.s5 hs
  have h20 := (h.1.2.1 s hs5).1
  obtain ⟨c, fn, hL, -⟩ := ex_BL h hs5
  obtain ⟨σ', e1, e2, e3, h', e5⟩ := c_show (b := 0) h (by omega) hs5 hL
  refine ⟨σ', h', ?_⟩
  unfold mX6_lastVisibleOwn
  rw [e1, bnv_s, q_made σ' hs5, bnd_s, (h'.2.2.1 s hs5).1, und_L25 h'.1 h'.2 hs5 e3 (a 1 s) fu (Nat.le_refl _) (by rw [fu_eq]; omega)]
  rfl
theorem uTg_ok (h : CC a v σ) (hs : s < a 0 0) (hz : uTg a s ≠ 0) : mk a (20 * s + uTg a s - 1) ∧ vis a (knF a s) (20 * s + uTg a s - 1) ∧ (20 * s + uTg a s - 1) / 20 = s ∧ (20 * s + uTg a s - 1) % 20 + 1 = uTg a s := by
  have hs5 := h.s5 hs
  have h20 := (h.1.2.1 s hs5).1
  have hle := lvS_le (a := a) (K := knF a s) (s := s) (a 1 s)
  have hv := lvS_vis (a := a) (K := knF a s) (s := s) (a 1 s) (by unfold uTg at hz; omega)
  unfold uTg at *
  exact ⟨knF_mk h.1 hs5 hv.1, hv, by omega, by omega⟩
theorem c_undo0 (h : CC a v σ) (hs : s < a 0 0) (hz : uTg a s = 0) : Rd a v (-1000000002) (mX6_undo (nI s) σ) := by
  obtain ⟨σ', h', e⟩ := c_last h hs
  unfold mX6_undo
  rw [cs_y h.2.1 h.1.1.2 hs, e, bnd_s, bnd_id, if_pos hz]
  unfold mX6_changeOwn
  rw [if_pos rfl]
  exact h'.rd
theorem c_undoF (h : CC a v σ) (hs : s < a 0 0) (hz : uTg a s ≠ 0) (e20 : a 1 s = 20) : Rd a v (-1000000003) (mX6_undo (nI s) σ) := by
  obtain ⟨σ', h', e⟩ := c_last h hs
  obtain ⟨g1, g2, g3, g4⟩ := uTg_ok h hs hz
  unfold mX6_undo
  rw [cs_y h.2.1 h.1.1.2 hs, e, bnd_s, bnd_id, if_neg hz]
  exact c_changeF (kd := 1) h' hs g1.1 e20
theorem c_undo (h : CC a v σ) (hs : s < a 0 0) (hz : uTg a s ≠ 0) (hlt : a 1 s < 20) : Ok (fun r a' v' => r = nI (uTg a s) ∧ vOk a v v' ∧ ∃ pl, plOk a s pl ∧ a' = newA a s 1 (20 * s + uTg a s - 1) 0 0 pl) (mX6_undo (nI s) σ) := by
  obtain ⟨σ', h', e⟩ := c_last h hs
  obtain ⟨g1, g2, g3, g4⟩ := uTg_ok h hs hz
  unfold mX6_undo
  rw [cs_y h.2.1 h.1.1.2 hs, e, bnd_s, bnd_id, if_neg hz]
  have := c_changeN (kd := 1) h' hs (by omega) (by omega) g1 g2.2.1 g3 hlt
  rw [g4] at this
  exact this
theorem c_lastU (h : CC a v σ) (hs : s < a 0 0) : ∃ σ', CC a v σ' ∧ mX6_lastUndoneOwn (nI s) σ = some (if rTg a s = 0 then -1 else nI (20 * s + rTg a s - 1), σ') := by
  have hs5 := h.s5 hs
  have h20 := (h.1.2.1 s hs5).1
  obtain ⟨c, fn, hL, -⟩ := ex_BL h hs5
  obtain ⟨σ', e1, e2, e3, h', e5⟩ := c_show (b := 0) h (by omega) hs5 hL
  refine ⟨σ', h', ?_⟩
  unfold mX6_lastUndoneOwn
  rw [e1, bnv_s, q_made σ' hs5, bnd_s, (h'.2.2.1 s hs5).1, red_L25 h'.1 h'.2 hs5 e3 (a 1 s) fu (Nat.le_refl _) (by rw [fu_eq]; omega)]
  rfl
theorem rTg_ok (h : CC a v σ) (hs : s < a 0 0) (hz : rTg a s ≠ 0) : mk a (20 * s + rTg a s - 1) ∧ a 4 (20 * s + rTg a s - 1) = 0 ∧ (20 * s + rTg a s - 1) / 20 = s ∧ (20 * s + rTg a s - 1) % 20 + 1 = rTg a s := by
  have hs5 := h.s5 hs
  obtain ⟨hm, h0, hle⟩ := luS_ok h.1 hs5 (a 1 s) (Nat.le_refl _) (by unfold rTg at hz; omega)
  unfold rTg at *
  exact ⟨hm, h0, by omega, by omega⟩
theorem c_redo0 (h : CC a v σ) (hs : s < a 0 0) (hz : rTg a s = 0) : Rd a v (-1000000002) (mX6_redo (nI s) σ) := by
  obtain ⟨σ', h', e⟩ := c_lastU h hs
  unfold mX6_redo
  rw [cs_y h.2.1 h.1.1.2 hs, e, bnd_s, bnd_id, if_pos hz]
  unfold mX6_changeOwn
  rw [if_pos rfl]
  exact h'.rd
theorem c_redoF (h : CC a v σ) (hs : s < a 0 0) (hz : rTg a s ≠ 0) (e20 : a 1 s = 20) : Rd a v (-1000000003) (mX6_redo (nI s) σ) := by
  obtain ⟨σ', h', e⟩ := c_lastU h hs
  obtain ⟨g1, g2, g3, g4⟩ := rTg_ok h hs hz
  unfold mX6_redo
  rw [cs_y h.2.1 h.1.1.2 hs, e, bnd_s, bnd_id, if_neg hz]
  exact c_changeF (kd := 2) h' hs g1.1 e20
theorem c_redo (h : CC a v σ) (hs : s < a 0 0) (hz : rTg a s ≠ 0) (hlt : a 1 s < 20) : Ok (fun r a' v' => r = nI (rTg a s) ∧ vOk a v v' ∧ ∃ pl, plOk a s pl ∧ a' = newA a s 2 (20 * s + rTg a s - 1) 0 0 pl) (mX6_redo (nI s) σ) := by
  obtain ⟨σ', h', e⟩ := c_lastU h hs
  obtain ⟨g1, g2, g3, g4⟩ := rTg_ok h hs hz
  unfold mX6_redo
  rw [cs_y h.2.1 h.1.1.2 hs, e, bnd_s, bnd_id, if_neg hz]
  have := c_changeN (kd := 2) h' hs (by omega) (by omega) g1 g2 g3 hlt
  rw [g4] at this
  exact this
theorem c_liftF {c p L : Nat} {fn : Nat → Nat} (h : CC a v σ) (hs : s < a 0 0) (hL : BL a (knF a s) c fn) (hp : p < c) (hy : L < 4) (e20 : a 1 s = 20) : Rd a v (-1000000003) (mX6_lift (nI s) (nI p) (nI L) σ) := by
  have hs5 := h.s5 hs
  obtain ⟨σ', e1, e2, e3, h', e5⟩ := c_show (b := 0) h (by omega) hs5 hL
  unfold mX6_lift mX0_strokeCount
  rw [cs_y h.2.1 h.1.1.2 hs, if_neg (nI_pos (by omega)), within_y (lo := 0) (hi := 3) ⟨nI_pos' (by omega), nI_le (b := 3) (by omega) (by omega)⟩, e1, bnv_s, bnd_s, show σ' (29 + 0) 0 = nI c from e3.1, if_pos (nI_lt hp (by omega)), q_madeAll hs5 (by omega) (h'.2.2.1 s hs5).1, bnd_s, decide_eq_true e20, bI_t, if_neg (by decide)]
  exact h'.rd
theorem c_lift {c p L : Nat} {fn : Nat → Nat} (h : CC a v σ) (hs : s < a 0 0) (hL : BL a (knF a s) c fn) (hp : p < c) (hy : L < 4) (hlt : a 1 s < 20) : Ok (fun r a' _ => r = nI (a 1 s + 1) ∧ ∃ pl, plOk a s pl ∧ a' = newA a s 3 (fn p) L 0 pl) (mX6_lift (nI s) (nI p) (nI L) σ) := by
  have hs5 := h.s5 hs
  obtain ⟨σ', e1, e2, e3, h', e5⟩ := c_show (b := 0) h (by omega) hs5 hL
  obtain ⟨hm, h0, -⟩ := hL.mk h.1 hs5 hp
  have htl := hm.1
  obtain ⟨pl, σ1, σ2, σ3, f1, f2, f3, f4, C2, p1, p2, p3⟩ := C_change (kd := 3) (tg := fn p) (ly := L) h'.1 h'.2 (nI L) hs hlt (by omega) htl
  unfold mX6_lift mX0_strokeCount
  rw [cs_y h.2.1 h.1.1.2 hs, if_neg (nI_pos (by omega)), within_y (lo := 0) (hi := 3) ⟨nI_pos' (by omega), nI_le (b := 3) (by omega) (by omega)⟩, e1, bnv_s, bnd_s, show σ' (29 + 0) 0 = nI c from e3.1, if_pos (nI_lt hp (by omega)), q_madeAll hs5 (by omega) (h'.2.2.1 s hs5).1, bnd_s, decide_eq_false (by omega), bI_f, if_pos rfl, f1, bnd_s, q_strokeIn (by omega) σ1 (by omega), bnd_s, f4 (22 + 3 * 0) (by omega), show σ' (22 + 3 * 0) p = _ from e3.2.1 p hp, show mX4_addChange (nI s) (nI (a 2 s + 1)) 3 (nI (fn p)) (nI L) σ1 = _ from f2, bnd_s, f3, bnv_s, q_numberOf _ (by omega), bnd_s]
  exact ⟨_, _, _, _, rfl, ⟨Inv_change h'.1 hs hlt (by omega) (by omega) ⟨hm, h0, fun h => absurd rfl h⟩ (fun _ => ⟨rfl, by omega⟩) p1 p2 p3, C2⟩, by rw [show (20 * s + a 1 s) % 20 = a 1 s by omega], pl, ⟨p1, p2, p3⟩, rfl⟩
theorem c_lose0 (h : CC a v σ) (hs : s < a 0 0) (ht : t < a 0 0) (hst : s ≠ t) (h0 : a 12 (5 * s + t) = 0) : Rd a v (-1000000004) (mX6_lose (nI s) (nI t) σ) := by
  have hs5 := h.s5 hs
  have ht5 := h.s5 ht
  unfold mX6_lose
  rw [cp_y h.2.1 h.1.1.2 hs ht hst, q_cnt σ hs5 ht5, bnd_s, (h.2.2.2.2.2.2 _ (show 5 * s + t < 25 by omega)).1, h0, if_pos (show nI 0 = (0 : Int32) from rfl)]
  exact h.rd
theorem c_lose (h : CC a v σ) (hs : s < a 0 0) (ht : t < a 0 0) (hst : s ≠ t) (h0 : a 12 (5 * s + t) ≠ 0) : Rd (dropA a (5 * s + t)) v (nI (a 12 (5 * s + t) - 1)) (mX6_lose (nI s) (nI t) σ) := by
  have hs5 := h.s5 hs
  have ht5 := h.s5 ht
  have hL : 5 * s + t < 25 := by omega
  have h10 := (h.1.2.2.2.2.2.2 _ hL).1
  obtain ⟨σ', e1, C'⟩ := C_drop h.1 h.2 hs5 ht5 h0
  unfold mX6_lose
  rw [cp_y h.2.1 h.1.1.2 hs ht hst, q_cnt σ hs5 ht5, bnd_s, (h.2.2.2.2.2.2 _ hL).1, if_neg (nz0 (by omega) h0), e1, bnv_s, q_cnt σ' hs5 ht5, bnd_s, (C'.2.2.2.2.2 _ hL).1]
  refine ⟨σ', ?_, Inv_drop h.1 hL h0, C'⟩
  unfold dropA
  rw [if_pos ⟨rfl, rfl⟩]
theorem c_deliver0 (h : CC a v σ) (hs : s < a 0 0) (ht : t < a 0 0) (hst : s ≠ t) (h0 : a 12 (5 * s + t) = 0) : Rd a v (-1000000004) (mX6_deliver (nI s) (nI t) σ) := by
  have hs5 := h.s5 hs
  have ht5 := h.s5 ht
  unfold mX6_deliver
  rw [cp_y h.2.1 h.1.1.2 hs ht hst, q_cnt σ hs5 ht5, bnd_s, (h.2.2.2.2.2.2 _ (show 5 * s + t < 25 by omega)).1, h0, if_pos (show nI 0 = (0 : Int32) from rfl)]
  exact h.rd
theorem c_deliver (h : CC a v σ) (hs : s < a 0 0) (ht : t < a 0 0) (hst : s ≠ t) (h0 : a 12 (5 * s + t) ≠ 0) : Rd (del1 a (5 * s + t)) v (nI (100 * s + a 13 (10 * (5 * s + t)))) (mX6_deliver (nI s) (nI t) σ) := by
  obtain ⟨I, C⟩ := id h
  have hs5 := h.s5 hs
  have ht5 := h.s5 ht
  have hL : 5 * s + t < 25 := by omega
  obtain ⟨h10, h11, h12⟩ := I.2.2.2.2.2.2 _ hL
  obtain ⟨m1, m2, m3, m4, m5⟩ := msg_ok I hL h0
  obtain ⟨σ', e1, C'⟩ := C_drop I C hs5 ht5 h0
  have I' := Inv_drop I hL h0
  have c19 := (C.2.2.2.2.2 _ hL).2 0 (by omega)
  rw [Nat.add_zero] at c19
  have hk : mk (dropA a (5 * s + t)) (msgI a (5 * s + t)) := mk_drop m1
  have hn : t < dropA a (5 * s + t) 0 0 := by rw [dropA_row (by omega) (by omega)]; exact ht
  have hmi : msgI a (5 * s + t) = 20 * s + a 13 (10 * (5 * s + t)) - 1 := by unfold msgI; rw [show (5 * s + t) / 5 = s by omega]
  have hD : del1 a (5 * s + t) = learnA (dropA a (5 * s + t)) t (msgI a (5 * s + t)) := by unfold del1; rw [show (5 * s + t) % 5 = t by omega]
  unfold mX6_deliver
  rw [cp_y h.2.1 h.1.1.2 hs ht hst, q_cnt σ hs5 ht5, bnd_s, (h.2.2.2.2.2.2 _ hL).1, if_neg (nz0 (by omega) h0), show (mX3_messageIn (nI s) (nI t) 0 σ) = _ from q_msg (k := 0) σ hs5 ht5 (by omega), bnd_s, Nat.add_zero, c19, e1, bnv_s, show 20 * ((5 * s + t) / 5) + a 13 (10 * (5 * s + t)) - 1 = msgI a (5 * s + t) from rfl, C_learn I' C' hn hk, bnv_s, q_authorOf _ m1.1, bnd_s, q_numberOf _ m1.1, bnd_s, il 100, pk_mul, nI_add, hmi, show (20 * s + a 13 (10 * (5 * s + t)) - 1) / 20 = s by omega, show (20 * s + a 13 (10 * (5 * s + t)) - 1) % 20 + 1 = a 13 (10 * (5 * s + t)) by omega, ← hmi, hD]
  exact ⟨_, rfl, Inv_learn I' hn hk, RepC_learn C' t _⟩
theorem c_deliverAll (h : CC a v σ) : Rd (finA 25 a 0).1 v (nI (finA 25 a 0).2) (mX6_deliverAll σ) := by
  obtain ⟨I, C⟩ := id h
  obtain ⟨σ', e1, C'⟩ := C_all (v := v) I.1.1 I.1.2 (a 0 0) fu 0 0 a σ (by omega) (by have := I.1.2; rw [fu_eq]; omega) I rfl C
  unfold mX6_deliverAll
  rw [show nI 0 = (0 : Int32) from rfl] at e1
  exact ⟨σ', e1, Inv_finA 25 a 0 (by omega) I, C'⟩
theorem c_reset {n : Nat} (h : CC a v σ) (h1 : 1 ≤ n) (h5 : n ≤ 5) : Rd (resetA a n) v (nI (a 0 0)) (mX6_reset (nI n) σ) := by
  rw [q_resets, within_y (lo := 1) (hi := 5) ⟨nI_le (a := 1) h1 (by omega), nI_le (b := 5) h5 (by omega)⟩, h.2.1]
  exact ⟨_, rfl, Inv_reset h.1 h1 h5, RepC_reset a v σ n⟩
theorem c_endangered (h : CC a v σ) (hs : s < a 0 0) : ∃ x, x ≤ a 1 s ∧ Rd a v (nI x) (mX6_endangered (nI s) σ) := by
  obtain ⟨I, C⟩ := id h
  have hs5 := h.s5 hs
  have h20 := (I.2.1 s hs5).1
  have key : ∀ (d f k x : Nat), k + d = a 1 s + 1 → 1 ≤ k → d < f → ∃ r, r ≤ x + d ∧ mX6_endangered_L15 f (nI s) (nI x) (nI k) σ = some (nI r, σ) := by
    intro d
    induction d with
    | zero =>
      intro f k x e hk hf
      obtain ⟨f, rfl⟩ : ∃ g, f = g + 1 := ⟨f - 1, by omega⟩
      rw [mX6_endangered_L15, q_made σ hs5, bnd_s, (C.2.1 s hs5).1, if_pos (nI_lt (by omega) (by omega))]
      exact ⟨x, by omega, rfl⟩
    | succ d ih =>
      intro f k x e hk hf
      obtain ⟨f, rfl⟩ : ∃ g, f = g + 1 := ⟨f - 1, by omega⟩
      obtain ⟨b1, e1, -⟩ := bes_L I C hs5 (show 20 * s + k - 1 < 100 by omega) (a 0 0) fu 0 (by omega) (by have := I.1.2; rw [fu_eq]; omega)
      obtain ⟨b2, g1, -⟩ := car_L I C (show 20 * s + k - 1 < 100 by omega) 25 fu 0 (by omega) (by rw [fu_eq]; omega)
      have e1' : mX6_isKnownBeside (nI s) (nI (20 * s + k - 1)) σ = some (bI b1, σ) := e1
      have g1' : mX3_carry (nI (20 * s + k - 1)) σ = some (bI b2, σ) := g1
      rw [mX6_endangered_L15, q_made σ hs5, bnd_s, (C.2.1 s hs5).1, if_neg (nI_nlt (by omega) (by omega)), q_idOf σ hk, bnd_s, e1', bnd_s, g1', bnd_s, nI_1, nI_1, if_bI, if_bI]
      obtain ⟨r1, q1, q2⟩ := ih f (k + 1) x (by omega) (by omega) (by omega)
      obtain ⟨r2, q3, q4⟩ := ih f (k + 1) (x + 1) (by omega) (by omega) (by omega)
      cases b1
      · rw [if_neg (by decide)]
        cases b2
        · rw [if_neg (by decide)]; exact ⟨r2, by omega, q4⟩
        · rw [if_pos rfl]; exact ⟨r1, by omega, q2⟩
      · rw [if_pos rfl]; exact ⟨r1, by omega, q2⟩
  obtain ⟨r, e1, e2⟩ := key (a 1 s) fu 1 0 (by omega) (by omega) (by rw [fu_eq]; omega)
  refine ⟨r, by omega, ?_⟩
  unfold mX6_endangered
  rw [cs_y h.2.1 h.1.1.2 hs, show (mX6_endangered_L15 fu (nI s) 0 1 σ) = _ from e2]
  exact h.rd
end CS
