/-! Refused calls; operations and their sizes. -/
section CS
variable {a : Ab} {v σ : St} {s t : Nat}
theorem notPr_l {n : Nat} {x y : Int32} (h : ¬ isS n x) : ¬ isPr n x y := fun q => h q.1
theorem notPr_r {n : Nat} {x y : Int32} (h : ¬ isS n y) : ¬ isPr n x y := fun q => h q.2.1
theorem notPr_e {n : Nat} {x : Int32} : ¬ isPr n x x := fun q => q.2.2 rfl
theorem c_reset6 (h : CC a v σ) : Rd a v (-1000000001) (mX6_reset 6 σ) := by
  unfold mX6_reset
  rw [q_within, bnd_s, if_b0, if_neg (by decide)]
  exact h.rd
theorem c_penDownE {x x2 x3 x4 x5 : Int32} (h : CC a v σ) (hx : ¬ isS (a 0 0) x) : Rd a v (-1000000001) (mX6_penDown x x2 x3 x4 x5 σ) := by
  unfold mX6_penDown
  exact c_bad h hx _
theorem c_penDownY (h : CC a v σ) (hs : s < a 0 0) : Rd a v (-1000000001) (mX6_penDown (nI s) 0 64 0 0 σ) := by
  unfold mX6_penDown
  rw [cs_y h.2.1 h.1.1.2 hs, q_within, bnd_s, if_b0, if_pos (by decide), q_within, bnd_s, if_b0, if_neg (by decide)]
  exact h.rd
theorem c_penDownL (h : CC a v σ) (hs : s < a 0 0) : Rd a v (-1000000001) (mX6_penDown (nI s) 0 0 0 4 σ) := by
  unfold mX6_penDown
  rw [cs_y h.2.1 h.1.1.2 hs, q_within, bnd_s, if_b0, if_pos (by decide), q_within, bnd_s, if_b0, if_pos (by decide), q_within, bnd_s, if_b0, if_pos (by decide), q_within, bnd_s, if_b0, if_neg (by decide)]
  exact h.rd
theorem c_penMoveE (h : CC a v σ) (hs : s < a 0 0) : Rd a v (-1000000001) (mX6_penMove (nI s) 0 (-9) σ) := by
  unfold mX6_penMove
  rw [cs_y h.2.1 h.1.1.2 hs, q_within, bnd_s, if_b0, if_pos (by decide), q_within, bnd_s, if_b0, if_neg (by decide)]
  exact h.rd
theorem c_penUpE {x : Int32} (h : CC a v σ) (hx : ¬ isS (a 0 0) x) : Rd a v (-1000000001) (mX6_penUp x σ) := by
  unfold mX6_penUp
  exact c_bad h hx _
theorem c_undoE {x : Int32} (h : CC a v σ) (hx : ¬ isS (a 0 0) x) : Rd a v (-1000000001) (mX6_undo x σ) := by
  unfold mX6_undo
  exact c_bad h hx _
theorem c_redoE {x : Int32} (h : CC a v σ) (hx : ¬ isS (a 0 0) x) : Rd a v (-1000000001) (mX6_redo x σ) := by
  unfold mX6_redo
  exact c_bad h hx _
theorem c_liftE {x y z : Int32} (h : CC a v σ) (hx : ¬ isS (a 0 0) x) : Rd a v (-1000000001) (mX6_lift x y z σ) := by
  unfold mX6_lift
  exact c_bad h hx _
theorem c_liftN {c j : Nat} {fn : Nat → Nat} (h : CC a v σ) (hs : s < a 0 0) (hL : BL a (knF a s) c fn) (hj : c ≤ j) (hj2 : j < 2 ^ 31) {y : Nat} (hy : y < 4) : Rd a v (-1000000002) (mX6_lift (nI s) (nI j) (nI y) σ) := by
  obtain ⟨σ', e1, e2, e3, h', e5⟩ := c_show (b := 0) h (by omega) (h.s5 hs) hL
  unfold mX6_lift mX0_strokeCount
  rw [cs_y h.2.1 h.1.1.2 hs, if_neg (nI_pos hj2), q_within, bnd_s, if_b0, if_pos (show (0 : Int32) ≤ nI y ∧ nI y ≤ 3 from ⟨nI_pos' (by omega), nI_le (b := 3) (by omega) (by omega)⟩), e1, bnv_s, bnd_s, show σ' (29 + 0) 0 = nI c from e3.1, if_neg (nI_nlt hj hj2)]
  exact h'.rd
theorem c_deliverE {x y : Int32} (h : CC a v σ) (hx : ¬ isPr (a 0 0) x y) : Rd a v (-1000000001) (mX6_deliver x y σ) := by
  unfold mX6_deliver
  exact c_badP h hx _
theorem c_loseE {x y : Int32} (h : CC a v σ) (hx : ¬ isPr (a 0 0) x y) : Rd a v (-1000000001) (mX6_lose x y σ) := by
  unfold mX6_lose
  exact c_badP h hx _
theorem c_waitingE {x y : Int32} (h : CC a v σ) (hx : ¬ isPr (a 0 0) x y) : Rd a v (-1000000001) (mX6_waiting x y σ) := by
  unfold mX6_waiting
  exact c_badP h hx _
theorem c_repairE {x y : Int32} (h : CC a v σ) (hx : ¬ isPr (a 0 0) x y) : Rd a v (-1000000001) (mX6_repair x y σ) := by
  unfold mX6_repair
  exact c_badP h hx _
theorem c_transferE {x y : Int32} (h : CC a v σ) (hx : ¬ isPr (a 0 0) x y) : Rd a v (-1000000001) (mX6_transfer x y σ) := by
  unfold mX6_transfer
  exact c_badP h hx _
theorem c_gapE {y z : Int32} (h : CC a v σ) (hs : s < a 0 0) (hx : ¬ isS (a 0 0) y) : Rd a v (-1000000001) (mX6_gap (nI s) y z σ) := by
  unfold mX6_gap
  rw [cs_y h.2.1 h.1.1.2 hs]
  exact c_bad h hx _
theorem c_operationE {x y z : Int32} (h : CC a v σ) (hx : ¬ isS (a 0 0) x) : Rd a v (-1000000001) (mX6_operation x y z σ) := by
  unfold mX6_operation
  exact c_bad h hx _
theorem c_strokeAtE {z : Int32} (h : CC a v σ) (hs : s < a 0 0) : Rd a v (-1000000001) (mX6_strokeAt (nI s) (-101) z σ) := by
  unfold mX6_strokeAt
  rw [cs_y h.2.1 h.1.1.2 hs, q_within, bnd_s, if_b0, if_neg (by decide)]
  exact h.rd
theorem c_digestE {x : Int32} (h : CC a v σ) (hx : ¬ isS (a 0 0) x) : Rd a v 0 (mX6_digest x σ) := by
  unfold mX6_digest
  exact c_bad h hx _
theorem c_areSameE {x y : Int32} (h : CC a v σ) (hx : ¬ isS (a 0 0) x) : Rd a v (-1000000001) (mX6_areSame x y σ) := by
  unfold mX6_areSame
  exact c_bad h hx _
theorem c_bestHelperE {x : Int32} (h : CC a v σ) (hx : ¬ isS (a 0 0) x) : Rd a v (-1000000001) (mX6_bestHelper x σ) := by
  unfold mX6_bestHelper
  exact c_bad h hx _
theorem c_endangeredE {x : Int32} (h : CC a v σ) (hx : ¬ isS (a 0 0) x) : Rd a v (-1000000001) (mX6_endangered x σ) := by
  unfold mX6_endangered
  exact c_bad h hx _
theorem c_opN {k : Nat} (h : CC a v σ) (hs : s < a 0 0) (k1 : 1 ≤ k) (k2 : a 1 s < k) (k3 : k < 2 ^ 31) : Rd a v (-1000000004) (mX6_operation (nI s) (nI k) 0 σ) := by
  have h5 := h.s5 hs
  unfold mX6_operation
  rw [cs_y h.2.1 h.1.1.2 hs, if_neg (show ¬ nI k < (1 : Int32) from nI_nlt (a := k) (b := 1) k1 k3), q_within, bnd_s, if_b0, if_pos (by decide), q_made σ h5, bnd_s, (h.2.2.1 s h5).1, if_neg (nI_ge k2 k3)]
  exact h.rd
theorem mk_of {k : Nat} (h : CC a v σ) (hs : s < 5) (k1 : 1 ≤ k) (k2 : k ≤ a 1 s) : mk a (20 * s + k - 1) := by
  have h20 := (h.1.2.1 s hs).1
  unfold mk
  rw [show (20 * s + k - 1) / 20 = s by omega]
  omega
theorem c_op0 {k : Nat} (h : CC a v σ) (hs : s < a 0 0) (k1 : 1 ≤ k) (k2 : k ≤ a 1 s) : Rd a v (nI (a 4 (20 * s + k - 1))) (mX6_operation (nI s) (nI k) 0 σ) := by
  have h5 := h.s5 hs
  have h20 := (h.1.2.1 s h5).1
  have hm := mk_of h h5 k1 k2
  unfold mX6_operation
  rw [cs_y h.2.1 h.1.1.2 hs, if_neg (show ¬ nI k < (1 : Int32) from nI_nlt (a := k) (b := 1) k1 (by omega)), q_within, bnd_s, if_b0, if_pos (by decide), q_made σ h5, bnd_s, (h.2.2.1 s h5).1, if_pos (nI_le k2 (by omega)), q_idOf σ k1, bnd_s, if_pos rfl, q_kind σ hm.1, bnd_s, (h.2.2.2.2.1 _ hm).1]
  exact h.rd
theorem c_op1 {k : Nat} (h : CC a v σ) (hs : s < a 0 0) (k1 : 1 ≤ k) (k2 : k ≤ a 1 s) : Rd a v (nI (a 5 (20 * s + k - 1))) (mX6_operation (nI s) (nI k) 1 σ) := by
  have h5 := h.s5 hs
  have h20 := (h.1.2.1 s h5).1
  have hm := mk_of h h5 k1 k2
  unfold mX6_operation
  rw [cs_y h.2.1 h.1.1.2 hs, if_neg (show ¬ nI k < (1 : Int32) from nI_nlt (a := k) (b := 1) k1 (by omega)), q_within, bnd_s, if_b0, if_pos (by decide), q_made σ h5, bnd_s, (h.2.2.1 s h5).1, if_pos (nI_le k2 (by omega)), q_idOf σ k1, bnd_s, if_neg (by decide), if_pos rfl, q_time σ hm.1, bnd_s, (h.2.2.2.2.1 _ hm).2.1]
  exact h.rd
theorem c_op3s {k : Nat} (h : CC a v σ) (hs : s < a 0 0) (k1 : 1 ≤ k) (k2 : k ≤ a 1 s) (h0 : a 4 (20 * s + k - 1) = 0) : Rd a v (nI (a 7 (20 * s + k - 1))) (mX6_operation (nI s) (nI k) 3 σ) := by
  have h5 := h.s5 hs
  have h20 := (h.1.2.1 s h5).1
  have hm := mk_of h h5 k1 k2
  unfold mX6_operation
  rw [cs_y h.2.1 h.1.1.2 hs, if_neg (show ¬ nI k < (1 : Int32) from nI_nlt (a := k) (b := 1) k1 (by omega)), q_within, bnd_s, if_b0, if_pos (by decide), q_made σ h5, bnd_s, (h.2.2.1 s h5).1, if_pos (nI_le k2 (by omega)), q_idOf σ k1, bnd_s, if_neg (by decide), if_neg (by decide), if_neg (by decide), if_pos rfl, q_isStroke σ hm.1, bnd_s, (h.2.2.2.2.1 _ hm).1, h0, decide_eq_true (show nI 0 = (0 : Int32) from rfl), bI_t, if_neg (by decide), q_pc (t := 0) (by omega) (show 20 * s + k - 1 < ns 0 from hm.1), bnd_s, show σ (6 + 5 * 0) (20 * s + k - 1) = _ from ((h.2.2.2.2.1 _ hm).2.2.2.2 h0).1]
  exact h.rd
theorem c_op3u {k : Nat} (h : CC a v σ) (hs : s < a 0 0) (k1 : 1 ≤ k) (k2 : k ≤ a 1 s) (h0 : a 4 (20 * s + k - 1) ≠ 0) : Rd a v (nI (a 6 (20 * s + k - 1) % 20 + 1)) (mX6_operation (nI s) (nI k) 3 σ) := by
  have h5 := h.s5 hs
  have h20 := (h.1.2.1 s h5).1
  have hm := mk_of h h5 k1 k2
  have h3 := (h.1.2.2.2.1 _ hm).2.2.1
  unfold mX6_operation
  rw [cs_y h.2.1 h.1.1.2 hs, if_neg (show ¬ nI k < (1 : Int32) from nI_nlt (a := k) (b := 1) k1 (by omega)), q_within, bnd_s, if_b0, if_pos (by decide), q_made σ h5, bnd_s, (h.2.2.1 s h5).1, if_pos (nI_le k2 (by omega)), q_idOf σ k1, bnd_s, if_neg (by decide), if_neg (by decide), if_neg (by decide), if_pos rfl, q_isStroke σ hm.1, bnd_s, (h.2.2.2.2.1 _ hm).1, decide_eq_false (nz0 (by omega) h0), bI_f, if_pos rfl, q_target σ hm.1, bnd_s, (h.2.2.2.2.1 _ hm).2.2.2.1 h0, q_numberOf σ ((h.1.2.2.2.1 _ hm).2.2.2.1 h0).1.1, bnd_s]
  exact h.rd
/-- a short step from the point before the k-th -/
def shP (v : St) (i k : Nat) : Prop := ((-4 : Int32) ≤ v 1 (8 * i + k) - v 1 (8 * i + (k - 1)) ∧ v 1 (8 * i + k) - v 1 (8 * i + (k - 1)) ≤ 3) ∧ ((-4 : Int32) ≤ v 2 (8 * i + k) - v 2 (8 * i + (k - 1)) ∧ v 2 (8 * i + k) - v 2 (8 * i + (k - 1)) ≤ 3)
theorem size_C (h : CC a v σ) {i : Nat} (hi : mk a i) (h0 : a 4 i = 0) : ∀ (d k : Nat) (x : Int32), k + d = a 7 i → 1 ≤ k → ∃ r, ∀ (v' : St) (σ : St) (a' : Ab), a' 4 i = 0 → a' 7 i = a 7 i → mk a' i → v' 1 = v 1 → v' 2 = v 2 → CC a' v' σ → ∀ f, d < f → mX1_sizeOf_L4 0 f (nI i) x (nI k) σ = some (r, σ) := by
  have hi1 := hi.1
  have hn : i < ns 0 := hi1
  have p8 := ((h.1.2.2.2.1 i hi).2.2.2.2.2 h0).2
  intro d
  induction d with
  | zero =>
    intro k x hd hk
    refine ⟨x, fun v' σ a' q1 q2 q3 q4 q5 h' f hf => ?_⟩
    obtain ⟨f, rfl⟩ : ∃ g, f = g + 1 := ⟨f - 1, by omega⟩
    rw [mX1_sizeOf_L4, q_get σ (show i < rl (6 + 5 * 0) from hi1), bnd_s, show σ (6 + 5 * 0) i = nI (a' 7 i) from ((h'.2.2.2.2.1 _ q3).2.2.2.2 q1).1, q2, if_pos (nI_le (by omega) (by omega))]
  | succ d ih =>
    intro k x hd hk
    obtain ⟨k', rfl⟩ : ∃ g, k = g + 1 := ⟨k - 1, by omega⟩
    obtain ⟨r1, e1⟩ := ih (k' + 1 + 1) (x + 1) (by omega) (by omega)
    obtain ⟨r2, e2⟩ := ih (k' + 1 + 1) (x + 2) (by omega) (by omega)
    have hdec := Classical.propDecidable (shP v i (k' + 1))
    refine ⟨if shP v i (k' + 1) then r1 else r2, fun v' σ a' q1 q2 q3 q4 q5 h' f hf => ?_⟩
    obtain ⟨f, rfl⟩ : ∃ g, f = g + 1 := ⟨f - 1, by omega⟩
    have g1 := e1 v' σ a' q1 q2 q3 q4 q5 h' f (by omega)
    have g2 := e2 v' σ a' q1 q2 q3 q4 q5 h' f (by omega)
    obtain ⟨c6, c7, c8⟩ := (h'.2.2.2.2.1 _ q3).2.2.2.2 q1
    obtain ⟨x1, y1⟩ := c8 (k' + 1) (by omega)
    obtain ⟨x2, y2⟩ := c8 k' (by omega)
    rw [q4] at x1 x2
    rw [q5] at y1 y2
    rw [mX1_sizeOf_L4, q_get σ (show i < rl (6 + 5 * 0) from hi1), bnd_s, show σ (6 + 5 * 0) i = nI (a' 7 i) from c6, q2, if_neg (nI_ge (by omega) (by omega)), nI_pred, q_x (by omega) hn (by omega), bnd_s, q_x (by omega) hn (by omega), bnd_s, show σ (9 + 5 * 0) (8 * i + (k' + 1)) = _ from x1, show σ (9 + 5 * 0) (8 * i + k') = _ from x2, q_within, bnd_s, if_b0]
    unfold mX1_sizeOf_b68 mX1_sizeOf_b69
    rw [nI_1]
    by_cases c1 : (-4 : Int32) ≤ v 1 (8 * i + (k' + 1)) - v 1 (8 * i + k') ∧ v 1 (8 * i + (k' + 1)) - v 1 (8 * i + k') ≤ 3
    · rw [if_pos c1, q_y (by omega) hn (by omega), bnd_s, q_y (by omega) hn (by omega), bnd_s, show σ (10 + 5 * 0) (8 * i + (k' + 1)) = _ from y1, show σ (10 + 5 * 0) (8 * i + k') = _ from y2, q_within, bnd_s, if_b0]
      by_cases c2 : (-4 : Int32) ≤ v 2 (8 * i + (k' + 1)) - v 2 (8 * i + k') ∧ v 2 (8 * i + (k' + 1)) - v 2 (8 * i + k') ≤ 3
      · rw [if_pos c2, if_neg (by decide), if_pos (show shP v i (k' + 1) from ⟨c1, c2⟩)]
        exact g1
      · rw [if_neg c2, if_pos rfl, if_neg (show ¬ shP v i (k' + 1) from fun q => c2 q.2)]
        exact g2
    · rw [if_neg c1, if_pos rfl, if_neg (show ¬ shP v i (k' + 1) from fun q => c1 q.1)]
      exact g2
/-- an operation's size is one number, whatever the sites know -/
theorem c_size (h : CC a v σ) {i : Nat} (hi : mk a i) : ∃ r, ∀ (v' : St) (σ : St) (a' : Ab), a' 4 i = a 4 i → a' 7 i = a 7 i → mk a' i → v' 1 = v 1 → v' 2 = v 2 → CC a' v' σ → mX4_sizeOf (nI i) σ = some (r, σ) := by
  have hi1 := hi.1
  obtain ⟨a1, a2, a3, a4, a5, a6⟩ := h.1.2.2.2.1 i hi
  by_cases h0 : a 4 i = 0
  · obtain ⟨r, e⟩ := size_C h hi h0 (a 7 i - 1) 1 4 (by have := (a6 h0).1; omega) (by omega)
    refine ⟨r, fun v' σ a' q1 q2 q3 q4 q5 h' => ?_⟩
    have e1 := e v' σ a' (q1.trans h0) q2 q3 q4 q5 h' fu (by have := (a6 h0).2; rw [fu_eq]; omega)
    rw [show nI 1 = (1 : Int32) from rfl] at e1
    unfold mX4_sizeOf mX1_sizeOf
    rw [q_get σ (show i < rl 1 from hi1), bnd_s, (h'.2.2.2.2.1 _ q3).1, q1, h0, if_pos (show nI 0 = (0 : Int32) from rfl), e1, bnd_s]
  · by_cases h3 : a 4 i = 3
    · refine ⟨4, fun v' σ a' q1 q2 q3 q4 q5 h' => ?_⟩
      unfold mX4_sizeOf
      rw [q_get σ (show i < rl 1 from hi1), bnd_s, (h'.2.2.2.2.1 _ q3).1, q1, h3, if_neg (by decide), if_pos (show nI 3 = (3 : Int32) from rfl)]
    · refine ⟨3, fun v' σ a' q1 q2 q3 q4 q5 h' => ?_⟩
      unfold mX4_sizeOf
      rw [q_get σ (show i < rl 1 from hi1), bnd_s, (h'.2.2.2.2.1 _ q3).1, q1, if_neg (nz0 (by omega) h0), if_neg (nz3 (by omega) h3)]
end CS
