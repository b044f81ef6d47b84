/-! What a call of the class answers, told without a reference. -/
def CC (a : Ab) (v σ : St) : Prop := Inv a v ∧ RepC a v σ
/-- the call answers, and P holds of the answer and of the state behind it -/
def Ok (P : Int32 → Ab → St → Prop) (o : Option (Int32 × St)) : Prop := ∃ r σ a v, o = some (r, σ) ∧ CC a v σ ∧ P r a v
/-- the call answers r, and the state behind it is a, v -/
def Rd (a : Ab) (v : St) (r : Int32) (o : Option (Int32 × St)) : Prop := ∃ σ, o = some (r, σ) ∧ CC a v σ
theorem Ok.b {P Q : Int32 → Ab → St → Prop} {o : Option (Int32 × St)} {f : Int32 → St → Option (Int32 × St)} (h : Ok P o) (k : ∀ r σ a v, CC a v σ → P r a v → Ok Q (f r σ)) : Ok Q (bnd o f) := by
  obtain ⟨r, σ, a, v, e, h1, h2⟩ := h
  rw [e, bnd_s]
  exact k r σ a v h1 h2
theorem Rd.k {a : Ab} {v : St} {r : Int32} {Q : Int32 → Ab → St → Prop} {o : Option (Int32 × St)} {f : Int32 → St → Option (Int32 × St)} (h : Rd a v r o) (k : ∀ σ, CC a v σ → Ok Q (f r σ)) : Ok Q (bnd o f) := by
  obtain ⟨σ, e, h1⟩ := h
  rw [e, bnd_s]
  exact k σ h1
theorem Rd.r {a a2 : Ab} {v v2 : St} {r r2 : Int32} {o : Option (Int32 × St)} {f : Int32 → St → Option (Int32 × St)} (h : Rd a v r o) (k : ∀ σ, CC a v σ → Rd a2 v2 r2 (f r σ)) : Rd a2 v2 r2 (bnd o f) := by
  obtain ⟨σ, e, h1⟩ := h
  rw [e, bnd_s]
  exact k σ h1
theorem Rd.ok {a : Ab} {v : St} {r : Int32} {P : Int32 → Ab → St → Prop} {o : Option (Int32 × St)} (h : Rd a v r o) (hp : P r a v) : Ok P o := by
  obtain ⟨σ, e, h1⟩ := h
  exact ⟨r, σ, a, v, e, h1, hp⟩
theorem Ok.w {P Q : Int32 → Ab → St → Prop} {o : Option (Int32 × St)} (h : Ok P o) (k : ∀ r a v, P r a v → Q r a v) : Ok Q o := by
  obtain ⟨r, σ, a, v, e, h1, h2⟩ := h
  exact ⟨r, σ, a, v, e, h1, k r a v h2⟩
theorem CC.rd {a : Ab} {v σ : St} {r : Int32} (h : CC a v σ) : Rd a v r (some (r, σ)) := ⟨σ, rfl, h⟩
theorem CC.z1 {a : Ab} {v σ : St} (h : CC a v σ) : Rd a v 1 (rz 1 σ) := ⟨σ, rfl, h⟩
theorem if_bI {α : Sort _} {b : Bool} {A B : α} : (if bI b = 0 then A else B) = if b = true then B else A := by
  cases b
  · rw [bI_f, if_pos rfl, if_neg (by decide)]
  · rw [bI_t, if_neg (by decide), if_pos rfl]
theorem notS_n {n : Nat} (h5 : n ≤ 5) : ¬ isS n (nI n) := by
  rintro ⟨s, h1, h2⟩
  have := (nI_eq (by omega) (by omega)).mp h2
  omega
theorem notS_m {n : Nat} (h5 : n ≤ 5) : ¬ isS n (-1) := by
  rintro ⟨s, h1, h2⟩
  exact nI_m1 (n := s) (by omega) h2.symm
section CS
variable {a : Ab} {v σ : St} {s t : Nat}
theorem CC.s5 (h : CC a v σ) (hs : s < a 0 0) : s < 5 := by have := h.1.1.2; omega
/-- a call refused for its site -/
theorem c_bad {F : St → Option (Int32 × St)} {x : Int32} (h : CC a v σ) (hx : ¬ isS (a 0 0) x) (e : Int32) : Rd a v e (bnd (mX6_isSite x σ) (fun r s => if r = 0 then some (e, s) else F s)) := by
  rw [cs_n (A := fun s => some (e, s)) h.2.1 h.1.1.1 h.1.1.2 hx]
  exact h.rd
theorem c_badP {F : St → Option (Int32 × St)} {x y : Int32} (h : CC a v σ) (hx : ¬ isPr (a 0 0) x y) (e : Int32) : Rd a v e (bnd (mX6_areTwoSites x y σ) (fun r s => if r = 0 then some (e, s) else F s)) := by
  rw [cp_n (A := fun s => some (e, s)) h.2.1 h.1.1.1 h.1.1.2 hx]
  exact h.rd
theorem c_sites (h : CC a v σ) : Rd a v (nI (a 0 0)) (mX6_sites σ) := by
  unfold mX6_sites
  rw [h.2.1]
  exact h.rd
theorem c_waiting (h : CC a v σ) (hs : s < a 0 0) (ht : t < a 0 0) (hst : s ≠ t) : Rd a v (nI (a 12 (5 * s + t))) (mX6_waiting (nI s) (nI t) σ) := by
  have h5 := h.1.1.2
  unfold mX6_waiting
  rw [cp_y h.2.1 h5 hs ht hst, q_cnt σ (by omega) (by omega), bnd_s, (h.2.2.2.2.2.2 _ (show 5 * s + t < 25 by omega)).1]
  exact h.rd
theorem c_knows {k : Nat} (h : CC a v σ) (hs : s < a 0 0) (ht : t < a 0 0) (k1 : 1 ≤ k) (k2 : k ≤ a 1 t) : Rd a v (bI (knF a s (20 * t + k - 1))) (mX6_knows (nI s) (nI t) (nI k) σ) := by
  have h5 := h.1.1.2
  have h20 := (h.1.2.1 t (by omega)).1
  unfold mX6_knows
  rw [cs_y h.2.1 h5 hs, cs_y h.2.1 h5 ht, if_pos (show (1 : Int32) ≤ nI k from nI_le (a := 1) k1 (by omega)), q_made σ (by omega), bnd_s, (h.2.2.1 t (by omega)).1, if_pos (nI_le k2 (by omega)), q_idOf σ k1, bnd_s, C_has h.1 h.2 (by omega) (by omega), bnd_s, if_bI]
  cases knF a s (20 * t + k - 1)
  · rw [if_neg (by decide)]; exact h.rd
  · rw [if_pos rfl]; exact h.rd
theorem c_knowsN {k : Nat} (h : CC a v σ) (hs : s < a 0 0) (ht : t < a 0 0) (k1 : 1 ≤ k) (k2 : a 1 t < k) (k3 : k < 2 ^ 31) : Rd a v (-1000000004) (mX6_knows (nI s) (nI t) (nI k) σ) := by
  have h5 := h.1.1.2
  unfold mX6_knows
  rw [cs_y h.2.1 h5 hs, cs_y h.2.1 h5 ht, if_pos (show (1 : Int32) ≤ nI k from nI_le (a := 1) k1 (by omega)), q_made σ (by omega), bnd_s, (h.2.2.1 t (by omega)).1, if_neg (nI_ge k2 (by omega))]
  exact h.rd
theorem c_info0 (h : CC a v σ) (hs : s < a 0 0) : Rd a v (nI (a 2 s)) (mX6_siteInfo (nI s) 0 σ) := by
  have h5 := h.1.1.2
  unfold mX6_siteInfo
  rw [cs_y h.2.1 h5 hs, if_pos rfl, q_get σ (show s < rl 26 by show s < 5; omega), bnd_s, (h.2.2.1 s (by omega)).2.1]
  exact h.rd
theorem c_info1 (h : CC a v σ) (hs : s < a 0 0) : Rd a v (nI (cntK a s 100)) (mX6_siteInfo (nI s) 1 σ) := by
  have h5 := h.1.1.2
  unfold mX6_siteInfo
  rw [cs_y h.2.1 h5 hs, if_neg (by decide), if_pos rfl]
  unfold mX2_countOf
  rw [show (mX2_countOf_L4 0 fu (nI s) 0 0 σ) = _ from q_countOf h.1 h.2 (by omega) 100 fu 0 (by omega) (by rw [fu_eq]; omega), bnd_s]
  exact h.rd
theorem c_info2 (h : CC a v σ) (hs : s < a 0 0) : Rd a v (nI (a 1 s)) (mX6_siteInfo (nI s) 2 σ) := by
  have h5 := h.1.1.2
  unfold mX6_siteInfo
  rw [cs_y h.2.1 h5 hs, if_neg (by decide), if_neg (by decide), if_pos rfl, q_made σ (by omega), bnd_s, (h.2.2.1 s (by omega)).1]
  exact h.rd
theorem c_info4 (h : CC a v σ) (hs : s < a 0 0) : Rd a v (nI (a 10 s)) (mX6_siteInfo (nI s) 4 σ) := by
  have h5 := h.1.1.2
  unfold mX6_siteInfo
  rw [cs_y h.2.1 h5 hs, if_neg (by decide), if_neg (by decide), if_neg (by decide), if_neg (by decide), if_pos rfl]
  unfold mX1_pointCount
  rw [q_get σ (show s < rl (6 + 5 * 1) by show s < 5; omega), bnd_s, bnd_s, show σ (6 + 5 * 1) s = nI (a 10 s) from (h.2.2.1 s (by omega)).2.2.1]
  exact h.rd
theorem c_infoE {x y : Int32} (h : CC a v σ) (hx : ¬ isS (a 0 0) x) : Rd a v (-1000000001) (mX6_siteInfo x y σ) := by
  unfold mX6_siteInfo
  exact c_bad h hx _
theorem c_infoM (h : CC a v σ) (hs : s < a 0 0) : Rd a v (-1000000001) (mX6_siteInfo (nI s) (-1) σ) := by
  unfold mX6_siteInfo
  rw [cs_y h.2.1 h.1.1.2 hs, if_neg (by decide), if_neg (by decide), if_neg (by decide), if_neg (by decide), if_neg (by decide)]
  exact h.rd
/-- a list of what is visible for who knows K, in its order -/
def BL (a : Ab) (K : Nat → Bool) (c : Nat) (fn : Nat → Nat) : Prop := Lst (okl a K) (vis a K) fn c
theorem shB_at (h : CC a v σ) (hs : s < 5) : shB a (knF a s) 0 s σ := shB_of (g := 0) (s := s) h.1 h.2 (fun i q => knF_mk h.1 hs q) (fun i hi => by rw [show 16 + 0 = 16 from rfl, h.2.2.2.1 _ (by omega)]; exact knF_val h.1 hs hi)
theorem ex_BL (h : CC a v σ) (hs : s < 5) : ∃ c fn, BL a (knF a s) c fn ∧ c ≤ 100 := by
  obtain ⟨σ', c, fn, e1, e2, e3, e4, e5⟩ := q_show (b := 0) (by omega) (by omega) hs (shB_at h hs)
  exact ⟨c, fn, e4, e5⟩
theorem BL.one {K : Nat → Bool} {c c' : Nat} {fn fn' : Nat → Nat} (h : BL a K c fn) (h' : BL a K c' fn') : c = c' ∧ ∀ p, p < c → fn p = fn' p := Lst_one okl_irr (fun _ _ _ => okl_trans) h h'
theorem BL.mk {c p : Nat} {fn : Nat → Nat} (hL : BL a (knF a s) c fn) (I : Inv a v) (hs : s < 5) (hp : p < c) : mk a (fn p) ∧ a 4 (fn p) = 0 ∧ knF a s (fn p) = true := ⟨knF_mk I hs (hL.2.1 p hp).1, (hL.2.1 p hp).2.1, (hL.2.1 p hp).1⟩
theorem c_show {b c : Nat} {fn : Nat → Nat} (h : CC a v σ) (hb : b < 2) (hs : s < 5) (hL : BL a (knF a s) c fn) : ∃ σ', mX0_show b 0 (nI s) σ = some σ' ∧ agB b σ σ' ∧ hsB a (knF a s) b c fn σ' ∧ CC a v σ' ∧ c ≤ 100 := by
  obtain ⟨σ', c', fn', e1, e2, e3, e4, e5⟩ := q_show (b := b) (by omega) hb hs (shB_at h hs)
  obtain ⟨hc, hf⟩ := BL.one e4 hL
  subst hc
  exact ⟨σ', e1, e2, ⟨e3.1, fun q hq => by rw [e3.2.1 q hq, hf q hq], e3.2.2⟩, ⟨h.1, RepC_ag h.2 (agC_of hb e2)⟩, e5⟩
theorem c_info3 {c : Nat} {fn : Nat → Nat} (h : CC a v σ) (hs : s < a 0 0) (hL : BL a (knF a s) c fn) : Rd a v (nI c) (mX6_siteInfo (nI s) 3 σ) := by
  have h5 := h.1.1.2
  obtain ⟨σ', e1, e2, e3, h', e5⟩ := c_show (b := 0) h (by omega) (by omega) hL
  unfold mX6_siteInfo
  rw [cs_y h.2.1 h5 hs, if_neg (by decide), if_neg (by decide), if_neg (by decide), if_pos rfl]
  unfold mX0_strokeCount
  rw [e1, bnv_s, bnd_s, show σ' (29 + 0) 0 = nI c from e3.1]
  exact h'.rd
theorem c_st39 {c j : Nat} {fn : Nat → Nat} {w r : Int32} (h : CC a v σ) (hs : s < 5) (hL : BL a (knF a s) c fn) (hj : j < c) (hw : ∀ σ', hsB a (knF a s) 0 c fn σ' → CC a v σ' → mX6_strokeValue (nI (fn j)) w σ' = some (r, σ')) : Rd a v r (mX6_stroke_b39 (nI s) (nI j) w 0 σ) := by
  obtain ⟨σ', e1, e2, e3, h', e5⟩ := c_show (b := 0) h (by omega) hs hL
  unfold mX6_stroke_b39 mX0_strokeCount mX0_strokeIn
  rw [e1, bnv_s, bnd_s, show σ' (29 + 0) 0 = nI c from e3.1, if_pos (nI_lt hj (by omega)), q_get σ' (show j < rl (22 + 3 * 0) by show j < 100; omega), bnd_s, bnd_s, show σ' (22 + 3 * 0) j = nI (fn j) from e3.2.1 j hj, if_pos rfl, hw σ' e3 h', bnd_s]
  exact h'.rd
theorem c_stroke {j w : Nat} {r : Int32} (h : CC a v σ) (hs : s < a 0 0) (hj : j < 2 ^ 31) (hw : w ≤ 4) (hr : Rd a v r (mX6_stroke_b39 (nI s) (nI j) (nI w) 0 σ)) : Rd a v r (mX6_stroke (nI s) (nI j) (nI w) σ) := by
  unfold mX6_stroke
  rw [q_within, bnd_s, cs_y h.2.1 h.1.1.2 hs, if_neg (nI_pos hj), decide_eq_false (fun q : (10 : Int32) ≤ nI w ∧ nI w ≤ 25 => nI_ge (a := w) (b := 10) (by omega) (by omega) q.1), bI_f, if_pos rfl, q_within, bnd_s, decide_eq_true (show (0 : Int32) ≤ nI w ∧ nI w ≤ 4 from ⟨nI_pos' (by omega), nI_le (b := 4) hw (by omega)⟩), bI_t, if_neg (by decide)]
  exact hr
theorem c_stroke0 {c j : Nat} {fn : Nat → Nat} (h : CC a v σ) (hs : s < a 0 0) (hL : BL a (knF a s) c fn) (hj : j < c) (hc : c ≤ 100) : Rd a v (nI (fn j / 20)) (mX6_stroke (nI s) (nI j) 0 σ) := by
  refine c_stroke (w := 0) h hs (by omega) (by omega) (c_st39 h (h.s5 hs) hL hj (fun σ' e h' => ?_))
  unfold mX6_strokeValue
  rw [if_pos (by decide), q_authorOf _ (hL.mk h.1 (h.s5 hs) hj).1.1, bnd_s]
theorem c_stroke1 {c j : Nat} {fn : Nat → Nat} (h : CC a v σ) (hs : s < a 0 0) (hL : BL a (knF a s) c fn) (hj : j < c) (hc : c ≤ 100) : Rd a v (nI (fn j % 20 + 1)) (mX6_stroke (nI s) (nI j) 1 σ) := by
  refine c_stroke (w := 1) h hs (by omega) (by omega) (c_st39 h (h.s5 hs) hL hj (fun σ' e h' => ?_))
  unfold mX6_strokeValue
  rw [if_neg (by decide), if_pos (by decide), q_numberOf _ (hL.mk h.1 (h.s5 hs) hj).1.1, bnd_s]
theorem c_stroke2 {c j : Nat} {fn : Nat → Nat} (h : CC a v σ) (hs : s < a 0 0) (hL : BL a (knF a s) c fn) (hj : j < c) (hc : c ≤ 100) : Rd a v (nI (lyK a (knF a s) (fn j))) (mX6_stroke (nI s) (nI j) 2 σ) := by
  obtain ⟨hm, h0, -⟩ := hL.mk h.1 (h.s5 hs) hj
  refine c_stroke (w := 2) h hs (by omega) (by omega) (c_st39 h (h.s5 hs) hL hj (fun σ' e h' => ?_))
  unfold mX6_strokeValue mX0_layerOf
  rw [if_neg (by decide), if_neg (by decide), if_pos (by decide), q_get σ' (show fn j < rl (21 + 3 * 0) from hm.1), bnd_s, bnd_s, show σ' (21 + 3 * 0) (fn j) = _ from e.2.2.2 _ hm h0]
theorem c_stroke4 {c j : Nat} {fn : Nat → Nat} (h : CC a v σ) (hs : s < a 0 0) (hL : BL a (knF a s) c fn) (hj : j < c) (hc : c ≤ 100) : Rd a v (nI (a 7 (fn j))) (mX6_stroke (nI s) (nI j) 4 σ) := by
  obtain ⟨hm, h0, -⟩ := hL.mk h.1 (h.s5 hs) hj
  refine c_stroke (w := 4) h hs (by omega) (by omega) (c_st39 h (h.s5 hs) hL hj (fun σ' e h' => ?_))
  unfold mX6_strokeValue
  rw [if_neg (by decide), if_neg (by decide), if_neg (by decide), if_neg (by decide), q_pc (t := 0) (by omega) (show fn j < ns 0 from hm.1), bnd_s, show σ' (6 + 5 * 0) (fn j) = _ from ((h'.2.2.2.2.1 _ hm).2.2.2.2 h0).1]
theorem c_strokeN {c j : Nat} {fn : Nat → Nat} (h : CC a v σ) (hs : s < a 0 0) (hL : BL a (knF a s) c fn) (hj : c ≤ j) (hj2 : j < 2 ^ 31) : Rd a v (-1000000004) (mX6_stroke (nI s) (nI j) 0 σ) := by
  obtain ⟨σ', e1, e2, e3, h', e5⟩ := c_show (b := 0) h (by omega) (h.s5 hs) hL
  refine c_stroke (w := 0) h hs (by omega) (by omega) ?_
  unfold mX6_stroke_b39 mX0_strokeCount
  rw [e1, bnv_s, bnd_s, show σ' (29 + 0) 0 = nI c from e3.1, if_neg (nI_nlt hj (by omega))]
  exact h'.rd
theorem c_strokeE {x y : Int32} (h : CC a v σ) (hx : ¬ isS (a 0 0) x) : Rd a v (-1000000001) (mX6_stroke x y 0 σ) := by
  unfold mX6_stroke
  rw [q_within, bnd_s]
  exact c_bad h hx _
end CS
