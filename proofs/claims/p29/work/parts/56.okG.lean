/-! What a new operation changes in what its site sees. -/
/-- each operation's time is 1 or more -/
def Ie (a : Ab) : Prop := ∀ i, mk a i → 1 ≤ a 5 i
/-- nothing was lost: what a site made, each other one knows, or it is on its way -/
def Conv (a : Ab) : Prop := ∀ s t i, s < a 0 0 → t < a 0 0 → s ≠ t → mk a i → i / 20 = s → knF a t i = true ∨ ∃ m, m < a 12 (5 * s + t) ∧ a 13 (10 * (5 * s + t) + m) = i % 20 + 1
section NW
variable {a : Ab} {v σ : St} {s t kd tg ly ct pl : Nat}
theorem nw_kn (hs : s < 5) (ht : t < 5) (hlt : a 1 s < 20) (i : Nat) : knF (newA a s kd tg ly ct pl) t i = true ↔ knF a t i = true ∨ (t = s ∧ i = 20 * s + a 1 s) := by
  rw [knF_iff, knF_iff, nA3]
  by_cases hi : i < 100
  · by_cases e : 100 * t + i = 100 * s + (20 * s + a 1 s)
    · rw [if_pos e]
      exact ⟨fun _ => Or.inr ⟨by omega, by omega⟩, fun _ => ⟨hi, rfl⟩⟩
    · rw [if_neg e]
      exact ⟨Or.inl, fun q => q.elim id (fun z => absurd (by rw [z.1, z.2]) e)⟩
  · exact ⟨fun q => absurd q.1 hi, fun q => q.elim (fun z => absurd z.1 hi) (fun z => absurd (by omega) hi)⟩
theorem nw_kn2 (hs : s < 5) (ht : t < 5) (hlt : a 1 s < 20) {i : Nat} (h : t ≠ s ∨ i ≠ 20 * s + a 1 s) : knF (newA a s kd tg ly ct pl) t i = knF a t i := by
  rw [Bool.eq_iff_iff, nw_kn hs ht hlt]
  exact ⟨fun q => q.elim id (fun z => h.elim (fun w => absurd z.1 w) (fun w => absurd z.2 w)), Or.inl⟩
theorem nw_new (hs : s < 5) (hlt : a 1 s < 20) : knF (newA a s kd tg ly ct pl) s (20 * s + a 1 s) = true := (nw_kn hs hs hlt _).mpr (Or.inr ⟨rfl, rfl⟩)
theorem nw_late (I : Inv a v) (hs : s < 5) (P : plOk a s pl) {p : Nat} (h1 : pl ≤ p) (h2 : p < tot a) : knF a s (a 9 p) = false := by
  rw [Bool.eq_false_iff]
  intro q
  obtain ⟨q1, q2⟩ := knF_iff.mp q
  have q3 := ((I.2.2.1 s _ hs q1).2 q2).2.2
  have q4 := P.2.1 p h1 h2
  unfold aft at q4
  omega
theorem nw_ne (I : Inv a v) (hs : s < 5) (hlt : a 1 s < 20) {p : Nat} (h2 : p < tot a) : a 9 p ≠ 20 * s + a 1 s := fun e => nA_not (a := a) hs hlt (by rw [← e]; exact I.2.2.2.2.2.1.1 p h2)
/-- what was behind the new one's place is not known: it changes nothing -/
theorem und_tail (I : Inv a v) (hs : s < 5) (P : plOk a s pl) (i : Nat) : ∀ d, pl + d ≤ tot a → undF a (knF a s) (pl + d) i = undF a (knF a s) pl i ∧ layF a (knF a s) (pl + d) i = layF a (knF a s) pl i := by
  intro d
  induction d with
  | zero => intro _; exact ⟨rfl, rfl⟩
  | succ d ih =>
    intro h
    have f := nw_late I hs P (show pl ≤ pl + d by omega) (by omega)
    obtain ⟨e1, e2⟩ := ih (by omega)
    rw [← Nat.add_assoc, undF, layF, f, if_neg (fun q => Bool.false_ne_true q.1), if_neg (fun q => Bool.false_ne_true q.1), if_neg (fun q => Bool.false_ne_true q.1)]
    exact ⟨e1, e2⟩
theorem und_head (I : Inv a v) (hs : s < 5) (hlt : a 1 s < 20) (P : plOk a s pl) {i : Nat} (hi : i ≠ 20 * s + a 1 s) : ∀ p, p ≤ pl → undF (newA a s kd tg ly ct pl) (knF (newA a s kd tg ly ct pl) s) p i = undF a (knF a s) p i ∧ layF (newA a s kd tg ly ct pl) (knF (newA a s kd tg ly ct pl) s) p i = layF a (knF a s) p i := by
  intro p
  induction p with
  | zero =>
    intro _
    refine ⟨rfl, ?_⟩
    unfold layF
    rw [nA8, if_neg hi]
  | succ p ih =>
    intro h
    obtain ⟨e1, e2⟩ := ih (by omega)
    have h9 : newA a s kd tg ly ct pl 9 p = a 9 p := by rw [nA9]; unfold insF; rw [if_pos (by omega)]
    have hne := nw_ne I hs hlt (p := p) (by have := P.1; omega)
    unfold undF layF
    rw [h9, nw_kn2 hs hs hlt (Or.inr hne), nA6, nA4, nA8, if_neg hne, if_neg hne, if_neg hne, e1, e2]
    exact ⟨rfl, rfl⟩
theorem und_back (I : Inv a v) (hs : s < 5) (hlt : a 1 s < 20) (P : plOk a s pl) (i : Nat) : ∀ d, pl + d ≤ tot a → undF (newA a s kd tg ly ct pl) (knF (newA a s kd tg ly ct pl) s) (pl + 1 + d) i = undF (newA a s kd tg ly ct pl) (knF (newA a s kd tg ly ct pl) s) (pl + 1) i ∧ layF (newA a s kd tg ly ct pl) (knF (newA a s kd tg ly ct pl) s) (pl + 1 + d) i = layF (newA a s kd tg ly ct pl) (knF (newA a s kd tg ly ct pl) s) (pl + 1) i := by
  intro d
  induction d with
  | zero => intro _; exact ⟨rfl, rfl⟩
  | succ d ih =>
    intro h
    obtain ⟨e1, e2⟩ := ih (by omega)
    have h9 : newA a s kd tg ly ct pl 9 (pl + 1 + d) = a 9 (pl + d) := by
      rw [nA9]
      unfold insF
      rw [if_neg (by omega), if_neg (by omega)]
      congr 1
      omega
    have f : knF (newA a s kd tg ly ct pl) s (a 9 (pl + d)) = false := by
      rw [nw_kn2 hs hs hlt (Or.inr (nw_ne I hs hlt (by omega)))]
      exact nw_late I hs P (by omega) (by omega)
    rw [← Nat.add_assoc, undF, layF, h9, f, if_neg (fun q => Bool.false_ne_true q.1), if_neg (fun q => Bool.false_ne_true q.1), if_neg (fun q => Bool.false_ne_true q.1)]
    exact ⟨e1, e2⟩
theorem nw_und (I : Inv a v) (hs : s < 5) (hlt : a 1 s < 20) (P : plOk a s pl) {i : Nat} (hi : i ≠ 20 * s + a 1 s) : undF (newA a s kd tg ly ct pl) (knF (newA a s kd tg ly ct pl) s) (tot (newA a s kd tg ly ct pl)) i = (if tg = i ∧ kd = 1 then true else if tg = i ∧ kd = 2 then false else undF a (knF a s) (tot a) i) ∧ layF (newA a s kd tg ly ct pl) (knF (newA a s kd tg ly ct pl) s) (tot (newA a s kd tg ly ct pl)) i = (if tg = i ∧ kd = 3 then ly else layF a (knF a s) (tot a) i) := by
  have hp := P.1
  obtain ⟨t1, t2⟩ := und_tail I hs P i (tot a - pl) (by omega)
  obtain ⟨h1, h2⟩ := und_head (kd := kd) (tg := tg) (ly := ly) (ct := ct) I hs hlt P hi pl (Nat.le_refl _)
  obtain ⟨b1, b2⟩ := und_back (kd := kd) (tg := tg) (ly := ly) (ct := ct) I hs hlt P i (tot a - pl) (by omega)
  rw [show pl + (tot a - pl) = tot a by omega] at t1 t2
  rw [show pl + 1 + (tot a - pl) = tot a + 1 by omega] at b1 b2
  have h9 : newA a s kd tg ly ct pl 9 pl = 20 * s + a 1 s := by
    rw [nA9]
    unfold insF
    rw [if_neg (by omega), if_pos rfl]
  rw [nA_tot hs, b1, b2, undF, layF, h9, nw_new hs hlt, nA6, nA4, nA8, if_pos rfl, if_pos rfl, if_pos rfl, h1, h2, t1, t2]
  refine ⟨?_, ?_⟩
  · by_cases c1 : tg = i ∧ kd = 1
    · rw [if_pos ⟨rfl, c1⟩, if_pos c1]
    · rw [if_neg (fun q => c1 q.2), if_neg c1]
      by_cases c2 : tg = i ∧ kd = 2
      · rw [if_pos ⟨rfl, c2⟩, if_pos c2]
      · rw [if_neg (fun q => c2 q.2), if_neg c2]
  · by_cases c1 : tg = i ∧ kd = 3
    · rw [if_pos ⟨rfl, c1⟩, if_pos c1]
    · rw [if_neg (fun q => c1 q.2), if_neg c1]
/-- behind an UNDO of tg its site sees all but tg, in the same layers -/
theorem nw_vis1 (I : Inv a v) (hs : s < 5) (hlt : a 1 s < 20) (P : plOk a s pl) (i : Nat) : vis (newA a s 1 tg ly ct pl) (knF (newA a s 1 tg ly ct pl) s) i ↔ vis a (knF a s) i ∧ i ≠ tg := by
  by_cases hi : i = 20 * s + a 1 s
  · have n : ¬ vis a (knF a s) i := fun q => nA_not (a := a) hs hlt (by rw [← hi]; exact knF_mk I hs q.1)
    refine ⟨fun q => ?_, fun q => absurd q.1 n⟩
    have := q.2.1
    rw [nA4, if_pos hi] at this
    omega
  · unfold vis
    rw [(nw_und I hs hlt P hi).1, nw_kn2 hs hs hlt (Or.inr hi), nA4, if_neg hi]
    by_cases c : tg = i
    · rw [if_pos ⟨c, rfl⟩]
      exact ⟨fun q => Bool.noConfusion q.2.2, fun q => absurd c.symm q.2⟩
    · rw [if_neg (fun q => c q.1), if_neg (fun q => c q.1)]
      exact ⟨fun q => ⟨q, fun z => c z.symm⟩, fun q => q.1⟩
theorem nw_vis2 (I : Inv a v) (hs : s < 5) (hlt : a 1 s < 20) (P : plOk a s pl) (hk : knF a s tg = true) (h0 : a 4 tg = 0) (i : Nat) : vis (newA a s 2 tg ly ct pl) (knF (newA a s 2 tg ly ct pl) s) i ↔ vis a (knF a s) i ∨ i = tg := by
  by_cases hi : i = 20 * s + a 1 s
  · have n : ¬ mk a i := fun q => nA_not (a := a) hs hlt (by rw [← hi]; exact q)
    refine ⟨fun q => ?_, fun q => ?_⟩
    · have := q.2.1
      rw [nA4, if_pos hi] at this
      omega
    · rcases q with q | q
      · exact absurd (knF_mk I hs q.1) n
      · exact absurd (knF_mk I hs (by rw [q]; exact hk)) n
  · unfold vis
    rw [(nw_und I hs hlt P hi).1, nw_kn2 hs hs hlt (Or.inr hi), nA4, if_neg hi]
    by_cases c : tg = i
    · rw [if_neg (fun q => by omega), if_pos ⟨c, rfl⟩, ← c]
      exact ⟨fun _ => Or.inr rfl, fun _ => ⟨hk, h0, rfl⟩⟩
    · rw [if_neg (fun q => c q.1), if_neg (fun q => c q.1)]
      exact ⟨Or.inl, fun q => q.elim id (fun z => absurd z.symm c)⟩
theorem nw_ly (I : Inv a v) (hs : s < 5) (hlt : a 1 s < 20) (P : plOk a s pl) (h3 : kd ≠ 3) {i : Nat} (hi : i ≠ 20 * s + a 1 s) : lyK (newA a s kd tg ly ct pl) (knF (newA a s kd tg ly ct pl) s) i = lyK a (knF a s) i := by
  unfold lyK
  rw [(nw_und I hs hlt P hi).2, if_neg (fun q => h3 q.2)]
theorem nw_okl (I : Inv a v) (hs : s < 5) (hlt : a 1 s < 20) (P : plOk a s pl) (h3 : kd ≠ 3) {i j : Nat} (hi : i ≠ 20 * s + a 1 s) (hj : j ≠ 20 * s + a 1 s) : okl (newA a s kd tg ly ct pl) (knF (newA a s kd tg ly ct pl) s) i j ↔ okl a (knF a s) i j := by
  unfold okl bf
  rw [nw_ly I hs hlt P h3 hi, nw_ly I hs hlt P h3 hj, nA5, nA5, if_neg hi, if_neg hj]
/-- a list goes over to another order and other members that agree with its own -/
theorem Lst_move {lt lt' : Nat → Nat → Prop} {V V' : Nat → Prop} {f : Nat → Nat} {c : Nat} (h : Lst lt V f c) (hV : ∀ x, V x ↔ V' x) (hl : ∀ x y, V x → V y → lt x y → lt' x y) : Lst lt' V' f c :=
  ⟨fun p q hp hq => hl _ _ (h.2.1 p (by omega)) (h.2.1 q hq) (h.1 p q hp hq), fun p hp => (hV _).mp (h.2.1 p hp), fun x hx => h.2.2 x ((hV x).mpr hx)⟩
/-- with one more member a list is longer by one -/
theorem Lst_more {lt : Nat → Nat → Prop} {V V' : Nat → Prop} {f g : Nat → Nat} {c d x : Nat} (irr : ∀ x, ¬ lt x x) (tr : ∀ x y z, lt x y → lt y z → lt x z) (h : Lst lt V f c) (h' : Lst lt V' g d) (hx : ∀ y, V y → lt x y ∨ lt y x) (hV : ∀ y, V' y ↔ V y ∨ y = x) : d = c + 1 := by
  obtain ⟨j, hj, hm⟩ := pk_least (fun j => j ≤ c ∧ ∀ p, j ≤ p → p < c → lt x (f p)) ⟨c, Nat.le_refl _, fun p h1 h2 => by omega⟩
  have ins := Lst_ins tr h hx hj.1 hj.2 (fun h0 q => hm (j - 1) (by omega) ⟨by omega, fun p h1 h2 => by
    by_cases e : p = j - 1
    · rw [e]; exact q
    · exact hj.2 p (by omega) h2⟩)
  exact (Lst_one irr tr h' (Lst_cong ins (fun y => (hV y).symm))).1
theorem nw_cnt1 {c c' : Nat} {fn fn' : Nat → Nat} (I : Inv a v) (hs : s < 5) (hlt : a 1 s < 20) (P : plOk a s pl) (hL : BL a (knF a s) c fn) (hL' : BL (newA a s 1 tg ly ct pl) (knF (newA a s 1 tg ly ct pl) s) c' fn') (hv : vis a (knF a s) tg) : c = c' + 1 := by
  have nm : ∀ i, vis a (knF a s) i → i ≠ 20 * s + a 1 s := fun i q e => nA_not (a := a) hs hlt (by rw [← e]; exact knF_mk I hs q.1)
  have hL2 : Lst (okl a (knF a s)) (fun i => vis a (knF a s) i ∧ i ≠ tg) fn' c' := Lst_move hL' (nw_vis1 I hs hlt P) (fun x y hx hy q => (nw_okl I hs hlt P (by omega) (nm x ((nw_vis1 I hs hlt P x).mp hx).1) (nm y ((nw_vis1 I hs hlt P y).mp hy).1)).mp q)
  refine Lst_more (x := tg) okl_irr (fun _ _ _ => okl_trans) hL2 hL (fun y hy => okl_tot I.2.2.2.2.1 (knF_mk I hs hv.1) (knF_mk I hs hy.1.1) (fun e => hy.2 e.symm)) (fun y => ?_)
  constructor
  · intro q
    by_cases e : y = tg
    · exact Or.inr e
    · exact Or.inl ⟨q, e⟩
  · rintro (q | q)
    · exact q.1
    · rw [q]; exact hv
/-- UNDO and REDO of one stroke: the same list again -/
theorem nw_twice {a2 : Ab} {v2 : St} {tg2 pl2 ly2 ct2 c : Nat} {fn : Nat → Nat} (I : Inv a v) (hs : s < 5) (hlt : a 1 s < 20) (P : plOk a s pl) (e2 : a2 = newA a s 1 tg ly ct pl) (I2 : Inv a2 v2) (hlt2 : a2 1 s < 20) (P2 : plOk a2 s pl2) (hL : BL a (knF a s) c fn) (hv : vis a (knF a s) tg) : BL (newA a2 s 2 tg ly2 ct2 pl2) (knF (newA a2 s 2 tg ly2 ct2 pl2) s) c fn ∧ ∀ i, vis a (knF a s) i → lyK (newA a2 s 2 tg ly2 ct2 pl2) (knF (newA a2 s 2 tg ly2 ct2 pl2) s) i = lyK a (knF a s) i := by
  have m2 : ∀ i, mk a i → mk a2 i := fun i hi => by rw [e2]; exact (nA_mk hs hlt i).mpr (Or.inl hi)
  have nm : ∀ i, vis a (knF a s) i → i ≠ 20 * s + a 1 s := fun i q e => nA_not (a := a) hs hlt (by rw [← e]; exact knF_mk I hs q.1)
  have nm2 : ∀ i, vis a (knF a s) i → i ≠ 20 * s + a2 1 s := fun i q e => nA_not (a := a2) hs hlt2 (by rw [← e]; exact m2 _ (knF_mk I hs q.1))
  have k2 : knF a2 s tg = true := by rw [e2]; exact (nw_kn hs hs hlt _).mpr (Or.inl hv.1)
  have h02 : a2 4 tg = 0 := by rw [e2, nA4, if_neg (nm _ hv)]; exact hv.2.1
  have ly : ∀ i, vis a (knF a s) i → lyK (newA a2 s 2 tg ly2 ct2 pl2) (knF (newA a2 s 2 tg ly2 ct2 pl2) s) i = lyK a (knF a s) i := fun i q => by
    rw [nw_ly I2 hs hlt2 P2 (by omega) (nm2 i q), e2, nw_ly I hs hlt P (by omega) (nm i q)]
  refine ⟨Lst_move hL (fun x => ?_) (fun x y hx hy q => ?_), ly⟩
  · rw [nw_vis2 I2 hs hlt2 P2 k2 h02]
    have e : vis a2 (knF a2 s) x ↔ vis a (knF a s) x ∧ x ≠ tg := by rw [e2]; exact nw_vis1 I hs hlt P x
    rw [e]
    constructor
    · intro q
      by_cases z : x = tg
      · exact Or.inr z
      · exact Or.inl ⟨q, z⟩
    · rintro (q | q)
      · exact q.1
      · rw [q]; exact hv
  · rw [nw_okl I2 hs hlt2 P2 (by omega) (nm2 x hx) (nm2 y hy), e2, nw_okl I hs hlt P (by omega) (nm x hx) (nm y hy)]
    exact q
theorem nw_rTg (I : Inv a v) (hs : s < 5) (hlt : a 1 s < 20) (P : plOk a s pl) (hv : vis a (knF a s) tg) : rTg (newA a s 1 tg ly ct pl) s = tg % 20 + 1 := by
  have ne : tg ≠ 20 * s + a 1 s := fun e => nA_not (a := a) hs hlt (by rw [← e]; exact knF_mk I hs hv.1)
  unfold rTg
  rw [nA1, if_pos rfl, luS_s, nA4, if_pos rfl, nA6, if_pos rfl, (nw_und I hs hlt P ne).1, if_pos (show tg = tg ∧ 1 = 1 from ⟨rfl, rfl⟩), if_pos (show 1 = 1 ∧ true = true from ⟨rfl, rfl⟩)]
theorem Ie_new (h : Ie a) (hs : s < 5) (hlt : a 1 s < 20) : Ie (newA a s kd tg ly ct pl) := by
  intro i hi
  rw [nA5]
  by_cases e : i = 20 * s + a 1 s
  · rw [if_pos e]; omega
  · rw [if_neg e]
    rcases (nA_mk hs hlt i).mp hi with q | q
    · exact h i q
    · exact absurd q e
theorem Conv_new (h : Conv a) (I : Inv a v) (hs : s < a 0 0) (hlt : a 1 s < 20) (hr : ∀ r, r < a 0 0 → r ≠ s → a 12 (5 * s + r) < 10) : Conv (newA a s kd tg ly ct pl) := by
  have h5 := I.1.2
  intro x t i hx ht hxt hi hix
  rw [nA0] at hx ht
  have hL := I.2.2.2.2.2.2 (5 * x + t) (by omega)
  rcases (nA_mk (show s < 5 by omega) hlt i).mp hi with q | q
  · rcases h x t i hx ht hxt q hix with z | ⟨m, z1, z2⟩
    · exact Or.inl ((nw_kn (by omega) (by omega) hlt i).mpr (Or.inl z))
    · refine Or.inr ⟨m, ?_, ?_⟩
      · rw [nA12]
        by_cases c : lkD a s (5 * x + t) = true
        · rw [if_pos c]; omega
        · rw [if_neg c]; exact z1
      · rw [nA13, if_neg (fun w => by have := w.2; rw [show (10 * (5 * x + t) + m) / 10 = 5 * x + t by omega] at this; omega)]
        exact z2
  · have hxs : x = s := by omega
    subst hxs
    have c : lkD a x (5 * x + t) = true := lkD_iff.mpr ⟨by omega, by omega, by omega, hr t ht (fun e => hxt e.symm)⟩
    refine Or.inr ⟨a 12 (5 * x + t), ?_, ?_⟩
    · rw [nA12, if_pos c]; omega
    · have h10 := hr t ht (fun e => hxt e.symm)
      rw [nA13, show (10 * (5 * x + t) + a 12 (5 * x + t)) / 10 = 5 * x + t by omega, if_pos ⟨c, by omega⟩, q]
      omega
theorem nw_12 (L : Nat) : newA a s kd tg ly ct pl 12 L ≤ a 12 L + 1 := by
  rw [nA12]
  by_cases c : lkD a s L = true
  · rw [if_pos c]; omega
  · rw [if_neg c]; omega
end NW
