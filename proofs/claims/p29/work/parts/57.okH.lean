/-! What is on its way, and what comes of it. -/
theorem Ie_row {a b : Ab} (h : Ie a) (e1 : b 1 = a 1) (e5 : b 5 = a 5) : Ie b := by
  intro i hi
  rw [e5]
  exact h i (by unfold mk at hi ⊢; rw [← e1]; exact hi)
theorem Conv_row {a b : Ab} (h : Conv a) (e0 : b 0 = a 0) (e1 : b 1 = a 1) (e3 : b 3 = a 3) (e12 : b 12 = a 12) (e13 : b 13 = a 13) : Conv b := by
  intro s t i hs ht hst hi hix
  rw [e0] at hs ht
  have := h s t i hs ht hst (by unfold mk at hi ⊢; rw [← e1]; exact hi) hix
  rw [e12, e13]
  unfold knF at *
  rw [e3]
  exact this
theorem Conv_Lrn {a b : Ab} {s n : Nat} {Q : Nat → Prop} (h : Conv a) (h5 : a 0 0 ≤ 5) (L : Lrn a b s n Q) : Conv b := by
  intro x t i hx ht hxt hi hix
  rw [L.1 0 (by omega) (by omega)] at hx ht
  rcases h x t i hx ht hxt (by unfold mk at hi ⊢; rw [← L.1 1 (by omega) (by omega)]; exact hi) hix with q | q
  · exact Or.inl ((Lrn_kn L (by omega)).mpr (Or.inl q))
  · rw [L.1 12 (by omega) (by omega), L.1 13 (by omega) (by omega)]
    exact Or.inr q
theorem dropA_12 (a : Ab) (L j : Nat) : dropA a L 12 j = if j = L then a 12 L - 1 else a 12 j := by
  unfold dropA
  by_cases e : j = L
  · rw [if_pos ⟨rfl, e⟩, if_pos e]
  · rw [if_neg (fun q => e q.2), if_neg (fun q => by omega), if_neg e]
theorem dropA_13 (a : Ab) (L j : Nat) : dropA a L 13 j = if j / 10 = L then a 13 (j + 1) else a 13 j := by
  unfold dropA
  rw [if_neg (fun q => by omega)]
  by_cases e : j / 10 = L
  · rw [if_pos ⟨rfl, e⟩, if_pos e]
  · rw [if_neg (fun q => e q.2), if_neg e]
theorem del1_row {a : Ab} {L k : Nat} (h2 : k ≠ 2) (h3 : k ≠ 3) (h12 : k ≠ 12) (h13 : k ≠ 13) : del1 a L k = a k := by
  unfold del1
  rw [learnA_row h2 h3, dropA_row h12 h13]
theorem del1_3 (a : Ab) (L j : Nat) : del1 a L 3 j = if j = 100 * (L % 5) + msgI a L then 1 else a 3 j := by
  unfold del1
  rw [learnA_3, dropA_row (by omega) (by omega)]
theorem del1_2 (a : Ab) (L s : Nat) : a 2 s ≤ del1 a L 2 s := by
  unfold del1
  rw [learnA_2, dropA_row (by omega) (by omega), dropA_row (by omega) (by omega)]
  by_cases e : s = L % 5
  · rw [if_pos e, ← e]
    by_cases c : a 2 s < a 5 (msgI a L)
    · rw [if_pos c]; omega
    · rw [if_neg c]; omega
  · rw [if_neg e]; exact Nat.le_refl _
theorem del1_12j (a : Ab) (L j : Nat) : del1 a L 12 j = if j = L then a 12 L - 1 else a 12 j := by
  unfold del1
  rw [learnA_row (by omega) (by omega), dropA_12]
theorem del1_13j (a : Ab) (L j : Nat) : del1 a L 13 j = if j / 10 = L then a 13 (j + 1) else a 13 j := by
  unfold del1
  rw [learnA_row (by omega) (by omega), dropA_13]
theorem knF_up {a b : Ab} {t i : Nat} (h : a 3 (100 * t + i) = 1 → b 3 (100 * t + i) = 1) (q : knF a t i = true) : knF b t i = true := knF_iff.mpr ⟨(knF_iff.mp q).1, h (knF_iff.mp q).2⟩
theorem Conv_del1 {a : Ab} {v : St} {L : Nat} (h : Conv a) (I : Inv a v) (hL : L < 25) (h0 : a 12 L ≠ 0) : Conv (del1 a L) := by
  have h5 := I.1.2
  obtain ⟨m1, m2, m3, m4, m5⟩ := msg_ok I hL h0
  intro s t i hs ht hst hi hix
  rw [del1_row (by omega) (by omega) (by omega) (by omega)] at hs ht
  have hi' : mk a i := by unfold mk at hi ⊢; rw [del1_row (by omega) (by omega) (by omega) (by omega)] at hi; exact hi
  have h10 := (I.2.2.2.2.2.2 (5 * s + t) (by omega)).1
  rcases h s t i hs ht hst hi' hix with q | ⟨m, q1, q2⟩
  · refine Or.inl (knF_up (fun z => ?_) q)
    rw [del1_3]
    by_cases e : 100 * t + i = 100 * (L % 5) + msgI a L
    · rw [if_pos e]
    · rw [if_neg e]; exact z
  · by_cases e : 5 * s + t = L
    · by_cases em : m = 0
      · refine Or.inl (knF_iff.mpr ⟨hi'.1, ?_⟩)
        have : i = msgI a L := by
          unfold msgI
          rw [em, Nat.add_zero, e] at q2
          omega
        rw [del1_3, if_pos (by rw [this]; omega)]
      · refine Or.inr ⟨m - 1, ?_, ?_⟩
        · rw [del1_12j, if_pos e, ← e]; omega
        · rw [del1_13j, if_pos (by omega), show 10 * (5 * s + t) + (m - 1) + 1 = 10 * (5 * s + t) + m by omega]
          exact q2
    · refine Or.inr ⟨m, ?_, ?_⟩
      · rw [del1_12j, if_neg e]; exact q1
      · rw [del1_13j, if_neg (by omega)]; exact q2
/-- what stays, and what only grows, while messages come -/
def Gro (a b : Ab) : Prop := (∀ k, k ≠ 2 → k ≠ 3 → k ≠ 12 → k ≠ 13 → b k = a k) ∧ ∀ s, a 2 s ≤ b 2 s
theorem Gro_rf {a : Ab} : Gro a a := ⟨fun _ _ _ _ _ => rfl, fun _ => Nat.le_refl _⟩
theorem Gro_tr {a b c : Ab} (h : Gro a b) (h2 : Gro b c) : Gro a c := ⟨fun k k1 k2 k3 k4 => (h2.1 k k1 k2 k3 k4).trans (h.1 k k1 k2 k3 k4), fun s => Nat.le_trans (h.2 s) (h2.2 s)⟩
theorem Gro_del1 {a : Ab} {L : Nat} : Gro a (del1 a L) := ⟨fun _ k1 k2 k3 k4 => del1_row k1 k2 k3 k4, fun s => del1_2 a L s⟩
/-- the link L brought in, one message after another -/
theorem link_in {a : Ab} {L : Nat} (h10 : a 12 L ≤ 10) : ∀ (d m : Nat) (b : Ab), m + d = a 12 L → b 12 L = d → (∀ k, k < d → b 13 (10 * L + k) = a 13 (10 * L + m + k)) → delA b L d 3 = mkL a L d m (b 3) ∧ delA b L d 12 L = 0 ∧ (∀ j, j ≠ L → delA b L d 12 j = b 12 j) ∧ (∀ j, j / 10 ≠ L → delA b L d 13 j = b 13 j) ∧ Gro b (delA b L d) := by
  intro d
  induction d with
  | zero =>
    intro m b _ h _
    exact ⟨rfl, h, fun _ _ => rfl, fun _ _ => rfl, Gro_rf⟩
  | succ d ih =>
    intro m b h1 h2 h3
    rw [delA_s, mkL_s]
    have e3 : del1 b L 3 = mkK a (b 3) L m := by
      funext j
      rw [del1_3]
      unfold msgI mkK
      have := h3 0 (by omega)
      rw [Nat.add_zero, Nat.add_zero] at this
      rw [this]
    obtain ⟨g1, g2, g3, g4, g5⟩ := ih (m + 1) (del1 b L) (by omega) (by rw [del1_12j, if_pos rfl]; omega) (fun k hk => by
      rw [del1_13j, if_pos (by omega), show 10 * L + k + 1 = 10 * L + (k + 1) by omega, h3 (k + 1) (by omega)]
      congr 1
      omega)
    refine ⟨by rw [g1, e3], g2, fun j hj => ?_, fun j hj => ?_, Gro_tr Gro_del1 g5⟩
    · rw [g3 j hj, del1_12j, if_neg hj]
    · rw [g4 j hj, del1_13j, if_neg hj]
theorem all_in {a : Ab} (h10 : ∀ L, L < 25 → a 12 L ≤ 10) : ∀ (d : Nat) (b : Ab) (x : Nat), d ≤ 25 → (∀ L, 25 - d ≤ L → L < 25 → b 12 L = a 12 L ∧ ∀ k, k < a 12 L → b 13 (10 * L + k) = a 13 (10 * L + k)) → (finA d b x).1 3 = fnK a d (b 3) ∧ (∀ L, 25 - d ≤ L → L < 25 → (finA d b x).1 12 L = 0) ∧ (∀ L, L < 25 - d → (finA d b x).1 12 L = b 12 L) ∧ Gro b (finA d b x).1 ∧ x ≤ (finA d b x).2 := by
  intro d
  induction d with
  | zero =>
    intro b x _ _
    exact ⟨rfl, fun L h1 h2 => by omega, fun _ _ => rfl, Gro_rf, Nat.le_refl _⟩
  | succ d ih =>
    intro b x hd h
    obtain ⟨q1, q2⟩ := h (24 - d) (by omega) (by omega)
    obtain ⟨g1, g2, g3, g4, g5⟩ := link_in (h10 (24 - d) (by omega)) (a 12 (24 - d)) 0 b (by omega) q1 (fun k hk => by rw [Nat.add_zero]; exact q2 k hk)
    rw [finA_s, fnK_s, q1]
    obtain ⟨e1, e2, e3, e4, e5⟩ := ih (delA b (24 - d) (a 12 (24 - d))) (x + a 12 (24 - d)) (by omega) (fun L l1 l2 => by
      obtain ⟨w1, w2⟩ := h L (by omega) l2
      rw [g3 L (by omega)]
      refine ⟨w1, fun k hk => ?_⟩
      have := h10 L l2
      rw [g4 _ (by omega)]
      exact w2 k hk)
    refine ⟨by rw [e1, g1], fun L l1 l2 => ?_, fun L l1 => ?_, Gro_tr g5 e4, by omega⟩
    · by_cases e : L = 24 - d
      · rw [e, e3 _ (by omega), g2]
      · exact e2 L (by omega) l2
    · rw [e3 L (by omega), g3 L (by omega)]
theorem Conv_delA {v : St} {L : Nat} (hL : L < 25) : ∀ (c : Nat) (a : Ab), Inv a v → Conv a → c ≤ a 12 L → Conv (delA a L c) := by
  intro c
  induction c with
  | zero => intro a _ h _; exact h
  | succ c ih =>
    intro a I h hc
    rw [delA_s]
    exact ih _ (Inv_del1 I hL (by omega)) (Conv_del1 h I hL (by omega)) (by rw [del1_12]; omega)
theorem Conv_finA {v : St} : ∀ (d : Nat) (a : Ab) (x : Nat), d ≤ 25 → Inv a v → Conv a → Conv (finA d a x).1 := by
  intro d
  induction d with
  | zero => intro a x _ _ h; exact h
  | succ d ih =>
    intro a x hd I h
    rw [finA_s]
    exact ih _ _ (by omega) (Inv_delA (by omega) _ a I (Nat.le_refl _)).1 (Conv_delA (by omega) _ a I h (Nat.le_refl _))
section FU
variable {a : Ab} {v σ : St}
/-- behind deliverAll -/
theorem fin_all (I : Inv a v) : (finA 25 a 0).1 3 = futK a ∧ (∀ L, L < 25 → (finA 25 a 0).1 12 L = 0) ∧ Gro a (finA 25 a 0).1 := by
  obtain ⟨e1, e2, -, e4, -⟩ := all_in (a := a) (fun L hL => (I.2.2.2.2.2.2 L hL).1) 25 a 0 (by omega) (fun L _ _ => ⟨rfl, fun _ _ => rfl⟩)
  exact ⟨e1, fun L hL => e2 L (by omega) hL, e4⟩
theorem kn_fin (I : Inv a v) (s : Nat) : knF (finA 25 a 0).1 s = kkF (futK a) s := by
  rw [← (fin_all I).1]
  rfl
/-- where nothing was lost, all would be known -/
theorem Conv_all (I : Inv a v) (h : Conv a) {t i : Nat} (ht : t < a 0 0) (hi : mk a i) : kkF (futK a) t i = true := by
  have h5 := I.1.2
  have hb := Inv_finA 25 a 0 (by omega) I
  have hc := Conv_finA 25 a 0 (by omega) I h
  obtain ⟨f1, f2, f3⟩ := fin_all I
  have e0 := f3.1 0 (by omega) (by omega) (by omega) (by omega)
  have e1 := f3.1 1 (by omega) (by omega) (by omega) (by omega)
  rw [← kn_fin I]
  have hm : mk (finA 25 a 0).1 i := by unfold mk at hi ⊢; rw [e1]; exact hi
  by_cases e : i / 20 = t
  · have := (hb.2.2.2.1 i hm).1
    rw [e] at this
    exact knF_iff.mpr ⟨hi.1, this⟩
  · have hs : i / 20 < a 0 0 := by
      have h1 := hi.2
      have h2 := hi.1
      apply Nat.lt_of_not_le
      intro q
      have := ((I.2.1 (i / 20) (by omega)).2.2.2.2 q).1
      omega
    rcases hc (i / 20) t i (by rw [e0]; exact hs) (by rw [e0]; exact ht) e hm rfl with q | ⟨m, q1, -⟩
    · exact q
    · rw [f2 _ (by omega)] at q1
      omega
theorem dI_0 {w : Nat → Nat → Nat} {s n : Nat} : ∀ (g t x : Nat), t + g = n → (∀ t', t ≤ t' → t' < n → w s t' = 0) → dI w g s t x = x := by
  intro g
  induction g with
  | zero => intro t x _ _; rfl
  | succ g ih =>
    intro t x h q
    rw [dI_s, q t (Nat.le_refl _) (by omega), Nat.add_zero]
    exact ih (t + 1) x (by omega) (fun t' h1 h2 => q t' (by omega) h2)
theorem dO_0 {w : Nat → Nat → Nat} {n : Nat} (h : ∀ s t, s < n → t < n → w s t = 0) : ∀ (e s x : Nat), s + e = n → dO w e s x = x := by
  intro e
  induction e with
  | zero => intro s x _; rfl
  | succ e ih =>
    intro s x q
    rw [dO_s, dI_0 (n := n) e (s + 1) x (by omega) (fun t' _ h2 => h s t' (by omega) h2)]
    exact ih (s + 1) x (by omega)
theorem Conv_dif (I : Inv a v) (h : Conv a) : dO (dfW a (futK a)) (a 0 0) 0 0 = 0 := by
  have hk : kkOk a (futK a) := fnK_ok I 25 (a 3) (by omega) (kk_a3 I)
  have h5 := I.1.2
  refine dO_0 (n := a 0 0) (fun s t hs ht => ?_) (a 0 0) 0 0 (by omega)
  have e : kkF (futK a) s = kkF (futK a) t := by
    funext i
    rw [Bool.eq_iff_iff]
    exact ⟨fun q => Conv_all I h ht (kkF_mk hk (by omega) q), fun q => Conv_all I h hs (kkF_mk hk (by omega) q)⟩
  unfold dfW
  rw [e, smB_rf, if_pos rfl]
/-- the law's count of pairs -/
def pO (w : Nat → Nat → Nat) : Nat → Nat → Nat → Nat
  | 0, _, x => x
  | e + 1, s, x => pO w e (s + 1) (dI w s s 0 x)
theorem pO_s (w : Nat → Nat → Nat) (e s x : Nat) : pO w (e + 1) s x = pO w e (s + 1) (dI w s s 0 x) := rfl
theorem pairs_eq {w : Nat → Nat → Nat} (hw : ∀ s t, w s t = w t s) {n : Nat} (h1 : 1 ≤ n) (h5 : n ≤ 5) : dO w n 0 0 = pO w n 0 0 := by
  rcases (show n = 1 ∨ n = 2 ∨ n = 3 ∨ n = 4 ∨ n = 5 by omega) with rfl | rfl | rfl | rfl | rfl
  · rfl
  · simp only [dO, pO, dI, Nat.reduceAdd, Nat.zero_add]
    have := hw 0 1
    omega
  · simp only [dO, pO, dI, Nat.reduceAdd, Nat.zero_add]
    have := hw 0 1
    have := hw 0 2
    have := hw 1 2
    omega
  · simp only [dO, pO, dI, Nat.reduceAdd, Nat.zero_add]
    have := hw 0 1
    have := hw 0 2
    have := hw 1 2
    have := hw 0 3
    have := hw 1 3
    have := hw 2 3
    omega
  · simp only [dO, pO, dI, Nat.reduceAdd, Nat.zero_add]
    have := hw 0 1
    have := hw 0 2
    have := hw 1 2
    have := hw 0 3
    have := hw 1 3
    have := hw 2 3
    have := hw 0 4
    have := hw 1 4
    have := hw 2 4
    have := hw 3 4
    omega
theorem dfW_sy (a : Ab) (kk : Nat → Nat) (s t : Nat) : dfW a kk s t = dfW a kk t s := by
  unfold dfW
  rw [smB_sy]
theorem und_row {b : Ab} {K : Nat → Bool} (e4 : b 4 = a 4) (e6 : b 6 = a 6) (e8 : b 8 = a 8) (e9 : b 9 = a 9) (i : Nat) : ∀ p, undF b K p i = undF a K p i ∧ layF b K p i = layF a K p i := by
  intro p
  induction p with
  | zero =>
    refine ⟨rfl, ?_⟩
    unfold layF
    rw [e8]
  | succ p ih =>
    rw [undF, undF, layF, layF, e4, e6, e8, e9, ih.1, ih.2]
    exact ⟨rfl, rfl⟩
theorem smB_row {b : Ab} (e1 : b 1 = a 1) (e4 : b 4 = a 4) (e6 : b 6 = a 6) (e8 : b 8 = a 8) (e9 : b 9 = a 9) (K K' : Nat → Bool) : smB b K K' = smB a K K' := by
  have v : ∀ K i, vis b K i ↔ vis a K i := fun K i => by
    unfold vis
    rw [tot_row e1, (und_row e4 e6 e8 e9 i _).1, e4]
  have l : ∀ K i, lyK b K i = lyK a K i := fun K i => by
    unfold lyK
    rw [tot_row e1, (und_row e4 e6 e8 e9 i _).2]
  rw [Bool.eq_iff_iff, smB_t, smB_t]
  unfold sm
  constructor
  · intro h i
    have := h i
    rw [v, v, l, l] at this
    exact this
  · intro h i
    rw [v, v, l, l]
    exact h i
theorem dfW_fin (I : Inv a v) (s t : Nat) : dfW a (futK a) s t = if smB (finA 25 a 0).1 (knF (finA 25 a 0).1 s) (knF (finA 25 a 0).1 t) = true then 0 else 1 := by
  obtain ⟨-, -, f3⟩ := fin_all I
  unfold dfW
  rw [kn_fin I, kn_fin I, smB_row (f3.1 1 (by omega) (by omega) (by omega) (by omega)) (f3.1 4 (by omega) (by omega) (by omega) (by omega)) (f3.1 6 (by omega) (by omega) (by omega) (by omega)) (f3.1 8 (by omega) (by omega) (by omega) (by omega)) (f3.1 9 (by omega) (by omega) (by omega) (by omega))]
end FU
