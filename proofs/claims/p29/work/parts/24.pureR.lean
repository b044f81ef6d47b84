/-! deliverAll. -/
def msgI (a : Ab) (L : Nat) : Nat := 20 * (L / 5) + a 13 (10 * L) - 1
def del1 (a : Ab) (L : Nat) : Ab := learnA (dropA a L) (L % 5) (msgI a L)
def delA : Ab → Nat → Nat → Ab
  | a, _, 0 => a
  | a, L, c + 1 => delA (del1 a L) L c
theorem delA_s (a : Ab) (L c : Nat) : delA a L (c + 1) = delA (del1 a L) L c := rfl
theorem msg_ok {a : Ab} {v : St} (I : Inv a v) {L : Nat} (hL : L < 25) (h0 : a 12 L ≠ 0) : mk a (msgI a L) ∧ L % 5 < a 0 0 ∧ L / 5 < a 0 0 ∧ 1 ≤ a 13 (10 * L) ∧ a 13 (10 * L) ≤ 20 := by
  obtain ⟨h10, h11, h12⟩ := I.2.2.2.2.2.2 _ hL
  obtain ⟨b1, b2⟩ := h12 0 (by omega)
  have hb := (I.2.1 (L / 5) (by omega)).1
  obtain ⟨d1, d2, d3⟩ := h11 h0
  rw [Nat.add_zero] at b1 b2
  refine ⟨?_, d2, d1, b1, by omega⟩
  unfold mk msgI
  rw [show (20 * (L / 5) + a 13 (10 * L) - 1) / 20 = L / 5 by omega]
  omega
theorem del1_12 (a : Ab) (L : Nat) : del1 a L 12 L = a 12 L - 1 := by
  unfold del1
  rw [learnA_row (by omega) (by omega)]
  unfold dropA
  rw [if_pos ⟨rfl, rfl⟩]
theorem del1_0 (a : Ab) (L : Nat) : del1 a L 0 0 = a 0 0 := by
  unfold del1
  rw [learnA_row (by omega) (by omega), dropA_row (by omega) (by omega)]
theorem mk_drop {a : Ab} {L i : Nat} (h : mk a i) : mk (dropA a L) i := by
  unfold mk at *
  rw [dropA_row (by omega) (by omega)]; exact h
theorem Inv_del1 {a : Ab} {v : St} (I : Inv a v) {L : Nat} (hL : L < 25) (h0 : a 12 L ≠ 0) : Inv (del1 a L) v := by
  obtain ⟨m1, m2, -⟩ := msg_ok I hL h0
  exact Inv_learn (Inv_drop I hL h0) (by rw [dropA_row (by omega) (by omega)]; exact m2) (mk_drop m1)
theorem Inv_delA {v : St} {L : Nat} (hL : L < 25) : ∀ (c : Nat) (a : Ab), Inv a v → c ≤ a 12 L → Inv (delA a L c) v ∧ delA a L c 0 0 = a 0 0 := by
  intro c
  induction c with
  | zero => intro a I _; exact ⟨I, rfl⟩
  | succ c ih =>
    intro a I h
    obtain ⟨g1, g2⟩ := ih (del1 a L) (Inv_del1 I hL (by omega)) (by rw [del1_12]; omega)
    rw [delA_s]
    exact ⟨g1, g2.trans (del1_0 a L)⟩
theorem C_del1 {a : Ab} {v σ : St} (I : Inv a v) (C : RepC a v σ) {s t : Nat} (hs : s < 5) (ht : t < 5) (h0 : a 12 (5 * s + t) ≠ 0) : ∃ σ1 σ', mX3_messageIn (nI s) (nI t) 0 σ = some (nI (msgI a (5 * s + t)), σ) ∧ mX6_receive (nI t) (nI (msgI a (5 * s + t))) σ = some σ1 ∧ mX3_dropFirst (nI s) (nI t) σ1 = some σ' ∧ RepC (del1 a (5 * s + t)) v σ' := by
  have hL : 5 * s + t < 25 := by omega
  obtain ⟨m1, m2, m3, m4, m5⟩ := msg_ok I hL h0
  rw [show (5 * s + t) % 5 = t by omega] at m2
  have c19 := (C.2.2.2.2.2 _ hL).2 0 (by omega)
  rw [Nat.add_zero] at c19
  have C1 := RepC_learn C t (msgI a (5 * s + t))
  have I1 := Inv_learn I m2 m1
  obtain ⟨σ', e1, C'⟩ := C_drop I1 C1 hs ht (by rw [learnA_row (by omega) (by omega)]; exact h0)
  refine ⟨_, σ', ?_, C_learn I C m2 m1, e1, ?_⟩
  · rw [show (mX3_messageIn (nI s) (nI t) 0 σ) = _ from q_msg (k := 0) σ hs ht (by omega), Nat.add_zero, c19]
    rfl
  · unfold del1
    rw [← drop_learn, show (5 * s + t) % 5 = t by omega]; exact C'
theorem C_link {v : St} {s t c : Nat} (hs : s < 5) (ht : t < 5) (hc : c ≤ 10) : ∀ (d f k : Nat) (a : Ab) (σ : St), k + d = c → d < f → Inv a v → RepC a v σ → a 12 (5 * s + t) = d → ∃ σ', mX6_deliverLink_L13 f (nI s) (nI t) (nI c) (nI k) σ = some (nI c, σ') ∧ RepC (delA a (5 * s + t) d) v σ' := by
  intro d
  induction d with
  | zero =>
    intro f k a σ h hf I C h12
    obtain ⟨f, rfl⟩ : ∃ g, f = g + 1 := ⟨f - 1, by omega⟩
    rw [mX6_deliverLink_L13, if_pos (nI_le (by omega) (by omega))]
    exact ⟨σ, rfl, C⟩
  | succ d ih =>
    intro f k a σ h hf I C h12
    obtain ⟨f, rfl⟩ : ∃ g, f = g + 1 := ⟨f - 1, by omega⟩
    obtain ⟨σ1, σ2, e1, e2, e3, C2⟩ := C_del1 I C hs ht (by omega)
    obtain ⟨σ', g1, g2⟩ := ih f (k + 1) (del1 a (5 * s + t)) σ2 (by omega) (by omega) (Inv_del1 I (by omega) (by omega)) C2 (by rw [del1_12]; omega)
    rw [mX6_deliverLink_L13, if_neg (nI_ge (by omega) (by omega)), e1, bnd_s, e2, bnv_s, e3, bnv_s, nI_1]
    exact ⟨σ', g1, by rw [delA_s]; exact g2⟩
/-- the last d links, one after another; and how many messages came -/
def finA : Nat → Ab → Nat → Ab × Nat
  | 0, a, x => (a, x)
  | d + 1, a, x => finA d (delA a (24 - d) (a 12 (24 - d))) (x + a 12 (24 - d))
theorem finA_s (d : Nat) (a : Ab) (x : Nat) : finA (d + 1) a x = finA d (delA a (24 - d) (a 12 (24 - d))) (x + a 12 (24 - d)) := rfl
theorem finA_skip {a : Ab} {x : Nat} : ∀ (m d : Nat), (∀ L, 25 - (d + m) ≤ L → L < 25 - d → a 12 L = 0) → m + d ≤ 25 → finA (d + m) a x = finA d a x := by
  intro m
  induction m with
  | zero => intro d _ _; rfl
  | succ m ih =>
    intro d h hd
    rw [show d + (m + 1) = (d + m) + 1 by omega, finA_s, h (24 - (d + m)) (by omega) (by omega)]
    exact ih d (fun L h1 h2 => h L (by omega) h2) (by omega)
theorem Inv_finA {v : St} : ∀ (d : Nat) (a : Ab) (x : Nat), d ≤ 25 → Inv a v → Inv (finA d a x).1 v := by
  intro d
  induction d with
  | zero => intro a x _ I; exact I
  | succ d ih =>
    intro a x h I
    rw [finA_s]
    exact ih _ _ (by omega) (Inv_delA (by omega) _ a I (Nat.le_refl _)).1
theorem C_all {v : St} {n : Nat} (h1 : 1 ≤ n) (h5 : n ≤ 5) : ∀ (e f s x : Nat) (a : Ab) (σ : St), s + e = n → e < f → Inv a v → a 0 0 = n → RepC a v σ → ∃ σ', mX6_deliverAll_L4 f (nI x) (nI s) σ = some (nI (finA (25 - 5 * s) a x).2, σ') ∧ RepC (finA (25 - 5 * s) a x).1 v σ' := by
  intro e
  induction e with
  | zero =>
    intro f s x a σ h hf I hn C
    obtain ⟨f, rfl⟩ : ∃ g, f = g + 1 := ⟨f - 1, by omega⟩
    rw [mX6_deliverAll_L4, C.1, if_pos (nI_le (by omega) (by omega)), show 25 - 5 * s = 0 + (25 - 5 * s) by omega, finA_skip (25 - 5 * s) 0 (fun L l1 l2 => ?_) (by omega)]
    · exact ⟨σ, rfl, C⟩
    · rcases Nat.eq_zero_or_pos (a 12 L) with h | h
      · exact h
      · exact absurd ((I.2.2.2.2.2.2 L (by omega)).2.1 (by omega)).1 (by omega)
  | succ e ih =>
    intro f s x a σ h hf I hn C
    obtain ⟨f, rfl⟩ : ∃ g, f = g + 1 := ⟨f - 1, by omega⟩
    have inner : ∀ (g f2 t x : Nat) (a : Ab) (σ : St), t + g = n → g < f2 → Inv a v → a 0 0 = n → RepC a v σ → ∃ σ', mX6_deliverAll_L14 (mX6_deliverAll_L4 f) f2 (nI x) (nI s) (nI t) σ = some (nI (finA (25 - (5 * s + t)) a x).2, σ') ∧ RepC (finA (25 - (5 * s + t)) a x).1 v σ' := by
      intro g
      induction g with
      | zero =>
        intro f2 t x a σ h2 hf2 I hn C
        obtain ⟨f2, rfl⟩ : ∃ g, f2 = g + 1 := ⟨f2 - 1, by omega⟩
        obtain ⟨σ', e1, e2⟩ := ih f (s + 1) x a σ (by omega) (by omega) I hn C
        rw [mX6_deliverAll_L14, C.1, if_pos (nI_le (by omega) (by omega)), nI_1, show 25 - (5 * s + t) = (25 - 5 * (s + 1)) + (5 - t) by omega, finA_skip (5 - t) (25 - 5 * (s + 1)) (fun L l1 l2 => ?_) (by omega)]
        · exact ⟨σ', e1, e2⟩
        · rcases Nat.eq_zero_or_pos (a 12 L) with h | h
          · exact h
          · exact absurd ((I.2.2.2.2.2.2 L (by omega)).2.1 (by omega)).2.1 (by omega)
      | succ g ihg =>
        intro f2 t x a σ h2 hf2 I hn C
        obtain ⟨f2, rfl⟩ : ∃ g, f2 = g + 1 := ⟨f2 - 1, by omega⟩
        have hL : 5 * s + t < 25 := by omega
        have h10 := (I.2.2.2.2.2.2 _ hL).1
        obtain ⟨σ1, e1, C1⟩ := C_link (c := a 12 (5 * s + t)) (show s < 5 by omega) (show t < 5 by omega) h10 (a 12 (5 * s + t)) fu 0 a σ (by omega) (by rw [fu_eq]; omega) I C rfl
        obtain ⟨I1, n1⟩ := Inv_delA hL _ a I (Nat.le_refl _)
        obtain ⟨σ', g1, g2⟩ := ihg f2 (t + 1) (x + a 12 (5 * s + t)) _ σ1 (by omega) (by omega) I1 (n1.trans hn) C1
        rw [mX6_deliverAll_L14, C.1, if_neg (nI_ge (by omega) (by omega))]
        unfold mX6_deliverLink
        rw [q_cnt σ (by omega) (by omega), bnd_s, (C.2.2.2.2.2 _ hL).1, show (mX6_deliverLink_L13 fu (nI s) (nI t) (nI (a 12 (5 * s + t))) 0 σ) = _ from e1, bnd_s, nI_add, nI_1, show 25 - (5 * s + t) = (25 - (5 * s + (t + 1))) + 1 by omega, finA_s, show 24 - (25 - (5 * s + (t + 1))) = 5 * s + t by omega]
        exact ⟨σ', g1, g2⟩
    rw [mX6_deliverAll_L4, C.1, if_neg (nI_ge (by omega) (by omega))]
    exact inner n fu 0 x a σ (by omega) (by rw [fu_eq]; omega) I hn C
