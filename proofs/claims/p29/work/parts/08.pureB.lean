/-! The state of a run in plain numbers: a k j (naturals) and v k j (ints). a 0 0: the number of sites; a 1 s: made; a 2 s: clock; a 3 (100 s + i): known (0 or 1); a 4 i: kind; a 5 i: time; a 6 i: the stroke it is for; a 7 i: points; a 8 i: layer; a 9 p: the operation at place p of the total order; a 10 s: points of the pen; a 11 s: layer of the pen; a 12 L: messages of the link; a 13 (10 L + k): number of the k-th message. v 0 i: color; v 1, v 2 (8 i + k): x, y; v 3 s: color of the pen; v 4, v 5 (8 s + k): x, y; v 6 i: layer as an int -/
abbrev Ab : Type := Nat → Nat → Nat
def tot (a : Ab) : Nat := a 1 0 + a 1 1 + a 1 2 + a 1 3 + a 1 4
def mk (a : Ab) (i : Nat) : Prop := i < 100 ∧ i % 20 < a 1 (i / 20)
def bf (a : Ab) (i j : Nat) : Prop := a 5 i < a 5 j ∨ (a 5 i = a 5 j ∧ i / 20 < j / 20)
/-- the total order lists each made operation once, ascending -/
def Ord (a : Ab) : Prop := (∀ p, p < tot a → mk a (a 9 p)) ∧ (∀ p q, p < q → q < tot a → bf a (a 9 p) (a 9 q)) ∧ ∀ i, mk a i → ∃ p, p < tot a ∧ a 9 p = i
/-- of one author, later numbers have later times -/
def Tms (a : Ab) : Prop := ∀ i j, mk a i → mk a j → i / 20 = j / 20 → i < j → a 5 i < a 5 j
theorem bf_irr {a : Ab} (i : Nat) : ¬ bf a i i := by unfold bf; omega
theorem bf_trans {a : Ab} {i j k : Nat} (h : bf a i j) (h2 : bf a j k) : bf a i k := by unfold bf at *; omega
theorem bf_tot {a : Ab} (hT : Tms a) {i j : Nat} (hi : mk a i) (hj : mk a j) (h : i ≠ j) : bf a i j ∨ bf a j i := by
  unfold bf
  by_cases e : i / 20 = j / 20
  · rcases Nat.lt_or_gt_of_ne h with h1 | h1
    · have := hT i j hi hj e h1; omega
    · have := hT j i hj hi e.symm h1; omega
  · omega
/-- whether a stroke is undone behind the first p operations of the total order, for who knows K -/
def undF (a : Ab) (K : Nat → Bool) : Nat → Nat → Bool
  | 0, _ => false
  | p + 1, i => if K (a 9 p) = true ∧ a 6 (a 9 p) = i ∧ a 4 (a 9 p) = 1 then true else if K (a 9 p) = true ∧ a 6 (a 9 p) = i ∧ a 4 (a 9 p) = 2 then false else undF a K p i
def layF (a : Ab) (K : Nat → Bool) : Nat → Nat → Nat
  | 0, i => a 8 i
  | p + 1, i => if K (a 9 p) = true ∧ a 6 (a 9 p) = i ∧ a 4 (a 9 p) = 3 then a 8 (a 9 p) else layF a K p i
/-- o is the last one for the stroke i of the kinds from lo to hi that K knows -/
def isP (a : Ab) (K : Nat → Bool) (i lo hi o : Nat) : Prop := K o = true ∧ a 6 o = i ∧ lo ≤ a 4 o ∧ a 4 o ≤ hi
theorem undF_none {a : Ab} {K : Nat → Bool} {i : Nat} (h : ∀ o, ¬ isP a K i 1 2 o) : ∀ p, undF a K p i = false := by
  intro p
  induction p with
  | zero => rfl
  | succ p ih =>
    unfold undF
    rw [if_neg (fun q => h _ ⟨q.1, q.2.1, by omega, by omega⟩), if_neg (fun q => h _ ⟨q.1, q.2.1, by omega, by omega⟩), ih]
theorem layF_none {a : Ab} {K : Nat → Bool} {i : Nat} (h : ∀ o, ¬ isP a K i 3 3 o) : ∀ p, layF a K p i = a 8 i := by
  intro p
  induction p with
  | zero => rfl
  | succ p ih =>
    unfold layF
    rw [if_neg (fun q => h _ ⟨q.1, q.2.1, by omega, by omega⟩), ih]
theorem undF_last {a : Ab} {K : Nat → Bool} {i o : Nat} (hO : Ord a) (hKm : ∀ j, K j = true → mk a j) (h : isP a K i 1 2 o) (hm : ∀ o', isP a K i 1 2 o' → o' ≠ o → bf a o' o) : undF a K (tot a) i = decide (a 4 o = 1) := by
  obtain ⟨p, hp, e⟩ := hO.2.2 o (hKm o h.1)
  have key : ∀ d, p + 1 + d ≤ tot a → undF a K (p + 1 + d) i = decide (a 4 o = 1) := by
    intro d
    induction d with
    | zero =>
      intro _
      show undF a K (p + 1) i = _
      unfold undF
      rw [e]
      by_cases h1 : a 4 o = 1
      · rw [if_pos ⟨h.1, h.2.1, h1⟩, decide_eq_true h1]
      · rw [if_neg (fun q => h1 q.2.2), if_pos ⟨h.1, h.2.1, by have := h.2.2; omega⟩, decide_eq_false h1]
    | succ d ih =>
      intro hd
      have hne : ∀ k, 1 ≤ k → k ≤ 2 → ¬ (K (a 9 (p + 1 + d)) = true ∧ a 6 (a 9 (p + 1 + d)) = i ∧ a 4 (a 9 (p + 1 + d)) = k) := by
        intro k k1 k2 q
        have hb : bf a o (a 9 (p + 1 + d)) := by rw [← e]; exact hO.2.1 p (p + 1 + d) (by omega) (by omega)
        have hP : isP a K i 1 2 (a 9 (p + 1 + d)) := ⟨q.1, q.2.1, by omega, by omega⟩
        by_cases hz : a 9 (p + 1 + d) = o
        · rw [hz] at hb; exact bf_irr o hb
        · exact bf_irr o (bf_trans hb (hm _ hP hz))
      show undF a K ((p + 1 + d) + 1) i = _
      unfold undF
      rw [if_neg (hne 1 (by omega) (by omega)), if_neg (hne 2 (by omega) (by omega)), ih (by omega)]
  have := key (tot a - (p + 1)) (by omega)
  rw [show p + 1 + (tot a - (p + 1)) = tot a by omega] at this
  exact this
theorem layF_last {a : Ab} {K : Nat → Bool} {i o : Nat} (hO : Ord a) (hKm : ∀ j, K j = true → mk a j) (h : isP a K i 3 3 o) (hm : ∀ o', isP a K i 3 3 o' → o' ≠ o → bf a o' o) : layF a K (tot a) i = a 8 o := by
  obtain ⟨p, hp, e⟩ := hO.2.2 o (hKm o h.1)
  have key : ∀ d, p + 1 + d ≤ tot a → layF a K (p + 1 + d) i = a 8 o := by
    intro d
    induction d with
    | zero =>
      intro _
      show layF a K (p + 1) i = _
      unfold layF
      rw [e, if_pos ⟨h.1, h.2.1, by have := h.2.2; omega⟩]
    | succ d ih =>
      intro hd
      have hne : ¬ (K (a 9 (p + 1 + d)) = true ∧ a 6 (a 9 (p + 1 + d)) = i ∧ a 4 (a 9 (p + 1 + d)) = 3) := by
        intro q
        have hb : bf a o (a 9 (p + 1 + d)) := by rw [← e]; exact hO.2.1 p (p + 1 + d) (by omega) (by omega)
        have hP : isP a K i 3 3 (a 9 (p + 1 + d)) := ⟨q.1, q.2.1, by omega, by omega⟩
        by_cases hz : a 9 (p + 1 + d) = o
        · rw [hz] at hb; exact bf_irr o hb
        · exact bf_irr o (bf_trans hb (hm _ hP hz))
      show layF a K ((p + 1 + d) + 1) i = _
      unfold layF
      rw [if_neg hne, ih (by omega)]
  have := key (tot a - (p + 1)) (by omega)
  rw [show p + 1 + (tot a - (p + 1)) = tot a by omega] at this
  exact this
/-- the visible strokes, and their order -/
def vis (a : Ab) (K : Nat → Bool) (i : Nat) : Prop := K i = true ∧ a 4 i = 0 ∧ undF a K (tot a) i = false
def lyK (a : Ab) (K : Nat → Bool) (i : Nat) : Nat := layF a K (tot a) i
def okl (a : Ab) (K : Nat → Bool) (i j : Nat) : Prop := lyK a K i < lyK a K j ∨ (lyK a K i = lyK a K j ∧ bf a i j)
theorem okl_irr {a : Ab} {K : Nat → Bool} (i : Nat) : ¬ okl a K i i := by
  unfold okl
  intro h
  rcases h with h | h
  · omega
  · exact bf_irr i h.2
theorem okl_trans {a : Ab} {K : Nat → Bool} {i j k : Nat} (h : okl a K i j) (h2 : okl a K j k) : okl a K i k := by
  unfold okl at *
  rcases h with h | h <;> rcases h2 with h2 | h2
  · exact Or.inl (by omega)
  · exact Or.inl (by omega)
  · exact Or.inl (by omega)
  · exact Or.inr ⟨by omega, bf_trans h.2 h2.2⟩
theorem okl_tot {a : Ab} {K : Nat → Bool} (hT : Tms a) {i j : Nat} (hi : mk a i) (hj : mk a j) (h : i ≠ j) : okl a K i j ∨ okl a K j i := by
  unfold okl
  rcases Nat.lt_trichotomy (lyK a K i) (lyK a K j) with h1 | h1 | h1
  · exact Or.inl (Or.inl h1)
  · rcases bf_tot hT hi hj h with h2 | h2
    · exact Or.inl (Or.inr ⟨h1, h2⟩)
    · exact Or.inr (Or.inr ⟨h1.symm, h2⟩)
  · exact Or.inr (Or.inl h1)
/-- f lists, for places below c, just what V says, ascending by lt -/
def Lst (lt : Nat → Nat → Prop) (V : Nat → Prop) (f : Nat → Nat) (c : Nat) : Prop := (∀ p q, p < q → q < c → lt (f p) (f q)) ∧ (∀ p, p < c → V (f p)) ∧ ∀ x, V x → ∃ p, p < c ∧ f p = x
theorem Lst_one {lt : Nat → Nat → Prop} {V : Nat → Prop} (irr : ∀ x, ¬ lt x x) (tr : ∀ x y z, lt x y → lt y z → lt x z) {f g : Nat → Nat} {c d : Nat} (hf : Lst lt V f c) (hg : Lst lt V g d) : c = d ∧ ∀ p, p < c → f p = g p := by
  have key : ∀ n p, p < n → p < c → p < d → f p = g p := by
    intro n
    induction n with
    | zero => intro p h; omega
    | succ n ih =>
      intro p hp hc hd
      by_cases hn : p < n
      · exact ih p hn hc hd
      · have hpn : p = n := by omega
        subst hpn
        obtain ⟨q, hq, eq⟩ := hg.2.2 _ (hf.2.1 p hc)
        obtain ⟨r, hr, er⟩ := hf.2.2 _ (hg.2.1 p hd)
        rcases Nat.lt_trichotomy q p with h1 | h1 | h1
        · have := ih q h1 (by omega) hq
          have h2 := hf.1 q p h1 hc
          rw [this, eq] at h2
          exact absurd h2 (irr _)
        · subst h1; exact eq.symm
        · have h2 := hg.1 p q h1 hq
          rw [eq] at h2
          rcases Nat.lt_trichotomy r p with h3 | h3 | h3
          · have h4 := ih r h3 hr (by omega)
            have h5 := hg.1 r p h3 hd
            rw [← h4, er] at h5
            exact absurd h5 (irr _)
          · subst h3; exact er
          · have h4 := hf.1 p r h3 hr
            rw [er] at h4
            exact absurd (tr _ _ _ h2 h4) (irr _)
  have hcd : c = d := by
    rcases Nat.lt_trichotomy c d with h | h | h
    · obtain ⟨r, hr, er⟩ := hf.2.2 _ (hg.2.1 c h)
      have := key (r + 1) r (by omega) hr (by omega)
      have h5 := hg.1 r c hr h
      rw [← this, er] at h5
      exact absurd h5 (irr _)
    · exact h
    · obtain ⟨r, hr, er⟩ := hg.2.2 _ (hf.2.1 d h)
      have := key (r + 1) r (by omega) (by omega) hr
      have h5 := hf.1 r d hr h
      rw [this, er] at h5
      exact absurd h5 (irr _)
  subst hcd
  exact ⟨rfl, fun p hp => key (p + 1) p (by omega) hp hp⟩
/-- a sequence with x put in at place j -/
def insF (f : Nat → Nat) (j x : Nat) : Nat → Nat := fun p => if p < j then f p else if p = j then x else f (p - 1)
theorem Lst_ins {lt : Nat → Nat → Prop} {V : Nat → Prop} (tr : ∀ x y z, lt x y → lt y z → lt x z) {f : Nat → Nat} {c x j : Nat} (hf : Lst lt V f c) (hx : ∀ y, V y → lt x y ∨ lt y x) (hj : j ≤ c) (hhi : ∀ p, j ≤ p → p < c → lt x (f p)) (h0 : 0 < j → ¬ lt x (f (j - 1))) : Lst lt (fun y => V y ∨ y = x) (insF f j x) (c + 1) := by
  have hlo : ∀ p, p < j → lt (f p) x := by
    intro p hp
    have h1 : lt (f (j - 1)) x := by
      rcases hx _ (hf.2.1 (j - 1) (by omega)) with h | h
      · exact absurd h (h0 (by omega))
      · exact h
    by_cases hpj : p = j - 1
    · rw [hpj]; exact h1
    · exact tr _ _ _ (hf.1 p (j - 1) (by omega) (by omega)) h1
  refine ⟨fun p q hpq hq => ?_, fun p hp => ?_, fun y hy => ?_⟩
  · unfold insF
    by_cases h1 : q < j
    · rw [if_pos (by omega), if_pos h1]; exact hf.1 p q hpq (by omega)
    · rw [if_neg h1]
      by_cases h2 : q = j
      · rw [if_pos h2, if_pos (by omega)]; exact hlo p (by omega)
      · rw [if_neg h2]
        by_cases h3 : p < j
        · rw [if_pos h3]; exact tr _ _ _ (hlo p h3) (hhi (q - 1) (by omega) (by omega))
        · rw [if_neg h3]
          by_cases h4 : p = j
          · rw [if_pos h4]; exact hhi (q - 1) (by omega) (by omega)
          · rw [if_neg h4]; exact hf.1 (p - 1) (q - 1) (by omega) (by omega)
  · unfold insF
    by_cases h1 : p < j
    · rw [if_pos h1]; exact Or.inl (hf.2.1 p (by omega))
    · rw [if_neg h1]
      by_cases h2 : p = j
      · rw [if_pos h2]; exact Or.inr rfl
      · rw [if_neg h2]; exact Or.inl (hf.2.1 (p - 1) (by omega))
  · rcases hy with hy | hy
    · obtain ⟨p, hp, e⟩ := hf.2.2 y hy
      by_cases h1 : p < j
      · exact ⟨p, by omega, by unfold insF; rw [if_pos h1]; exact e⟩
      · exact ⟨p + 1, by omega, by unfold insF; rw [if_neg (by omega), if_neg (by omega)]; exact e⟩
    · exact ⟨j, by omega, by unfold insF; rw [if_neg (by omega), if_pos rfl]; exact hy.symm⟩
theorem Lst_add {lt : Nat → Nat → Prop} {V : Nat → Prop} {f : Nat → Nat} {c x : Nat} (hf : Lst lt V f c) (hx : ∀ p, p < c → lt (f p) x) : Lst lt (fun y => V y ∨ y = x) (fun p => if p = c then x else f p) (c + 1) := by
  refine ⟨fun p q hpq hq => ?_, fun p hp => ?_, fun y hy => ?_⟩
  · by_cases h : q = c
    · simp only [h, if_true]; rw [if_neg (by omega)]; exact hx p (by omega)
    · simp only; rw [if_neg h, if_neg (by omega)]; exact hf.1 p q hpq (by omega)
  · by_cases h : p = c
    · simp only [h, if_true]; exact Or.inr trivial
    · simp only [h, if_false]; exact Or.inl (hf.2.1 p (by omega))
  · rcases hy with hy | hy
    · obtain ⟨p, hp, e⟩ := hf.2.2 y hy
      exact ⟨p, by omega, by simp only; rw [if_neg (by omega)]; exact e⟩
    · exact ⟨c, by omega, by simp [hy]⟩
theorem Lst_cong {lt : Nat → Nat → Prop} {V V' : Nat → Prop} {f : Nat → Nat} {c : Nat} (hf : Lst lt V f c) (h : ∀ x, V x ↔ V' x) : Lst lt V' f c := ⟨hf.1, fun p hp => (h _).mp (hf.2.1 p hp), fun x hx => hf.2.2 x ((h x).mpr hx)⟩
theorem Lst_nil {lt : Nat → Nat → Prop} {V : Nat → Prop} {f : Nat → Nat} (h : ∀ x, ¬ V x) : Lst lt V f 0 := ⟨fun p q _ h => by omega, fun p h => by omega, fun x hx => absurd hx (h x)⟩
/-- a sequence without repeats of numbers below m is no longer than m -/
theorem Lst_len {lt : Nat → Nat → Prop} (irr : ∀ x, ¬ lt x x) {V : Nat → Prop} {f : Nat → Nat} {c m : Nat} (hf : Lst lt V f c) (hm : ∀ x, V x → x < m) : c ≤ m := by
  have key : ∀ (m c : Nat) (f : Nat → Nat), (∀ p, p < c → f p < m) → (∀ p q, p < q → q < c → f p ≠ f q) → c ≤ m := by
    intro m
    induction m with
    | zero => intro c f h _; rcases Nat.eq_zero_or_pos c with h0 | h0; · omega
              · exact absurd (h 0 h0) (by omega)
    | succ m ih =>
      intro c f h hi
      by_cases hz : ∃ p, p < c ∧ f p = m
      · obtain ⟨p, hp, e⟩ := hz
        have := ih (c - 1) (fun q => if q < p then f q else f (q + 1)) (fun q hq => by
          by_cases hqp : q < p
          · simp only [hqp, if_true]
            have h1 := h q (by omega)
            have h2 := hi q p hqp hp
            omega
          · simp only [hqp, if_false]
            have h1 := h (q + 1) (by omega)
            have h2 := hi p (q + 1) (by omega) (by omega)
            omega) (fun q r hqr hr => by
          by_cases h1 : q < p
          · by_cases h2 : r < p
            · simp only [h1, h2, if_true]; exact hi q r hqr (by omega)
            · simp only [h1, h2, if_true, if_false]; exact hi q (r + 1) (by omega) (by omega)
          · simp only [h1, show ¬ r < p by omega, if_false]; exact hi (q + 1) (r + 1) (by omega) (by omega))
        omega
      · have := ih c f (fun p hp => by
          have h1 := h p hp
          have h2 : f p ≠ m := fun e => hz ⟨p, hp, e⟩
          omega) hi
        omega
  exact key m c f (fun p hp => hm _ (hf.2.1 p hp)) (fun p q hpq hq e => irr (f q) (by have := hf.1 p q hpq hq; rw [e] at this; exact this))
