/-! Gaps: repair, bestHelper, gap; transfer. -/
/-- how many operations, of the first i, a repair of s by h would bring -/
def gpN (a : Ab) (s h : Nat) : Nat → Nat
  | 0 => 0
  | i + 1 => gpN a s h i + (if gp a s h i = true then 1 else 0)
theorem gpN_s (a : Ab) (s h i : Nat) : gpN a s h (i + 1) = gpN a s h i + (if gp a s h i = true then 1 else 0) := rfl
theorem gpN_le (a : Ab) (s h : Nat) : ∀ i, gpN a s h i ≤ i := by
  intro i
  induction i with
  | zero => exact Nat.le_refl 0
  | succ i ih =>
    rw [gpN_s]
    by_cases c : gp a s h i = true
    · rw [if_pos c]; omega
    · rw [if_neg c]; omega
theorem gpN_0 (a : Ab) (s h : Nat) : ∀ n, (∀ i, i < n → gp a s h i = false) → gpN a s h n = 0 := by
  intro n
  induction n with
  | zero => intro _; rfl
  | succ n ih =>
    intro q
    rw [gpN_s, ih (fun i hi => q i (by omega)), q n (by omega)]
    rfl
theorem gp_iff {a : Ab} {s h i : Nat} : gp a s h i = true ↔ knF a s i = false ∧ knF a h i = true ∧ i % 20 + 1 < gr a s (i / 20) (a 1 (i / 20)) := by
  unfold gp
  rw [Bool.and_eq_true, Bool.and_eq_true, Bool.not_eq_true', decide_eq_true_iff, and_assoc]
theorem gp_self (a : Ab) (s i : Nat) : gp a s s i = false := by
  rw [Bool.eq_false_iff]
  intro q
  obtain ⟨q1, q2, -⟩ := gp_iff.mp q
  rw [q1] at q2
  cases q2
theorem knF_iff {a : Ab} {s i : Nat} : knF a s i = true ↔ i < 100 ∧ a 3 (100 * s + i) = 1 := by
  unfold knF
  exact decide_eq_true_iff
section CS
variable {a : Ab} {v σ : St} {s t : Nat}
theorem rep_L {h : Nat} (H : CC a v σ) (hs : s < 5) (hh : h < 5) : ∀ (d f i : Nat), i + d = 100 → d < f → mX6_repairable_L5 f (nI s) (nI h) (nI (gpN a s h i)) (nI i) σ = some (nI (gpN a s h 100), σ) := by
  intro d
  induction d with
  | zero =>
    intro f i hd hf
    obtain ⟨f, rfl⟩ : ∃ g, f = g + 1 := ⟨f - 1, by omega⟩
    have : i = 100 := by omega
    subst this
    rw [mX6_repairable_L5, if_pos (by decide)]
  | succ d ih =>
    intro f i hd hf
    obtain ⟨f, rfl⟩ : ∃ g, f = g + 1 := ⟨f - 1, by omega⟩
    have e := ih f (i + 1) (by omega) (by omega)
    rw [gpN_s] at e
    rw [mX6_repairable_L5, if_neg (show ¬ (100 : Int32) ≤ nI i from nI_ge (b := 100) (by omega) (by omega)), q_canRepair H.1 H.2 hs hh (by omega), bnd_s, if_bI, nI_1, nI_1]
    by_cases c : gp a s h i = true
    · rw [if_pos c] at e ⊢; exact e
    · rw [if_neg c] at e ⊢; exact e
theorem c_best (H : CC a v σ) (hs : s < a 0 0) : ∃ r : Int32, r ≠ nI s ∧ (r = -1000000004 → ∀ h, h < a 0 0 → gpN a s h 100 = 0) ∧ Rd a v r (mX6_bestHelper (nI s) σ) := by
  have h5 := H.1.1.2
  have hs5 := H.s5 hs
  have key : ∀ (d f h x : Nat) (y : Int32), h + d = a 0 0 → d < f → x ≤ 100 → ∃ r, mX6_bestHelper_L19 f (nI s) y (nI x) (nI h) σ = some (r, σ) ∧ ((r = y ∧ ∀ h', h ≤ h' → h' < a 0 0 → gpN a s h' 100 ≤ x) ∨ ∃ h', h' < a 0 0 ∧ r = nI h' ∧ x < gpN a s h' 100) := by
    intro d
    induction d with
    | zero =>
      intro f h x y hd hf hx
      obtain ⟨f, rfl⟩ : ∃ g, f = g + 1 := ⟨f - 1, by omega⟩
      rw [mX6_bestHelper_L19, H.2.1, if_pos (nI_le (by omega) (by omega))]
      exact ⟨y, rfl, Or.inl ⟨rfl, fun h' h1 h2 => by omega⟩⟩
    | succ d ih =>
      intro f h x y hd hf hx
      obtain ⟨f, rfl⟩ : ∃ g, f = g + 1 := ⟨f - 1, by omega⟩
      have hle := gpN_le a s h 100
      have e1 : mX6_repairable (nI s) (nI h) σ = some (nI (gpN a s h 100), σ) := rep_L H hs5 (by omega) 100 fu 0 (by omega) (by rw [fu_eq]; omega)
      rw [mX6_bestHelper_L19, H.2.1, if_neg (nI_ge (by omega) (by omega)), e1, bnd_s, nI_1]
      by_cases c : gpN a s h 100 ≤ x
      · rw [if_pos (nI_le c (by omega))]
        obtain ⟨r, g1, g2⟩ := ih f (h + 1) x y (by omega) (by omega) hx
        refine ⟨r, g1, ?_⟩
        rcases g2 with ⟨g2, g3⟩ | g2
        · refine Or.inl ⟨g2, fun h' q1 q2 => ?_⟩
          by_cases e : h' = h
          · rw [e]; exact c
          · exact g3 h' (by omega) q2
        · exact Or.inr g2
      · rw [if_neg (nI_ge (by omega) (by omega))]
        obtain ⟨r, g1, g2⟩ := ih f (h + 1) (gpN a s h 100) (nI h) (by omega) (by omega) hle
        refine ⟨r, g1, Or.inr ?_⟩
        rcases g2 with ⟨g2, g3⟩ | ⟨h', g2, g3, g4⟩
        · exact ⟨h, by omega, g2, by omega⟩
        · exact ⟨h', g2, g3, by omega⟩
  obtain ⟨r, e1, e2⟩ := key (a 0 0) fu 0 0 (-1000000004) (by omega) (by rw [fu_eq]; omega) (by omega)
  rw [show nI 0 = (0 : Int32) from rfl] at e1
  have neg : ∀ n : Nat, n < 5 → ¬ (-1000000004 : Int32) = nI n := fun n hn q => by
    rcases (show n = 0 ∨ n = 1 ∨ n = 2 ∨ n = 3 ∨ n = 4 by omega) with rfl | rfl | rfl | rfl | rfl <;> exact absurd q (by decide)
  refine ⟨r, fun q => ?_, fun q h hh => ?_, ?_⟩
  · rcases e2 with ⟨q1, -⟩ | ⟨h', q1, q2, q3⟩
    · exact neg s hs5 (q1.symm.trans q)
    · have : h' = s := (nI_eq (by omega) (by omega)).mp (q2.symm.trans q)
      rw [this, gpN_0 a s s 100 (fun i _ => gp_self a s i)] at q3
      omega
  · rcases e2 with ⟨q1, q2⟩ | ⟨h', q1, q2, q3⟩
    · have := q2 h (Nat.zero_le _) hh; omega
    · exact absurd (q.symm.trans q2) (neg h' (by omega))
  · unfold mX6_bestHelper
    rw [cs_y H.2.1 H.1.1.2 hs, e1]
    exact H.rd
/-- b is what a became where s has learnt some operations of the numbers below i: those that Q names -/
def Lrn (a b : Ab) (s i : Nat) (Q : Nat → Prop) : Prop := (∀ k, k ≠ 2 → k ≠ 3 → b k = a k) ∧ (∀ r j, r < 5 → j < 100 → (b 3 (100 * r + j) = 1 ↔ a 3 (100 * r + j) = 1 ∨ (r = s ∧ j < i ∧ Q j))) ∧ (∀ r, r ≠ s → b 2 r = a 2 r) ∧ a 2 s ≤ b 2 s
theorem Lrn_rf {Q : Nat → Prop} : Lrn a a s 0 Q := ⟨fun _ _ _ => rfl, fun r j _ _ => ⟨fun h => Or.inl h, fun h => h.elim id (fun q => absurd q.2.1 (Nat.not_lt_zero _))⟩, fun _ _ => rfl, Nat.le_refl _⟩
theorem Lrn_y {b : Ab} {i : Nat} {Q : Nat → Prop} (L : Lrn a b s i Q) (hs : s < 5) (hi : i < 100) (q : Q i) : Lrn a (learnA b s i) s (i + 1) Q := by
  obtain ⟨h1, h2, h3, h4⟩ := L
  refine ⟨fun k k1 k2 => by rw [learnA_row k1 k2]; exact h1 k k1 k2, fun r j hr hj => ?_, fun r hr => by rw [learnA_2, if_neg hr]; exact h3 r hr, ?_⟩
  · rw [learnA_3]
    by_cases e : 100 * r + j = 100 * s + i
    · have e1 : r = s := by omega
      have e2 : j = i := by omega
      subst e1; subst e2
      rw [if_pos rfl]
      exact ⟨fun _ => Or.inr ⟨rfl, by omega, q⟩, fun _ => rfl⟩
    · rw [if_neg e, h2 r j hr hj]
      refine or_congr Iff.rfl ⟨fun z => ⟨z.1, by omega, z.2.2⟩, fun z => ⟨z.1, ?_, z.2.2⟩⟩
      have := z.1
      have := z.2.1
      by_cases w : j = i
      · subst w; omega
      · omega
  · rw [learnA_2, if_pos rfl]
    by_cases c : b 2 s < b 5 i
    · rw [if_pos c]; omega
    · rw [if_neg c]; exact h4
theorem Lrn_n {b : Ab} {i : Nat} {Q : Nat → Prop} (L : Lrn a b s i Q) (q : ¬ Q i) : Lrn a b s (i + 1) Q := by
  obtain ⟨h1, h2, h3, h4⟩ := L
  refine ⟨h1, fun r j hr hj => ?_, h3, h4⟩
  rw [h2 r j hr hj]
  refine or_congr Iff.rfl ⟨fun z => ⟨z.1, by omega, z.2.2⟩, fun z => ⟨z.1, ?_, z.2.2⟩⟩
  by_cases w : j = i
  · subst w; exact absurd z.2.2 q
  · have := z.2.1; omega
theorem Lrn_kn {b : Ab} {i : Nat} {Q : Nat → Prop} (L : Lrn a b s i Q) {r j : Nat} (hr : r < 5) : knF b r j = true ↔ knF a r j = true ∨ (j < 100 ∧ r = s ∧ j < i ∧ Q j) := by
  rw [knF_iff, knF_iff]
  by_cases hj : j < 100
  · rw [L.2.1 r j hr hj]
    constructor
    · rintro ⟨-, h | h⟩
      · exact Or.inl ⟨hj, h⟩
      · exact Or.inr ⟨hj, h⟩
    · rintro (h | h)
      · exact ⟨hj, Or.inl h.2⟩
      · exact ⟨hj, Or.inr h.2⟩
  · exact ⟨fun h => absurd h.1 hj, fun h => h.elim (fun z => absurd z.1 hj) (fun z => absurd z.1 hj)⟩
theorem Lrn_kn2 {b : Ab} {i : Nat} {Q : Nat → Prop} (L : Lrn a b s i Q) {r j : Nat} (hr : r < 5) (h : r ≠ s ∨ i ≤ j ∨ ¬ Q j) : knF b r j = knF a r j := by
  rw [Bool.eq_iff_iff, Lrn_kn L hr]
  refine ⟨fun q => q.elim id (fun z => ?_), Or.inl⟩
  rcases h with h | h | h
  · exact absurd z.2.1 h
  · have := z.2.2.1; omega
  · exact absurd z.2.2.2 h
/-- what a repair brings -/
def rpQ (a : Ab) (s h : Nat) (j : Nat) : Prop := gp a s h j = true
theorem rp_gr {b : Ab} {i h : Nat} (L : Lrn a b s i (rpQ a s h)) (I : Inv a v) (hs : s < 5) (ht : t < 5) (x : Nat) : x < gr b s t (b 1 t) ↔ x < gr a s t (a 1 t) := by
  have h20 := (I.2.1 t ht).1
  have e1 : b 1 t = a 1 t := by rw [L.1 1 (by omega) (by omega)]
  rw [e1, gr_lt, gr_lt]
  constructor
  · rintro ⟨j, j1, j2, j3⟩
    rcases (Lrn_kn L hs).mp j3 with q | ⟨-, -, -, q⟩
    · exact ⟨j, j1, j2, q⟩
    · have q3 := (gp_iff.mp q).2.2
      rw [show (20 * t + j) / 20 = t by omega, show (20 * t + j) % 20 = j by omega, gr_lt] at q3
      obtain ⟨j', g1, g2, g3⟩ := q3
      exact ⟨j', by omega, g2, g3⟩
  · rintro ⟨j, j1, j2, j3⟩
    exact ⟨j, j1, j2, (Lrn_kn L hs).mpr (Or.inl j3)⟩
theorem rp_gp {b : Ab} {i h : Nat} (L : Lrn a b s i (rpQ a s h)) (I : Inv a v) (hs : s < 5) (hh : h < 5) (hne : h ≠ s) {j : Nat} (hj : j < 100) (hij : i ≤ j) : gp b s h j = gp a s h j := by
  rw [Bool.eq_iff_iff, gp_iff, gp_iff, Lrn_kn2 L hs (Or.inr (Or.inl hij)), Lrn_kn2 L hh (Or.inl hne), rp_gr L I hs (show j / 20 < 5 by omega)]
theorem cnt_L {b : Ab} {h : Nat} (L : Lrn a b s 100 (rpQ a s h)) (I : Inv a v) (Ib : Inv b v) (hs : s < 5) : ∀ x, x ≤ 100 → cntK b s x = cntK a s x + gpN a s h x := by
  intro x
  induction x with
  | zero => intro _; rfl
  | succ x ih =>
    intro hx
    have e := ih (by omega)
    have b1 := (I.2.2.1 s x hs (by omega)).1
    have b2 := (Ib.2.2.1 s x hs (by omega)).1
    have k := L.2.1 s x hs (by omega)
    rw [gpN_s]
    unfold cntK
    by_cases c : gp a s h x = true
    · have k1 : b 3 (100 * s + x) = 1 := k.mpr (Or.inr ⟨rfl, by omega, c⟩)
      have k2 : ¬ a 3 (100 * s + x) = 1 := fun q => by
        have := (gp_iff.mp c).1
        rw [Bool.eq_false_iff] at this
        exact this (knF_iff.mpr ⟨by omega, q⟩)
      rw [if_pos c]
      omega
    · rw [if_neg c]
      by_cases q : a 3 (100 * s + x) = 1
      · have := k.mpr (Or.inl q); omega
      · have : ¬ b 3 (100 * s + x) = 1 := fun z => (k.mp z).elim q (fun w => c w.2.2)
        omega
/-- repair: what is in the gaps and known by the helper is known behind it; the answer counts it -/
theorem c_repair {h : Nat} (H : CC a v σ) (hs : s < a 0 0) (hh : h < a 0 0) (hne : s ≠ h) : ∃ b, Lrn a b s 100 (rpQ a s h) ∧ Rd b v (nI (gpN a s h 100)) (mX6_repair (nI s) (nI h) σ) := by
  have hs5 := H.s5 hs
  have hh5 := H.s5 hh
  have key : ∀ (d f i : Nat) (b : Ab) (σ : St), i + d = 100 → d < f → CC b v σ → Lrn a b s i (rpQ a s h) → ∃ b', Lrn a b' s 100 (rpQ a s h) ∧ Rd b' v (nI (gpN a s h 100)) (mX6_repair_L17 f (nI s) (nI h) (nI (gpN a s h i)) (nI i) σ) := by
    intro d
    induction d with
    | zero =>
      intro f i b σ hd hf Hb L
      obtain ⟨f, rfl⟩ : ∃ g, f = g + 1 := ⟨f - 1, by omega⟩
      have : i = 100 := by omega
      subst this
      rw [mX6_repair_L17, if_pos (by decide)]
      exact ⟨b, L, Hb.rd⟩
    | succ d ih =>
      intro f i b σ hd hf Hb L
      obtain ⟨f, rfl⟩ : ∃ g, f = g + 1 := ⟨f - 1, by omega⟩
      have hn : b 0 0 = a 0 0 := by rw [L.1 0 (by omega) (by omega)]
      rw [mX6_repair_L17, if_neg (show ¬ (100 : Int32) ≤ nI i from nI_ge (b := 100) (by omega) (by omega)), q_canRepair Hb.1 Hb.2 hs5 hh5 (by omega), bnd_s, if_bI, nI_1, nI_1, rp_gp L H.1 hs5 hh5 (Ne.symm hne) (by omega) (Nat.le_refl _)]
      by_cases c : gp a s h i = true
      · have hk : knF b h i = true := by rw [Lrn_kn2 L hh5 (Or.inl (Ne.symm hne))]; exact (gp_iff.mp c).2.1
        have hm := knF_mk Hb.1 hh5 hk
        rw [if_pos c, C_learn Hb.1 Hb.2 (by omega) hm, bnv_s]
        have := ih f (i + 1) (learnA b s i) _ (by omega) (by omega) ⟨Inv_learn Hb.1 (by omega) hm, RepC_learn Hb.2 s i⟩ (Lrn_y L hs5 (by omega) c)
        rw [gpN_s a s h i, if_pos c] at this
        exact this
      · rw [if_neg c]
        have := ih f (i + 1) b σ (by omega) (by omega) Hb (Lrn_n L c)
        rw [gpN_s a s h i, if_neg c] at this
        exact this
  unfold mX6_repair
  rw [cp_y H.2.1 H.1.1.2 hs hh hne]
  exact key 100 fu 0 a σ (by omega) (by rw [fu_eq]; omega) H Lrn_rf
/-- each operation has one size -/
def SZ (a : Ab) (v : St) (sz : Nat → Int32) : Prop := ∀ i, mk a i → ∀ (v' : St) (σ : St) (a' : Ab), a' 4 i = a 4 i → a' 7 i = a 7 i → mk a' i → v' 1 = v 1 → v' 2 = v 2 → CC a' v' σ → mX4_sizeOf (nI i) σ = some (sz i, σ)
theorem ex_SZ (H : CC a v σ) : ∃ sz, SZ a v sz := by
  have h : ∀ i, ∃ r, mk a i → ∀ (v' : St) (σ : St) (a' : Ab), a' 4 i = a 4 i → a' 7 i = a 7 i → mk a' i → v' 1 = v 1 → v' 2 = v 2 → CC a' v' σ → mX4_sizeOf (nI i) σ = some (r, σ) := fun i => by
    rcases Classical.em (mk a i) with e | e
    · obtain ⟨r, h⟩ := c_size H e
      exact ⟨r, fun _ => h⟩
    · exact ⟨0, fun q => absurd q e⟩
  exact ⟨fun i => Classical.choose (h i), fun i hi => Classical.choose_spec (h i) hi⟩
theorem SZ.keep {b : Ab} {sz : Nat → Int32} (h : SZ a v sz) (e1 : b 1 = a 1) (e4 : b 4 = a 4) (e7 : b 7 = a 7) : SZ b v sz := by
  intro i hi v' σ a' q1 q2 q3 q4 q5 H
  have hm : mk a i := by unfold mk at hi ⊢; rw [← e1]; exact hi
  exact h i hm v' σ a' (by rw [q1, e4]) (by rw [q2, e7]) q3 q4 q5 H
theorem c_op2 {k : Nat} {sz : Nat → Int32} (S : SZ a v sz) (h : CC a v σ) (hs : s < a 0 0) (k1 : 1 ≤ k) (k2 : k ≤ a 1 s) : Rd a v (sz (20 * s + k - 1)) (mX6_operation (nI s) (nI k) 2 σ) := by
  have h5 := h.s5 hs
  have h20 := (h.1.2.1 s h5).1
  have hm := mk_of h h5 k1 k2
  unfold mX6_operation
  rw [cs_y h.2.1 h.1.1.2 hs, if_neg (show ¬ nI k < (1 : Int32) from nI_nlt (a := k) (b := 1) k1 (by omega)), q_within, bnd_s, if_b0, if_pos (by decide), q_made σ h5, bnd_s, (h.2.2.1 s h5).1, if_pos (nI_le k2 (by omega)), q_idOf σ k1, bnd_s, if_neg (by decide), if_neg (by decide), if_pos rfl, S _ hm v σ a rfl rfl hm rfl rfl h, bnd_s]
  exact h.rd
/-- what a transfer brings; and the sum of some sizes -/
def trQ (a : Ab) (s h : Nat) (j : Nat) : Prop := knF a h j = true ∧ knF a s j = false
def trB (a : Ab) (s h : Nat) (j : Nat) : Bool := knF a h j && !knF a s j
theorem trB_iff {h j : Nat} : trB a s h j = true ↔ trQ a s h j := by
  unfold trB trQ
  rw [Bool.and_eq_true, Bool.not_eq_true']
def sumF (a : Ab) (sz : Nat → Int32) (s h : Nat) : Nat → Int32
  | 0 => 0
  | i + 1 => sumF a sz s h i + (if trB a s h i = true then sz i else 0)
theorem sumF_s (a : Ab) (sz : Nat → Int32) (s h i : Nat) : sumF a sz s h (i + 1) = sumF a sz s h i + (if trB a s h i = true then sz i else 0) := rfl
theorem sumF_skip (a : Ab) (sz : Nat → Int32) (s h i : Nat) : ∀ d, (∀ j, i ≤ j → j < i + d → trB a s h j = false) → sumF a sz s h (i + d) = sumF a sz s h i := by
  intro d
  induction d with
  | zero => intro _; rfl
  | succ d ih =>
    intro q
    rw [← Nat.add_assoc, sumF_s, ih (fun j j1 j2 => q j j1 (by omega)), q (i + d) (by omega) (by omega), if_neg (by decide), Int32.add_zero]
theorem c_transfer {h : Nat} {sz : Nat → Int32} (S : SZ a v sz) (H : CC a v σ) (hs : s < a 0 0) (hh : h < a 0 0) (hne : s ≠ h) : ∃ b, Lrn a b s 100 (trQ a s h) ∧ b 2 h ≤ b 2 s ∧ Rd b v (sumF a sz s h 100) (mX6_transfer (nI s) (nI h) σ) := by
  have hs5 := H.s5 hs
  have hh5 := H.s5 hh
  have key : ∀ (d f i : Nat) (b : Ab) (σ : St), i + d = 100 → d < f → CC b v σ → Lrn a b s i (trQ a s h) → ∃ b', Lrn a b' s 100 (trQ a s h) ∧ b' 2 h ≤ b' 2 s ∧ Rd b' v (sumF a sz s h 100) (mX6_transfer_L17 f (nI s) (nI h) (sumF a sz s h i) (nI i) σ) := by
    intro d
    induction d with
    | zero =>
      intro f i b σ hd hf Hb L
      obtain ⟨f, rfl⟩ : ∃ g, f = g + 1 := ⟨f - 1, by omega⟩
      have : i = 100 := by omega
      subst this
      have hn : b 0 0 = a 0 0 := by rw [L.1 0 (by omega) (by omega)]
      have j1 := (Hb.1.2.1 s hs5).2.2.2.1
      have j2 := (Hb.1.2.1 h hh5).2.2.2.1
      have j3 := tot_le Hb.1.2.1
      rw [mX6_transfer_L17, if_pos (by decide)]
      unfold mX6_transfer_b75
      rw [q_get _ (show s < rl 26 from hs5), bnd_s, q_get _ (show h < rl 26 from hh5), bnd_s, lti_s, (Hb.2.2.1 s hs5).2.1, (Hb.2.2.1 h hh5).2.1]
      have up : ∀ x, b 2 s ≤ x → Lrn a (upN b 2 s x) s 100 (trQ a s h) := fun x hx => by
        obtain ⟨l1, l2, l3, l4⟩ := L
        refine ⟨fun k k1 k2 => by rw [upN_row k1]; exact l1 k k1 k2, fun r j hr hj => by rw [upN_row (by omega)]; exact l2 r j hr hj, fun r hr => by rw [upN_at, if_neg (fun q => hr q.2)]; exact l3 r hr, by rw [upN_at, if_pos ⟨rfl, rfl⟩]; omega⟩
      by_cases c : b 2 s < b 2 h
      · rw [if_pos (nI_lt c (by omega)), q_set _ _ (show s < rl 26 from hs5), bnv_s]
        refine ⟨upN b 2 s (b 2 h), up _ (by omega), ?_, _, rfl, Inv_clk Hb.1 (by omega) (by omega) (by omega), RepC_clk Hb.2 s (b 2 h)⟩
        rw [upN_at, upN_at, if_neg (fun q => hne q.2.symm), if_pos ⟨rfl, rfl⟩]
        exact Nat.le_refl _
      · rw [if_neg (nI_nlt (by omega) (by omega)), q_set _ _ (show s < rl 26 from hs5), bnv_s]
        refine ⟨upN b 2 s (b 2 s), up _ (Nat.le_refl _), ?_, _, rfl, Inv_clk Hb.1 (by omega) (Nat.le_refl _) (by omega), RepC_clk Hb.2 s (b 2 s)⟩
        rw [upN_at, upN_at, if_neg (fun q => hne q.2.symm), if_pos ⟨rfl, rfl⟩]
        omega
    | succ d ih =>
      intro f i b σ hd hf Hb L
      obtain ⟨f, rfl⟩ : ∃ g, f = g + 1 := ⟨f - 1, by omega⟩
      have hn : b 0 0 = a 0 0 := by rw [L.1 0 (by omega) (by omega)]
      have k1 : knF b h i = knF a h i := Lrn_kn2 L hh5 (Or.inl (Ne.symm hne))
      have k2 : knF b s i = knF a s i := Lrn_kn2 L hs5 (Or.inr (Or.inl (Nat.le_refl _)))
      rw [mX6_transfer_L17, if_neg (show ¬ (100 : Int32) ≤ nI i from nI_ge (b := 100) (by omega) (by omega)), C_has Hb.1 Hb.2 hh5 (by omega), bnd_s, if_bI, nI_1, k1]
      by_cases c1 : knF a h i = true
      · rw [if_pos c1, C_has Hb.1 Hb.2 hs5 (by omega), bnd_s, if_bI, k2]
        by_cases c2 : knF a s i = true
        · have nq : ¬ trQ a s h i := fun q => by rw [q.2] at c2; cases c2
          rw [if_pos c2]
          have := ih f (i + 1) b σ (by omega) (by omega) Hb (Lrn_n L nq)
          rw [sumF_s a sz s h i, if_neg (fun q => nq (trB_iff.mp q)), Int32.add_zero] at this
          exact this
        · have yq : trQ a s h i := ⟨c1, Bool.eq_false_iff.mpr c2⟩
          have hm := knF_mk Hb.1 hh5 (k1.trans c1)
          have hma := knF_mk H.1 hh5 c1
          have H1 : CC (learnA b s i) v _ := ⟨Inv_learn Hb.1 (by omega) hm, RepC_learn Hb.2 s i⟩
          have hm1 : mk (learnA b s i) i := by unfold mk at hm ⊢; rw [learnA_row (by omega) (by omega)]; exact hm
          rw [if_neg c2, C_learn Hb.1 Hb.2 (by omega) hm, bnv_s, S i hma v _ (learnA b s i) (by rw [learnA_row (by omega) (by omega), L.1 4 (by omega) (by omega)]) (by rw [learnA_row (by omega) (by omega), L.1 7 (by omega) (by omega)]) hm1 rfl rfl H1, bnd_s]
          have := ih f (i + 1) (learnA b s i) _ (by omega) (by omega) H1 (Lrn_y L hs5 (by omega) yq)
          rw [sumF_s a sz s h i, if_pos (trB_iff.mpr yq)] at this
          exact this
      · have nq : ¬ trQ a s h i := fun q => c1 q.1
        rw [if_neg c1]
        have := ih f (i + 1) b σ (by omega) (by omega) Hb (Lrn_n L nq)
        rw [sumF_s a sz s h i, if_neg (fun q => nq (trB_iff.mp q)), Int32.add_zero] at this
        exact this
  unfold mX6_transfer
  rw [cp_y H.2.1 H.1.1.2 hs hh hne]
  exact key 100 fu 0 a σ (by omega) (by rw [fu_eq]; omega) H Lrn_rf
/-- a gap of s for t: its first and last number -/
def gapP (a : Ab) (s t f l : Nat) : Prop := 1 ≤ f ∧ f ≤ l ∧ l < gr a s t (a 1 t) ∧ ∀ k, f ≤ k → k ≤ l → knF a s (20 * t + k - 1) = false
theorem gap_C (H : CC a v σ) (hs : s < 5) (ht : t < 5) (z : Nat) (hz : z < 2 ^ 31) : ∀ (m j f c : Nat), 20 - j ≤ m → j ≤ 20 → 22 - j ≤ f → c ≤ j → ∃ r, (r = -1000000004 ∨ (z < 20 ∧ ∃ x y, gapP a s t x y ∧ r = nI (100 * x + y))) ∧ (∀ σ, CC a v σ → mX6_gap_L32 f (nI s) (nI t) (nI z) 0 (nI c) (nI (j + 1)) σ = some (r, σ)) := by
  have h20 := (H.1.2.1 t ht).1
  have hle := gr_le a s t (a 1 t)
  have hun : ∀ i, gr a s t (a 1 t) ≤ i → i < 20 → ¬ knF a s (20 * t + i) = true := fun i h1 h2 h3 => by
    have hm := (knF_mk H.1 hs h3).2
    rw [show (20 * t + i) / 20 = t by omega] at hm
    have := (gr_lt a s t i (a 1 t)).mpr ⟨i, Nat.le_refl _, by omega, h3⟩
    omega
  intro m
  induction m with
  | zero =>
    intro j f c h1 h2 h3 hc
    obtain ⟨f, rfl⟩ : ∃ g, f = g + 1 := ⟨f - 1, by omega⟩
    have : j = 20 := by omega
    subst this
    exact ⟨_, Or.inl rfl, fun σ _ => gap_Ce⟩
  | succ m ih =>
    intro j f c h1 h2 h3 hc
    by_cases hj : j = 20
    · exact ih j f c (by omega) h2 h3 hc
    by_cases k : knF a s (20 * t + j) = true
    · obtain ⟨f, rfl⟩ : ∃ g, f = g + 1 := ⟨f - 1, by omega⟩
      obtain ⟨r, e1, e2⟩ := ih (j + 1) f c (by omega) (by omega) (by omega) (by omega)
      refine ⟨r, e1, fun σ H => ?_⟩
      rw [gap_C1 H.1 H.2 hs ht (by omega), if_pos k, if_pos rfl]
      exact e2 σ H
    by_cases hjG : gr a s t (a 1 t) ≤ j
    · obtain ⟨f, rfl⟩ : ∃ g, f = g + 1 := ⟨f - 1, by omega⟩
      exact ⟨_, Or.inl rfl, fun σ H => gap_C0 H.1 H.2 hs ht (20 - j) (f + 1) j 0 (by omega) (by omega) (fun i q1 q2 => hun i (by omega) q2)⟩
    obtain ⟨k0, k1, k2, k3⟩ := (gr_lt a s t j (a 1 t)).mp (by omega)
    obtain ⟨j', p1, p2, p3, p4⟩ := first_of (P := fun i => knF a s (20 * t + i) = true) (k0 - j) j k0 (by omega) k3
    have hne : j ≠ j' := fun q => k (by rw [q]; exact p3)
    have hj'G : j' < gr a s t (a 1 t) := Nat.lt_of_not_le (fun q => hun j' q (by omega) p3)
    obtain ⟨f, rfl⟩ : ∃ g, f = (g + 1 + (j' - (j + 1))) + 1 := ⟨f - 2 - (j' - (j + 1)), by omega⟩
    by_cases hcz : c = z
    · refine ⟨nI (100 * (j + 1) + j'), Or.inr ⟨by omega, j + 1, j', ⟨by omega, by omega, hj'G, fun k q1 q2 => ?_⟩, rfl⟩, fun σ H => ?_⟩
      · rw [Bool.eq_false_iff, show 20 * t + k - 1 = 20 * t + (k - 1) by omega]
        exact p4 (k - 1) (by omega) (by omega)
      · rw [gap_C1 H.1 H.2 hs ht (by omega), if_neg k, if_pos rfl, gap_Cg (j := j + 1) H.1 H.2 hs ht (show j < 20 by omega) (show j' < 20 by omega) p3 (j' - (j + 1)) f (by omega) (fun i q1 q2 => p4 i (by omega) q2), if_pos (by rw [hcz])]
    · obtain ⟨r, e1, e2⟩ := ih (j' + 1) f (c + 1) (by omega) (by omega) (by omega) (by omega)
      refine ⟨r, e1, fun σ H => ?_⟩
      rw [gap_C1 H.1 H.2 hs ht (by omega), if_neg k, if_pos rfl, gap_Cg (j := j + 1) H.1 H.2 hs ht (show j < 20 by omega) (show j' < 20 by omega) p3 (j' - (j + 1)) f (by omega) (fun i q1 q2 => p4 i (by omega) q2), if_neg (fun q => hcz ((nI_eq (by omega) (by omega)).mp q)), nI_1]
      exact e2 σ H
theorem c_gap {z : Nat} (H : CC a v σ) (hs : s < a 0 0) (ht : t < a 0 0) (hz : z < 2 ^ 31) : ∃ r, (r = -1000000004 ∨ (z < 20 ∧ ∃ x y, gapP a s t x y ∧ r = nI (100 * x + y))) ∧ ∀ σ, CC a v σ → Rd a v r (mX6_gap (nI s) (nI t) (nI z) σ) := by
  obtain ⟨r, e1, e2⟩ := gap_C H (H.s5 hs) (H.s5 ht) z hz 20 0 fu 0 (by omega) (by omega) (by rw [fu_eq]; omega) (Nat.le_refl _)
  refine ⟨r, e1, fun σ h => ?_⟩
  have e3 := e2 σ h
  rw [show nI 0 = (0 : Int32) from rfl, show nI (0 + 1) = (1 : Int32) from rfl] at e3
  unfold mX6_gap
  rw [cs_y h.2.1 h.1.1.2 hs, cs_y h.2.1 h.1.1.2 ht, if_pos (show (0 : Int32) ≤ nI z from nI_pos' hz), e3]
  exact h.rd
theorem own_known (H : CC a v σ) (hs : s < 5) {k : Nat} (hk : k < a 1 s) : knF a s (20 * s + k) = true := by
  have h20 := (H.1.2.1 s hs).1
  have hm : mk a (20 * s + k) := ⟨by omega, by rw [show (20 * s + k) / 20 = s by omega]; omega⟩
  have := (H.1.2.2.2.1 _ hm).1
  rw [show (20 * s + k) / 20 = s by omega] at this
  exact knF_iff.mpr ⟨hm.1, this⟩
/-- of its own operations a site lacks none -/
theorem c_gapO (H : CC a v σ) (hs : s < a 0 0) : Rd a v (-1000000004) (mX6_gap (nI s) (nI s) 0 σ) := by
  obtain ⟨r, e1, e2⟩ := c_gap (z := 0) H hs hs (by omega)
  rcases e1 with e1 | ⟨-, x, y, ⟨g1, g2, g3, g4⟩, -⟩
  · rw [← e1]; exact e2 σ H
  · have hle := gr_le a s s (a 1 s)
    have := g4 y g2 (Nat.le_refl _)
    rw [show 20 * s + y - 1 = 20 * s + (y - 1) by omega, own_known H (H.s5 hs) (by omega)] at this
    cases this
end CS
