/-! One step of the law's loop. -/
/-- what low takes out of an int -/
def lowV (x : Int32) (m : Nat) : Nat := x.toBitVec.toNat % 2 ^ 31 % m
theorem lowV_lt (x : Int32) {m : Nat} (h : 0 < m) : lowV x m < m := Nat.mod_lt _ h
theorem q_low (x : Int32) {m : Nat} (h : 0 < m) (h2 : m < 2 ^ 31) (σ : St) : mL_low x (nI m) σ = some (nI (lowV x m), σ) := by
  unfold mL_low dz rmI lowV
  rw [if_neg (nI_ne0 h h2), pk_and x (m := 2147483647) 31 (by decide +kernel), pk_rem (Nat.mod_lt _ (by decide)) h h2]
theorem q_cell (xs : Nat → Int32) {L k : Nat} (hL : L ≤ 260) (hk : k < 100) : ∃ r, mL_cell xs L (nI k) = some r := by
  unfold mL_cell
  by_cases c : L ≤ k
  · rw [if_pos (show Int32.ofNat L ≤ nI k from nI_le c (by omega))]
    exact ⟨_, rfl⟩
  · rw [if_neg (show ¬ Int32.ofNat L ≤ nI k from nI_ge (by omega) (by omega)), if_neg (nI_in (by omega) (by omega))]
    exact ⟨_, rfl⟩
/-- the law ends with 1 -/
def Fin1 (o : Option (Int32 × St)) : Prop := Ok (fun r _ _ => r = 1) o
/-- what holds between two steps: N sites, l whether something may be lost -/
def Bet (N : Nat) (l : Bool) (a : Ab) : Prop := Ie a ∧ a 0 0 = N ∧ (l = false → Conv a)
section LW
variable {xs : Nat → Int32} {L : Nat} {k57 : Int32 → Int32 → Int32 → St → Option (Int32 × St)} {N i A : Nat} {a : Ab} {v σ : St} {l : Bool}
/-- behind a step: the looks at the site and at all pairs; then on -/
theorem st_766 {w : Nat} (nx : ∀ (l : Bool) (a : Ab) (v σ : St), CC a v σ → Bet N l a → Fin1 (k57 (nI N) (bI l) (nI (i + 1)) σ)) (h : CC a v σ) (b : Bet N l a) (hA : A < N) (hw : w ≤ a 2 A) : Fin1 (mL_law_b766 xs L k57 (nI N) (bI l) (nI i) (nI A) (nI w) 1 σ) := by
  obtain ⟨b1, b2, b3⟩ := id b
  unfold mL_law_b766
  rw [if_neg (by decide)]
  refine (c_sound h b1 (by omega) hw).k (fun σ h => ?_)
  rw [if_neg (by decide)]
  refine (c_pairs h).k (fun σ h => ?_)
  rw [if_neg (by decide), if_bI, nI_1]
  cases l with
  | true =>
    rw [if_pos rfl]
    exact nx true a v σ h b
  | false =>
    rw [if_neg (by decide)]
    have q := c_differing h
    rw [Conv_dif h.1 (b3 rfl)] at q
    refine q.k (fun σ h => ?_)
    rw [if_pos (show nI 0 = (0 : Int32) from rfl)]
    exact nx false a v σ h b
/-- the law's mark of what may be lost -/
theorem l_of {F : Nat} (hF : F < 100) {α : Sort _} {X Y : α} : (if bI l = 0 then if nI F ≤ 0 then X else Y else Y) = if (l || decide (0 < F)) = true then Y else X := by
  rw [if_bI]
  cases l with
  | true => rw [if_pos rfl, Bool.true_or, if_pos rfl]
  | false =>
    rw [if_neg (by decide), Bool.false_or]
    by_cases c : 0 < F
    · rw [if_neg (nI_nle c (by omega)), decide_eq_true c, if_pos rfl]
    · rw [show F = 0 by omega, if_pos (by decide), if_neg (by decide)]
theorem st_351 {w F : Nat} (hF : F < 100) (nx : ∀ (l : Bool) (a : Ab) (v σ : St), CC a v σ → Bet N l a → Fin1 (k57 (nI N) (bI l) (nI (i + 1)) σ)) (h : CC a v σ) (b : Bet N (l || decide (0 < F)) a) (hA : A < N) (hw : w ≤ a 2 A) : Fin1 (mL_law_b351 xs L k57 (nI N) (bI l) (nI i) (nI A) (nI w) (nI F) 1 σ) := by
  have q := st_766 (xs := xs) (L := L) nx h b hA hw
  unfold mL_law_b351 mL_law_b362 mL_law_b367
  rw [l_of hF]
  revert q
  cases (l || decide (0 < F)) with
  | true => rw [if_pos rfl]; exact id
  | false => rw [if_neg (by decide)]; exact id
theorem st_460 {w F : Nat} (hF : F < 100) (nx : ∀ (l : Bool) (a : Ab) (v σ : St), CC a v σ → Bet N l a → Fin1 (k57 (nI N) (bI l) (nI (i + 1)) σ)) (h : CC a v σ) (b : Bet N (l || decide (0 < F)) a) (hA : A < N) (hw : w ≤ a 2 A) : Fin1 (mL_law_b460 xs L k57 (nI N) (bI l) (nI i) (nI A) (nI w) (nI F) 1 σ) := by
  have q := st_766 (xs := xs) (L := L) nx h b hA hw
  unfold mL_law_b460 mL_law_b471 mL_law_b476
  rw [l_of hF]
  revert q
  cases (l || decide (0 < F)) with
  | true => rw [if_pos rfl]; exact id
  | false => rw [if_neg (by decide)]; exact id
theorem st_519 {w F : Nat} (hF : F < 100) (nx : ∀ (l : Bool) (a : Ab) (v σ : St), CC a v σ → Bet N l a → Fin1 (k57 (nI N) (bI l) (nI (i + 1)) σ)) (h : CC a v σ) (b : Bet N (l || decide (0 < F)) a) (hA : A < N) (hw : w ≤ a 2 A) : Fin1 (mL_law_b519 xs L k57 (nI N) (bI l) (nI i) (nI A) (nI w) (nI F) 1 σ) := by
  have q := st_766 (xs := xs) (L := L) nx h b hA hw
  unfold mL_law_b519 mL_law_b530 mL_law_b535
  rw [l_of hF]
  revert q
  cases (l || decide (0 < F)) with
  | true => rw [if_pos rfl]; exact id
  | false => rw [if_neg (by decide)]; exact id
/-- room in the links of A, where F is 0 -/
def Roo (a : Ab) (A F : Nat) : Prop := F = 0 → ∀ r, r < a 0 0 → r ≠ A → a 12 (5 * A + r) ≤ 8
theorem Bet_new {kd tg ly ct pl F : Nat} (b : Bet N l a) (h : CC a v σ) (hA : A < N) (hlt : a 1 A < 20) (hr : Roo a A F) : Bet N (l || decide (0 < F)) (newA a A kd tg ly ct pl) := by
  obtain ⟨b1, b2, b3⟩ := b
  have h5 := h.1.1.2
  refine ⟨Ie_new b1 (by omega) hlt, by rw [nA0]; exact b2, fun q => ?_⟩
  rw [Bool.or_eq_false_iff, decide_eq_false_iff_not] at q
  exact Conv_new (b3 q.1) h.1 (by omega) hlt (fun r r1 r2 => by have := hr (by omega) r r1 r2; omega)
theorem Bet_or {F : Nat} (b : Bet N l a) : Bet N (l || decide (0 < F)) a := ⟨b.1, b.2.1, fun q => by
  rw [Bool.or_eq_false_iff] at q
  exact b.2.2 q.1⟩
theorem Bet_row {b : Ab} (h : Bet N l a) (r : ∀ k, k ≠ 10 → k ≠ 11 → b k = a k) : Bet N l b :=
  ⟨Ie_row h.1 (r 1 (by omega) (by omega)) (r 5 (by omega) (by omega)), by rw [r 0 (by omega) (by omega)]; exact h.2.1, fun q => Conv_row (h.2.2 q) (r 0 (by omega) (by omega)) (r 1 (by omega) (by omega)) (r 3 (by omega) (by omega)) (r 12 (by omega) (by omega)) (r 13 (by omega) (by omega))⟩
theorem Bet_Sxp {b : Ab} {s : Nat} (h : Bet N l a) (S : Sxp a b s) : Bet N l b := ⟨S.2.1, S.1.trans h.2.1, fun q => S.2.2.2 (h.2.2 q)⟩
theorem off_in {r m d : Nat} (hr : r < 100) (h1 : d ≤ 8) (h2 : r ≤ d + 8) : (-8 : Int32) ≤ nI r - nI d ∧ nI r - nI d ≤ 8 := by
  have e := pk_sub_toInt (a := r) (b := d) (by omega) (by omega)
  rw [Int32.le_iff_toInt_le, Int32.le_iff_toInt_le, e]
  have e1 : (-8 : Int32).toInt = -8 := by decide
  have e2 : (8 : Int32).toInt = 8 := by decide
  rw [e1, e2]
  omega
/-- a drawn stroke: the points, then the pen lifted -/
theorem st_draw {w F : Nat} {x5 : Int32} (hF : F < 100) (nx : ∀ (l : Bool) (a : Ab) (v σ : St), CC a v σ → Bet N l a → Fin1 (k57 (nI N) (bI l) (nI (i + 1)) σ)) (hA : A < N) {a0 : Ab} {v0 σ0 : St} (h0 : CC a0 v0 σ0) (b0 : Bet N l a0) (hr : Roo a0 A F) (hw : w ≤ a0 2 A) : ∀ (d f k : Nat) (a : Ab) (v σ : St), k + d = 4 → d < f → CC a v σ → (∀ j, j ≠ 10 → j ≠ 11 → a j = a0 j) → a 10 A = k + 1 → k ≤ lowV (x5 >>> (18 &&& 31)) 4 → Fin1 (mL_law_L234 xs L k57 f (nI N) (bI l) (nI i) x5 (nI A) (nI w) (nI F) 1 (nI k) σ) := by
  have hAn : A < a0 0 0 := by rw [b0.2.1]; exact hA
  intro d
  induction d with
  | zero =>
    intro f k a v σ hk hf h r h10 hm
    have := lowV_lt (x5 >>> (18 &&& 31)) (m := 4) (by omega)
    omega
  | succ d ih =>
    intro f k a v σ hk hf h r h10 hm
    obtain ⟨f, rfl⟩ : ∃ g, f = g + 1 := ⟨f - 1, by omega⟩
    have hm4 := lowV_lt (x5 >>> (18 &&& 31)) (m := 4) (by omega)
    have hAa : A < a 0 0 := by rw [r 0 (by omega) (by omega)]; exact hAn
    have hwa : w ≤ a 2 A := by rw [r 2 (by omega) (by omega)]; exact hw
    have hra : Roo a A F := fun q => by rw [r 0 (by omega) (by omega), r 12 (by omega) (by omega)]; exact hr q
    have ba : Bet N l a := Bet_row b0 r
    have h20 := (h.1.2.1 A (h.s5 hAa)).1
    rw [mL_law_L234, show (mL_low (x5 >>> (18 &&& 31)) 4 σ) = _ from q_low _ (m := 4) (by omega) (by omega) σ, bnd_s]
    by_cases c : lowV (x5 >>> (18 &&& 31)) 4 ≤ k
    · rw [if_pos (nI_le c (by omega))]
      unfold mL_law_b309 mL_law_b346
      by_cases f20 : a 1 A = 20
      · refine (c_penUpF h hAa (by omega) f20).k (fun σ h => ?_)
        rw [if_neg (by decide), if_neg (by decide), if_pos rfl]
        refine (c_info2 h hAa).k (fun σ h => ?_)
        rw [if_pos (by rw [f20]; rfl)]
        exact st_351 hF nx h (Bet_or ba) hA hwa
      · have hlt : a 1 A < 20 := by omega
        refine (c_penUp h hAa (by omega) hlt).b (fun r1 σ a1 v1 h1 p => ?_)
        obtain ⟨p1, pl, -, p2⟩ := p
        rw [p1, if_neg (by decide), if_pos (show (0 : Int32) < nI (a 1 A + 1) from nI_lt (a := 0) (by omega) (by omega))]
        refine st_351 hF nx h1 ?_ hA ?_
        · rw [p2]
          exact Bet_row (Bet_new ba h hA hlt hra) (fun j j1 j2 => penA_row j1 j2)
        · rw [p2, penA_row (by omega) (by omega), nA2, if_pos rfl]
          omega
    · rw [if_neg (nI_ge (by omega) (by omega)), if_neg (by decide), show (mL_low (x5 >>> ((20 + nI k) &&& 31)) 17 σ) = _ from q_low _ (m := 17) (by omega) (by omega) σ, bnd_s, show (mL_low (x5 >>> ((22 + nI k) &&& 31)) 5 σ) = _ from q_low _ (m := 5) (by omega) (by omega) σ, bnd_s]
      have d1 := lowV_lt (x5 >>> ((20 + nI k) &&& 31)) (m := 17) (by omega)
      have d2 := lowV_lt (x5 >>> ((22 + nI k) &&& 31)) (m := 5) (by omega)
      refine (c_penMove (n := k) h hAa h10 (by omega) (off_in (m := 0) (d := 8) (by omega) (by omega) (by omega)) (off_in (m := 0) (d := 2) (by omega) (by omega) (by omega))).b (fun r1 σ a1 v1 h1 p => ?_)
      obtain ⟨p1, p2⟩ := p
      rw [p1, if_pos (by rw [il 2, nI_add]), nI_1]
      refine ih f (k + 1) a1 v1 σ (by omega) (by omega) h1 (fun j j1 j2 => by rw [p2, penA_row j1 j2]; exact r j j1 j2) (by rw [p2, penA_10, if_pos rfl]) (by omega)
end LW
