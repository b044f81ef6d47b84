/-! What is true of every state of a run, and how the class's rows and the reference's hold it. -/
def I_n (a : Ab) : Prop := 1 ≤ a 0 0 ∧ a 0 0 ≤ 5
def I_s (a : Ab) : Prop := ∀ s, s < 5 → a 1 s ≤ 20 ∧ a 10 s ≤ 8 ∧ a 11 s < 4 ∧ a 2 s ≤ tot a ∧ (a 0 0 ≤ s → a 1 s = 0 ∧ a 2 s = 0 ∧ a 10 s = 0)
def I_k (a : Ab) : Prop := ∀ s i, s < 5 → i < 100 → a 3 (100 * s + i) ≤ 1 ∧ (a 3 (100 * s + i) = 1 → mk a i ∧ s < a 0 0 ∧ a 5 i ≤ a 2 s)
def I_o (a : Ab) (v : St) : Prop := ∀ i, mk a i → a 3 (100 * (i / 20) + i) = 1 ∧ a 5 i ≤ tot a ∧ a 4 i ≤ 3 ∧ (a 4 i ≠ 0 → mk a (a 6 i) ∧ a 4 (a 6 i) = 0 ∧ (a 4 i ≠ 3 → a 6 i / 20 = i / 20 ∧ v 6 i = -1)) ∧ (a 4 i = 0 ∨ a 4 i = 3 → v 6 i = nI (a 8 i) ∧ a 8 i < 4) ∧ (a 4 i = 0 → 1 ≤ a 7 i ∧ a 7 i ≤ 8)
def I_l (a : Ab) : Prop := ∀ L, L < 25 → a 12 L ≤ 10 ∧ (a 12 L ≠ 0 → L / 5 < a 0 0 ∧ L % 5 < a 0 0 ∧ L / 5 ≠ L % 5) ∧ ∀ k, k < a 12 L → 1 ≤ a 13 (10 * L + k) ∧ a 13 (10 * L + k) ≤ a 1 (L / 5)
def Inv (a : Ab) (v : St) : Prop := I_n a ∧ I_s a ∧ I_k a ∧ I_o a v ∧ Tms a ∧ Ord a ∧ I_l a
def C_s (a : Ab) (v σ : St) : Prop := ∀ s, s < 5 → σ 0 s = nI (a 1 s) ∧ σ 26 s = nI (a 2 s) ∧ σ 11 s = nI (a 10 s) ∧ (a 10 s ≠ 0 → σ 12 s = v 3 s ∧ σ 13 s = nI (a 11 s)) ∧ ∀ k, k < a 10 s → σ 14 (8 * s + k) = v 4 (8 * s + k) ∧ σ 15 (8 * s + k) = v 5 (8 * s + k)
def C_k (a : Ab) (σ : St) : Prop := ∀ j, j < 500 → σ 16 j = nI (a 3 j)
def C_o (a : Ab) (v σ : St) : Prop := ∀ i, mk a i → σ 1 i = nI (a 4 i) ∧ σ 2 i = nI (a 5 i) ∧ σ 4 i = v 6 i ∧ (a 4 i ≠ 0 → σ 3 i = nI (a 6 i)) ∧ (a 4 i = 0 → σ 6 i = nI (a 7 i) ∧ σ 7 i = v 0 i ∧ ∀ k, k < a 7 i → σ 9 (8 * i + k) = v 1 (8 * i + k) ∧ σ 10 (8 * i + k) = v 2 (8 * i + k))
def C_t (a : Ab) (σ : St) : Prop := σ 28 0 = nI (tot a) ∧ ∀ p, p < tot a → σ 5 p = nI (a 9 p)
def C_l (a : Ab) (σ : St) : Prop := ∀ L, L < 25 → σ 18 L = nI (a 12 L) ∧ ∀ k, k < a 12 L → σ 19 (10 * L + k) = nI (20 * (L / 5) + a 13 (10 * L + k) - 1)
def RepC (a : Ab) (v σ : St) : Prop := σ 27 0 = nI (a 0 0) ∧ C_s a v σ ∧ C_k a σ ∧ C_o a v σ ∧ C_t a σ ∧ C_l a σ
/-- the class's rows that hold something -/
def agC (σ σ' : St) : Prop := ∀ k, k ≠ 17 → (k < 20 ∨ 26 ≤ k) → k ≠ 29 → k ≠ 30 → σ' k = σ k
theorem agC_of {b : Nat} {σ σ' : St} (hb : b < 2) (h : agB b σ σ') : agC σ σ' := fun k h1 h2 h3 h4 => h k (by omega) (by omega) (by omega) (by omega)
theorem agC_trans {σ σ' σ2 : St} (h : agC σ σ') (h2 : agC σ' σ2) : agC σ σ2 := fun k a b c d => (h2 k a b c d).trans (h k a b c d)
theorem agC_refl {σ : St} : agC σ σ := fun _ _ _ _ _ => rfl
theorem RepC_ag {a : Ab} {v σ σ' : St} (h : RepC a v σ) (e : agC σ σ') : RepC a v σ' := by
  have r : ∀ k, k ≠ 17 → (k < 20 ∨ 26 ≤ k) → k ≠ 29 → k ≠ 30 → σ' k = σ k := e
  obtain ⟨h1, h2, h3, h4, h5, h6⟩ := h
  refine ⟨?_, ?_, ?_, ?_, ?_, ?_⟩
  · rw [r 27 (by omega) (by omega) (by omega) (by omega)]; exact h1
  · unfold C_s
    rw [r 0 (by omega) (by omega) (by omega) (by omega), r 26 (by omega) (by omega) (by omega) (by omega), r 11 (by omega) (by omega) (by omega) (by omega), r 12 (by omega) (by omega) (by omega) (by omega), r 13 (by omega) (by omega) (by omega) (by omega), r 14 (by omega) (by omega) (by omega) (by omega), r 15 (by omega) (by omega) (by omega) (by omega)]
    exact h2
  · unfold C_k
    rw [r 16 (by omega) (by omega) (by omega) (by omega)]; exact h3
  · unfold C_o
    rw [r 1 (by omega) (by omega) (by omega) (by omega), r 2 (by omega) (by omega) (by omega) (by omega), r 4 (by omega) (by omega) (by omega) (by omega), r 3 (by omega) (by omega) (by omega) (by omega), r 6 (by omega) (by omega) (by omega) (by omega), r 7 (by omega) (by omega) (by omega) (by omega), r 9 (by omega) (by omega) (by omega) (by omega), r 10 (by omega) (by omega) (by omega) (by omega)]
    exact h4
  · unfold C_t
    rw [r 28 (by omega) (by omega) (by omega) (by omega), r 5 (by omega) (by omega) (by omega) (by omega)]; exact h5
  · unfold C_l
    rw [r 18 (by omega) (by omega) (by omega) (by omega), r 19 (by omega) (by omega) (by omega) (by omega)]; exact h6
theorem tot_le {a : Ab} (h : I_s a) : tot a ≤ 100 := by
  have h0 := (h 0 (by omega)).1
  have h1 := (h 1 (by omega)).1
  have h2 := (h 2 (by omega)).1
  have h3 := (h 3 (by omega)).1
  have h4 := (h 4 (by omega)).1
  unfold tot; omega
def knF (a : Ab) (s : Nat) (i : Nat) : Bool := decide (i < 100 ∧ a 3 (100 * s + i) = 1)
theorem knF_mk {a : Ab} {v : St} (I : Inv a v) {s i : Nat} (hs : s < 5) (h : knF a s i = true) : mk a i := by
  have h1 := of_decide_eq_true h
  exact ((I.2.2.1 s i hs h1.1).2 h1.2).1
theorem knF_val {a : Ab} {v : St} (I : Inv a v) {s i : Nat} (hs : s < 5) (hi : i < 100) : nI (a 3 (100 * s + i)) = bI (knF a s i) := by
  have h := (I.2.2.1 s i hs hi).1
  unfold knF
  by_cases e : a 3 (100 * s + i) = 1
  · rw [e, decide_eq_true ⟨hi, rfl⟩]; rfl
  · rw [show a 3 (100 * s + i) = 0 by omega, decide_eq_false (by omega)]; rfl
theorem shB_of {a : Ab} {v σ : St} (I : Inv a v) (C : RepC a v σ) {g s : Nat} {K : Nat → Bool} (hK : ∀ i, K i = true → mk a i) (hk : ∀ i, i < 100 → σ (16 + g) (100 * s + i) = bI (K i)) : shB a K g s σ := by
  obtain ⟨-, hIs, -, hIo, -, hO, -⟩ := I
  obtain ⟨-, -, -, hCo, hCt, -⟩ := C
  refine ⟨⟨tot_le hIs, hO, hK⟩, hCt, fun i hi => ?_, hk⟩
  obtain ⟨a1, a2, a3, a4, a5, a6⟩ := hIo i hi
  obtain ⟨b1, b2, b3, b4, b5⟩ := hCo i hi
  exact ⟨b1, a3, fun h => ⟨b4 h, (a4 h).1.1⟩, fun h => ⟨by rw [b3]; exact (a5 h).1, (a5 h).2⟩⟩
/-! prefixes of calls -/
theorem if_b0 {α : Sort _} {P : Prop} [Decidable P] {A B : α} : (if bI (decide P) = 0 then A else B) = if P then B else A := by
  by_cases h : P
  · rw [decide_eq_true h, if_pos h]; rfl
  · rw [decide_eq_false h, if_neg h]; rfl
theorem cs_n {β : Type} {n : Nat} {σ : St} {x : Int32} {A F : St → Option β} (hn : σ 27 0 = nI n) (h1 : 1 ≤ n) (h5 : n ≤ 5) (hs : ¬ isS n x) : bnd (mX6_isSite x σ) (fun r s => if r = 0 then A s else F s) = A σ := by rw [q_site_n hn h1 h5 hs]; rfl
theorem cs_y {β : Type} {n s : Nat} {σ : St} {A F : St → Option β} (hn : σ 27 0 = nI n) (h5 : n ≤ 5) (hs : s < n) : bnd (mX6_isSite (nI s) σ) (fun r s => if r = 0 then A s else F s) = F σ := by rw [q_site_y hn h5 hs]; rfl
def isPr (n : Nat) (x y : Int32) : Prop := isS n x ∧ isS n y ∧ x ≠ y
theorem cp_n {β : Type} {n : Nat} {σ : St} {x y : Int32} {A F : St → Option β} (hn : σ 27 0 = nI n) (h1 : 1 ≤ n) (h5 : n ≤ 5) (hs : ¬ isPr n x y) : bnd (mX6_areTwoSites x y σ) (fun r s => if r = 0 then A s else F s) = A σ := by
  unfold mX6_areTwoSites
  by_cases hx : isS n x
  · obtain ⟨s, hs1, rfl⟩ := id hx
    rw [cs_y hn h5 hs1]
    by_cases hy : isS n y
    · obtain ⟨t, ht1, rfl⟩ := id hy
      rw [cs_y hn h5 ht1, if_pos (Decidable.not_not.mp (fun q => hs ⟨hx, hy, q⟩))]; rfl
    · rw [cs_n hn h1 h5 hy]; rfl
  · rw [cs_n hn h1 h5 hx]; rfl
theorem cp_y {β : Type} {n s t : Nat} {σ : St} {A F : St → Option β} (hn : σ 27 0 = nI n) (h5 : n ≤ 5) (hs : s < n) (ht : t < n) (hst : s ≠ t) : bnd (mX6_areTwoSites (nI s) (nI t) σ) (fun r s => if r = 0 then A s else F s) = F σ := by
  unfold mX6_areTwoSites
  rw [cs_y hn h5 hs, cs_y hn h5 ht, if_neg (fun q => hst ((nI_eq (by omega) (by omega)).mp q))]; rfl
