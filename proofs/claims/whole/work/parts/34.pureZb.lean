/-! differing: knowledge with what is on its way. -/
def kkF (kk : Nat → Nat) (s i : Nat) : Bool := decide (i < 100 ∧ kk (100 * s + i) = 1)
/-- both sides, with other knowledge kk -/
def kkOk (a : Ab) (kk : Nat → Nat) : Prop := ∀ s i, s < 5 → i < 100 → kk (100 * s + i) ≤ 1 ∧ (kk (100 * s + i) = 1 → mk a i)
def CK (a : Ab) (v : St) (kk : Nat → Nat) (σ : St) : Prop := RepC a v σ ∧ ∀ j, j < 500 → σ 17 j = nI (kk j)
def MK (a : Ab) (v : St) (kk : Nat → Nat) (τ : St) : Prop := τ 12 0 = nI (a 0 0) ∧ M_s a v τ ∧ M_o a v τ ∧ M_l a τ ∧ (∀ j, j < 500 → τ 3 j = nI (kk j)) ∧ ∀ j, j < 500 → τ 11 j = nI (a 3 j)
theorem kkF_val {a : Ab} {kk : Nat → Nat} (h : kkOk a kk) {s i : Nat} (hs : s < 5) (hi : i < 100) : nI (kk (100 * s + i)) = bI (kkF kk s i) := by
  have h1 := (h s i hs hi).1
  unfold kkF
  by_cases e : kk (100 * s + i) = 1
  · rw [e, decide_eq_true ⟨hi, rfl⟩]; rfl
  · rw [show kk (100 * s + i) = 0 by omega, decide_eq_false (by omega)]; rfl
theorem kkF_mk {a : Ab} {kk : Nat → Nat} (h : kkOk a kk) {s i : Nat} (hs : s < 5) (e : kkF kk s i = true) : mk a i := by
  have h1 := of_decide_eq_true e
  exact (h s i hs h1.1).2 h1.2
theorem shM_K {a : Ab} {v τ : St} (I : Inv a v) (hMo : M_o a v τ) {s : Nat} {K : Nat → Bool} (hK : ∀ i, K i = true → mk a i) (hk : ∀ i, i < 100 → τ 3 (100 * s + i) = bI (K i)) : shM a K s τ := by
  obtain ⟨-, hIs, -, hIo, hT, hO, -⟩ := I
  have ht := tot_le hIs
  refine ⟨⟨ht, hO, hT, hK⟩, fun i hi => ?_, hk⟩
  obtain ⟨a1, a2, a3, a4, a5, a6⟩ := hIo i hi
  obtain ⟨b1, b2, b3, b4, b5⟩ := hMo i hi
  exact ⟨b1, a3, b2, by omega, fun h => ⟨(b4 h).2, (a4 h).1.1, fun _ => (b4 h).1, fun h3 => ((a4 h).2.2 h3).1⟩, fun h => ⟨by rw [b3]; exact (a5 h).1, (a5 h).2⟩⟩
theorem CK_ag {a : Ab} {v : St} {kk : Nat → Nat} {b : Nat} {σ σ' : St} (hb : b < 2) (h : CK a v kk σ) (e : agB b σ σ') : CK a v kk σ' := ⟨RepC_ag h.1 (agC_of hb e), fun j hj => by rw [e 17 (by omega) (by omega) (by omega) (by omega)]; exact h.2 j hj⟩
theorem MK_ag {a : Ab} {v : St} {kk : Nat → Nat} {τ τ' : St} (h : MK a v kk τ) (e : ∀ k, k ≤ 6 ∨ k = 11 ∨ k = 12 → τ' k = τ k) : MK a v kk τ' := by
  obtain ⟨h1, h2, h3, h4, h5, h6⟩ := h
  refine ⟨?_, ?_, ?_, ?_, ?_, ?_⟩
  · rw [e 12 (by omega)]; exact h1
  · unfold M_s; rw [e 1 (by omega), e 2 (by omega), e 4 (by omega)]; exact h2
  · unfold M_o; rw [e 0 (by omega)]; exact h3
  · unfold M_l; rw [e 5 (by omega), e 6 (by omega)]; exact h4
  · rw [e 3 (by omega)]; exact h5
  · rw [e 11 (by omega)]; exact h6
theorem boardsK {a : Ab} {v σ τ : St} {kk : Nat → Nat} (I : Inv a v) (hkk : kkOk a kk) (C : CK a v kk σ) (M : MK a v kk τ) {s b : Nat} (hb : b < 2) (hs : s < 5) : ∃ σ' τ' c fn, mX0_show b 1 (nI s) σ = some σ' ∧ mX7_workOut (nI s) τ = some τ' ∧ agB b σ σ' ∧ agM τ τ' ∧ hsB a (kkF kk s) b c fn σ' ∧ hsM a (kkF kk s) c fn τ' ∧ c ≤ 100 ∧ ∀ p, p < c → mk a (fn p) ∧ a 4 (fn p) = 0 := by
  have hK := fun i (h : kkF kk s i = true) => kkF_mk hkk hs h
  have hB := shB_of (g := 1) (s := s) I C.1 hK (fun i hi => by rw [show 16 + 1 = 17 from rfl, C.2 _ (by omega)]; exact kkF_val hkk hs hi)
  have hm := shM_K (s := s) I M.2.2.1 hK (fun i hi => by rw [M.2.2.2.2.1 _ (by omega)]; exact kkF_val hkk hs hi)
  obtain ⟨σ', c, fn, e1, e2, e3, e4, e5⟩ := q_show (b := b) (by omega) hb hs hB
  obtain ⟨τ', c', fn', g1, g2, g3, g4⟩ := q_work hs hm
  obtain ⟨hc, hf⟩ := Lst_one okl_irr (fun _ _ _ => okl_trans) e4 g4
  subst hc
  refine ⟨σ', τ', c, fn, e1, g1, e2, g2, e3, ⟨g3.1, fun q hq => ?_⟩, e5, fun p hp => ⟨hK _ (e4.2.1 p hp).1, (e4.2.1 p hp).2.1⟩⟩
  rw [hf q hq]
  exact g3.2 q hq
theorem same_K {a : Ab} {v σ τ : St} {kk : Nat → Nat} (I : Inv a v) (hkk : kkOk a kk) (C : CK a v kk σ) (M : MK a v kk τ) {s t : Nat} (hs : s < 5) (ht : t < 5) : ∃ b σ' τ', mX6_showSame 1 (nI s) (nI t) σ = some (bI b, σ') ∧ mX7_doShowSame (nI s) (nI t) τ = some (bI b, τ') ∧ CK a v kk σ' ∧ MK a v kk τ' := by
  obtain ⟨σ1, τ1, c, fn, e1, e2, e3, e4, e5, e6, e7, e8⟩ := boardsK (b := 0) I hkk C M (by omega) hs
  have C1 := CK_ag (by omega) C e3
  have M1 : MK a v kk τ1 := MK_ag M (fun k hk => e4 k (by omega) (by omega) (by omega))
  obtain ⟨τ2, p1, p2, p3⟩ := cpy_L (t := nI t) e7 c fu 0 τ1 (by omega) (by rw [fu_eq]; omega)
  have M2 : MK a v kk τ2 := MK_ag M1 (fun k hk => p2 k (by omega) (by omega))
  obtain ⟨σ3, τ3, c2, fn2, g1, g2, g3, g4, g5, g6, g7, g8⟩ := boardsK (b := 1) I hkk C1 M2 (by omega) ht
  have C3 := CK_ag (by omega) C1 g3
  have M3 : MK a v kk τ3 := MK_ag M2 (fun k hk => g4 k (by omega) (by omega) (by omega))
  have k29 : σ3 29 0 = nI c := by rw [g3 29 (by omega) (by omega) (by omega) (by omega)]; exact e5.1
  have k30 : σ3 30 0 = nI c2 := g5.1
  have h1 : ∀ q, q < c → σ3 22 q = nI (fn q) ∧ fn q < 100 ∧ σ3 21 (fn q) = nI (lyK a (kkF kk s) (fn q)) := fun q hq => by
    rw [g3 22 (by omega) (by omega) (by omega) (by omega), g3 21 (by omega) (by omega) (by omega) (by omega)]
    exact ⟨e5.2.1 q hq, (e8 q hq).1.1, e5.2.2.2 (fn q) (e8 q hq).1 (e8 q hq).2⟩
  have h2 : ∀ q, q < c2 → σ3 25 q = nI (fn2 q) ∧ fn2 q < 100 ∧ σ3 24 (fn2 q) = nI (lyK a (kkF kk t) (fn2 q)) := fun q hq => ⟨g5.2.1 q hq, (g8 q hq).1.1, g5.2.2.2 (fn2 q) (g8 q hq).1 (g8 q hq).2⟩
  have h3 : ∀ q, q < c → τ3 9 q = nI (fn q) ∧ τ3 10 q = nI (lyK a (kkF kk s) (fn q)) := fun q hq => by
    obtain ⟨w1, w2⟩ := p3 q hq
    obtain ⟨w3, w4⟩ := e6.2 q hq
    rw [g4 9 (by omega) (by omega) (by omega), g4 10 (by omega) (by omega) (by omega), w1, w2, if_pos (Nat.zero_le _), if_pos (Nat.zero_le _)]
    exact ⟨w3, w4⟩
  unfold mX6_showSame mX7_doShowSame mX0_matches
  rw [e1, bnv_s, g1, bnv_s, show σ3 (29 + 0) 0 = _ from k29, show σ3 (29 + 1) 0 = _ from k30, e2, bnv_s, e6.1, show (mX7_doShowSame_L13 fu (nI t) (nI c) 0 τ1) = _ from p1]
  unfold mX7_doShowSame_b53
  rw [g2, bnv_s, g6.1]
  by_cases hcc : c = c2
  · subst hcc
    rw [if_pos rfl, if_pos rfl]
    have A := mat_L (l := fun q => lyK a (kkF kk s) (fn q)) (l2 := fun q => lyK a (kkF kk t) (fn2 q)) e7 k29 h1 h2 c fu 0 (by omega) (by rw [fu_eq]; omega)
    have B := sam_L (l := fun q => lyK a (kkF kk s) (fn q)) (l2 := fun q => lyK a (kkF kk t) (fn2 q)) e7 h3 g6.2 c fu 0 (by omega) (by rw [fu_eq]; omega)
    rw [show nI 0 = (0 : Int32) from rfl] at A B
    rcases A with ⟨j1, j2⟩ | ⟨j1, j2⟩
    · rcases B with ⟨u1, u2⟩ | ⟨u1, u2⟩
      · rw [j2, u2]; exact ⟨true, σ3, τ3, rfl, rfl, C3, M3⟩
      · exact absurd j1 u1
    · rcases B with ⟨u1, u2⟩ | ⟨u1, u2⟩
      · exact absurd u1 j1
      · rw [j2, u2]; exact ⟨false, σ3, τ3, rfl, rfl, C3, M3⟩
  · have hn : ¬ nI c = nI c2 := fun q => hcc ((nI_eq (by omega) (by omega)).mp q)
    rw [if_neg hn, if_neg hn, show (mX7_doShowSame_L76 fu (nI c) 0 0 τ3) = _ from sam_0 (c := c) (q := 0) (g := 3999)]
    exact ⟨false, σ3, τ3, rfl, rfl, C3, M3⟩
