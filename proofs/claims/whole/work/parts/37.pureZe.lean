/-! differing: the pairs. -/
theorem prC_L {a : Ab} {v : St} {kk : Nat → Nat} (I : Inv a v) (hk : kkOk a kk) : ∀ (e f s : Nat) (x : Int32) (σ τ : St), s + e = a 0 0 → e < f → CK a v kk σ → MK a v kk τ → ∃ r σ' τ', mX6_differing_L8 f x (nI s) σ = some (r, σ') ∧ mX7_differing_L93 f x (nI s) τ = some (r, τ') ∧ RepC a v σ' ∧ RepM a v τ' := by
  have h5 := I.1.2
  intro e
  induction e with
  | zero =>
    intro f s x σ τ h hf C M
    obtain ⟨f, rfl⟩ : ∃ g, f = g + 1 := ⟨f - 1, by omega⟩
    obtain ⟨τ', e1, e2, e3⟩ := bk_L (a := a) (v := v) (x := x) 500 fu 0 τ (by omega) (by rw [fu_eq]; omega)
    rw [mX6_differing_L8, mX7_differing_L93, C.1.1, M.1, if_pos (nI_le (by omega) (by omega)), if_pos (nI_le (by omega) (by omega)), show (mX7_differing_L144 fu x 0 τ) = _ from e1]
    refine ⟨x, σ, τ', rfl, rfl, C.1, ?_, ?_, fun j hj => ?_, ?_, ?_⟩
    · rw [e2 12 (by omega)]; exact M.1
    · unfold M_s; rw [e2 1 (by omega), e2 2 (by omega), e2 4 (by omega)]; exact M.2.1
    · rw [e3 j hj, if_pos (Nat.zero_le _)]; exact M.2.2.2.2.2 j hj
    · unfold M_o; rw [e2 0 (by omega)]; exact M.2.2.1
    · unfold M_l; rw [e2 5 (by omega), e2 6 (by omega)]; exact M.2.2.2.1
  | succ e ih =>
    intro f s x σ τ h hf C M
    obtain ⟨f, rfl⟩ : ∃ g, f = g + 1 := ⟨f - 1, by omega⟩
    have inner : ∀ (g f2 t : Nat) (x : Int32) (σ τ : St), t + g = a 0 0 → g < f2 → CK a v kk σ → MK a v kk τ → ∃ r σ' τ', mX6_differing_L20 (mX6_differing_L8 f) f2 x (nI s) (nI t) σ = some (r, σ') ∧ mX7_differing_L105 (mX7_differing_L93 f) f2 x (nI s) (nI t) τ = some (r, τ') ∧ RepC a v σ' ∧ RepM a v τ' := by
      intro g
      induction g with
      | zero =>
        intro f2 t x σ τ h2 hf2 C M
        obtain ⟨f2, rfl⟩ : ∃ g, f2 = g + 1 := ⟨f2 - 1, by omega⟩
        rw [mX6_differing_L20, mX7_differing_L105, C.1.1, M.1, if_pos (nI_le (by omega) (by omega)), if_pos (nI_le (by omega) (by omega)), nI_1]
        exact ih f (s + 1) x σ τ (by omega) (by omega) C M
      | succ g ihg =>
        intro f2 t x σ τ h2 hf2 C M
        obtain ⟨f2, rfl⟩ : ∃ g, f2 = g + 1 := ⟨f2 - 1, by omega⟩
        obtain ⟨b, σ1, τ1, e1, e2, C1, M1⟩ := same_K I hk C M (show s < 5 by omega) (show t < 5 by omega)
        rw [mX6_differing_L20, mX7_differing_L105, C.1.1, M.1, if_neg (nI_ge (by omega) (by omega)), if_neg (nI_ge (by omega) (by omega)), e1, e2, bnd_s, bnd_s, nI_1, Int32.add_zero]
        cases b with
        | true =>
          rw [bI_t, if_neg (by decide), if_neg (by decide)]
          exact ihg f2 (t + 1) x σ1 τ1 (by omega) (by omega) C1 M1
        | false =>
          rw [bI_f, if_pos rfl, if_pos rfl]
          exact ihg f2 (t + 1) (x + 1) σ1 τ1 (by omega) (by omega) C1 M1
    rw [mX6_differing_L8, mX7_differing_L93, C.1.1, M.1, if_neg (nI_ge (by omega) (by omega)), if_neg (nI_ge (by omega) (by omega)), nI_1]
    exact inner e fu (s + 1) x σ τ (by omega) (by rw [fu_eq]; omega) C M
theorem op_differing {σ τ : St} (R : Rel σ τ) : Same (mX6_differing σ) (mX7_differing τ) := by
  obtain ⟨a, v, I, C, M⟩ := id R
  have h5 := I.1.2
  have hk : kkOk a (a 3) := fun s i hs hi => ⟨(I.2.2.1 s i hs hi).1, fun h => ((I.2.2.1 s i hs hi).2 h).1⟩
  have C0 : CK a v (a 3) (cpS σ 17 16 0 500) := ⟨RepC_ag C (fun k h1 _ _ _ => by funext i; unfold cpS; rw [if_neg (fun q => h1 q.1)]), fun j hj => by unfold cpS; rw [if_pos ⟨rfl, Nat.zero_le _, hj⟩]; exact C.2.2.1 j hj⟩
  obtain ⟨τ1, g1, g2, g3⟩ := as_L (x := ()) 500 fu 0 τ (by omega) (by rw [fu_eq]; omega)
  have M0 : MK a v (a 3) τ1 := by
    refine ⟨?_, ?_, ?_, ?_, fun j hj => ?_, fun j hj => ?_⟩
    · rw [g2 12 (by omega)]; exact M.1
    · unfold M_s; rw [g2 1 (by omega), g2 2 (by omega), g2 4 (by omega)]; exact M.2.1
    · unfold M_o; rw [g2 0 (by omega)]; exact M.2.2.2.1
    · unfold M_l; rw [g2 5 (by omega), g2 6 (by omega)]; exact M.2.2.2.2
    · rw [g2 3 (by omega)]; exact M.2.2.1 j hj
    · rw [g3 j hj, if_pos (Nat.zero_le _)]; exact M.2.2.1 j hj
  obtain ⟨σ2, j1, C2⟩ := lkC_L I (a 0 0) fu 0 (a 3) _ (by omega) (by rw [fu_eq]; omega) hk C0
  obtain ⟨τ2, k1, M2⟩ := lkM_L I 25 fu 0 (a 3) τ1 (by omega) (by rw [fu_eq]; omega) hk M0
  obtain ⟨r, σ3, τ3, p1, p2, C3, M3⟩ := prC_L I (fnK_ok I 25 (a 3) (by omega) hk) (a 0 0) fu 0 0 σ2 τ2 (by omega) (by rw [fu_eq]; omega) C2 M2
  unfold mX6_differing mX7_differing mX6_lookAhead mX2_copyFrom
  rw [q_copy σ (by omega) (by show 500 ≤ 500; omega) (by rw [fu_eq]; show 500 < 4000; omega), bnv_s, bnv_s, show rl (16 + 1) = 500 from rl_kno 1 (by omega), show (mX6_lookAhead_L13 fu 0 (cpS σ (16 + 1) (16 + 0) 0 500)) = _ from j1, bnv_s, show (mX6_differing_L8 fu 0 0 σ2) = _ from p1, show (mX7_differing_L2 fu 0 τ) = _ from g1, show (mX7_differing_L29 fu 0 τ1) = _ from k1, show (mX7_differing_L93 fu 0 0 τ2) = _ from p2]
  exact Same_r ⟨a, v, I, C3, M3⟩
