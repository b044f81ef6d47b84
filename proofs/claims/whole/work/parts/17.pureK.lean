/-! The reference makes an operation. -/
def lkM (a : Ab) (s t : Nat) (τ : St) : Prop := ∀ L, L < 25 → τ 6 L = nI (if lkD a s L = true ∧ L % 5 < t then a 12 L + 1 else a 12 L) ∧ (∀ k, k < a 12 L → τ 5 (10 * L + k) = nI (a 13 (10 * L + k))) ∧ (lkD a s L = true → L % 5 < t → τ 5 (10 * L + a 12 L) = nI (a 1 s + 1))
theorem make_L112 {a : Ab} {v : St} (I : Inv a v) {s : Nat} (hs : s < a 0 0) : ∀ (d f t : Nat) (τ : St), t + d = a 0 0 → d < f → τ 12 0 = nI (a 0 0) → τ 1 s = nI (a 1 s + 1) → lkM a s t τ → ∃ τ', mX7_make_L112 f (nI s) (nI t) τ = some (nI (a 1 s + 1), τ') ∧ lkM a s (a 0 0) τ' ∧ ∀ k, k ≠ 5 → k ≠ 6 → τ' k = τ k := by
  have h5 := I.1.2
  intro d
  induction d with
  | zero =>
    intro f t τ h hf hn hm hL
    obtain ⟨f, rfl⟩ : ∃ g, f = g + 1 := ⟨f - 1, by omega⟩
    have ht : t = a 0 0 := by omega
    subst ht
    rw [mX7_make_L112, hn, if_pos (nI_le (by omega) (by omega))]
    unfold mX7_make_b188
    rw [ix_n (by omega) (by decide), nI_clamp (by omega), hm]
    exact ⟨τ, rfl, hL, fun _ _ _ => rfl⟩
  | succ d ih =>
    intro f t τ h hf hn hm hL
    obtain ⟨f, rfl⟩ : ∃ g, f = g + 1 := ⟨f - 1, by omega⟩
    rw [mX7_make_L112, hn, if_neg (nI_ge (by omega) (by omega))]
    have step : (∀ L, L < 25 → L % 5 = t → lkD a s L = true → False) → lkM a s (t + 1) τ := fun hno L hLt => by
      obtain ⟨h1, h2, h3⟩ := hL L hLt
      refine ⟨?_, h2, fun g1 g2 => h3 g1 ?_⟩
      · rw [h1]
        by_cases c : lkD a s L = true ∧ L % 5 < t
        · rw [if_pos c, if_pos ⟨c.1, by omega⟩]
        · rw [if_neg c, if_neg (fun q => by
            by_cases e : L % 5 = t
            · exact hno L hLt e q.1
            · exact c ⟨q.1, by omega⟩)]
      · by_cases e : L % 5 = t
        · exact absurd g1 (fun q => hno L hLt e q)
        · omega
    by_cases hts : t = s
    · rw [if_pos (by rw [hts]), nI_1]
      exact ih f (t + 1) τ (by omega) (by omega) hn hm (step (fun L _ e q => (lkD_iff.mp q).2.2.1 (by rw [e, hts])))
    · rw [if_neg (fun q => hts ((nI_eq (by omega) (by omega)).mp q))]
      have hLt : 5 * s + t < 25 := by omega
      obtain ⟨h1, h2, h3⟩ := hL (5 * s + t) hLt
      have m5 : (5 * s + t) % 5 = t := by omega
      have d5 : (5 * s + t) / 5 = s := by omega
      rw [if_neg (fun q => by rw [m5] at q; omega)] at h1
      have h10 := (I.2.2.2.2.2.2 (5 * s + t) hLt).1
      rw [lk_i, ix_n hLt (by decide), nI_clamp (by omega), h1]
      by_cases hr : a 12 (5 * s + t) < 10
      · have hD : lkD a s (5 * s + t) = true := lkD_iff.mpr ⟨d5, by rw [m5]; omega, by rw [m5]; exact hts, hr⟩
        simp only [lts_s, lti_s]
        rw [if_neg (show ¬ (10 : Int32) ≤ _ from nI_ge (b := 10) (by omega) (by omega)), ix_n hLt (by decide), ix_n (show s < 5 by omega) (by decide), il 10, pk_mul, nI_add, ix_n (show 10 * (5 * s + t) + a 12 (5 * s + t) < 250 by omega) (by decide), ix_n hLt (by decide), ix_n hLt (by decide), nI_clamp (by omega), nI_clamp (by omega), hm, ups_row (show 6 ≠ 5 by omega), h1, nI_1, nI_1]
        obtain ⟨τ', e1, e2, e3⟩ := ih f (t + 1) (ups (ups τ 5 (10 * (5 * s + t) + a 12 (5 * s + t)) (nI (a 1 s + 1))) 6 (5 * s + t) (nI (a 12 (5 * s + t) + 1))) (by omega) (by omega) (by rw [ups_row (by omega), ups_row (by omega)]; exact hn) (by rw [ups_row (by omega), ups_row (by omega)]; exact hm) (fun L hLL => by
          obtain ⟨g1, g2, g3⟩ := hL L hLL
          have gl := (I.2.2.2.2.2.2 L hLL).1
          rw [ups_row (show 5 ≠ 6 by omega), ups_at]
          by_cases e : L = 5 * s + t
          · subst e
            rw [if_pos ⟨rfl, rfl⟩, m5, if_pos ⟨hD, by omega⟩]
            refine ⟨rfl, fun k hk => ?_, fun _ _ => ?_⟩
            · rw [ups_at, if_neg (by omega)]; exact g2 k hk
            · rw [ups_at, if_pos ⟨rfl, by omega⟩]
          · rw [if_neg (fun q => e q.2), ups_row (show 6 ≠ 5 by omega)]
            have key : (lkD a s L = true ∧ L % 5 < t + 1) ↔ (lkD a s L = true ∧ L % 5 < t) := by
              constructor
              · rintro ⟨q1, q2⟩
                refine ⟨q1, ?_⟩
                have := (lkD_iff.mp q1).1
                omega
              · rintro ⟨q1, q2⟩; exact ⟨q1, by omega⟩
            refine ⟨?_, fun k hk => ?_, fun q1 q2 => ?_⟩
            · rw [g1]
              by_cases c : lkD a s L = true ∧ L % 5 < t
              · rw [if_pos c, if_pos (key.mpr c)]
              · rw [if_neg c, if_neg (fun q => c (key.mp q))]
            · rw [ups_at, if_neg (by omega)]; exact g2 k hk
            · have c := key.mp ⟨q1, q2⟩
              have h10' := (lkD_iff.mp q1).2.2.2
              rw [ups_at, if_neg (by omega)]; exact g3 c.1 c.2)
        exact ⟨τ', e1, e2, fun k k1 k2 => by rw [e3 k k1 k2, ups_row k2, ups_row k1]⟩
      · rw [if_pos (show (10 : Int32) ≤ _ from nI_le (a := 10) (by omega) (by omega)), nI_1]
        exact ih f (t + 1) τ (by omega) (by omega) hn hm (step (fun L hLL e q => by
          have q1 := lkD_iff.mp q
          have : L = 5 * s + t := by have := q1.1; omega
          subst this
          exact hr q1.2.2.2))
theorem m_make {a : Ab} {v τ : St} (I : Inv a v) (M : RepM a v τ) {s kd : Nat} (wh lv cn : Int32) (hs : s < a 0 0) (h20 : a 1 s < 20) : ∃ τ', mX7_make (nI s) (nI kd) wh lv cn τ = some (nI (a 1 s + 1), τ') ∧ lkM a s (a 0 0) τ' ∧ (∀ k, k = 4 ∨ 6 < k → τ' k = τ k) ∧ τ' 1 = upd (τ 1) s (nI (a 1 s + 1)) ∧ τ' 2 = upd (τ 2) s (nI (a 2 s + 1)) ∧ τ' 3 = upd (τ 3) (100 * s + (20 * s + a 1 s)) 1 ∧ (∀ j, j / 21 ≠ 20 * s + a 1 s → τ' 0 j = τ 0 j) ∧ τ' 0 (21 * (20 * s + a 1 s)) = nI kd ∧ τ' 0 (21 * (20 * s + a 1 s) + 1) = nI (a 2 s + 1) ∧ τ' 0 (21 * (20 * s + a 1 s) + 2) = wh ∧ τ' 0 (21 * (20 * s + a 1 s) + 3) = lv ∧ τ' 0 (21 * (20 * s + a 1 s) + 4) = cn := by
  have h5 := I.1.2
  obtain ⟨m1, m2, -, -, -⟩ := M.2.1 s (by omega)
  unfold mX7_make
  simp only [lts_s, lti_s]
  rw [ix_n (show s < 5 by omega) (by decide), ix_n (show s < 5 by omega) (by decide), ix_n (show s < 5 by omega) (by decide), nI_clamp (by omega), m1, nI_1]
  rw [show ups τ 1 s (nI (a 1 s + 1)) 1 s = nI (a 1 s + 1) from by rw [ups_at, if_pos ⟨rfl, rfl⟩], m_place _ (by omega), bnd_s, show 20 * s + (a 1 s + 1) - 1 = 20 * s + a 1 s by omega]
  generalize hi : 20 * s + a 1 s = i
  have hi1 : i < 100 := by omega
  rw [ix_n (show s < 5 by omega) (by decide), ix_n (show s < 5 by omega) (by decide), ups_row (show 2 ≠ 1 by omega), m2, nI_1, il 21, pk_mul, il 0, nI_add, ix_n (show 21 * i + 0 < 2100 by omega) (by decide), ix_n (show s < 5 by omega) (by decide), il 1, nI_add, ix_n (show 21 * i + 1 < 2100 by omega) (by decide), il 2, nI_add, ix_n (show 21 * i + 2 < 2100 by omega) (by decide), il 3, nI_add, ix_n (show 21 * i + 3 < 2100 by omega) (by decide), il 4, nI_add, ix_n (show 21 * i + 4 < 2100 by omega) (by decide), il 100, pk_mul, nI_add, ix_n (show 100 * s + i < 500 by omega) (by decide), nI_clamp (by omega), nI_clamp (by omega), nI_clamp (by omega), nI_clamp (by omega), nI_clamp (by omega), nI_clamp (by omega)]
  rw [ups_row (show 2 ≠ 0 by omega), show ups (ups τ 1 s (nI (a 1 s + 1))) 2 s (nI (a 2 s + 1)) 2 s = nI (a 2 s + 1) from by rw [ups_at, if_pos ⟨rfl, rfl⟩]]
  generalize hτ : ups (ups (ups (ups (ups (ups (ups (ups τ 1 s (nI (a 1 s + 1))) 2 s (nI (a 2 s + 1))) 0 (21 * i + 0) (nI kd)) 0 (21 * i + 1) (nI (a 2 s + 1))) 0 (21 * i + 2) wh) 0 (21 * i + 3) lv) 0 (21 * i + 4) cn) 3 (100 * s + i) (nI 1) = τ1
  have r : ∀ k, 3 < k → τ1 k = τ k := fun k hk => by rw [← hτ, ups_row (by omega), ups_row (by omega), ups_row (by omega), ups_row (by omega), ups_row (by omega), ups_row (by omega), ups_row (by omega), ups_row (by omega)]
  have r1 : τ1 1 = upd (τ 1) s (nI (a 1 s + 1)) := by rw [← hτ, ups_row (by omega), ups_row (by omega), ups_row (by omega), ups_row (by omega), ups_row (by omega), ups_row (by omega), ups_row (by omega), ups_same]
  have r2 : τ1 2 = upd (τ 2) s (nI (a 2 s + 1)) := by rw [← hτ, ups_row (by omega), ups_row (by omega), ups_row (by omega), ups_row (by omega), ups_row (by omega), ups_row (by omega), ups_same, ups_row (by omega)]
  have r3 : τ1 3 = upd (τ 3) (100 * s + i) 1 := by rw [← hτ, ups_same, ups_row (by omega), ups_row (by omega), ups_row (by omega), ups_row (by omega), ups_row (by omega), ups_row (by omega), ups_row (by omega)]; rfl
  have r0 : ∀ j, τ1 0 j = if j = 21 * i + 4 then cn else if j = 21 * i + 3 then lv else if j = 21 * i + 2 then wh else if j = 21 * i + 1 then nI (a 2 s + 1) else if j = 21 * i then nI kd else τ 0 j := fun j => by
    rw [← hτ, ups_row (by omega)]
    simp only [ups_at]
    simp
  obtain ⟨τ', e1, e2, e3⟩ := make_L112 I hs (a 0 0) fu 0 τ1 (by omega) (by rw [fu_eq]; omega) (by rw [r 12 (by omega)]; exact M.1) (by rw [r1, upd_at, if_pos rfl]) (fun L hL => by
    rw [r 6 (by omega), r 5 (by omega), if_neg (by omega)]
    exact ⟨(M.2.2.2.2 L hL).1, (M.2.2.2.2 L hL).2, fun _ h => by omega⟩)
  refine ⟨τ', e1, e2, fun k hk => by rw [e3 k (by omega) (by omega), r k (by omega)], by rw [e3 1 (by omega) (by omega), r1], by rw [e3 2 (by omega) (by omega), r2], by rw [e3 3 (by omega) (by omega), r3]; rfl, fun j hj => ?_, ?_, ?_, ?_, ?_, ?_⟩
  · rw [e3 0 (by omega) (by omega), r0, if_neg (by omega), if_neg (by omega), if_neg (by omega), if_neg (by omega), if_neg (by omega)]
  · rw [e3 0 (by omega) (by omega), r0, if_neg (by omega), if_neg (by omega), if_neg (by omega), if_neg (by omega), if_pos rfl]
  · rw [e3 0 (by omega) (by omega), r0, if_neg (by omega), if_neg (by omega), if_neg (by omega), if_pos rfl]
  · rw [e3 0 (by omega) (by omega), r0, if_neg (by omega), if_neg (by omega), if_pos rfl]
  · rw [e3 0 (by omega) (by omega), r0, if_neg (by omega), if_pos rfl]
  · rw [e3 0 (by omega) (by omega), r0, if_pos rfl]
theorem lkM_M {a : Ab} {s kd tg ly ct pl : Nat} {τ : St} (hl : ∀ L, L < 25 → a 12 L ≤ 10) (h : lkM a s (a 0 0) τ) : M_l (newA a s kd tg ly ct pl) τ := by
  intro L hL
  obtain ⟨h1, h2, h3⟩ := h L hL
  have h10 := hl L hL
  rw [nA12]
  by_cases hD : lkD a s L = true
  · have hR := lkD_iff.mp hD
    have hlt := hR.2.2.2
    rw [if_pos ⟨hD, hR.2.1⟩] at h1
    rw [if_pos hD]
    refine ⟨h1, fun k hk => ?_⟩
    rw [nA13, show (10 * L + k) / 10 = L by omega, show (10 * L + k) % 10 = k by omega]
    by_cases e : k = a 12 L
    · rw [if_pos ⟨hD, e⟩, e]; exact h3 hD hR.2.1
    · rw [if_neg (fun q => e q.2)]; exact h2 k (by omega)
  · rw [if_neg (fun q => hD q.1)] at h1
    rw [if_neg hD]
    refine ⟨h1, fun k hk => ?_⟩
    rw [nA13, show (10 * L + k) / 10 = L by omega, show (10 * L + k) % 10 = k by omega, if_neg (fun q => hD q.1)]
    exact h2 k hk
