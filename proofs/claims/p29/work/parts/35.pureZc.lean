/-! differing, put together. -/
def mkK (a : Ab) (kk : Nat → Nat) (L m : Nat) : Nat → Nat := fun j => if j = 100 * (L % 5) + (20 * (L / 5) + a 13 (10 * L + m) - 1) then 1 else kk j
theorem mkK_ok {a : Ab} {v : St} (I : Inv a v) {kk : Nat → Nat} (h : kkOk a kk) {L m : Nat} (hL : L < 25) (hm : m < a 12 L) : kkOk a (mkK a kk L m) ∧ 20 * (L / 5) + a 13 (10 * L + m) - 1 < 100 ∧ 1 ≤ a 13 (10 * L + m) ∧ a 13 (10 * L + m) ≤ 20 := by
  obtain ⟨h10, h11, h12⟩ := I.2.2.2.2.2.2 L hL
  obtain ⟨m1, m2⟩ := h12 m hm
  have h20 := (I.2.1 (L / 5) (by omega)).1
  refine ⟨fun s i hs hi => ?_, by omega, m1, by omega⟩
  unfold mkK
  by_cases e : 100 * s + i = 100 * (L % 5) + (20 * (L / 5) + a 13 (10 * L + m) - 1)
  · rw [if_pos e]
    refine ⟨Nat.le_refl _, fun _ => ?_⟩
    have ei : i = 20 * (L / 5) + a 13 (10 * L + m) - 1 := by omega
    unfold mk
    rw [show i / 20 = L / 5 by omega]
    omega
  · rw [if_neg e]; exact h s i hs hi
theorem CK_mk {a : Ab} {v σ : St} {kk : Nat → Nat} (C : CK a v kk σ) {j0 : Nat} : CK a v (fun j => if j = j0 then 1 else kk j) (ups σ 17 j0 1) := by
  refine ⟨RepC_ag C.1 (fun k h1 _ _ _ => ups_row h1), fun j hj => ?_⟩
  rw [ups_at]
  by_cases e : j = j0
  · rw [if_pos ⟨rfl, e⟩]; simp only [if_pos e]; rfl
  · rw [if_neg (fun q => e q.2)]; simp only [if_neg e]; exact C.2 j hj
/-- the messages of a link from m on, marked -/
def mkL (a : Ab) (L : Nat) : Nat → Nat → (Nat → Nat) → Nat → Nat
  | 0, _, kk => kk
  | d + 1, m, kk => mkL a L d (m + 1) (mkK a kk L m)
theorem mkL_s (a : Ab) (L d m : Nat) (kk : Nat → Nat) : mkL a L (d + 1) m kk = mkL a L d (m + 1) (mkK a kk L m) := rfl
theorem mkL_ok {a : Ab} {v : St} (I : Inv a v) {L : Nat} (hL : L < 25) : ∀ (d m : Nat) (kk : Nat → Nat), kkOk a kk → m + d = a 12 L → kkOk a (mkL a L d m kk) := by
  intro d
  induction d with
  | zero => intro m kk h _; exact h
  | succ d ih =>
    intro m kk h e
    rw [mkL_s]
    exact ih _ _ (mkK_ok I h hL (by omega)).1 (by omega)
theorem lc_L {a : Ab} {v : St} (I : Inv a v) {s t : Nat} (hs : s < 5) (ht : t < 5) (k13 : Int32 → St → Option St) (k23 : Int32 → Int32 → St → Option St) : ∀ (d f m : Nat) (kk : Nat → Nat) (σ : St), m + d = a 12 (5 * s + t) → d < f → kkOk a kk → CK a v kk σ → ∃ σ', mX6_lookAhead_L33 k13 k23 f (nI s) (nI t) (nI m) σ = k23 (nI s) (nI (t + 1)) σ' ∧ CK a v (mkL a (5 * s + t) d m kk) σ' := by
  have hL : 5 * s + t < 25 := by omega
  have h10 := (I.2.2.2.2.2.2 _ hL).1
  intro d
  induction d with
  | zero =>
    intro f m kk σ h hf hk C
    obtain ⟨f, rfl⟩ : ∃ g, f = g + 1 := ⟨f - 1, by omega⟩
    rw [mX6_lookAhead_L33, q_cnt σ hs ht, bnd_s, (C.1.2.2.2.2.2 _ hL).1, if_pos (nI_le (by omega) (by omega)), nI_1]
    exact ⟨σ, rfl, C⟩
  | succ d ih =>
    intro f m kk σ h hf hk C
    obtain ⟨f, rfl⟩ : ∃ g, f = g + 1 := ⟨f - 1, by omega⟩
    obtain ⟨q1, q2, q3, q4⟩ := mkK_ok I hk hL (show m < a 12 (5 * s + t) by omega)
    rw [mX6_lookAhead_L33, q_cnt σ hs ht, bnd_s, (C.1.2.2.2.2.2 _ hL).1, if_neg (nI_ge (by omega) (by omega)), q_msg σ hs ht (by omega), bnd_s, (C.1.2.2.2.2.2 _ hL).2 m (by omega)]
    unfold mX2_learn
    rw [il 100, pk_mul, nI_add, q_set _ _ (show t * 100 + (20 * ((5 * s + t) / 5) + a 13 (10 * (5 * s + t) + m) - 1) < rl (16 + 1) by show _ < 500; omega), bnv_s, bnv_s, nI_1, show t * 100 + (20 * ((5 * s + t) / 5) + a 13 (10 * (5 * s + t) + m) - 1) = 100 * ((5 * s + t) % 5) + (20 * ((5 * s + t) / 5) + a 13 (10 * (5 * s + t) + m) - 1) by omega]
    obtain ⟨σ', e1, e2⟩ := ih f (m + 1) _ _ (by omega) (by omega) q1 (CK_mk C)
    exact ⟨σ', e1, e2⟩
