/-! A site makes an operation. -/
def ups_upd (σ : St) (k i : Nat) (v : Int32) : ups σ k i v k = upd (σ k) i v := ups_same
/-- the link L leads from s to another of the sites, and has room -/
def lkR (a : Ab) (s L : Nat) : Prop := L / 5 = s ∧ L % 5 < a 0 0 ∧ L % 5 ≠ s ∧ a 12 L < 10
def lkD (a : Ab) (s L : Nat) : Bool := decide (L / 5 = s) && (decide (L % 5 < a 0 0) && (decide (L % 5 ≠ s) && decide (a 12 L < 10)))
theorem lkD_iff {a : Ab} {s L : Nat} : lkD a s L = true ↔ lkR a s L := by
  unfold lkD lkR
  simp
/-- the numbers behind a new operation of s, put at place pl of the total order -/
def newA (a : Ab) (s kd tg ly ct pl : Nat) : Ab := fun k j =>
  if k = 1 then (if j = s then a 1 s + 1 else a 1 j)
  else if k = 2 then (if j = s then a 2 s + 1 else a 2 j)
  else if k = 3 then (if j = 100 * s + (20 * s + a 1 s) then 1 else a 3 j)
  else if k = 4 then (if j = 20 * s + a 1 s then kd else a 4 j)
  else if k = 5 then (if j = 20 * s + a 1 s then a 2 s + 1 else a 5 j)
  else if k = 6 then (if j = 20 * s + a 1 s then tg else a 6 j)
  else if k = 7 then (if j = 20 * s + a 1 s then ct else a 7 j)
  else if k = 8 then (if j = 20 * s + a 1 s then ly else a 8 j)
  else if k = 9 then insF (a 9) pl (20 * s + a 1 s) j
  else if k = 12 then (if lkD a s j = true then a 12 j + 1 else a 12 j)
  else if k = 13 then (if lkD a s (j / 10) = true ∧ j % 10 = a 12 (j / 10) then a 1 s + 1 else a 13 j)
  else a k j
section NA
variable {a : Ab} {s kd tg ly ct pl : Nat}
theorem nA0 : newA a s kd tg ly ct pl 0 = a 0 := rfl
theorem nA1 (j : Nat) : newA a s kd tg ly ct pl 1 j = if j = s then a 1 s + 1 else a 1 j := rfl
theorem nA2 (j : Nat) : newA a s kd tg ly ct pl 2 j = if j = s then a 2 s + 1 else a 2 j := rfl
theorem nA3 (j : Nat) : newA a s kd tg ly ct pl 3 j = if j = 100 * s + (20 * s + a 1 s) then 1 else a 3 j := rfl
theorem nA4 (j : Nat) : newA a s kd tg ly ct pl 4 j = if j = 20 * s + a 1 s then kd else a 4 j := rfl
theorem nA5 (j : Nat) : newA a s kd tg ly ct pl 5 j = if j = 20 * s + a 1 s then a 2 s + 1 else a 5 j := rfl
theorem nA6 (j : Nat) : newA a s kd tg ly ct pl 6 j = if j = 20 * s + a 1 s then tg else a 6 j := rfl
theorem nA7 (j : Nat) : newA a s kd tg ly ct pl 7 j = if j = 20 * s + a 1 s then ct else a 7 j := rfl
theorem nA8 (j : Nat) : newA a s kd tg ly ct pl 8 j = if j = 20 * s + a 1 s then ly else a 8 j := rfl
theorem nA9 (j : Nat) : newA a s kd tg ly ct pl 9 j = insF (a 9) pl (20 * s + a 1 s) j := rfl
theorem nA10 : newA a s kd tg ly ct pl 10 = a 10 := rfl
theorem nA11 : newA a s kd tg ly ct pl 11 = a 11 := rfl
theorem nA12 (j : Nat) : newA a s kd tg ly ct pl 12 j = if lkD a s j = true then a 12 j + 1 else a 12 j := rfl
theorem nA13 (j : Nat) : newA a s kd tg ly ct pl 13 j = if lkD a s (j / 10) = true ∧ j % 10 = a 12 (j / 10) then a 1 s + 1 else a 13 j := rfl
theorem nA_tot (hs : s < 5) : tot (newA a s kd tg ly ct pl) = tot a + 1 := by
  unfold tot
  simp only [nA1]
  rcases (show s = 0 ∨ s = 1 ∨ s = 2 ∨ s = 3 ∨ s = 4 by omega) with rfl | rfl | rfl | rfl | rfl <;> simp <;> omega
theorem nA_mk (hs : s < 5) (h20 : a 1 s < 20) (i : Nat) : mk (newA a s kd tg ly ct pl) i ↔ mk a i ∨ i = 20 * s + a 1 s := by
  unfold mk
  simp only [nA1]
  by_cases e : i / 20 = s
  · subst e
    rw [if_pos rfl]
    omega
  · rw [if_neg e]
    constructor
    · rintro ⟨h1, h2⟩; exact Or.inl ⟨h1, h2⟩
    · rintro (⟨h1, h2⟩ | h)
      · exact ⟨h1, h2⟩
      · omega
theorem nA_not (hs : s < 5) (h20 : a 1 s < 20) : ¬ mk a (20 * s + a 1 s) := by
  unfold mk
  rw [show (20 * s + a 1 s) / 20 = s by omega]
  omega
end NA
/-- the values behind a new operation -/
def newV (v : St) (i : Nat) (lv col : Int32) (xs ys : Nat → Int32) : St := fun k j =>
  if k = 0 then (if j = i then col else v 0 j)
  else if k = 1 then (if j / 8 = i then xs (j % 8) else v 1 j)
  else if k = 2 then (if j / 8 = i then ys (j % 8) else v 2 j)
  else if k = 6 then (if j = i then lv else v 6 j)
  else v k j
theorem Inv_new {a : Ab} {v : St} (I : Inv a v) {s kd tg ly ct pl : Nat} {lv col : Int32} {xs ys : Nat → Int32} (hs : s < a 0 0) (h20 : a 1 s < 20) (hkd : kd ≤ 3) (htg : kd ≠ 0 → mk a tg ∧ a 4 tg = 0 ∧ (kd ≠ 3 → tg / 20 = s ∧ lv = -1)) (hly : kd = 0 ∨ kd = 3 → lv = nI ly ∧ ly < 4) (hct : kd = 0 → 1 ≤ ct ∧ ct ≤ 8) (hpl : pl ≤ tot a) (hhi : ∀ p, pl ≤ p → p < tot a → bf (newA a s kd tg ly ct pl) (20 * s + a 1 s) (a 9 p)) (h0 : 0 < pl → ¬ bf (newA a s kd tg ly ct pl) (20 * s + a 1 s) (a 9 (pl - 1))) : Inv (newA a s kd tg ly ct pl) (newV v (20 * s + a 1 s) lv col xs ys) := by
  obtain ⟨i1, i2, i3, i4, i5, i6, i7⟩ := I
  have h5 := i1.2
  have hs5 : s < 5 := by omega
  have hnm := nA_not (a := a) hs5 h20
  have hmk := fun i => nA_mk (a := a) (kd := kd) (tg := tg) (ly := ly) (ct := ct) (pl := pl) hs5 h20 i
  have ht := nA_tot (a := a) (kd := kd) (tg := tg) (ly := ly) (ct := ct) (pl := pl) hs5
  obtain ⟨-, -, -, hck, -⟩ := i2 s hs5
  have hown : ∀ j, mk a j → j / 20 = s → a 5 j ≤ a 2 s := fun j hj hjs => by
    have h1 := (i4 j hj).1
    rw [hjs] at h1
    exact ((i3 s j hs5 hj.1).2 h1).2.2
  have hold : ∀ j, mk a j → j ≠ 20 * s + a 1 s := fun j hj e => hnm (by rw [← e]; exact hj)
  have hT : Tms (newA a s kd tg ly ct pl) := by
    intro i j hi hj hij hlt
    rw [nA5, nA5]
    rcases (hmk i).mp hi with h1 | h1 <;> rcases (hmk j).mp hj with h2 | h2
    · rw [if_neg (hold i h1), if_neg (hold j h2)]; exact i5 i j h1 h2 hij hlt
    · rw [if_neg (hold i h1), if_pos h2]
      have := hown i h1 (by rw [hij, h2]; omega)
      omega
    · exfalso
      have hj2 := h2.2
      rw [← hij, h1, show (20 * s + a 1 s) / 20 = s by omega] at hj2
      rw [h1] at hij
      omega
    · omega
  refine ⟨?_, fun s' hs' => ?_, fun s' i hs' hi => ?_, fun i hi => ?_, hT, ?_, fun L hL => ?_⟩
  · exact i1
  · obtain ⟨j1, j2, j3, j4, j5⟩ := i2 s' hs'
    rw [nA10, nA11, nA0, nA1, nA2, ht]
    by_cases e : s' = s
    · rw [if_pos e, if_pos e]
      exact ⟨by omega, j2, j3, by omega, fun h => by omega⟩
    · rw [if_neg e, if_neg e]
      exact ⟨j1, j2, j3, by omega, j5⟩
  · obtain ⟨j1, j2⟩ := i3 s' i hs' hi
    rw [nA3, nA0, nA5, nA2]
    by_cases e : 100 * s' + i = 100 * s + (20 * s + a 1 s)
    · have e1 : s' = s := by omega
      have e2 : i = 20 * s + a 1 s := by omega
      rw [if_pos e, if_pos e2, if_pos e1]
      exact ⟨by omega, fun _ => ⟨(hmk i).mpr (Or.inr e2), by omega, by omega⟩⟩
    · rw [if_neg e]
      refine ⟨j1, fun h => ?_⟩
      obtain ⟨g1, g2, g3⟩ := j2 h
      rw [if_neg (hold i g1)]
      refine ⟨(hmk i).mpr (Or.inl g1), g2, ?_⟩
      by_cases e1 : s' = s
      · rw [if_pos e1]; rw [e1] at g3; omega
      · rw [if_neg e1]; exact g3
  · rw [nA3, nA5, nA4, nA6, nA8, nA7, ht]
    have v6 : newV v (20 * s + a 1 s) lv col xs ys 6 i = if i = 20 * s + a 1 s then lv else v 6 i := rfl
    rcases (hmk i).mp hi with h1 | h1
    · obtain ⟨j1, j2, j3, j4, j5, j6⟩ := i4 i h1
      have hne := hold i h1
      rw [if_neg (show ¬ 100 * (i / 20) + i = 100 * s + (20 * s + a 1 s) by omega), if_neg hne, if_neg hne, if_neg hne, if_neg hne, if_neg hne, v6, if_neg hne]
      refine ⟨j1, by omega, j3, fun h => ?_, j5, j6⟩
      obtain ⟨g1, g2, g3⟩ := j4 h
      rw [nA4, if_neg (hold _ g1)]
      exact ⟨(hmk _).mpr (Or.inl g1), g2, g3⟩
    · rw [if_pos (show 100 * (i / 20) + i = 100 * s + (20 * s + a 1 s) by omega), if_pos h1, if_pos h1, if_pos h1, if_pos h1, if_pos h1, v6, if_pos h1]
      refine ⟨rfl, by omega, hkd, fun h => ?_, hly, hct⟩
      obtain ⟨g1, g2, g3⟩ := htg h
      rw [nA4, if_neg (hold _ g1)]
      exact ⟨(hmk _).mpr (Or.inl g1), g2, fun h3 => ⟨by rw [(g3 h3).1, h1]; omega, (g3 h3).2⟩⟩
  · have hL : Lst (bf (newA a s kd tg ly ct pl)) (mk a) (a 9) (tot a) := ⟨fun p q hpq hq => by
        have := i6.2.1 p q hpq hq
        unfold bf at this ⊢
        rw [nA5, nA5, if_neg (hold _ (i6.1 p (by omega))), if_neg (hold _ (i6.1 q hq))]
        exact this, i6.1, i6.2.2⟩
    have hL2 := Lst_ins (lt := bf (newA a s kd tg ly ct pl)) (fun _ _ _ => bf_trans) (x := 20 * s + a 1 s) hL (fun y hy => bf_tot hT ((hmk _).mpr (Or.inr rfl)) ((hmk _).mpr (Or.inl hy)) (fun e => hold y hy e.symm)) hpl hhi h0
    refine ⟨fun p hp => ?_, fun p q hpq hq => ?_, fun i hi => ?_⟩
    · rw [ht] at hp
      exact (hmk _).mpr (hL2.2.1 p hp)
    · rw [ht] at hq
      exact hL2.1 p q hpq hq
    · rw [ht]
      exact hL2.2.2 i ((hmk i).mp hi)
  · obtain ⟨j1, j2, j3⟩ := i7 L hL
    rw [nA12, nA0]
    have old : ∀ k, k < a 12 L → 1 ≤ newA a s kd tg ly ct pl 13 (10 * L + k) ∧ newA a s kd tg ly ct pl 13 (10 * L + k) ≤ newA a s kd tg ly ct pl 1 (L / 5) := fun k hk => by
      obtain ⟨g1, g2⟩ := j3 k hk
      rw [nA13, nA1, show (10 * L + k) / 10 = L by omega, show (10 * L + k) % 10 = k by omega, if_neg (fun q => by omega)]
      refine ⟨g1, ?_⟩
      by_cases e : L / 5 = s
      · rw [if_pos e]; rw [e] at g2; omega
      · rw [if_neg e]; exact g2
    by_cases hl : lkD a s L = true
    · have hR := lkD_iff.mp hl
      rw [if_pos hl]
      refine ⟨by have := hR.2.2.2; omega, fun _ => ⟨by rw [hR.1]; exact hs, hR.2.1, by rw [hR.1]; exact fun e => hR.2.2.1 e.symm⟩, fun k hk => ?_⟩
      by_cases hk2 : k < a 12 L
      · exact old k hk2
      · have hke : k = a 12 L := by omega
        have h10 := hR.2.2.2
        rw [nA13, nA1, show (10 * L + k) / 10 = L by omega, show (10 * L + k) % 10 = k by omega, if_pos ⟨hl, hke⟩, if_pos hR.1]
        omega
    · rw [if_neg hl]
      exact ⟨j1, j2, old⟩
