set_option maxHeartbeats 4000000 in
set_option maxRecDepth 100000 in
theorem lc_step {p : Program} {l : Launch} {e : Env} {s : State} {m : MethodId} {below : List Frame} {meth : Method} {c : Code} {b0 L : Nat} {xs : Nat → Int32} {D : va_G} {cA : ClassId} {a b : Nat → Nat} {A : Nat → Prop} {cells slots i : Nat} {Q : State → Prop} {σ τ : St} {H : Heap} {locs : List Loc} {ls : Array Slot} (F : lc_F p s m c b0 L xs D cA a b A) (hl : lv_has ls 4 (lc_lv b0 a b i)) (hi : i + 6 ≤ L) (S : lc_S s D cA a b A σ τ H locs) (hc : cells ≤ 600000) (hs : slots ≤ 7302250)
    (next : ∀ (σ τ : St) (H : Heap) (locs : List Loc), lc_S s D cA a b A σ τ H locs → W p l e room_1 s m #[Value.ref b0] below meth c H locs cells slots Q (F0 m 960 ls [])) : W p l e room_1 s m #[Value.ref b0] below meth c H locs cells slots Q (F0 m 27 ls []) := by
  have F0 := F
  obtain ⟨hx, hb, hml, hown, hts, hK, hJa, hJb, hX, hbl, hbA, hAa, hAb, hba, hab, hL⟩ := F
  have hS := S.2.2.2
  have hv0 : vp_in (nI i) L := vp_in_nI (by omega) (by omega)
  refine lv_aload_n hx hb dL_law_27 rfl (lv_at hl 3 rfl) ?_
  refine lv_iload_n hx hb dL_law_28 rfl (lv_at hl 0 rfl) ?_
  refine va_sld hx hb hX hbl hbA hS hv0 dL_law_29 ?_
  refine lv_bipush (v := 31) hx hb dL_law_30 (by decide) ?_
  refine lv_iand hx hb dL_law_32 ?_
  refine lv_topi (fun x _ => ?_)
  by_cases c0 : x = 0
  · refine lv_tableIn (tgt := 152) (off := 119) hx hb dL_law_33 (by rw [c0]; decide) (by rw [c0]; decide) (by rw [c0]; rfl) (by decide) ?_
    exact lc_reset F0 hl hi S hc hs next
  by_cases c1 : x = 1
  · refine lv_tableIn (tgt := 175) (off := 142) hx hb dL_law_33 (by rw [c1]; decide) (by rw [c1]; decide) (by rw [c1]; rfl) (by decide) ?_
    exact lc_join F0 hl hi S hc hs next
  by_cases c2 : x = 2
  · refine lv_tableIn (tgt := 188) (off := 155) hx hb dL_law_33 (by rw [c2]; decide) (by rw [c2]; decide) (by rw [c2]; rfl) (by decide) ?_
    exact lc_sites F0 hl hi S hc hs next
  by_cases c3 : x = 3
  · refine lv_tableIn (tgt := 201) (off := 168) hx hb dL_law_33 (by rw [c3]; decide) (by rw [c3]; decide) (by rw [c3]; rfl) (by decide) ?_
    exact lc_siteInfo F0 hl hi S hc hs next
  by_cases c4 : x = 4
  · refine lv_tableIn (tgt := 234) (off := 201) hx hb dL_law_33 (by rw [c4]; decide) (by rw [c4]; decide) (by rw [c4]; rfl) (by decide) ?_
    exact lc_penDown F0 hl hi S hc hs next
  by_cases c5 : x = 5
  · refine lv_tableIn (tgt := 297) (off := 264) hx hb dL_law_33 (by rw [c5]; decide) (by rw [c5]; decide) (by rw [c5]; rfl) (by decide) ?_
    exact lc_penMove F0 hl hi S hc hs next
  by_cases c6 : x = 6
  · refine lv_tableIn (tgt := 340) (off := 307) hx hb dL_law_33 (by rw [c6]; decide) (by rw [c6]; decide) (by rw [c6]; rfl) (by decide) ?_
    exact lc_penUp F0 hl hi S hc hs next
  by_cases c7 : x = 7
  · refine lv_tableIn (tgt := 363) (off := 330) hx hb dL_law_33 (by rw [c7]; decide) (by rw [c7]; decide) (by rw [c7]; rfl) (by decide) ?_
    exact lc_undo F0 hl hi S hc hs next
  by_cases c8 : x = 8
  · refine lv_tableIn (tgt := 386) (off := 353) hx hb dL_law_33 (by rw [c8]; decide) (by rw [c8]; decide) (by rw [c8]; rfl) (by decide) ?_
    exact lc_redo F0 hl hi S hc hs next
  by_cases c9 : x = 9
  · refine lv_tableIn (tgt := 409) (off := 376) hx hb dL_law_33 (by rw [c9]; decide) (by rw [c9]; decide) (by rw [c9]; rfl) (by decide) ?_
    exact lc_lift F0 hl hi S hc hs next
  by_cases c10 : x = 10
  · refine lv_tableIn (tgt := 452) (off := 419) hx hb dL_law_33 (by rw [c10]; decide) (by rw [c10]; decide) (by rw [c10]; rfl) (by decide) ?_
    exact lc_deliver F0 hl hi S hc hs next
  by_cases c11 : x = 11
  · refine lv_tableIn (tgt := 485) (off := 452) hx hb dL_law_33 (by rw [c11]; decide) (by rw [c11]; decide) (by rw [c11]; rfl) (by decide) ?_
    exact lc_lose F0 hl hi S hc hs next
  by_cases c12 : x = 12
  · refine lv_tableIn (tgt := 518) (off := 485) hx hb dL_law_33 (by rw [c12]; decide) (by rw [c12]; decide) (by rw [c12]; rfl) (by decide) ?_
    exact lc_deliverAll F0 hl hi S hc hs next
  by_cases c13 : x = 13
  · refine lv_tableIn (tgt := 531) (off := 498) hx hb dL_law_33 (by rw [c13]; decide) (by rw [c13]; decide) (by rw [c13]; rfl) (by decide) ?_
    exact lc_waiting F0 hl hi S hc hs next
  by_cases c14 : x = 14
  · refine lv_tableIn (tgt := 564) (off := 531) hx hb dL_law_33 (by rw [c14]; decide) (by rw [c14]; decide) (by rw [c14]; rfl) (by decide) ?_
    exact lc_gap F0 hl hi S hc hs next
  by_cases c15 : x = 15
  · refine lv_tableIn (tgt := 607) (off := 574) hx hb dL_law_33 (by rw [c15]; decide) (by rw [c15]; decide) (by rw [c15]; rfl) (by decide) ?_
    exact lc_repair F0 hl hi S hc hs next
  by_cases c16 : x = 16
  · refine lv_tableIn (tgt := 640) (off := 607) hx hb dL_law_33 (by rw [c16]; decide) (by rw [c16]; decide) (by rw [c16]; rfl) (by decide) ?_
    exact lc_transfer F0 hl hi S hc hs next
  by_cases c17 : x = 17
  · refine lv_tableIn (tgt := 673) (off := 640) hx hb dL_law_33 (by rw [c17]; decide) (by rw [c17]; decide) (by rw [c17]; rfl) (by decide) ?_
    exact lc_operation F0 hl hi S hc hs next
  by_cases c18 : x = 18
  · refine lv_tableIn (tgt := 716) (off := 683) hx hb dL_law_33 (by rw [c18]; decide) (by rw [c18]; decide) (by rw [c18]; rfl) (by decide) ?_
    exact lc_knows F0 hl hi S hc hs next
  by_cases c19 : x = 19
  · refine lv_tableIn (tgt := 759) (off := 726) hx hb dL_law_33 (by rw [c19]; decide) (by rw [c19]; decide) (by rw [c19]; rfl) (by decide) ?_
    exact lc_stroke F0 hl hi S hc hs next
  by_cases c20 : x = 20
  · refine lv_tableIn (tgt := 802) (off := 769) hx hb dL_law_33 (by rw [c20]; decide) (by rw [c20]; decide) (by rw [c20]; rfl) (by decide) ?_
    exact lc_strokeAt F0 hl hi S hc hs next
  by_cases c21 : x = 21
  · refine lv_tableIn (tgt := 845) (off := 812) hx hb dL_law_33 (by rw [c21]; decide) (by rw [c21]; decide) (by rw [c21]; rfl) (by decide) ?_
    exact lc_digest F0 hl hi S hc hs next
  by_cases c22 : x = 22
  · refine lv_tableIn (tgt := 868) (off := 835) hx hb dL_law_33 (by rw [c22]; decide) (by rw [c22]; decide) (by rw [c22]; rfl) (by decide) ?_
    exact lc_areSame F0 hl hi S hc hs next
  by_cases c23 : x = 23
  · refine lv_tableIn (tgt := 901) (off := 868) hx hb dL_law_33 (by rw [c23]; decide) (by rw [c23]; decide) (by rw [c23]; rfl) (by decide) ?_
    exact lc_differing F0 hl hi S hc hs next
  by_cases c24 : x = 24
  · refine lv_tableIn (tgt := 914) (off := 881) hx hb dL_law_33 (by rw [c24]; decide) (by rw [c24]; decide) (by rw [c24]; rfl) (by decide) ?_
    exact lc_bestHelper F0 hl hi S hc hs next
  by_cases c25 : x = 25
  · refine lv_tableIn (tgt := 937) (off := 904) hx hb dL_law_33 (by rw [c25]; decide) (by rw [c25]; decide) (by rw [c25]; rfl) (by decide) ?_
    exact lc_endangered F0 hl hi S hc hs next
  refine lv_tableOut (tgt := 960) hx hb dL_law_33 (by
    rcases Int.lt_or_le (Int32.toInt x) 0 with h9 | h9
    · exact Or.inl h9
    · rcases Int.lt_or_le 25 (Int32.toInt x) with h8 | h8
      · exact Or.inr h8
      · exfalso
        rcases (show Int32.toInt x = 0 ∨ Int32.toInt x = 1 ∨ Int32.toInt x = 2 ∨ Int32.toInt x = 3 ∨ Int32.toInt x = 4 ∨ Int32.toInt x = 5 ∨ Int32.toInt x = 6 ∨ Int32.toInt x = 7 ∨ Int32.toInt x = 8 ∨ Int32.toInt x = 9 ∨ Int32.toInt x = 10 ∨ Int32.toInt x = 11 ∨ Int32.toInt x = 12 ∨ Int32.toInt x = 13 ∨ Int32.toInt x = 14 ∨ Int32.toInt x = 15 ∨ Int32.toInt x = 16 ∨ Int32.toInt x = 17 ∨ Int32.toInt x = 18 ∨ Int32.toInt x = 19 ∨ Int32.toInt x = 20 ∨ Int32.toInt x = 21 ∨ Int32.toInt x = 22 ∨ Int32.toInt x = 23 ∨ Int32.toInt x = 24 ∨ Int32.toInt x = 25 by omega) with h7 | h7 | h7 | h7 | h7 | h7 | h7 | h7 | h7 | h7 | h7 | h7 | h7 | h7 | h7 | h7 | h7 | h7 | h7 | h7 | h7 | h7 | h7 | h7 | h7 | h7
        · exact c0 (Int32.toInt_inj.mp (h7.trans (by decide)))
        · exact c1 (Int32.toInt_inj.mp (h7.trans (by decide)))
        · exact c2 (Int32.toInt_inj.mp (h7.trans (by decide)))
        · exact c3 (Int32.toInt_inj.mp (h7.trans (by decide)))
        · exact c4 (Int32.toInt_inj.mp (h7.trans (by decide)))
        · exact c5 (Int32.toInt_inj.mp (h7.trans (by decide)))
        · exact c6 (Int32.toInt_inj.mp (h7.trans (by decide)))
        · exact c7 (Int32.toInt_inj.mp (h7.trans (by decide)))
        · exact c8 (Int32.toInt_inj.mp (h7.trans (by decide)))
        · exact c9 (Int32.toInt_inj.mp (h7.trans (by decide)))
        · exact c10 (Int32.toInt_inj.mp (h7.trans (by decide)))
        · exact c11 (Int32.toInt_inj.mp (h7.trans (by decide)))
        · exact c12 (Int32.toInt_inj.mp (h7.trans (by decide)))
        · exact c13 (Int32.toInt_inj.mp (h7.trans (by decide)))
        · exact c14 (Int32.toInt_inj.mp (h7.trans (by decide)))
        · exact c15 (Int32.toInt_inj.mp (h7.trans (by decide)))
        · exact c16 (Int32.toInt_inj.mp (h7.trans (by decide)))
        · exact c17 (Int32.toInt_inj.mp (h7.trans (by decide)))
        · exact c18 (Int32.toInt_inj.mp (h7.trans (by decide)))
        · exact c19 (Int32.toInt_inj.mp (h7.trans (by decide)))
        · exact c20 (Int32.toInt_inj.mp (h7.trans (by decide)))
        · exact c21 (Int32.toInt_inj.mp (h7.trans (by decide)))
        · exact c22 (Int32.toInt_inj.mp (h7.trans (by decide)))
        · exact c23 (Int32.toInt_inj.mp (h7.trans (by decide)))
        · exact c24 (Int32.toInt_inj.mp (h7.trans (by decide)))
        · exact c25 (Int32.toInt_inj.mp (h7.trans (by decide)))) (by decide) ?_
  exact next _ _ _ _ S
set_option maxHeartbeats 4000000 in
set_option maxRecDepth 100000 in
theorem lc_loop {p : Program} {l : Launch} {e : Env} {s : State} {m : MethodId} {below : List Frame} {meth : Method} {c : Code} {b0 L : Nat} {xs : Nat → Int32} {D : va_G} {cA : ClassId} {a b : Nat → Nat} {A : Nat → Prop} {cells slots : Nat} {Q : State → Prop} (F : lc_F p s m c b0 L xs D cA a b A) (hc : cells ≤ 600000) (hs : slots ≤ 7302250)
    (fin : ∀ (H : Heap) (locs : List Loc) (ls : Array Slot), va_S A s.heap H locs → W p l e room_1 s m #[Value.ref b0] below meth c H locs cells slots Q (F0 m 966 ls [])) (d : Nat) : ∀ (i : Nat) (σ τ : St) (H : Heap) (locs : List Loc) (ls : Array Slot), i ≤ 3100 → L ≤ i + d → lv_has ls 4 (lc_lv b0 a b i) → lc_S s D cA a b A σ τ H locs → W p l e room_1 s m #[Value.ref b0] below meth c H locs cells slots Q (F0 m 18 ls []) := by
  have F1 := F
  obtain ⟨hx, hb, hml, hown, hts, hK, hJa, hJb, hX, hbl, hbA, hAa, hAb, hba, hab, hL⟩ := F
  induction d with
  | zero =>
    intro i σ τ H locs ls hi1 hd hl S
    have hS := S.2.2.2
    refine lv_iload_n hx hb dL_law_18 rfl (lv_at hl 0 rfl) ?_
    refine lv_aload_n hx hb dL_law_19 rfl (lv_at hl 3 rfl) ?_
    refine va_slen hx hb hX hbl hbA hS dL_law_20 ?_
    refine lv_bipush (v := 6) hx hb dL_law_21 (by decide) ?_
    refine lv_isub hx hb dL_law_23 ?_
    refine lv_icmp_gt (tgt := 966) hx hb dL_law_24 (by decide) (fun _ => fin _ _ _ hS) (fun h => ?_)
    have h6 : i + 6 ≤ L := lc_cmp (by omega) hL h
    omega
  | succ d ih =>
    intro i σ τ H locs ls hi1 hd hl S
    have hS := S.2.2.2
    refine lv_iload_n hx hb dL_law_18 rfl (lv_at hl 0 rfl) ?_
    refine lv_aload_n hx hb dL_law_19 rfl (lv_at hl 3 rfl) ?_
    refine va_slen hx hb hX hbl hbA hS dL_law_20 ?_
    refine lv_bipush (v := 6) hx hb dL_law_21 (by decide) ?_
    refine lv_isub hx hb dL_law_23 ?_
    refine lv_icmp_gt (tgt := 966) hx hb dL_law_24 (by decide) (fun _ => fin _ _ _ hS) (fun h => ?_)
    have h6 : i + 6 ≤ L := lc_cmp (by omega) hL h
    refine lc_step F1 hl h6 S hc hs (fun σ1 τ1 H1 locs1 S1 => ?_)
    refine lv_iinc (v := nI (i + 6)) (lv' := lc_lv b0 a b (i + 6)) hx hb dL_law_960 hl (k := 0) rfl (nI_add i 6) (by decide) rfl (fun ls hl => ?_)
    refine lv_goto (tgt := 18) hx hb dL_law_963 (by decide) ?_
    exact ih (i + 6) σ1 τ1 H1 locs1 ls (by omega) (by omega) hl S1
