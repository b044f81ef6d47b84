set_option maxHeartbeats 4000000 in
set_option maxRecDepth 100000 in
theorem lc_waiting {p : Program} {l : Launch} {e : Env} {s : State} {m : MethodId} {below : List Frame} {meth : Method} {c : Code} {b0 L : Nat} {xs : Nat → Int32} {D : va_G} {cA : ClassId} {a b : Nat → Nat} {A : Nat → Prop} {cells slots i : Nat} {Q : State → Prop} {σ τ : St} {H : Heap} {locs : List Loc} {ls : Array Slot} (F : lc_F p s m c b0 L xs D cA a b A) (hl : lv_has ls 4 (lc_lv b0 a b i)) (hi : i + 6 ≤ L) (S : lc_S s D cA a b A σ τ H locs) (hc : cells ≤ 600000) (hs : slots ≤ 7302250)
    (next : ∀ (σ τ : St) (H : Heap) (locs : List Loc), lc_S s D cA a b A σ τ H locs → W p l e room_1 s m #[Value.ref b0] below meth c H locs cells slots Q (F0 m 960 ls [])) : W p l e room_1 s m #[Value.ref b0] below meth c H locs cells slots Q (F0 m 531 ls []) := by
  obtain ⟨hx, hb, hml, hown, hts, hK, hJa, hJb, hX, hbl, hbA, hAa, hAb, hba, hab, hL⟩ := F
  obtain ⟨hP, hP2, hRel, hS⟩ := S
  have hf : cells ≤ room_1.cells ∧ slots ≤ room_1.slots := ⟨hc, hs⟩
  have hv1 : vp_in (nI i + 1) L := lc_in 1 hi hL (by omega)
  have hv2 : vp_in (nI i + 2) L := lc_in 2 hi hL (by omega)
  obtain ⟨r, σ1, τ1, h1, h2, hR1⟩ := op_waiting hRel (xs (Int32.toNatClampNeg (nI i + 1))) (xs (Int32.toNatClampNeg (nI i + 2)))
  refine lv_aload_n hx hb dL_law_531 rfl (lv_at hl 2 rfl) ?_
  refine lv_aload_n hx hb dL_law_532 rfl (lv_at hl 3 rfl) ?_
  refine lv_iload_n hx hb dL_law_533 rfl (lv_at hl 0 rfl) ?_
  refine lv_iconst (v := 1) hx hb dL_law_534 (by decide) ?_
  refine lv_iadd hx hb dL_law_535 ?_
  refine va_sld hx hb hX hbl hbA hS hv1 dL_law_536 ?_
  refine lv_aload_n hx hb dL_law_537 rfl (lv_at hl 3 rfl) ?_
  refine lv_iload_n hx hb dL_law_538 rfl (lv_at hl 0 rfl) ?_
  refine lv_iconst (v := 2) hx hb dL_law_539 (by decide) ?_
  refine lv_iadd hx hb dL_law_540 ?_
  refine va_sld hx hb hX hbl hbA hS hv2 dL_law_541 ?_
  refine x_callV (As := [.int (xs (Int32.toNatClampNeg (nI i + 1))), .int (xs (Int32.toNatClampNeg (nI i + 2)))]) (rest := []) hAa ⟨hx, hb, hml, hown, hts⟩ (tX6_waiting l D cA a hJa (xs (Int32.toNatClampNeg (nI i + 1))) (xs (Int32.toNatClampNeg (nI i + 2))) σ _ _ h1) (cwV 2 hts gL_law_X6_waiting rfl rfl rfl (by decide +kernel) ⟨(Nat.le_of_ble_eq_true rfl), (Nat.le_of_ble_eq_true rfl)⟩) hK hP hS KC_sb rfl rfl hl.1 rfl (Nat.le_of_ble_eq_true rfl) hf dL_law_542 (fun H1 locs1 hP hS hz hk => ?_)
  have hP2 := lc_keep hP2 hba hk
  refine lv_aload_n hx hb dL_law_545 rfl (lv_at hl 1 rfl) ?_
  refine lv_aload_n hx hb dL_law_546 rfl (lv_at hl 3 rfl) ?_
  refine lv_iload_n hx hb dL_law_547 rfl (lv_at hl 0 rfl) ?_
  refine lv_iconst (v := 1) hx hb dL_law_548 (by decide) ?_
  refine lv_iadd hx hb dL_law_549 ?_
  refine va_sld hx hb hX hbl hbA hS hv1 dL_law_550 ?_
  refine lv_aload_n hx hb dL_law_551 rfl (lv_at hl 3 rfl) ?_
  refine lv_iload_n hx hb dL_law_552 rfl (lv_at hl 0 rfl) ?_
  refine lv_iconst (v := 2) hx hb dL_law_553 (by decide) ?_
  refine lv_iadd hx hb dL_law_554 ?_
  refine va_sld hx hb hX hbl hbA hS hv2 dL_law_555 ?_
  refine x_callV (As := [.int (xs (Int32.toNatClampNeg (nI i + 1))), .int (xs (Int32.toNatClampNeg (nI i + 2)))]) (rest := [.int r]) hAb ⟨hx, hb, hml, hown, hts⟩ (tX7_waiting l D cA b hJb (xs (Int32.toNatClampNeg (nI i + 1))) (xs (Int32.toNatClampNeg (nI i + 2))) τ _ _ h2) (cwV 2 hts gL_law_X7_waiting rfl rfl rfl (by decide +kernel) ⟨(Nat.le_of_ble_eq_true rfl), (Nat.le_of_ble_eq_true rfl)⟩) hK hP2 hS KM_obj rfl rfl hl.1 rfl (Nat.le_of_ble_eq_true rfl) hf dL_law_556 (fun H2 locs2 hP2 hS hz2 hk2 => ?_)
  have hP := lc_keep hP hab hk2
  exact lv_icmp_eq (tgt := 960) hx hb dL_law_559 (by decide) (fun _ => next _ _ _ _ ⟨hP, hP2, hR1, hS⟩) (fun hne => absurd rfl hne)
set_option maxHeartbeats 4000000 in
set_option maxRecDepth 100000 in
theorem lc_gap {p : Program} {l : Launch} {e : Env} {s : State} {m : MethodId} {below : List Frame} {meth : Method} {c : Code} {b0 L : Nat} {xs : Nat → Int32} {D : va_G} {cA : ClassId} {a b : Nat → Nat} {A : Nat → Prop} {cells slots i : Nat} {Q : State → Prop} {σ τ : St} {H : Heap} {locs : List Loc} {ls : Array Slot} (F : lc_F p s m c b0 L xs D cA a b A) (hl : lv_has ls 4 (lc_lv b0 a b i)) (hi : i + 6 ≤ L) (S : lc_S s D cA a b A σ τ H locs) (hc : cells ≤ 600000) (hs : slots ≤ 7302250)
    (next : ∀ (σ τ : St) (H : Heap) (locs : List Loc), lc_S s D cA a b A σ τ H locs → W p l e room_1 s m #[Value.ref b0] below meth c H locs cells slots Q (F0 m 960 ls [])) : W p l e room_1 s m #[Value.ref b0] below meth c H locs cells slots Q (F0 m 564 ls []) := by
  obtain ⟨hx, hb, hml, hown, hts, hK, hJa, hJb, hX, hbl, hbA, hAa, hAb, hba, hab, hL⟩ := F
  obtain ⟨hP, hP2, hRel, hS⟩ := S
  have hf : cells ≤ room_1.cells ∧ slots ≤ room_1.slots := ⟨hc, hs⟩
  have hv1 : vp_in (nI i + 1) L := lc_in 1 hi hL (by omega)
  have hv2 : vp_in (nI i + 2) L := lc_in 2 hi hL (by omega)
  have hv3 : vp_in (nI i + 3) L := lc_in 3 hi hL (by omega)
  obtain ⟨r, σ1, τ1, h1, h2, hR1⟩ := op_gap hRel (xs (Int32.toNatClampNeg (nI i + 1))) (xs (Int32.toNatClampNeg (nI i + 2))) (xs (Int32.toNatClampNeg (nI i + 3)))
  refine lv_aload_n hx hb dL_law_564 rfl (lv_at hl 2 rfl) ?_
  refine lv_aload_n hx hb dL_law_565 rfl (lv_at hl 3 rfl) ?_
  refine lv_iload_n hx hb dL_law_566 rfl (lv_at hl 0 rfl) ?_
  refine lv_iconst (v := 1) hx hb dL_law_567 (by decide) ?_
  refine lv_iadd hx hb dL_law_568 ?_
  refine va_sld hx hb hX hbl hbA hS hv1 dL_law_569 ?_
  refine lv_aload_n hx hb dL_law_570 rfl (lv_at hl 3 rfl) ?_
  refine lv_iload_n hx hb dL_law_571 rfl (lv_at hl 0 rfl) ?_
  refine lv_iconst (v := 2) hx hb dL_law_572 (by decide) ?_
  refine lv_iadd hx hb dL_law_573 ?_
  refine va_sld hx hb hX hbl hbA hS hv2 dL_law_574 ?_
  refine lv_aload_n hx hb dL_law_575 rfl (lv_at hl 3 rfl) ?_
  refine lv_iload_n hx hb dL_law_576 rfl (lv_at hl 0 rfl) ?_
  refine lv_iconst (v := 3) hx hb dL_law_577 (by decide) ?_
  refine lv_iadd hx hb dL_law_578 ?_
  refine va_sld hx hb hX hbl hbA hS hv3 dL_law_579 ?_
  refine x_callV (As := [.int (xs (Int32.toNatClampNeg (nI i + 1))), .int (xs (Int32.toNatClampNeg (nI i + 2))), .int (xs (Int32.toNatClampNeg (nI i + 3)))]) (rest := []) hAa ⟨hx, hb, hml, hown, hts⟩ (tX6_gap l D cA a hJa (xs (Int32.toNatClampNeg (nI i + 1))) (xs (Int32.toNatClampNeg (nI i + 2))) (xs (Int32.toNatClampNeg (nI i + 3))) σ _ _ h1) (cwV 3 hts gL_law_X6_gap rfl rfl rfl (by decide +kernel) ⟨(Nat.le_of_ble_eq_true rfl), (Nat.le_of_ble_eq_true rfl)⟩) hK hP hS KC_sb rfl rfl hl.1 rfl (Nat.le_of_ble_eq_true rfl) hf dL_law_580 (fun H1 locs1 hP hS hz hk => ?_)
  have hP2 := lc_keep hP2 hba hk
  refine lv_aload_n hx hb dL_law_583 rfl (lv_at hl 1 rfl) ?_
  refine lv_aload_n hx hb dL_law_584 rfl (lv_at hl 3 rfl) ?_
  refine lv_iload_n hx hb dL_law_585 rfl (lv_at hl 0 rfl) ?_
  refine lv_iconst (v := 1) hx hb dL_law_586 (by decide) ?_
  refine lv_iadd hx hb dL_law_587 ?_
  refine va_sld hx hb hX hbl hbA hS hv1 dL_law_588 ?_
  refine lv_aload_n hx hb dL_law_589 rfl (lv_at hl 3 rfl) ?_
  refine lv_iload_n hx hb dL_law_590 rfl (lv_at hl 0 rfl) ?_
  refine lv_iconst (v := 2) hx hb dL_law_591 (by decide) ?_
  refine lv_iadd hx hb dL_law_592 ?_
  refine va_sld hx hb hX hbl hbA hS hv2 dL_law_593 ?_
  refine lv_aload_n hx hb dL_law_594 rfl (lv_at hl 3 rfl) ?_
  refine lv_iload_n hx hb dL_law_595 rfl (lv_at hl 0 rfl) ?_
  refine lv_iconst (v := 3) hx hb dL_law_596 (by decide) ?_
  refine lv_iadd hx hb dL_law_597 ?_
  refine va_sld hx hb hX hbl hbA hS hv3 dL_law_598 ?_
  refine x_callV (As := [.int (xs (Int32.toNatClampNeg (nI i + 1))), .int (xs (Int32.toNatClampNeg (nI i + 2))), .int (xs (Int32.toNatClampNeg (nI i + 3)))]) (rest := [.int r]) hAb ⟨hx, hb, hml, hown, hts⟩ (tX7_gap l D cA b hJb (xs (Int32.toNatClampNeg (nI i + 1))) (xs (Int32.toNatClampNeg (nI i + 2))) (xs (Int32.toNatClampNeg (nI i + 3))) τ _ _ h2) (cwV 3 hts gL_law_X7_gap rfl rfl rfl (by decide +kernel) ⟨(Nat.le_of_ble_eq_true rfl), (Nat.le_of_ble_eq_true rfl)⟩) hK hP2 hS KM_obj rfl rfl hl.1 rfl (Nat.le_of_ble_eq_true rfl) hf dL_law_599 (fun H2 locs2 hP2 hS hz2 hk2 => ?_)
  have hP := lc_keep hP hab hk2
  exact lv_icmp_eq (tgt := 960) hx hb dL_law_602 (by decide) (fun _ => next _ _ _ _ ⟨hP, hP2, hR1, hS⟩) (fun hne => absurd rfl hne)
set_option maxHeartbeats 4000000 in
set_option maxRecDepth 100000 in
theorem lc_repair {p : Program} {l : Launch} {e : Env} {s : State} {m : MethodId} {below : List Frame} {meth : Method} {c : Code} {b0 L : Nat} {xs : Nat → Int32} {D : va_G} {cA : ClassId} {a b : Nat → Nat} {A : Nat → Prop} {cells slots i : Nat} {Q : State → Prop} {σ τ : St} {H : Heap} {locs : List Loc} {ls : Array Slot} (F : lc_F p s m c b0 L xs D cA a b A) (hl : lv_has ls 4 (lc_lv b0 a b i)) (hi : i + 6 ≤ L) (S : lc_S s D cA a b A σ τ H locs) (hc : cells ≤ 600000) (hs : slots ≤ 7302250)
    (next : ∀ (σ τ : St) (H : Heap) (locs : List Loc), lc_S s D cA a b A σ τ H locs → W p l e room_1 s m #[Value.ref b0] below meth c H locs cells slots Q (F0 m 960 ls [])) : W p l e room_1 s m #[Value.ref b0] below meth c H locs cells slots Q (F0 m 607 ls []) := by
  obtain ⟨hx, hb, hml, hown, hts, hK, hJa, hJb, hX, hbl, hbA, hAa, hAb, hba, hab, hL⟩ := F
  obtain ⟨hP, hP2, hRel, hS⟩ := S
  have hf : cells ≤ room_1.cells ∧ slots ≤ room_1.slots := ⟨hc, hs⟩
  have hv1 : vp_in (nI i + 1) L := lc_in 1 hi hL (by omega)
  have hv2 : vp_in (nI i + 2) L := lc_in 2 hi hL (by omega)
  obtain ⟨r, σ1, τ1, h1, h2, hR1⟩ := op_repair hRel (xs (Int32.toNatClampNeg (nI i + 1))) (xs (Int32.toNatClampNeg (nI i + 2)))
  refine lv_aload_n hx hb dL_law_607 rfl (lv_at hl 2 rfl) ?_
  refine lv_aload_n hx hb dL_law_608 rfl (lv_at hl 3 rfl) ?_
  refine lv_iload_n hx hb dL_law_609 rfl (lv_at hl 0 rfl) ?_
  refine lv_iconst (v := 1) hx hb dL_law_610 (by decide) ?_
  refine lv_iadd hx hb dL_law_611 ?_
  refine va_sld hx hb hX hbl hbA hS hv1 dL_law_612 ?_
  refine lv_aload_n hx hb dL_law_613 rfl (lv_at hl 3 rfl) ?_
  refine lv_iload_n hx hb dL_law_614 rfl (lv_at hl 0 rfl) ?_
  refine lv_iconst (v := 2) hx hb dL_law_615 (by decide) ?_
  refine lv_iadd hx hb dL_law_616 ?_
  refine va_sld hx hb hX hbl hbA hS hv2 dL_law_617 ?_
  refine x_callV (As := [.int (xs (Int32.toNatClampNeg (nI i + 1))), .int (xs (Int32.toNatClampNeg (nI i + 2)))]) (rest := []) hAa ⟨hx, hb, hml, hown, hts⟩ (tX6_repair l D cA a hJa (xs (Int32.toNatClampNeg (nI i + 1))) (xs (Int32.toNatClampNeg (nI i + 2))) σ _ _ h1) (cwV 2 hts gL_law_X6_repair rfl rfl rfl (by decide +kernel) ⟨(Nat.le_of_ble_eq_true rfl), (Nat.le_of_ble_eq_true rfl)⟩) hK hP hS KC_sb rfl rfl hl.1 rfl (Nat.le_of_ble_eq_true rfl) hf dL_law_618 (fun H1 locs1 hP hS hz hk => ?_)
  have hP2 := lc_keep hP2 hba hk
  refine lv_aload_n hx hb dL_law_621 rfl (lv_at hl 1 rfl) ?_
  refine lv_aload_n hx hb dL_law_622 rfl (lv_at hl 3 rfl) ?_
  refine lv_iload_n hx hb dL_law_623 rfl (lv_at hl 0 rfl) ?_
  refine lv_iconst (v := 1) hx hb dL_law_624 (by decide) ?_
  refine lv_iadd hx hb dL_law_625 ?_
  refine va_sld hx hb hX hbl hbA hS hv1 dL_law_626 ?_
  refine lv_aload_n hx hb dL_law_627 rfl (lv_at hl 3 rfl) ?_
  refine lv_iload_n hx hb dL_law_628 rfl (lv_at hl 0 rfl) ?_
  refine lv_iconst (v := 2) hx hb dL_law_629 (by decide) ?_
  refine lv_iadd hx hb dL_law_630 ?_
  refine va_sld hx hb hX hbl hbA hS hv2 dL_law_631 ?_
  refine x_callV (As := [.int (xs (Int32.toNatClampNeg (nI i + 1))), .int (xs (Int32.toNatClampNeg (nI i + 2)))]) (rest := [.int r]) hAb ⟨hx, hb, hml, hown, hts⟩ (tX7_repair l D cA b hJb (xs (Int32.toNatClampNeg (nI i + 1))) (xs (Int32.toNatClampNeg (nI i + 2))) τ _ _ h2) (cwV 2 hts gL_law_X7_repair rfl rfl rfl (by decide +kernel) ⟨(Nat.le_of_ble_eq_true rfl), (Nat.le_of_ble_eq_true rfl)⟩) hK hP2 hS KM_obj rfl rfl hl.1 rfl (Nat.le_of_ble_eq_true rfl) hf dL_law_632 (fun H2 locs2 hP2 hS hz2 hk2 => ?_)
  have hP := lc_keep hP hab hk2
  exact lv_icmp_eq (tgt := 960) hx hb dL_law_635 (by decide) (fun _ => next _ _ _ _ ⟨hP, hP2, hR1, hS⟩) (fun hne => absurd rfl hne)
set_option maxHeartbeats 4000000 in
set_option maxRecDepth 100000 in
theorem lc_transfer {p : Program} {l : Launch} {e : Env} {s : State} {m : MethodId} {below : List Frame} {meth : Method} {c : Code} {b0 L : Nat} {xs : Nat → Int32} {D : va_G} {cA : ClassId} {a b : Nat → Nat} {A : Nat → Prop} {cells slots i : Nat} {Q : State → Prop} {σ τ : St} {H : Heap} {locs : List Loc} {ls : Array Slot} (F : lc_F p s m c b0 L xs D cA a b A) (hl : lv_has ls 4 (lc_lv b0 a b i)) (hi : i + 6 ≤ L) (S : lc_S s D cA a b A σ τ H locs) (hc : cells ≤ 600000) (hs : slots ≤ 7302250)
    (next : ∀ (σ τ : St) (H : Heap) (locs : List Loc), lc_S s D cA a b A σ τ H locs → W p l e room_1 s m #[Value.ref b0] below meth c H locs cells slots Q (F0 m 960 ls [])) : W p l e room_1 s m #[Value.ref b0] below meth c H locs cells slots Q (F0 m 640 ls []) := by
  obtain ⟨hx, hb, hml, hown, hts, hK, hJa, hJb, hX, hbl, hbA, hAa, hAb, hba, hab, hL⟩ := F
  obtain ⟨hP, hP2, hRel, hS⟩ := S
  have hf : cells ≤ room_1.cells ∧ slots ≤ room_1.slots := ⟨hc, hs⟩
  have hv1 : vp_in (nI i + 1) L := lc_in 1 hi hL (by omega)
  have hv2 : vp_in (nI i + 2) L := lc_in 2 hi hL (by omega)
  obtain ⟨r, σ1, τ1, h1, h2, hR1⟩ := op_transfer hRel (xs (Int32.toNatClampNeg (nI i + 1))) (xs (Int32.toNatClampNeg (nI i + 2)))
  refine lv_aload_n hx hb dL_law_640 rfl (lv_at hl 2 rfl) ?_
  refine lv_aload_n hx hb dL_law_641 rfl (lv_at hl 3 rfl) ?_
  refine lv_iload_n hx hb dL_law_642 rfl (lv_at hl 0 rfl) ?_
  refine lv_iconst (v := 1) hx hb dL_law_643 (by decide) ?_
  refine lv_iadd hx hb dL_law_644 ?_
  refine va_sld hx hb hX hbl hbA hS hv1 dL_law_645 ?_
  refine lv_aload_n hx hb dL_law_646 rfl (lv_at hl 3 rfl) ?_
  refine lv_iload_n hx hb dL_law_647 rfl (lv_at hl 0 rfl) ?_
  refine lv_iconst (v := 2) hx hb dL_law_648 (by decide) ?_
  refine lv_iadd hx hb dL_law_649 ?_
  refine va_sld hx hb hX hbl hbA hS hv2 dL_law_650 ?_
  refine x_callV (As := [.int (xs (Int32.toNatClampNeg (nI i + 1))), .int (xs (Int32.toNatClampNeg (nI i + 2)))]) (rest := []) hAa ⟨hx, hb, hml, hown, hts⟩ (tX6_transfer l D cA a hJa (xs (Int32.toNatClampNeg (nI i + 1))) (xs (Int32.toNatClampNeg (nI i + 2))) σ _ _ h1) (cwV 2 hts gL_law_X6_transfer rfl rfl rfl (by decide +kernel) ⟨(Nat.le_of_ble_eq_true rfl), (Nat.le_of_ble_eq_true rfl)⟩) hK hP hS KC_sb rfl rfl hl.1 rfl (Nat.le_of_ble_eq_true rfl) hf dL_law_651 (fun H1 locs1 hP hS hz hk => ?_)
  have hP2 := lc_keep hP2 hba hk
  refine lv_aload_n hx hb dL_law_654 rfl (lv_at hl 1 rfl) ?_
  refine lv_aload_n hx hb dL_law_655 rfl (lv_at hl 3 rfl) ?_
  refine lv_iload_n hx hb dL_law_656 rfl (lv_at hl 0 rfl) ?_
  refine lv_iconst (v := 1) hx hb dL_law_657 (by decide) ?_
  refine lv_iadd hx hb dL_law_658 ?_
  refine va_sld hx hb hX hbl hbA hS hv1 dL_law_659 ?_
  refine lv_aload_n hx hb dL_law_660 rfl (lv_at hl 3 rfl) ?_
  refine lv_iload_n hx hb dL_law_661 rfl (lv_at hl 0 rfl) ?_
  refine lv_iconst (v := 2) hx hb dL_law_662 (by decide) ?_
  refine lv_iadd hx hb dL_law_663 ?_
  refine va_sld hx hb hX hbl hbA hS hv2 dL_law_664 ?_
  refine x_callV (As := [.int (xs (Int32.toNatClampNeg (nI i + 1))), .int (xs (Int32.toNatClampNeg (nI i + 2)))]) (rest := [.int r]) hAb ⟨hx, hb, hml, hown, hts⟩ (tX7_transfer l D cA b hJb (xs (Int32.toNatClampNeg (nI i + 1))) (xs (Int32.toNatClampNeg (nI i + 2))) τ _ _ h2) (cwV 2 hts gL_law_X7_transfer rfl rfl rfl (by decide +kernel) ⟨(Nat.le_of_ble_eq_true rfl), (Nat.le_of_ble_eq_true rfl)⟩) hK hP2 hS KM_obj rfl rfl hl.1 rfl (Nat.le_of_ble_eq_true rfl) hf dL_law_665 (fun H2 locs2 hP2 hS hz2 hk2 => ?_)
  have hP := lc_keep hP hab hk2
  exact lv_icmp_eq (tgt := 960) hx hb dL_law_668 (by decide) (fun _ => next _ _ _ _ ⟨hP, hP2, hR1, hS⟩) (fun hne => absurd rfl hne)
set_option maxHeartbeats 4000000 in
set_option maxRecDepth 100000 in
theorem lc_operation {p : Program} {l : Launch} {e : Env} {s : State} {m : MethodId} {below : List Frame} {meth : Method} {c : Code} {b0 L : Nat} {xs : Nat → Int32} {D : va_G} {cA : ClassId} {a b : Nat → Nat} {A : Nat → Prop} {cells slots i : Nat} {Q : State → Prop} {σ τ : St} {H : Heap} {locs : List Loc} {ls : Array Slot} (F : lc_F p s m c b0 L xs D cA a b A) (hl : lv_has ls 4 (lc_lv b0 a b i)) (hi : i + 6 ≤ L) (S : lc_S s D cA a b A σ τ H locs) (hc : cells ≤ 600000) (hs : slots ≤ 7302250)
    (next : ∀ (σ τ : St) (H : Heap) (locs : List Loc), lc_S s D cA a b A σ τ H locs → W p l e room_1 s m #[Value.ref b0] below meth c H locs cells slots Q (F0 m 960 ls [])) : W p l e room_1 s m #[Value.ref b0] below meth c H locs cells slots Q (F0 m 673 ls []) := by
  obtain ⟨hx, hb, hml, hown, hts, hK, hJa, hJb, hX, hbl, hbA, hAa, hAb, hba, hab, hL⟩ := F
  obtain ⟨hP, hP2, hRel, hS⟩ := S
  have hf : cells ≤ room_1.cells ∧ slots ≤ room_1.slots := ⟨hc, hs⟩
  have hv1 : vp_in (nI i + 1) L := lc_in 1 hi hL (by omega)
  have hv2 : vp_in (nI i + 2) L := lc_in 2 hi hL (by omega)
  have hv3 : vp_in (nI i + 3) L := lc_in 3 hi hL (by omega)
  obtain ⟨r, σ1, τ1, h1, h2, hR1⟩ := op_operation hRel (xs (Int32.toNatClampNeg (nI i + 1))) (xs (Int32.toNatClampNeg (nI i + 2))) (xs (Int32.toNatClampNeg (nI i + 3)))
  refine lv_aload_n hx hb dL_law_673 rfl (lv_at hl 2 rfl) ?_
  refine lv_aload_n hx hb dL_law_674 rfl (lv_at hl 3 rfl) ?_
  refine lv_iload_n hx hb dL_law_675 rfl (lv_at hl 0 rfl) ?_
  refine lv_iconst (v := 1) hx hb dL_law_676 (by decide) ?_
  refine lv_iadd hx hb dL_law_677 ?_
  refine va_sld hx hb hX hbl hbA hS hv1 dL_law_678 ?_
  refine lv_aload_n hx hb dL_law_679 rfl (lv_at hl 3 rfl) ?_
  refine lv_iload_n hx hb dL_law_680 rfl (lv_at hl 0 rfl) ?_
  refine lv_iconst (v := 2) hx hb dL_law_681 (by decide) ?_
  refine lv_iadd hx hb dL_law_682 ?_
  refine va_sld hx hb hX hbl hbA hS hv2 dL_law_683 ?_
  refine lv_aload_n hx hb dL_law_684 rfl (lv_at hl 3 rfl) ?_
  refine lv_iload_n hx hb dL_law_685 rfl (lv_at hl 0 rfl) ?_
  refine lv_iconst (v := 3) hx hb dL_law_686 (by decide) ?_
  refine lv_iadd hx hb dL_law_687 ?_
  refine va_sld hx hb hX hbl hbA hS hv3 dL_law_688 ?_
  refine x_callV (As := [.int (xs (Int32.toNatClampNeg (nI i + 1))), .int (xs (Int32.toNatClampNeg (nI i + 2))), .int (xs (Int32.toNatClampNeg (nI i + 3)))]) (rest := []) hAa ⟨hx, hb, hml, hown, hts⟩ (tX6_operation l D cA a hJa (xs (Int32.toNatClampNeg (nI i + 1))) (xs (Int32.toNatClampNeg (nI i + 2))) (xs (Int32.toNatClampNeg (nI i + 3))) σ _ _ h1) (cwV 3 hts gL_law_X6_operation rfl rfl rfl (by decide +kernel) ⟨(Nat.le_of_ble_eq_true rfl), (Nat.le_of_ble_eq_true rfl)⟩) hK hP hS KC_sb rfl rfl hl.1 rfl (Nat.le_of_ble_eq_true rfl) hf dL_law_689 (fun H1 locs1 hP hS hz hk => ?_)
  have hP2 := lc_keep hP2 hba hk
  refine lv_aload_n hx hb dL_law_692 rfl (lv_at hl 1 rfl) ?_
  refine lv_aload_n hx hb dL_law_693 rfl (lv_at hl 3 rfl) ?_
  refine lv_iload_n hx hb dL_law_694 rfl (lv_at hl 0 rfl) ?_
  refine lv_iconst (v := 1) hx hb dL_law_695 (by decide) ?_
  refine lv_iadd hx hb dL_law_696 ?_
  refine va_sld hx hb hX hbl hbA hS hv1 dL_law_697 ?_
  refine lv_aload_n hx hb dL_law_698 rfl (lv_at hl 3 rfl) ?_
  refine lv_iload_n hx hb dL_law_699 rfl (lv_at hl 0 rfl) ?_
  refine lv_iconst (v := 2) hx hb dL_law_700 (by decide) ?_
  refine lv_iadd hx hb dL_law_701 ?_
  refine va_sld hx hb hX hbl hbA hS hv2 dL_law_702 ?_
  refine lv_aload_n hx hb dL_law_703 rfl (lv_at hl 3 rfl) ?_
  refine lv_iload_n hx hb dL_law_704 rfl (lv_at hl 0 rfl) ?_
  refine lv_iconst (v := 3) hx hb dL_law_705 (by decide) ?_
  refine lv_iadd hx hb dL_law_706 ?_
  refine va_sld hx hb hX hbl hbA hS hv3 dL_law_707 ?_
  refine x_callV (As := [.int (xs (Int32.toNatClampNeg (nI i + 1))), .int (xs (Int32.toNatClampNeg (nI i + 2))), .int (xs (Int32.toNatClampNeg (nI i + 3)))]) (rest := [.int r]) hAb ⟨hx, hb, hml, hown, hts⟩ (tX7_operation l D cA b hJb (xs (Int32.toNatClampNeg (nI i + 1))) (xs (Int32.toNatClampNeg (nI i + 2))) (xs (Int32.toNatClampNeg (nI i + 3))) τ _ _ h2) (cwV 3 hts gL_law_X7_operation rfl rfl rfl (by decide +kernel) ⟨(Nat.le_of_ble_eq_true rfl), (Nat.le_of_ble_eq_true rfl)⟩) hK hP2 hS KM_obj rfl rfl hl.1 rfl (Nat.le_of_ble_eq_true rfl) hf dL_law_708 (fun H2 locs2 hP2 hS hz2 hk2 => ?_)
  have hP := lc_keep hP hab hk2
  exact lv_icmp_eq (tgt := 960) hx hb dL_law_711 (by decide) (fun _ => next _ _ _ _ ⟨hP, hP2, hR1, hS⟩) (fun hne => absurd rfl hne)
set_option maxHeartbeats 4000000 in
set_option maxRecDepth 100000 in
theorem lc_knows {p : Program} {l : Launch} {e : Env} {s : State} {m : MethodId} {below : List Frame} {meth : Method} {c : Code} {b0 L : Nat} {xs : Nat → Int32} {D : va_G} {cA : ClassId} {a b : Nat → Nat} {A : Nat → Prop} {cells slots i : Nat} {Q : State → Prop} {σ τ : St} {H : Heap} {locs : List Loc} {ls : Array Slot} (F : lc_F p s m c b0 L xs D cA a b A) (hl : lv_has ls 4 (lc_lv b0 a b i)) (hi : i + 6 ≤ L) (S : lc_S s D cA a b A σ τ H locs) (hc : cells ≤ 600000) (hs : slots ≤ 7302250)
    (next : ∀ (σ τ : St) (H : Heap) (locs : List Loc), lc_S s D cA a b A σ τ H locs → W p l e room_1 s m #[Value.ref b0] below meth c H locs cells slots Q (F0 m 960 ls [])) : W p l e room_1 s m #[Value.ref b0] below meth c H locs cells slots Q (F0 m 716 ls []) := by
  obtain ⟨hx, hb, hml, hown, hts, hK, hJa, hJb, hX, hbl, hbA, hAa, hAb, hba, hab, hL⟩ := F
  obtain ⟨hP, hP2, hRel, hS⟩ := S
  have hf : cells ≤ room_1.cells ∧ slots ≤ room_1.slots := ⟨hc, hs⟩
  have hv1 : vp_in (nI i + 1) L := lc_in 1 hi hL (by omega)
  have hv2 : vp_in (nI i + 2) L := lc_in 2 hi hL (by omega)
  have hv3 : vp_in (nI i + 3) L := lc_in 3 hi hL (by omega)
  obtain ⟨r, σ1, τ1, h1, h2, hR1⟩ := op_knows hRel (xs (Int32.toNatClampNeg (nI i + 1))) (xs (Int32.toNatClampNeg (nI i + 2))) (xs (Int32.toNatClampNeg (nI i + 3)))
  refine lv_aload_n hx hb dL_law_716 rfl (lv_at hl 2 rfl) ?_
  refine lv_aload_n hx hb dL_law_717 rfl (lv_at hl 3 rfl) ?_
  refine lv_iload_n hx hb dL_law_718 rfl (lv_at hl 0 rfl) ?_
  refine lv_iconst (v := 1) hx hb dL_law_719 (by decide) ?_
  refine lv_iadd hx hb dL_law_720 ?_
  refine va_sld hx hb hX hbl hbA hS hv1 dL_law_721 ?_
  refine lv_aload_n hx hb dL_law_722 rfl (lv_at hl 3 rfl) ?_
  refine lv_iload_n hx hb dL_law_723 rfl (lv_at hl 0 rfl) ?_
  refine lv_iconst (v := 2) hx hb dL_law_724 (by decide) ?_
  refine lv_iadd hx hb dL_law_725 ?_
  refine va_sld hx hb hX hbl hbA hS hv2 dL_law_726 ?_
  refine lv_aload_n hx hb dL_law_727 rfl (lv_at hl 3 rfl) ?_
  refine lv_iload_n hx hb dL_law_728 rfl (lv_at hl 0 rfl) ?_
  refine lv_iconst (v := 3) hx hb dL_law_729 (by decide) ?_
  refine lv_iadd hx hb dL_law_730 ?_
  refine va_sld hx hb hX hbl hbA hS hv3 dL_law_731 ?_
  refine x_callV (As := [.int (xs (Int32.toNatClampNeg (nI i + 1))), .int (xs (Int32.toNatClampNeg (nI i + 2))), .int (xs (Int32.toNatClampNeg (nI i + 3)))]) (rest := []) hAa ⟨hx, hb, hml, hown, hts⟩ (tX6_knows l D cA a hJa (xs (Int32.toNatClampNeg (nI i + 1))) (xs (Int32.toNatClampNeg (nI i + 2))) (xs (Int32.toNatClampNeg (nI i + 3))) σ _ _ h1) (cwV 3 hts gL_law_X6_knows rfl rfl rfl (by decide +kernel) ⟨(Nat.le_of_ble_eq_true rfl), (Nat.le_of_ble_eq_true rfl)⟩) hK hP hS KC_sb rfl rfl hl.1 rfl (Nat.le_of_ble_eq_true rfl) hf dL_law_732 (fun H1 locs1 hP hS hz hk => ?_)
  have hP2 := lc_keep hP2 hba hk
  refine lv_aload_n hx hb dL_law_735 rfl (lv_at hl 1 rfl) ?_
  refine lv_aload_n hx hb dL_law_736 rfl (lv_at hl 3 rfl) ?_
  refine lv_iload_n hx hb dL_law_737 rfl (lv_at hl 0 rfl) ?_
  refine lv_iconst (v := 1) hx hb dL_law_738 (by decide) ?_
  refine lv_iadd hx hb dL_law_739 ?_
  refine va_sld hx hb hX hbl hbA hS hv1 dL_law_740 ?_
  refine lv_aload_n hx hb dL_law_741 rfl (lv_at hl 3 rfl) ?_
  refine lv_iload_n hx hb dL_law_742 rfl (lv_at hl 0 rfl) ?_
  refine lv_iconst (v := 2) hx hb dL_law_743 (by decide) ?_
  refine lv_iadd hx hb dL_law_744 ?_
  refine va_sld hx hb hX hbl hbA hS hv2 dL_law_745 ?_
  refine lv_aload_n hx hb dL_law_746 rfl (lv_at hl 3 rfl) ?_
  refine lv_iload_n hx hb dL_law_747 rfl (lv_at hl 0 rfl) ?_
  refine lv_iconst (v := 3) hx hb dL_law_748 (by decide) ?_
  refine lv_iadd hx hb dL_law_749 ?_
  refine va_sld hx hb hX hbl hbA hS hv3 dL_law_750 ?_
  refine x_callV (As := [.int (xs (Int32.toNatClampNeg (nI i + 1))), .int (xs (Int32.toNatClampNeg (nI i + 2))), .int (xs (Int32.toNatClampNeg (nI i + 3)))]) (rest := [.int r]) hAb ⟨hx, hb, hml, hown, hts⟩ (tX7_knows l D cA b hJb (xs (Int32.toNatClampNeg (nI i + 1))) (xs (Int32.toNatClampNeg (nI i + 2))) (xs (Int32.toNatClampNeg (nI i + 3))) τ _ _ h2) (cwV 3 hts gL_law_X7_knows rfl rfl rfl (by decide +kernel) ⟨(Nat.le_of_ble_eq_true rfl), (Nat.le_of_ble_eq_true rfl)⟩) hK hP2 hS KM_obj rfl rfl hl.1 rfl (Nat.le_of_ble_eq_true rfl) hf dL_law_751 (fun H2 locs2 hP2 hS hz2 hk2 => ?_)
  have hP := lc_keep hP hab hk2
  exact lv_icmp_eq (tgt := 960) hx hb dL_law_754 (by decide) (fun _ => next _ _ _ _ ⟨hP, hP2, hR1, hS⟩) (fun hne => absurd rfl hne)
set_option maxHeartbeats 4000000 in
set_option maxRecDepth 100000 in
theorem lc_stroke {p : Program} {l : Launch} {e : Env} {s : State} {m : MethodId} {below : List Frame} {meth : Method} {c : Code} {b0 L : Nat} {xs : Nat → Int32} {D : va_G} {cA : ClassId} {a b : Nat → Nat} {A : Nat → Prop} {cells slots i : Nat} {Q : State → Prop} {σ τ : St} {H : Heap} {locs : List Loc} {ls : Array Slot} (F : lc_F p s m c b0 L xs D cA a b A) (hl : lv_has ls 4 (lc_lv b0 a b i)) (hi : i + 6 ≤ L) (S : lc_S s D cA a b A σ τ H locs) (hc : cells ≤ 600000) (hs : slots ≤ 7302250)
    (next : ∀ (σ τ : St) (H : Heap) (locs : List Loc), lc_S s D cA a b A σ τ H locs → W p l e room_1 s m #[Value.ref b0] below meth c H locs cells slots Q (F0 m 960 ls [])) : W p l e room_1 s m #[Value.ref b0] below meth c H locs cells slots Q (F0 m 759 ls []) := by
  obtain ⟨hx, hb, hml, hown, hts, hK, hJa, hJb, hX, hbl, hbA, hAa, hAb, hba, hab, hL⟩ := F
  obtain ⟨hP, hP2, hRel, hS⟩ := S
  have hf : cells ≤ room_1.cells ∧ slots ≤ room_1.slots := ⟨hc, hs⟩
  have hv1 : vp_in (nI i + 1) L := lc_in 1 hi hL (by omega)
  have hv2 : vp_in (nI i + 2) L := lc_in 2 hi hL (by omega)
  have hv3 : vp_in (nI i + 3) L := lc_in 3 hi hL (by omega)
  obtain ⟨r, σ1, τ1, h1, h2, hR1⟩ := op_stroke hRel (xs (Int32.toNatClampNeg (nI i + 1))) (xs (Int32.toNatClampNeg (nI i + 2))) (xs (Int32.toNatClampNeg (nI i + 3)))
  refine lv_aload_n hx hb dL_law_759 rfl (lv_at hl 2 rfl) ?_
  refine lv_aload_n hx hb dL_law_760 rfl (lv_at hl 3 rfl) ?_
  refine lv_iload_n hx hb dL_law_761 rfl (lv_at hl 0 rfl) ?_
  refine lv_iconst (v := 1) hx hb dL_law_762 (by decide) ?_
  refine lv_iadd hx hb dL_law_763 ?_
  refine va_sld hx hb hX hbl hbA hS hv1 dL_law_764 ?_
  refine lv_aload_n hx hb dL_law_765 rfl (lv_at hl 3 rfl) ?_
  refine lv_iload_n hx hb dL_law_766 rfl (lv_at hl 0 rfl) ?_
  refine lv_iconst (v := 2) hx hb dL_law_767 (by decide) ?_
  refine lv_iadd hx hb dL_law_768 ?_
  refine va_sld hx hb hX hbl hbA hS hv2 dL_law_769 ?_
  refine lv_aload_n hx hb dL_law_770 rfl (lv_at hl 3 rfl) ?_
  refine lv_iload_n hx hb dL_law_771 rfl (lv_at hl 0 rfl) ?_
  refine lv_iconst (v := 3) hx hb dL_law_772 (by decide) ?_
  refine lv_iadd hx hb dL_law_773 ?_
  refine va_sld hx hb hX hbl hbA hS hv3 dL_law_774 ?_
  refine x_callV (As := [.int (xs (Int32.toNatClampNeg (nI i + 1))), .int (xs (Int32.toNatClampNeg (nI i + 2))), .int (xs (Int32.toNatClampNeg (nI i + 3)))]) (rest := []) hAa ⟨hx, hb, hml, hown, hts⟩ (tX6_stroke l D cA a hJa (xs (Int32.toNatClampNeg (nI i + 1))) (xs (Int32.toNatClampNeg (nI i + 2))) (xs (Int32.toNatClampNeg (nI i + 3))) σ _ _ h1) (cwV 3 hts gL_law_X6_stroke rfl rfl rfl (by decide +kernel) ⟨(Nat.le_of_ble_eq_true rfl), (Nat.le_of_ble_eq_true rfl)⟩) hK hP hS KC_sb rfl rfl hl.1 rfl (Nat.le_of_ble_eq_true rfl) hf dL_law_775 (fun H1 locs1 hP hS hz hk => ?_)
  have hP2 := lc_keep hP2 hba hk
  refine lv_aload_n hx hb dL_law_778 rfl (lv_at hl 1 rfl) ?_
  refine lv_aload_n hx hb dL_law_779 rfl (lv_at hl 3 rfl) ?_
  refine lv_iload_n hx hb dL_law_780 rfl (lv_at hl 0 rfl) ?_
  refine lv_iconst (v := 1) hx hb dL_law_781 (by decide) ?_
  refine lv_iadd hx hb dL_law_782 ?_
  refine va_sld hx hb hX hbl hbA hS hv1 dL_law_783 ?_
  refine lv_aload_n hx hb dL_law_784 rfl (lv_at hl 3 rfl) ?_
  refine lv_iload_n hx hb dL_law_785 rfl (lv_at hl 0 rfl) ?_
  refine lv_iconst (v := 2) hx hb dL_law_786 (by decide) ?_
  refine lv_iadd hx hb dL_law_787 ?_
  refine va_sld hx hb hX hbl hbA hS hv2 dL_law_788 ?_
  refine lv_aload_n hx hb dL_law_789 rfl (lv_at hl 3 rfl) ?_
  refine lv_iload_n hx hb dL_law_790 rfl (lv_at hl 0 rfl) ?_
  refine lv_iconst (v := 3) hx hb dL_law_791 (by decide) ?_
  refine lv_iadd hx hb dL_law_792 ?_
  refine va_sld hx hb hX hbl hbA hS hv3 dL_law_793 ?_
  refine x_callV (As := [.int (xs (Int32.toNatClampNeg (nI i + 1))), .int (xs (Int32.toNatClampNeg (nI i + 2))), .int (xs (Int32.toNatClampNeg (nI i + 3)))]) (rest := [.int r]) hAb ⟨hx, hb, hml, hown, hts⟩ (tX7_stroke l D cA b hJb (xs (Int32.toNatClampNeg (nI i + 1))) (xs (Int32.toNatClampNeg (nI i + 2))) (xs (Int32.toNatClampNeg (nI i + 3))) τ _ _ h2) (cwV 3 hts gL_law_X7_stroke rfl rfl rfl (by decide +kernel) ⟨(Nat.le_of_ble_eq_true rfl), (Nat.le_of_ble_eq_true rfl)⟩) hK hP2 hS KM_obj rfl rfl hl.1 rfl (Nat.le_of_ble_eq_true rfl) hf dL_law_794 (fun H2 locs2 hP2 hS hz2 hk2 => ?_)
  have hP := lc_keep hP hab hk2
  exact lv_icmp_eq (tgt := 960) hx hb dL_law_797 (by decide) (fun _ => next _ _ _ _ ⟨hP, hP2, hR1, hS⟩) (fun hne => absurd rfl hne)
set_option maxHeartbeats 4000000 in
set_option maxRecDepth 100000 in
theorem lc_strokeAt {p : Program} {l : Launch} {e : Env} {s : State} {m : MethodId} {below : List Frame} {meth : Method} {c : Code} {b0 L : Nat} {xs : Nat → Int32} {D : va_G} {cA : ClassId} {a b : Nat → Nat} {A : Nat → Prop} {cells slots i : Nat} {Q : State → Prop} {σ τ : St} {H : Heap} {locs : List Loc} {ls : Array Slot} (F : lc_F p s m c b0 L xs D cA a b A) (hl : lv_has ls 4 (lc_lv b0 a b i)) (hi : i + 6 ≤ L) (S : lc_S s D cA a b A σ τ H locs) (hc : cells ≤ 600000) (hs : slots ≤ 7302250)
    (next : ∀ (σ τ : St) (H : Heap) (locs : List Loc), lc_S s D cA a b A σ τ H locs → W p l e room_1 s m #[Value.ref b0] below meth c H locs cells slots Q (F0 m 960 ls [])) : W p l e room_1 s m #[Value.ref b0] below meth c H locs cells slots Q (F0 m 802 ls []) := by
  obtain ⟨hx, hb, hml, hown, hts, hK, hJa, hJb, hX, hbl, hbA, hAa, hAb, hba, hab, hL⟩ := F
  obtain ⟨hP, hP2, hRel, hS⟩ := S
  have hf : cells ≤ room_1.cells ∧ slots ≤ room_1.slots := ⟨hc, hs⟩
  have hv1 : vp_in (nI i + 1) L := lc_in 1 hi hL (by omega)
  have hv2 : vp_in (nI i + 2) L := lc_in 2 hi hL (by omega)
  have hv3 : vp_in (nI i + 3) L := lc_in 3 hi hL (by omega)
  obtain ⟨r, σ1, τ1, h1, h2, hR1⟩ := op_strokeAt hRel (xs (Int32.toNatClampNeg (nI i + 1))) (xs (Int32.toNatClampNeg (nI i + 2))) (xs (Int32.toNatClampNeg (nI i + 3)))
  refine lv_aload_n hx hb dL_law_802 rfl (lv_at hl 2 rfl) ?_
  refine lv_aload_n hx hb dL_law_803 rfl (lv_at hl 3 rfl) ?_
  refine lv_iload_n hx hb dL_law_804 rfl (lv_at hl 0 rfl) ?_
  refine lv_iconst (v := 1) hx hb dL_law_805 (by decide) ?_
  refine lv_iadd hx hb dL_law_806 ?_
  refine va_sld hx hb hX hbl hbA hS hv1 dL_law_807 ?_
  refine lv_aload_n hx hb dL_law_808 rfl (lv_at hl 3 rfl) ?_
  refine lv_iload_n hx hb dL_law_809 rfl (lv_at hl 0 rfl) ?_
  refine lv_iconst (v := 2) hx hb dL_law_810 (by decide) ?_
  refine lv_iadd hx hb dL_law_811 ?_
  refine va_sld hx hb hX hbl hbA hS hv2 dL_law_812 ?_
  refine lv_aload_n hx hb dL_law_813 rfl (lv_at hl 3 rfl) ?_
  refine lv_iload_n hx hb dL_law_814 rfl (lv_at hl 0 rfl) ?_
  refine lv_iconst (v := 3) hx hb dL_law_815 (by decide) ?_
  refine lv_iadd hx hb dL_law_816 ?_
  refine va_sld hx hb hX hbl hbA hS hv3 dL_law_817 ?_
  refine x_callV (As := [.int (xs (Int32.toNatClampNeg (nI i + 1))), .int (xs (Int32.toNatClampNeg (nI i + 2))), .int (xs (Int32.toNatClampNeg (nI i + 3)))]) (rest := []) hAa ⟨hx, hb, hml, hown, hts⟩ (tX6_strokeAt l D cA a hJa (xs (Int32.toNatClampNeg (nI i + 1))) (xs (Int32.toNatClampNeg (nI i + 2))) (xs (Int32.toNatClampNeg (nI i + 3))) σ _ _ h1) (cwV 3 hts gL_law_X6_strokeAt rfl rfl rfl (by decide +kernel) ⟨(Nat.le_of_ble_eq_true rfl), (Nat.le_of_ble_eq_true rfl)⟩) hK hP hS KC_sb rfl rfl hl.1 rfl (Nat.le_of_ble_eq_true rfl) hf dL_law_818 (fun H1 locs1 hP hS hz hk => ?_)
  have hP2 := lc_keep hP2 hba hk
  refine lv_aload_n hx hb dL_law_821 rfl (lv_at hl 1 rfl) ?_
  refine lv_aload_n hx hb dL_law_822 rfl (lv_at hl 3 rfl) ?_
  refine lv_iload_n hx hb dL_law_823 rfl (lv_at hl 0 rfl) ?_
  refine lv_iconst (v := 1) hx hb dL_law_824 (by decide) ?_
  refine lv_iadd hx hb dL_law_825 ?_
  refine va_sld hx hb hX hbl hbA hS hv1 dL_law_826 ?_
  refine lv_aload_n hx hb dL_law_827 rfl (lv_at hl 3 rfl) ?_
  refine lv_iload_n hx hb dL_law_828 rfl (lv_at hl 0 rfl) ?_
  refine lv_iconst (v := 2) hx hb dL_law_829 (by decide) ?_
  refine lv_iadd hx hb dL_law_830 ?_
  refine va_sld hx hb hX hbl hbA hS hv2 dL_law_831 ?_
  refine lv_aload_n hx hb dL_law_832 rfl (lv_at hl 3 rfl) ?_
  refine lv_iload_n hx hb dL_law_833 rfl (lv_at hl 0 rfl) ?_
  refine lv_iconst (v := 3) hx hb dL_law_834 (by decide) ?_
  refine lv_iadd hx hb dL_law_835 ?_
  refine va_sld hx hb hX hbl hbA hS hv3 dL_law_836 ?_
  refine x_callV (As := [.int (xs (Int32.toNatClampNeg (nI i + 1))), .int (xs (Int32.toNatClampNeg (nI i + 2))), .int (xs (Int32.toNatClampNeg (nI i + 3)))]) (rest := [.int r]) hAb ⟨hx, hb, hml, hown, hts⟩ (tX7_strokeAt l D cA b hJb (xs (Int32.toNatClampNeg (nI i + 1))) (xs (Int32.toNatClampNeg (nI i + 2))) (xs (Int32.toNatClampNeg (nI i + 3))) τ _ _ h2) (cwV 3 hts gL_law_X7_strokeAt rfl rfl rfl (by decide +kernel) ⟨(Nat.le_of_ble_eq_true rfl), (Nat.le_of_ble_eq_true rfl)⟩) hK hP2 hS KM_obj rfl rfl hl.1 rfl (Nat.le_of_ble_eq_true rfl) hf dL_law_837 (fun H2 locs2 hP2 hS hz2 hk2 => ?_)
  have hP := lc_keep hP hab hk2
  exact lv_icmp_eq (tgt := 960) hx hb dL_law_840 (by decide) (fun _ => next _ _ _ _ ⟨hP, hP2, hR1, hS⟩) (fun hne => absurd rfl hne)
set_option maxHeartbeats 4000000 in
set_option maxRecDepth 100000 in
theorem lc_digest {p : Program} {l : Launch} {e : Env} {s : State} {m : MethodId} {below : List Frame} {meth : Method} {c : Code} {b0 L : Nat} {xs : Nat → Int32} {D : va_G} {cA : ClassId} {a b : Nat → Nat} {A : Nat → Prop} {cells slots i : Nat} {Q : State → Prop} {σ τ : St} {H : Heap} {locs : List Loc} {ls : Array Slot} (F : lc_F p s m c b0 L xs D cA a b A) (hl : lv_has ls 4 (lc_lv b0 a b i)) (hi : i + 6 ≤ L) (S : lc_S s D cA a b A σ τ H locs) (hc : cells ≤ 600000) (hs : slots ≤ 7302250)
    (next : ∀ (σ τ : St) (H : Heap) (locs : List Loc), lc_S s D cA a b A σ τ H locs → W p l e room_1 s m #[Value.ref b0] below meth c H locs cells slots Q (F0 m 960 ls [])) : W p l e room_1 s m #[Value.ref b0] below meth c H locs cells slots Q (F0 m 845 ls []) := by
  obtain ⟨hx, hb, hml, hown, hts, hK, hJa, hJb, hX, hbl, hbA, hAa, hAb, hba, hab, hL⟩ := F
  obtain ⟨hP, hP2, hRel, hS⟩ := S
  have hf : cells ≤ room_1.cells ∧ slots ≤ room_1.slots := ⟨hc, hs⟩
  have hv1 : vp_in (nI i + 1) L := lc_in 1 hi hL (by omega)
  obtain ⟨r, σ1, τ1, h1, h2, hR1⟩ := op_digest hRel (xs (Int32.toNatClampNeg (nI i + 1)))
  refine lv_aload_n hx hb dL_law_845 rfl (lv_at hl 2 rfl) ?_
  refine lv_aload_n hx hb dL_law_846 rfl (lv_at hl 3 rfl) ?_
  refine lv_iload_n hx hb dL_law_847 rfl (lv_at hl 0 rfl) ?_
  refine lv_iconst (v := 1) hx hb dL_law_848 (by decide) ?_
  refine lv_iadd hx hb dL_law_849 ?_
  refine va_sld hx hb hX hbl hbA hS hv1 dL_law_850 ?_
  refine x_callV (As := [.int (xs (Int32.toNatClampNeg (nI i + 1)))]) (rest := []) hAa ⟨hx, hb, hml, hown, hts⟩ (tX6_digest l D cA a hJa (xs (Int32.toNatClampNeg (nI i + 1))) σ _ _ h1) (cwV 1 hts gL_law_X6_digest rfl rfl rfl (by decide +kernel) ⟨(Nat.le_of_ble_eq_true rfl), (Nat.le_of_ble_eq_true rfl)⟩) hK hP hS KC_sb rfl rfl hl.1 rfl (Nat.le_of_ble_eq_true rfl) hf dL_law_851 (fun H1 locs1 hP hS hz hk => ?_)
  have hP2 := lc_keep hP2 hba hk
  refine lv_aload_n hx hb dL_law_854 rfl (lv_at hl 1 rfl) ?_
  refine lv_aload_n hx hb dL_law_855 rfl (lv_at hl 3 rfl) ?_
  refine lv_iload_n hx hb dL_law_856 rfl (lv_at hl 0 rfl) ?_
  refine lv_iconst (v := 1) hx hb dL_law_857 (by decide) ?_
  refine lv_iadd hx hb dL_law_858 ?_
  refine va_sld hx hb hX hbl hbA hS hv1 dL_law_859 ?_
  refine x_callV (As := [.int (xs (Int32.toNatClampNeg (nI i + 1)))]) (rest := [.int r]) hAb ⟨hx, hb, hml, hown, hts⟩ (tX7_digest l D cA b hJb (xs (Int32.toNatClampNeg (nI i + 1))) τ _ _ h2) (cwV 1 hts gL_law_X7_digest rfl rfl rfl (by decide +kernel) ⟨(Nat.le_of_ble_eq_true rfl), (Nat.le_of_ble_eq_true rfl)⟩) hK hP2 hS KM_obj rfl rfl hl.1 rfl (Nat.le_of_ble_eq_true rfl) hf dL_law_860 (fun H2 locs2 hP2 hS hz2 hk2 => ?_)
  have hP := lc_keep hP hab hk2
  exact lv_icmp_eq (tgt := 960) hx hb dL_law_863 (by decide) (fun _ => next _ _ _ _ ⟨hP, hP2, hR1, hS⟩) (fun hne => absurd rfl hne)
set_option maxHeartbeats 4000000 in
set_option maxRecDepth 100000 in
theorem lc_areSame {p : Program} {l : Launch} {e : Env} {s : State} {m : MethodId} {below : List Frame} {meth : Method} {c : Code} {b0 L : Nat} {xs : Nat → Int32} {D : va_G} {cA : ClassId} {a b : Nat → Nat} {A : Nat → Prop} {cells slots i : Nat} {Q : State → Prop} {σ τ : St} {H : Heap} {locs : List Loc} {ls : Array Slot} (F : lc_F p s m c b0 L xs D cA a b A) (hl : lv_has ls 4 (lc_lv b0 a b i)) (hi : i + 6 ≤ L) (S : lc_S s D cA a b A σ τ H locs) (hc : cells ≤ 600000) (hs : slots ≤ 7302250)
    (next : ∀ (σ τ : St) (H : Heap) (locs : List Loc), lc_S s D cA a b A σ τ H locs → W p l e room_1 s m #[Value.ref b0] below meth c H locs cells slots Q (F0 m 960 ls [])) : W p l e room_1 s m #[Value.ref b0] below meth c H locs cells slots Q (F0 m 868 ls []) := by
  obtain ⟨hx, hb, hml, hown, hts, hK, hJa, hJb, hX, hbl, hbA, hAa, hAb, hba, hab, hL⟩ := F
  obtain ⟨hP, hP2, hRel, hS⟩ := S
  have hf : cells ≤ room_1.cells ∧ slots ≤ room_1.slots := ⟨hc, hs⟩
  have hv1 : vp_in (nI i + 1) L := lc_in 1 hi hL (by omega)
  have hv2 : vp_in (nI i + 2) L := lc_in 2 hi hL (by omega)
  obtain ⟨r, σ1, τ1, h1, h2, hR1⟩ := op_areSame hRel (xs (Int32.toNatClampNeg (nI i + 1))) (xs (Int32.toNatClampNeg (nI i + 2)))
  refine lv_aload_n hx hb dL_law_868 rfl (lv_at hl 2 rfl) ?_
  refine lv_aload_n hx hb dL_law_869 rfl (lv_at hl 3 rfl) ?_
  refine lv_iload_n hx hb dL_law_870 rfl (lv_at hl 0 rfl) ?_
  refine lv_iconst (v := 1) hx hb dL_law_871 (by decide) ?_
  refine lv_iadd hx hb dL_law_872 ?_
  refine va_sld hx hb hX hbl hbA hS hv1 dL_law_873 ?_
  refine lv_aload_n hx hb dL_law_874 rfl (lv_at hl 3 rfl) ?_
  refine lv_iload_n hx hb dL_law_875 rfl (lv_at hl 0 rfl) ?_
  refine lv_iconst (v := 2) hx hb dL_law_876 (by decide) ?_
  refine lv_iadd hx hb dL_law_877 ?_
  refine va_sld hx hb hX hbl hbA hS hv2 dL_law_878 ?_
  refine x_callV (As := [.int (xs (Int32.toNatClampNeg (nI i + 1))), .int (xs (Int32.toNatClampNeg (nI i + 2)))]) (rest := []) hAa ⟨hx, hb, hml, hown, hts⟩ (tX6_areSame l D cA a hJa (xs (Int32.toNatClampNeg (nI i + 1))) (xs (Int32.toNatClampNeg (nI i + 2))) σ _ _ h1) (cwV 2 hts gL_law_X6_areSame rfl rfl rfl (by decide +kernel) ⟨(Nat.le_of_ble_eq_true rfl), (Nat.le_of_ble_eq_true rfl)⟩) hK hP hS KC_sb rfl rfl hl.1 rfl (Nat.le_of_ble_eq_true rfl) hf dL_law_879 (fun H1 locs1 hP hS hz hk => ?_)
  have hP2 := lc_keep hP2 hba hk
  refine lv_aload_n hx hb dL_law_882 rfl (lv_at hl 1 rfl) ?_
  refine lv_aload_n hx hb dL_law_883 rfl (lv_at hl 3 rfl) ?_
  refine lv_iload_n hx hb dL_law_884 rfl (lv_at hl 0 rfl) ?_
  refine lv_iconst (v := 1) hx hb dL_law_885 (by decide) ?_
  refine lv_iadd hx hb dL_law_886 ?_
  refine va_sld hx hb hX hbl hbA hS hv1 dL_law_887 ?_
  refine lv_aload_n hx hb dL_law_888 rfl (lv_at hl 3 rfl) ?_
  refine lv_iload_n hx hb dL_law_889 rfl (lv_at hl 0 rfl) ?_
  refine lv_iconst (v := 2) hx hb dL_law_890 (by decide) ?_
  refine lv_iadd hx hb dL_law_891 ?_
  refine va_sld hx hb hX hbl hbA hS hv2 dL_law_892 ?_
  refine x_callV (As := [.int (xs (Int32.toNatClampNeg (nI i + 1))), .int (xs (Int32.toNatClampNeg (nI i + 2)))]) (rest := [.int r]) hAb ⟨hx, hb, hml, hown, hts⟩ (tX7_areSame l D cA b hJb (xs (Int32.toNatClampNeg (nI i + 1))) (xs (Int32.toNatClampNeg (nI i + 2))) τ _ _ h2) (cwV 2 hts gL_law_X7_areSame rfl rfl rfl (by decide +kernel) ⟨(Nat.le_of_ble_eq_true rfl), (Nat.le_of_ble_eq_true rfl)⟩) hK hP2 hS KM_obj rfl rfl hl.1 rfl (Nat.le_of_ble_eq_true rfl) hf dL_law_893 (fun H2 locs2 hP2 hS hz2 hk2 => ?_)
  have hP := lc_keep hP hab hk2
  exact lv_icmp_eq (tgt := 960) hx hb dL_law_896 (by decide) (fun _ => next _ _ _ _ ⟨hP, hP2, hR1, hS⟩) (fun hne => absurd rfl hne)
set_option maxHeartbeats 4000000 in
set_option maxRecDepth 100000 in
theorem lc_differing {p : Program} {l : Launch} {e : Env} {s : State} {m : MethodId} {below : List Frame} {meth : Method} {c : Code} {b0 L : Nat} {xs : Nat → Int32} {D : va_G} {cA : ClassId} {a b : Nat → Nat} {A : Nat → Prop} {cells slots i : Nat} {Q : State → Prop} {σ τ : St} {H : Heap} {locs : List Loc} {ls : Array Slot} (F : lc_F p s m c b0 L xs D cA a b A) (hl : lv_has ls 4 (lc_lv b0 a b i)) (hi : i + 6 ≤ L) (S : lc_S s D cA a b A σ τ H locs) (hc : cells ≤ 600000) (hs : slots ≤ 7302250)
    (next : ∀ (σ τ : St) (H : Heap) (locs : List Loc), lc_S s D cA a b A σ τ H locs → W p l e room_1 s m #[Value.ref b0] below meth c H locs cells slots Q (F0 m 960 ls [])) : W p l e room_1 s m #[Value.ref b0] below meth c H locs cells slots Q (F0 m 901 ls []) := by
  obtain ⟨hx, hb, hml, hown, hts, hK, hJa, hJb, hX, hbl, hbA, hAa, hAb, hba, hab, hL⟩ := F
  obtain ⟨hP, hP2, hRel, hS⟩ := S
  have hf : cells ≤ room_1.cells ∧ slots ≤ room_1.slots := ⟨hc, hs⟩
  obtain ⟨r, σ1, τ1, h1, h2, hR1⟩ := op_differing hRel
  refine lv_aload_n hx hb dL_law_901 rfl (lv_at hl 2 rfl) ?_
  refine x_callV (As := []) (rest := []) hAa ⟨hx, hb, hml, hown, hts⟩ (tX6_differing l D cA a hJa σ _ _ h1) (cwV 0 hts gL_law_X6_differing rfl rfl rfl (by decide +kernel) ⟨(Nat.le_of_ble_eq_true rfl), (Nat.le_of_ble_eq_true rfl)⟩) hK hP hS KC_sb rfl rfl hl.1 rfl (Nat.le_of_ble_eq_true rfl) hf dL_law_902 (fun H1 locs1 hP hS hz hk => ?_)
  have hP2 := lc_keep hP2 hba hk
  refine lv_aload_n hx hb dL_law_905 rfl (lv_at hl 1 rfl) ?_
  refine x_callV (As := []) (rest := [.int r]) hAb ⟨hx, hb, hml, hown, hts⟩ (tX7_differing l D cA b hJb τ _ _ h2) (cwV 0 hts gL_law_X7_differing rfl rfl rfl (by decide +kernel) ⟨(Nat.le_of_ble_eq_true rfl), (Nat.le_of_ble_eq_true rfl)⟩) hK hP2 hS KM_obj rfl rfl hl.1 rfl (Nat.le_of_ble_eq_true rfl) hf dL_law_906 (fun H2 locs2 hP2 hS hz2 hk2 => ?_)
  have hP := lc_keep hP hab hk2
  exact lv_icmp_eq (tgt := 960) hx hb dL_law_909 (by decide) (fun _ => next _ _ _ _ ⟨hP, hP2, hR1, hS⟩) (fun hne => absurd rfl hne)
set_option maxHeartbeats 4000000 in
set_option maxRecDepth 100000 in
theorem lc_bestHelper {p : Program} {l : Launch} {e : Env} {s : State} {m : MethodId} {below : List Frame} {meth : Method} {c : Code} {b0 L : Nat} {xs : Nat → Int32} {D : va_G} {cA : ClassId} {a b : Nat → Nat} {A : Nat → Prop} {cells slots i : Nat} {Q : State → Prop} {σ τ : St} {H : Heap} {locs : List Loc} {ls : Array Slot} (F : lc_F p s m c b0 L xs D cA a b A) (hl : lv_has ls 4 (lc_lv b0 a b i)) (hi : i + 6 ≤ L) (S : lc_S s D cA a b A σ τ H locs) (hc : cells ≤ 600000) (hs : slots ≤ 7302250)
    (next : ∀ (σ τ : St) (H : Heap) (locs : List Loc), lc_S s D cA a b A σ τ H locs → W p l e room_1 s m #[Value.ref b0] below meth c H locs cells slots Q (F0 m 960 ls [])) : W p l e room_1 s m #[Value.ref b0] below meth c H locs cells slots Q (F0 m 914 ls []) := by
  obtain ⟨hx, hb, hml, hown, hts, hK, hJa, hJb, hX, hbl, hbA, hAa, hAb, hba, hab, hL⟩ := F
  obtain ⟨hP, hP2, hRel, hS⟩ := S
  have hf : cells ≤ room_1.cells ∧ slots ≤ room_1.slots := ⟨hc, hs⟩
  have hv1 : vp_in (nI i + 1) L := lc_in 1 hi hL (by omega)
  obtain ⟨r, σ1, τ1, h1, h2, hR1⟩ := op_bestHelper hRel (xs (Int32.toNatClampNeg (nI i + 1)))
  refine lv_aload_n hx hb dL_law_914 rfl (lv_at hl 2 rfl) ?_
  refine lv_aload_n hx hb dL_law_915 rfl (lv_at hl 3 rfl) ?_
  refine lv_iload_n hx hb dL_law_916 rfl (lv_at hl 0 rfl) ?_
  refine lv_iconst (v := 1) hx hb dL_law_917 (by decide) ?_
  refine lv_iadd hx hb dL_law_918 ?_
  refine va_sld hx hb hX hbl hbA hS hv1 dL_law_919 ?_
  refine x_callV (As := [.int (xs (Int32.toNatClampNeg (nI i + 1)))]) (rest := []) hAa ⟨hx, hb, hml, hown, hts⟩ (tX6_bestHelper l D cA a hJa (xs (Int32.toNatClampNeg (nI i + 1))) σ _ _ h1) (cwV 1 hts gL_law_X6_bestHelper rfl rfl rfl (by decide +kernel) ⟨(Nat.le_of_ble_eq_true rfl), (Nat.le_of_ble_eq_true rfl)⟩) hK hP hS KC_sb rfl rfl hl.1 rfl (Nat.le_of_ble_eq_true rfl) hf dL_law_920 (fun H1 locs1 hP hS hz hk => ?_)
  have hP2 := lc_keep hP2 hba hk
  refine lv_aload_n hx hb dL_law_923 rfl (lv_at hl 1 rfl) ?_
  refine lv_aload_n hx hb dL_law_924 rfl (lv_at hl 3 rfl) ?_
  refine lv_iload_n hx hb dL_law_925 rfl (lv_at hl 0 rfl) ?_
  refine lv_iconst (v := 1) hx hb dL_law_926 (by decide) ?_
  refine lv_iadd hx hb dL_law_927 ?_
  refine va_sld hx hb hX hbl hbA hS hv1 dL_law_928 ?_
  refine x_callV (As := [.int (xs (Int32.toNatClampNeg (nI i + 1)))]) (rest := [.int r]) hAb ⟨hx, hb, hml, hown, hts⟩ (tX7_bestHelper l D cA b hJb (xs (Int32.toNatClampNeg (nI i + 1))) τ _ _ h2) (cwV 1 hts gL_law_X7_bestHelper rfl rfl rfl (by decide +kernel) ⟨(Nat.le_of_ble_eq_true rfl), (Nat.le_of_ble_eq_true rfl)⟩) hK hP2 hS KM_obj rfl rfl hl.1 rfl (Nat.le_of_ble_eq_true rfl) hf dL_law_929 (fun H2 locs2 hP2 hS hz2 hk2 => ?_)
  have hP := lc_keep hP hab hk2
  exact lv_icmp_eq (tgt := 960) hx hb dL_law_932 (by decide) (fun _ => next _ _ _ _ ⟨hP, hP2, hR1, hS⟩) (fun hne => absurd rfl hne)
set_option maxHeartbeats 4000000 in
set_option maxRecDepth 100000 in
theorem lc_endangered {p : Program} {l : Launch} {e : Env} {s : State} {m : MethodId} {below : List Frame} {meth : Method} {c : Code} {b0 L : Nat} {xs : Nat → Int32} {D : va_G} {cA : ClassId} {a b : Nat → Nat} {A : Nat → Prop} {cells slots i : Nat} {Q : State → Prop} {σ τ : St} {H : Heap} {locs : List Loc} {ls : Array Slot} (F : lc_F p s m c b0 L xs D cA a b A) (hl : lv_has ls 4 (lc_lv b0 a b i)) (hi : i + 6 ≤ L) (S : lc_S s D cA a b A σ τ H locs) (hc : cells ≤ 600000) (hs : slots ≤ 7302250)
    (next : ∀ (σ τ : St) (H : Heap) (locs : List Loc), lc_S s D cA a b A σ τ H locs → W p l e room_1 s m #[Value.ref b0] below meth c H locs cells slots Q (F0 m 960 ls [])) : W p l e room_1 s m #[Value.ref b0] below meth c H locs cells slots Q (F0 m 937 ls []) := by
  obtain ⟨hx, hb, hml, hown, hts, hK, hJa, hJb, hX, hbl, hbA, hAa, hAb, hba, hab, hL⟩ := F
  obtain ⟨hP, hP2, hRel, hS⟩ := S
  have hf : cells ≤ room_1.cells ∧ slots ≤ room_1.slots := ⟨hc, hs⟩
  have hv1 : vp_in (nI i + 1) L := lc_in 1 hi hL (by omega)
  obtain ⟨r, σ1, τ1, h1, h2, hR1⟩ := op_endangered hRel (xs (Int32.toNatClampNeg (nI i + 1)))
  refine lv_aload_n hx hb dL_law_937 rfl (lv_at hl 2 rfl) ?_
  refine lv_aload_n hx hb dL_law_938 rfl (lv_at hl 3 rfl) ?_
  refine lv_iload_n hx hb dL_law_939 rfl (lv_at hl 0 rfl) ?_
  refine lv_iconst (v := 1) hx hb dL_law_940 (by decide) ?_
  refine lv_iadd hx hb dL_law_941 ?_
  refine va_sld hx hb hX hbl hbA hS hv1 dL_law_942 ?_
  refine x_callV (As := [.int (xs (Int32.toNatClampNeg (nI i + 1)))]) (rest := []) hAa ⟨hx, hb, hml, hown, hts⟩ (tX6_endangered l D cA a hJa (xs (Int32.toNatClampNeg (nI i + 1))) σ _ _ h1) (cwV 1 hts gL_law_X6_endangered rfl rfl rfl (by decide +kernel) ⟨(Nat.le_of_ble_eq_true rfl), (Nat.le_of_ble_eq_true rfl)⟩) hK hP hS KC_sb rfl rfl hl.1 rfl (Nat.le_of_ble_eq_true rfl) hf dL_law_943 (fun H1 locs1 hP hS hz hk => ?_)
  have hP2 := lc_keep hP2 hba hk
  refine lv_aload_n hx hb dL_law_946 rfl (lv_at hl 1 rfl) ?_
  refine lv_aload_n hx hb dL_law_947 rfl (lv_at hl 3 rfl) ?_
  refine lv_iload_n hx hb dL_law_948 rfl (lv_at hl 0 rfl) ?_
  refine lv_iconst (v := 1) hx hb dL_law_949 (by decide) ?_
  refine lv_iadd hx hb dL_law_950 ?_
  refine va_sld hx hb hX hbl hbA hS hv1 dL_law_951 ?_
  refine x_callV (As := [.int (xs (Int32.toNatClampNeg (nI i + 1)))]) (rest := [.int r]) hAb ⟨hx, hb, hml, hown, hts⟩ (tX7_endangered l D cA b hJb (xs (Int32.toNatClampNeg (nI i + 1))) τ _ _ h2) (cwV 1 hts gL_law_X7_endangered rfl rfl rfl (by decide +kernel) ⟨(Nat.le_of_ble_eq_true rfl), (Nat.le_of_ble_eq_true rfl)⟩) hK hP2 hS KM_obj rfl rfl hl.1 rfl (Nat.le_of_ble_eq_true rfl) hf dL_law_952 (fun H2 locs2 hP2 hS hz2 hk2 => ?_)
  have hP := lc_keep hP hab hk2
  exact lv_icmp_eq (tgt := 960) hx hb dL_law_955 (by decide) (fun _ => next _ _ _ _ ⟨hP, hP2, hR1, hS⟩) (fun hne => absurd rfl hne)
