/-! The walks of the law, laid by wip/p29/gen.py. -/
set_option maxHeartbeats 4000000 in
set_option maxRecDepth 100000 in
theorem tL_refuses (l : Launch) (D : va_G) (cA : ClassId) (ad : Nat → Nat) (hJ : w_J ad KC) (σ σ' : St) (r : Int32) (hM : mL_refuses σ = some (r, σ')) : Ct l yL_refuses wsL_refuses 7 161 D cA ad KC [.ref (ad 62)] σ r σ' := by
  unfold Ct
  refine Met_of (cc := cL_refuses) (maxL := 6) (ret := (some .boolean)) hJ (by decide +kernel) rfl (Nat.le_of_ble_eq_true rfl) ?_
  intro p e s m below meth c Z H locs ls hP hS hl
  obtain ⟨hx, hb, hml, hown, hts, hr, hlk, hK, -⟩ := Z
  have hown : s.vm.findClass RL = some m.cls := hown
  have hl : lv_has ls 6 [(0, .ref (ad 62))] := hl
  have hA : ∀ q, w_A ad KC q → w_A ad KC q := fun _ h => h
  have b462 : ∀ (x2 x3 x4 : Int32) (σ : St) (H : Heap) (locs : List Loc) (ls : Array Slot), mL_refuses_b462 x2 x3 x4 σ = some (r, σ') → w_P D cA ad KC σ H → va_S (w_A ad KC) s.heap H locs → lv_has ls 6 [(0, .ref (ad 62)), (2, .int x2), (3, .int x3), (4, .int x4)] → Wm p l e wsL_refuses 7 161 s m ([.ref (ad 62)] : List Value).toArray below meth c (w_Qi D cA ad KC r σ') (w_A ad KC) H locs (F0 m 462 ls []) := by
    intro x2 x3 x4 σ H locs ls hM hP hS hl
    unfold mL_refuses_b462 at hM
    refine lv_iload_n hx hb dL_refuses_462 rfl (lv_at hl 2 rfl) ?_
    refine lv_if_eq (tgt := 476) hx hb dL_refuses_463 (by decide) (fun c1 => ?_) (fun c1 => ?_)
    · have hM := (if_pos c1).symm.trans hM
      refine lv_iconst (v := 0) hx hb dL_refuses_476 (by decide) ?_
      exact x_zret hx hb hr hlk hP hS hM dL_refuses_477
    · have hM := (if_neg c1).symm.trans hM
      refine lv_iload hx hb dL_refuses_466 (lv_at hl 3 rfl) ?_
      refine lv_iload_n hx hb dL_refuses_468 rfl (lv_at hl 1 rfl) ?_
      refine lv_icmp_ne (tgt := 476) hx hb dL_refuses_469 (by decide) (fun c2 => ?_) (fun c2 => ?_)
      · have hM := (if_neg c2).symm.trans hM
        refine lv_iconst (v := 0) hx hb dL_refuses_476 (by decide) ?_
        exact x_zret hx hb hr hlk hP hS hM dL_refuses_477
      · have hM := (if_pos c2).symm.trans hM
        refine lv_iconst (v := 1) hx hb dL_refuses_472 (by decide) ?_
        refine lv_goto (tgt := 477) hx hb dL_refuses_473 (by decide) ?_
        exact x_zret hx hb hr hlk hP hS hM dL_refuses_477
  have L406 : ∀ (n : Nat) (x1 x2 x3 x4 x5 : Int32) (σ : St) (H : Heap) (locs : List Loc) (ls : Array Slot), mL_refuses_L406 n x1 x2 x3 x4 x5 σ = some (r, σ') → w_P D cA ad KC σ H → va_S (w_A ad KC) s.heap H locs → lv_has ls 6 [(0, .ref (ad 62)), (1, .int x1), (2, .int x2), (3, .int x3), (4, .int x4), (5, .int x5)] → Wm p l e wsL_refuses 7 161 s m ([.ref (ad 62)] : List Value).toArray below meth c (w_Qi D cA ad KC r σ') (w_A ad KC) H locs (F0 m 406 ls []) := by
    intro n406
    induction n406 with
    | zero =>
      intro x1 x2 x3 x4 x5 σ H locs ls hM hP hS hl
      rw [mL_refuses_L406] at hM
      cases hM
    | succ n406 ih406 =>
      intro x1 x2 x3 x4 x5 σ H locs ls hM hP hS hl
      rw [mL_refuses_L406] at hM
      refine lv_iload hx hb dL_refuses_406 (lv_at hl 5 rfl) ?_
      refine lv_iload_n hx hb dL_refuses_408 rfl (lv_at hl 1 rfl) ?_
      refine lv_icmp_ge (tgt := 462) hx hb dL_refuses_409 (by decide) (fun c3 => ?_) (fun c3 => ?_)
      · have hM := (if_pos c3).symm.trans hM
        exact b462 _ _ _ _ _ _ _ hM hP hS (lv_sub hl [0, 2, 3, 4] rfl)
      · have hM := (if_neg c3).symm.trans hM
        refine lv_bipush (v := 31) hx hb dL_refuses_412 (by decide) ?_
        refine lv_iload hx hb dL_refuses_414 (lv_at hl 4 rfl) ?_
        refine lv_imul hx hb dL_refuses_416 ?_
        refine lv_aload_n hx hb dL_refuses_417 rfl (lv_at hl 0 rfl) ?_
        refine lv_iload hx hb dL_refuses_418 (lv_at hl 5 rfl) ?_
        obtain ⟨r6, σ5, h4, hM⟩ := bnd_i hM
        refine x_callV (As := [.int x5]) (rest := [.int (31 * x4)]) hA ⟨hx, hb, hml, hown, hts⟩ (tX6_digest l D cA ad hJ x5 σ _ _ h4) (cwV 1 hts gL_refuses_X6_digest rfl rfl rfl (by decide +kernel) ⟨(Nat.le_of_ble_eq_true rfl), (Nat.le_of_ble_eq_true rfl)⟩) hK hP hS KC_sb rfl rfl hl.1 rfl (Nat.le_of_ble_eq_true rfl) ⟨Nat.zero_le _, Nat.zero_le _⟩ dL_refuses_420 (fun H locs hP hS _ _ => ?_)
        refine lv_iadd hx hb dL_refuses_423 ?_
        refine lv_bipush (v := 7) hx hb dL_refuses_424 (by decide) ?_
        refine lv_aload_n hx hb dL_refuses_426 rfl (lv_at hl 0 rfl) ?_
        refine lv_iload hx hb dL_refuses_427 (lv_at hl 5 rfl) ?_
        refine lv_iconst (v := 0) hx hb dL_refuses_429 (by decide) ?_
        obtain ⟨r9, σ8, h7, hM⟩ := bnd_i hM
        refine x_callV (As := [.int x5, .int 0]) (rest := [.int 7, .int ((31 * x4) + r6)]) hA ⟨hx, hb, hml, hown, hts⟩ (tX6_siteInfo l D cA ad hJ x5 0 σ5 _ _ h7) (cwV 2 hts gL_refuses_X6_siteInfo rfl rfl rfl (by decide +kernel) ⟨(Nat.le_of_ble_eq_true rfl), (Nat.le_of_ble_eq_true rfl)⟩) hK hP hS KC_sb rfl rfl hl.1 rfl (Nat.le_of_ble_eq_true rfl) ⟨Nat.zero_le _, Nat.zero_le _⟩ dL_refuses_430 (fun H locs hP hS _ _ => ?_)
        refine lv_imul hx hb dL_refuses_433 ?_
        refine lv_iadd hx hb dL_refuses_434 ?_
        refine lv_aload_n hx hb dL_refuses_435 rfl (lv_at hl 0 rfl) ?_
        refine lv_iload hx hb dL_refuses_436 (lv_at hl 5 rfl) ?_
        refine lv_iconst (v := 1) hx hb dL_refuses_438 (by decide) ?_
        obtain ⟨r12, σ11, h10, hM⟩ := bnd_i hM
        refine x_callV (As := [.int x5, .int 1]) (rest := [.int (((31 * x4) + r6) + (7 * r9))]) hA ⟨hx, hb, hml, hown, hts⟩ (tX6_siteInfo l D cA ad hJ x5 1 σ8 _ _ h10) (cwV 2 hts gL_refuses_X6_siteInfo rfl rfl rfl (by decide +kernel) ⟨(Nat.le_of_ble_eq_true rfl), (Nat.le_of_ble_eq_true rfl)⟩) hK hP hS KC_sb rfl rfl hl.1 rfl (Nat.le_of_ble_eq_true rfl) ⟨Nat.zero_le _, Nat.zero_le _⟩ dL_refuses_439 (fun H locs hP hS _ _ => ?_)
        refine lv_iadd hx hb dL_refuses_442 ?_
        refine lv_bipush (v := 100) hx hb dL_refuses_443 (by decide) ?_
        refine lv_aload_n hx hb dL_refuses_445 rfl (lv_at hl 0 rfl) ?_
        refine lv_iload hx hb dL_refuses_446 (lv_at hl 5 rfl) ?_
        refine lv_iconst (v := 4) hx hb dL_refuses_448 (by decide) ?_
        obtain ⟨r15, σ14, h13, hM⟩ := bnd_i hM
        refine x_callV (As := [.int x5, .int 4]) (rest := [.int 100, .int ((((31 * x4) + r6) + (7 * r9)) + r12)]) hA ⟨hx, hb, hml, hown, hts⟩ (tX6_siteInfo l D cA ad hJ x5 4 σ11 _ _ h13) (cwV 2 hts gL_refuses_X6_siteInfo rfl rfl rfl (by decide +kernel) ⟨(Nat.le_of_ble_eq_true rfl), (Nat.le_of_ble_eq_true rfl)⟩) hK hP hS KC_sb rfl rfl hl.1 rfl (Nat.le_of_ble_eq_true rfl) ⟨Nat.zero_le _, Nat.zero_le _⟩ dL_refuses_449 (fun H locs hP hS _ _ => ?_)
        refine lv_imul hx hb dL_refuses_452 ?_
        refine lv_iadd hx hb dL_refuses_453 ?_
        refine lv_topi (fun z16 ez16 => ?_)
        have hM := lti_u ez16 hM
        refine lv_istore (lv' := [(4, .int z16), (0, .ref (ad 62)), (1, .int x1), (2, .int x2), (3, .int x3), (5, .int x5)]) hx hb dL_refuses_454 hl (by decide) rfl (fun ls hl => ?_)
        refine lv_iinc (v := (x5 + 1)) (lv' := [(5, .int (x5 + 1)), (4, .int z16), (0, .ref (ad 62)), (1, .int x1), (2, .int x2), (3, .int x3)]) hx hb dL_refuses_456 hl (k := 5) rfl rfl (by decide) rfl (fun ls hl => ?_)
        refine lv_goto (tgt := 406) hx hb dL_refuses_459 (by decide) ?_
        exact ih406 _ _ _ _ _ _ _ _ _ hM hP hS (lv_sub hl [2, 3, 4, 5, 1, 0] rfl)
  have b207 : ∀ (x1 x2 y0 : Int32) (σ : St) (H : Heap) (locs : List Loc) (ls : Array Slot), mL_refuses_b207 x1 x2 y0 σ = some (r, σ') → w_P D cA ad KC σ H → va_S (w_A ad KC) s.heap H locs → lv_has ls 6 [(0, .ref (ad 62)), (1, .int x1), (2, .int x2)] → Wm p l e wsL_refuses 7 161 s m ([.ref (ad 62)] : List Value).toArray below meth c (w_Qi D cA ad KC r σ') (w_A ad KC) H locs (F0 m 207 ls [.int y0]) := by
    intro x1 x2 y0 σ H locs ls hM hP hS hl
    unfold mL_refuses_b207 at hM
    refine lv_istore_n (lv' := [(3, .int y0), (0, .ref (ad 62)), (1, .int x1), (2, .int x2)]) hx hb dL_refuses_207 rfl hl (by decide) rfl (fun ls hl => ?_)
    refine lv_iload_n hx hb dL_refuses_208 rfl (lv_at hl 0 rfl) ?_
    refine lv_if_eq (tgt := 398) hx hb dL_refuses_209 (by decide) (fun c17 => ?_) (fun c17 => ?_)
    · have hM := (if_pos c17).symm.trans hM
      refine lv_iconst (v := 0) hx hb dL_refuses_398 (by decide) ?_
      refine lv_istore_n (lv' := [(3, .int 0), (0, .ref (ad 62)), (1, .int x1), (2, .int x2)]) hx hb dL_refuses_399 rfl hl (by decide) rfl (fun ls hl => ?_)
      refine lv_iconst (v := 0) hx hb dL_refuses_400 (by decide) ?_
      refine lv_istore (lv' := [(4, .int 0), (3, .int 0), (0, .ref (ad 62)), (1, .int x1), (2, .int x2)]) hx hb dL_refuses_401 hl (by decide) rfl (fun ls hl => ?_)
      refine lv_iconst (v := 0) hx hb dL_refuses_403 (by decide) ?_
      refine lv_istore (lv' := [(5, .int 0), (4, .int 0), (3, .int 0), (0, .ref (ad 62)), (1, .int x1), (2, .int x2)]) hx hb dL_refuses_404 hl (by decide) rfl (fun ls hl => ?_)
      exact L406 fu _ _ _ _ _ _ _ _ _ hM hP hS (lv_sub hl [3, 4, 5, 2, 1, 0] rfl)
    · have hM := (if_neg c17).symm.trans hM
      refine lv_aload_n hx hb dL_refuses_212 rfl (lv_at hl 1 rfl) ?_
      refine lv_iconst (v := 0) hx hb dL_refuses_213 (by decide) ?_
      refine lv_iload_n hx hb dL_refuses_214 rfl (lv_at hl 2 rfl) ?_
      obtain ⟨r20, σ19, h18, hM⟩ := bnd_i hM
      refine x_callV (As := [.int 0, .int x1]) (rest := []) hA ⟨hx, hb, hml, hown, hts⟩ (tX6_deliver l D cA ad hJ 0 x1 σ _ _ h18) (cwV 2 hts gL_refuses_X6_deliver rfl rfl rfl (by decide +kernel) ⟨(Nat.le_of_ble_eq_true rfl), (Nat.le_of_ble_eq_true rfl)⟩) hK hP hS KC_sb rfl rfl hl.1 rfl (Nat.le_of_ble_eq_true rfl) ⟨Nat.zero_le _, Nat.zero_le _⟩ dL_refuses_215 (fun H locs hP hS _ _ => ?_)
      refine lv_ldc (own := RL) (v := (-1000000001)) hx hb hown (hts (.constant RL 72 (-1000000001)) (by decide +kernel)) dL_refuses_218 ?_
      refine lv_icmp_ne (tgt := 398) hx hb dL_refuses_220 (by decide) (fun c21 => ?_) (fun c21 => ?_)
      · have hM := (if_neg c21).symm.trans hM
        refine lv_iconst (v := 0) hx hb dL_refuses_398 (by decide) ?_
        refine lv_istore_n (lv' := [(3, .int 0), (0, .ref (ad 62)), (1, .int x1), (2, .int x2)]) hx hb dL_refuses_399 rfl hl (by decide) rfl (fun ls hl => ?_)
        refine lv_iconst (v := 0) hx hb dL_refuses_400 (by decide) ?_
        refine lv_istore (lv' := [(4, .int 0), (3, .int 0), (0, .ref (ad 62)), (1, .int x1), (2, .int x2)]) hx hb dL_refuses_401 hl (by decide) rfl (fun ls hl => ?_)
        refine lv_iconst (v := 0) hx hb dL_refuses_403 (by decide) ?_
        refine lv_istore (lv' := [(5, .int 0), (4, .int 0), (3, .int 0), (0, .ref (ad 62)), (1, .int x1), (2, .int x2)]) hx hb dL_refuses_404 hl (by decide) rfl (fun ls hl => ?_)
        exact L406 fu _ _ _ _ _ _ _ _ _ hM hP hS (lv_sub hl [3, 4, 5, 2, 1, 0] rfl)
      · have hM := (if_pos c21).symm.trans hM
        refine lv_aload_n hx hb dL_refuses_223 rfl (lv_at hl 1 rfl) ?_
        refine lv_iload_n hx hb dL_refuses_224 rfl (lv_at hl 2 rfl) ?_
        refine lv_iconst (v := 0) hx hb dL_refuses_225 (by decide) ?_
        obtain ⟨r24, σ23, h22, hM⟩ := bnd_i hM
        refine x_callV (As := [.int x1, .int 0]) (rest := []) hA ⟨hx, hb, hml, hown, hts⟩ (tX6_lose l D cA ad hJ x1 0 σ19 _ _ h22) (cwV 2 hts gL_refuses_X6_lose rfl rfl rfl (by decide +kernel) ⟨(Nat.le_of_ble_eq_true rfl), (Nat.le_of_ble_eq_true rfl)⟩) hK hP hS KC_sb rfl rfl hl.1 rfl (Nat.le_of_ble_eq_true rfl) ⟨Nat.zero_le _, Nat.zero_le _⟩ dL_refuses_226 (fun H locs hP hS _ _ => ?_)
        refine lv_ldc (own := RL) (v := (-1000000001)) hx hb hown (hts (.constant RL 72 (-1000000001)) (by decide +kernel)) dL_refuses_229 ?_
        refine lv_icmp_ne (tgt := 398) hx hb dL_refuses_231 (by decide) (fun c25 => ?_) (fun c25 => ?_)
        · have hM := (if_neg c25).symm.trans hM
          refine lv_iconst (v := 0) hx hb dL_refuses_398 (by decide) ?_
          refine lv_istore_n (lv' := [(3, .int 0), (0, .ref (ad 62)), (1, .int x1), (2, .int x2)]) hx hb dL_refuses_399 rfl hl (by decide) rfl (fun ls hl => ?_)
          refine lv_iconst (v := 0) hx hb dL_refuses_400 (by decide) ?_
          refine lv_istore (lv' := [(4, .int 0), (3, .int 0), (0, .ref (ad 62)), (1, .int x1), (2, .int x2)]) hx hb dL_refuses_401 hl (by decide) rfl (fun ls hl => ?_)
          refine lv_iconst (v := 0) hx hb dL_refuses_403 (by decide) ?_
          refine lv_istore (lv' := [(5, .int 0), (4, .int 0), (3, .int 0), (0, .ref (ad 62)), (1, .int x1), (2, .int x2)]) hx hb dL_refuses_404 hl (by decide) rfl (fun ls hl => ?_)
          exact L406 fu _ _ _ _ _ _ _ _ _ hM hP hS (lv_sub hl [3, 4, 5, 2, 1, 0] rfl)
        · have hM := (if_pos c25).symm.trans hM
          refine lv_aload_n hx hb dL_refuses_234 rfl (lv_at hl 1 rfl) ?_
          refine lv_iconst (v := 0) hx hb dL_refuses_235 (by decide) ?_
          refine lv_iconst (v := 0) hx hb dL_refuses_236 (by decide) ?_
          obtain ⟨r28, σ27, h26, hM⟩ := bnd_i hM
          refine x_callV (As := [.int 0, .int 0]) (rest := []) hA ⟨hx, hb, hml, hown, hts⟩ (tX6_waiting l D cA ad hJ 0 0 σ23 _ _ h26) (cwV 2 hts gL_refuses_X6_waiting rfl rfl rfl (by decide +kernel) ⟨(Nat.le_of_ble_eq_true rfl), (Nat.le_of_ble_eq_true rfl)⟩) hK hP hS KC_sb rfl rfl hl.1 rfl (Nat.le_of_ble_eq_true rfl) ⟨Nat.zero_le _, Nat.zero_le _⟩ dL_refuses_237 (fun H locs hP hS _ _ => ?_)
          refine lv_ldc (own := RL) (v := (-1000000001)) hx hb hown (hts (.constant RL 72 (-1000000001)) (by decide +kernel)) dL_refuses_240 ?_
          refine lv_icmp_ne (tgt := 398) hx hb dL_refuses_242 (by decide) (fun c29 => ?_) (fun c29 => ?_)
          · have hM := (if_neg c29).symm.trans hM
            refine lv_iconst (v := 0) hx hb dL_refuses_398 (by decide) ?_
            refine lv_istore_n (lv' := [(3, .int 0), (0, .ref (ad 62)), (1, .int x1), (2, .int x2)]) hx hb dL_refuses_399 rfl hl (by decide) rfl (fun ls hl => ?_)
            refine lv_iconst (v := 0) hx hb dL_refuses_400 (by decide) ?_
            refine lv_istore (lv' := [(4, .int 0), (3, .int 0), (0, .ref (ad 62)), (1, .int x1), (2, .int x2)]) hx hb dL_refuses_401 hl (by decide) rfl (fun ls hl => ?_)
            refine lv_iconst (v := 0) hx hb dL_refuses_403 (by decide) ?_
            refine lv_istore (lv' := [(5, .int 0), (4, .int 0), (3, .int 0), (0, .ref (ad 62)), (1, .int x1), (2, .int x2)]) hx hb dL_refuses_404 hl (by decide) rfl (fun ls hl => ?_)
            exact L406 fu _ _ _ _ _ _ _ _ _ hM hP hS (lv_sub hl [3, 4, 5, 2, 1, 0] rfl)
          · have hM := (if_pos c29).symm.trans hM
            refine lv_aload_n hx hb dL_refuses_245 rfl (lv_at hl 1 rfl) ?_
            refine lv_iconst (v := 0) hx hb dL_refuses_246 (by decide) ?_
            refine lv_iload_n hx hb dL_refuses_247 rfl (lv_at hl 2 rfl) ?_
            refine lv_iconst (v := 0) hx hb dL_refuses_248 (by decide) ?_
            obtain ⟨r32, σ31, h30, hM⟩ := bnd_i hM
            refine x_callV (As := [.int 0, .int x1, .int 0]) (rest := []) hA ⟨hx, hb, hml, hown, hts⟩ (tX6_gap l D cA ad hJ 0 x1 0 σ27 _ _ h30) (cwV 3 hts gL_refuses_X6_gap rfl rfl rfl (by decide +kernel) ⟨(Nat.le_of_ble_eq_true rfl), (Nat.le_of_ble_eq_true rfl)⟩) hK hP hS KC_sb rfl rfl hl.1 rfl (Nat.le_of_ble_eq_true rfl) ⟨Nat.zero_le _, Nat.zero_le _⟩ dL_refuses_249 (fun H locs hP hS _ _ => ?_)
            refine lv_ldc (own := RL) (v := (-1000000001)) hx hb hown (hts (.constant RL 72 (-1000000001)) (by decide +kernel)) dL_refuses_252 ?_
            refine lv_icmp_ne (tgt := 398) hx hb dL_refuses_254 (by decide) (fun c33 => ?_) (fun c33 => ?_)
            · have hM := (if_neg c33).symm.trans hM
              refine lv_iconst (v := 0) hx hb dL_refuses_398 (by decide) ?_
              refine lv_istore_n (lv' := [(3, .int 0), (0, .ref (ad 62)), (1, .int x1), (2, .int x2)]) hx hb dL_refuses_399 rfl hl (by decide) rfl (fun ls hl => ?_)
              refine lv_iconst (v := 0) hx hb dL_refuses_400 (by decide) ?_
              refine lv_istore (lv' := [(4, .int 0), (3, .int 0), (0, .ref (ad 62)), (1, .int x1), (2, .int x2)]) hx hb dL_refuses_401 hl (by decide) rfl (fun ls hl => ?_)
              refine lv_iconst (v := 0) hx hb dL_refuses_403 (by decide) ?_
              refine lv_istore (lv' := [(5, .int 0), (4, .int 0), (3, .int 0), (0, .ref (ad 62)), (1, .int x1), (2, .int x2)]) hx hb dL_refuses_404 hl (by decide) rfl (fun ls hl => ?_)
              exact L406 fu _ _ _ _ _ _ _ _ _ hM hP hS (lv_sub hl [3, 4, 5, 2, 1, 0] rfl)
            · have hM := (if_pos c33).symm.trans hM
              refine lv_aload_n hx hb dL_refuses_257 rfl (lv_at hl 1 rfl) ?_
              refine lv_iconst (v := 0) hx hb dL_refuses_258 (by decide) ?_
              refine lv_iconst (v := 0) hx hb dL_refuses_259 (by decide) ?_
              obtain ⟨r36, σ35, h34, hM⟩ := bnd_i hM
              refine x_callV (As := [.int 0, .int 0]) (rest := []) hA ⟨hx, hb, hml, hown, hts⟩ (tX6_repair l D cA ad hJ 0 0 σ31 _ _ h34) (cwV 2 hts gL_refuses_X6_repair rfl rfl rfl (by decide +kernel) ⟨(Nat.le_of_ble_eq_true rfl), (Nat.le_of_ble_eq_true rfl)⟩) hK hP hS KC_sb rfl rfl hl.1 rfl (Nat.le_of_ble_eq_true rfl) ⟨Nat.zero_le _, Nat.zero_le _⟩ dL_refuses_260 (fun H locs hP hS _ _ => ?_)
              refine lv_ldc (own := RL) (v := (-1000000001)) hx hb hown (hts (.constant RL 72 (-1000000001)) (by decide +kernel)) dL_refuses_263 ?_
              refine lv_icmp_ne (tgt := 398) hx hb dL_refuses_265 (by decide) (fun c37 => ?_) (fun c37 => ?_)
              · have hM := (if_neg c37).symm.trans hM
                refine lv_iconst (v := 0) hx hb dL_refuses_398 (by decide) ?_
                refine lv_istore_n (lv' := [(3, .int 0), (0, .ref (ad 62)), (1, .int x1), (2, .int x2)]) hx hb dL_refuses_399 rfl hl (by decide) rfl (fun ls hl => ?_)
                refine lv_iconst (v := 0) hx hb dL_refuses_400 (by decide) ?_
                refine lv_istore (lv' := [(4, .int 0), (3, .int 0), (0, .ref (ad 62)), (1, .int x1), (2, .int x2)]) hx hb dL_refuses_401 hl (by decide) rfl (fun ls hl => ?_)
                refine lv_iconst (v := 0) hx hb dL_refuses_403 (by decide) ?_
                refine lv_istore (lv' := [(5, .int 0), (4, .int 0), (3, .int 0), (0, .ref (ad 62)), (1, .int x1), (2, .int x2)]) hx hb dL_refuses_404 hl (by decide) rfl (fun ls hl => ?_)
                exact L406 fu _ _ _ _ _ _ _ _ _ hM hP hS (lv_sub hl [3, 4, 5, 2, 1, 0] rfl)
              · have hM := (if_pos c37).symm.trans hM
                refine lv_aload_n hx hb dL_refuses_268 rfl (lv_at hl 1 rfl) ?_
                refine lv_iconst (v := 0) hx hb dL_refuses_269 (by decide) ?_
                refine lv_iload_n hx hb dL_refuses_270 rfl (lv_at hl 2 rfl) ?_
                obtain ⟨r40, σ39, h38, hM⟩ := bnd_i hM
                refine x_callV (As := [.int 0, .int x1]) (rest := []) hA ⟨hx, hb, hml, hown, hts⟩ (tX6_transfer l D cA ad hJ 0 x1 σ35 _ _ h38) (cwV 2 hts gL_refuses_X6_transfer rfl rfl rfl (by decide +kernel) ⟨(Nat.le_of_ble_eq_true rfl), (Nat.le_of_ble_eq_true rfl)⟩) hK hP hS KC_sb rfl rfl hl.1 rfl (Nat.le_of_ble_eq_true rfl) ⟨Nat.zero_le _, Nat.zero_le _⟩ dL_refuses_271 (fun H locs hP hS _ _ => ?_)
                refine lv_ldc (own := RL) (v := (-1000000001)) hx hb hown (hts (.constant RL 72 (-1000000001)) (by decide +kernel)) dL_refuses_274 ?_
                refine lv_icmp_ne (tgt := 398) hx hb dL_refuses_276 (by decide) (fun c41 => ?_) (fun c41 => ?_)
                · have hM := (if_neg c41).symm.trans hM
                  refine lv_iconst (v := 0) hx hb dL_refuses_398 (by decide) ?_
                  refine lv_istore_n (lv' := [(3, .int 0), (0, .ref (ad 62)), (1, .int x1), (2, .int x2)]) hx hb dL_refuses_399 rfl hl (by decide) rfl (fun ls hl => ?_)
                  refine lv_iconst (v := 0) hx hb dL_refuses_400 (by decide) ?_
                  refine lv_istore (lv' := [(4, .int 0), (3, .int 0), (0, .ref (ad 62)), (1, .int x1), (2, .int x2)]) hx hb dL_refuses_401 hl (by decide) rfl (fun ls hl => ?_)
                  refine lv_iconst (v := 0) hx hb dL_refuses_403 (by decide) ?_
                  refine lv_istore (lv' := [(5, .int 0), (4, .int 0), (3, .int 0), (0, .ref (ad 62)), (1, .int x1), (2, .int x2)]) hx hb dL_refuses_404 hl (by decide) rfl (fun ls hl => ?_)
                  exact L406 fu _ _ _ _ _ _ _ _ _ hM hP hS (lv_sub hl [3, 4, 5, 2, 1, 0] rfl)
                · have hM := (if_pos c41).symm.trans hM
                  refine lv_aload_n hx hb dL_refuses_279 rfl (lv_at hl 1 rfl) ?_
                  refine lv_iload_n hx hb dL_refuses_280 rfl (lv_at hl 2 rfl) ?_
                  refine lv_iconst (v := 1) hx hb dL_refuses_281 (by decide) ?_
                  refine lv_iconst (v := 0) hx hb dL_refuses_282 (by decide) ?_
                  obtain ⟨r44, σ43, h42, hM⟩ := bnd_i hM
                  refine x_callV (As := [.int x1, .int 1, .int 0]) (rest := []) hA ⟨hx, hb, hml, hown, hts⟩ (tX6_operation l D cA ad hJ x1 1 0 σ39 _ _ h42) (cwV 3 hts gL_refuses_X6_operation rfl rfl rfl (by decide +kernel) ⟨(Nat.le_of_ble_eq_true rfl), (Nat.le_of_ble_eq_true rfl)⟩) hK hP hS KC_sb rfl rfl hl.1 rfl (Nat.le_of_ble_eq_true rfl) ⟨Nat.zero_le _, Nat.zero_le _⟩ dL_refuses_283 (fun H locs hP hS _ _ => ?_)
                  refine lv_ldc (own := RL) (v := (-1000000001)) hx hb hown (hts (.constant RL 72 (-1000000001)) (by decide +kernel)) dL_refuses_286 ?_
                  refine lv_icmp_ne (tgt := 398) hx hb dL_refuses_288 (by decide) (fun c45 => ?_) (fun c45 => ?_)
                  · have hM := (if_neg c45).symm.trans hM
                    refine lv_iconst (v := 0) hx hb dL_refuses_398 (by decide) ?_
                    refine lv_istore_n (lv' := [(3, .int 0), (0, .ref (ad 62)), (1, .int x1), (2, .int x2)]) hx hb dL_refuses_399 rfl hl (by decide) rfl (fun ls hl => ?_)
                    refine lv_iconst (v := 0) hx hb dL_refuses_400 (by decide) ?_
                    refine lv_istore (lv' := [(4, .int 0), (3, .int 0), (0, .ref (ad 62)), (1, .int x1), (2, .int x2)]) hx hb dL_refuses_401 hl (by decide) rfl (fun ls hl => ?_)
                    refine lv_iconst (v := 0) hx hb dL_refuses_403 (by decide) ?_
                    refine lv_istore (lv' := [(5, .int 0), (4, .int 0), (3, .int 0), (0, .ref (ad 62)), (1, .int x1), (2, .int x2)]) hx hb dL_refuses_404 hl (by decide) rfl (fun ls hl => ?_)
                    exact L406 fu _ _ _ _ _ _ _ _ _ hM hP hS (lv_sub hl [3, 4, 5, 2, 1, 0] rfl)
                  · have hM := (if_pos c45).symm.trans hM
                    refine lv_aload_n hx hb dL_refuses_291 rfl (lv_at hl 1 rfl) ?_
                    refine lv_iconst (v := 0) hx hb dL_refuses_292 (by decide) ?_
                    refine lv_bipush (v := 21) hx hb dL_refuses_293 (by decide) ?_
                    refine lv_iconst (v := 0) hx hb dL_refuses_295 (by decide) ?_
                    obtain ⟨r48, σ47, h46, hM⟩ := bnd_i hM
                    refine x_callV (As := [.int 0, .int 21, .int 0]) (rest := []) hA ⟨hx, hb, hml, hown, hts⟩ (tX6_operation l D cA ad hJ 0 21 0 σ43 _ _ h46) (cwV 3 hts gL_refuses_X6_operation rfl rfl rfl (by decide +kernel) ⟨(Nat.le_of_ble_eq_true rfl), (Nat.le_of_ble_eq_true rfl)⟩) hK hP hS KC_sb rfl rfl hl.1 rfl (Nat.le_of_ble_eq_true rfl) ⟨Nat.zero_le _, Nat.zero_le _⟩ dL_refuses_296 (fun H locs hP hS _ _ => ?_)
                    refine lv_ldc (own := RL) (v := (-1000000004)) hx hb hown (hts (.constant RL 34 (-1000000004)) (by decide +kernel)) dL_refuses_299 ?_
                    refine lv_icmp_ne (tgt := 398) hx hb dL_refuses_301 (by decide) (fun c49 => ?_) (fun c49 => ?_)
                    · have hM := (if_neg c49).symm.trans hM
                      refine lv_iconst (v := 0) hx hb dL_refuses_398 (by decide) ?_
                      refine lv_istore_n (lv' := [(3, .int 0), (0, .ref (ad 62)), (1, .int x1), (2, .int x2)]) hx hb dL_refuses_399 rfl hl (by decide) rfl (fun ls hl => ?_)
                      refine lv_iconst (v := 0) hx hb dL_refuses_400 (by decide) ?_
                      refine lv_istore (lv' := [(4, .int 0), (3, .int 0), (0, .ref (ad 62)), (1, .int x1), (2, .int x2)]) hx hb dL_refuses_401 hl (by decide) rfl (fun ls hl => ?_)
                      refine lv_iconst (v := 0) hx hb dL_refuses_403 (by decide) ?_
                      refine lv_istore (lv' := [(5, .int 0), (4, .int 0), (3, .int 0), (0, .ref (ad 62)), (1, .int x1), (2, .int x2)]) hx hb dL_refuses_404 hl (by decide) rfl (fun ls hl => ?_)
                      exact L406 fu _ _ _ _ _ _ _ _ _ hM hP hS (lv_sub hl [3, 4, 5, 2, 1, 0] rfl)
                    · have hM := (if_pos c49).symm.trans hM
                      refine lv_aload_n hx hb dL_refuses_304 rfl (lv_at hl 1 rfl) ?_
                      refine lv_iconst (v := 0) hx hb dL_refuses_305 (by decide) ?_
                      refine lv_iconst (v := 0) hx hb dL_refuses_306 (by decide) ?_
                      refine lv_bipush (v := 21) hx hb dL_refuses_307 (by decide) ?_
                      obtain ⟨r52, σ51, h50, hM⟩ := bnd_i hM
                      refine x_callV (As := [.int 0, .int 0, .int 21]) (rest := []) hA ⟨hx, hb, hml, hown, hts⟩ (tX6_knows l D cA ad hJ 0 0 21 σ47 _ _ h50) (cwV 3 hts gL_refuses_X6_knows rfl rfl rfl (by decide +kernel) ⟨(Nat.le_of_ble_eq_true rfl), (Nat.le_of_ble_eq_true rfl)⟩) hK hP hS KC_sb rfl rfl hl.1 rfl (Nat.le_of_ble_eq_true rfl) ⟨Nat.zero_le _, Nat.zero_le _⟩ dL_refuses_309 (fun H locs hP hS _ _ => ?_)
                      refine lv_ldc (own := RL) (v := (-1000000004)) hx hb hown (hts (.constant RL 34 (-1000000004)) (by decide +kernel)) dL_refuses_312 ?_
                      refine lv_icmp_ne (tgt := 398) hx hb dL_refuses_314 (by decide) (fun c53 => ?_) (fun c53 => ?_)
                      · have hM := (if_neg c53).symm.trans hM
                        refine lv_iconst (v := 0) hx hb dL_refuses_398 (by decide) ?_
                        refine lv_istore_n (lv' := [(3, .int 0), (0, .ref (ad 62)), (1, .int x1), (2, .int x2)]) hx hb dL_refuses_399 rfl hl (by decide) rfl (fun ls hl => ?_)
                        refine lv_iconst (v := 0) hx hb dL_refuses_400 (by decide) ?_
                        refine lv_istore (lv' := [(4, .int 0), (3, .int 0), (0, .ref (ad 62)), (1, .int x1), (2, .int x2)]) hx hb dL_refuses_401 hl (by decide) rfl (fun ls hl => ?_)
                        refine lv_iconst (v := 0) hx hb dL_refuses_403 (by decide) ?_
                        refine lv_istore (lv' := [(5, .int 0), (4, .int 0), (3, .int 0), (0, .ref (ad 62)), (1, .int x1), (2, .int x2)]) hx hb dL_refuses_404 hl (by decide) rfl (fun ls hl => ?_)
                        exact L406 fu _ _ _ _ _ _ _ _ _ hM hP hS (lv_sub hl [3, 4, 5, 2, 1, 0] rfl)
                      · have hM := (if_pos c53).symm.trans hM
                        refine lv_aload_n hx hb dL_refuses_317 rfl (lv_at hl 1 rfl) ?_
                        refine lv_iload_n hx hb dL_refuses_318 rfl (lv_at hl 2 rfl) ?_
                        refine lv_iconst (v := 0) hx hb dL_refuses_319 (by decide) ?_
                        refine lv_iconst (v := 0) hx hb dL_refuses_320 (by decide) ?_
                        obtain ⟨r56, σ55, h54, hM⟩ := bnd_i hM
                        refine x_callV (As := [.int x1, .int 0, .int 0]) (rest := []) hA ⟨hx, hb, hml, hown, hts⟩ (tX6_stroke l D cA ad hJ x1 0 0 σ51 _ _ h54) (cwV 3 hts gL_refuses_X6_stroke rfl rfl rfl (by decide +kernel) ⟨(Nat.le_of_ble_eq_true rfl), (Nat.le_of_ble_eq_true rfl)⟩) hK hP hS KC_sb rfl rfl hl.1 rfl (Nat.le_of_ble_eq_true rfl) ⟨Nat.zero_le _, Nat.zero_le _⟩ dL_refuses_321 (fun H locs hP hS _ _ => ?_)
                        refine lv_ldc (own := RL) (v := (-1000000001)) hx hb hown (hts (.constant RL 72 (-1000000001)) (by decide +kernel)) dL_refuses_324 ?_
                        refine lv_icmp_ne (tgt := 398) hx hb dL_refuses_326 (by decide) (fun c57 => ?_) (fun c57 => ?_)
                        · have hM := (if_neg c57).symm.trans hM
                          refine lv_iconst (v := 0) hx hb dL_refuses_398 (by decide) ?_
                          refine lv_istore_n (lv' := [(3, .int 0), (0, .ref (ad 62)), (1, .int x1), (2, .int x2)]) hx hb dL_refuses_399 rfl hl (by decide) rfl (fun ls hl => ?_)
                          refine lv_iconst (v := 0) hx hb dL_refuses_400 (by decide) ?_
                          refine lv_istore (lv' := [(4, .int 0), (3, .int 0), (0, .ref (ad 62)), (1, .int x1), (2, .int x2)]) hx hb dL_refuses_401 hl (by decide) rfl (fun ls hl => ?_)
                          refine lv_iconst (v := 0) hx hb dL_refuses_403 (by decide) ?_
                          refine lv_istore (lv' := [(5, .int 0), (4, .int 0), (3, .int 0), (0, .ref (ad 62)), (1, .int x1), (2, .int x2)]) hx hb dL_refuses_404 hl (by decide) rfl (fun ls hl => ?_)
                          exact L406 fu _ _ _ _ _ _ _ _ _ hM hP hS (lv_sub hl [3, 4, 5, 2, 1, 0] rfl)
                        · have hM := (if_pos c57).symm.trans hM
                          refine lv_aload_n hx hb dL_refuses_329 rfl (lv_at hl 1 rfl) ?_
                          refine lv_iconst (v := 0) hx hb dL_refuses_330 (by decide) ?_
                          refine lv_bipush (v := 100) hx hb dL_refuses_331 (by decide) ?_
                          refine lv_iconst (v := 0) hx hb dL_refuses_333 (by decide) ?_
                          obtain ⟨r60, σ59, h58, hM⟩ := bnd_i hM
                          refine x_callV (As := [.int 0, .int 100, .int 0]) (rest := []) hA ⟨hx, hb, hml, hown, hts⟩ (tX6_stroke l D cA ad hJ 0 100 0 σ55 _ _ h58) (cwV 3 hts gL_refuses_X6_stroke rfl rfl rfl (by decide +kernel) ⟨(Nat.le_of_ble_eq_true rfl), (Nat.le_of_ble_eq_true rfl)⟩) hK hP hS KC_sb rfl rfl hl.1 rfl (Nat.le_of_ble_eq_true rfl) ⟨Nat.zero_le _, Nat.zero_le _⟩ dL_refuses_334 (fun H locs hP hS _ _ => ?_)
                          refine lv_ldc (own := RL) (v := (-1000000004)) hx hb hown (hts (.constant RL 34 (-1000000004)) (by decide +kernel)) dL_refuses_337 ?_
                          refine lv_icmp_ne (tgt := 398) hx hb dL_refuses_339 (by decide) (fun c61 => ?_) (fun c61 => ?_)
                          · have hM := (if_neg c61).symm.trans hM
                            refine lv_iconst (v := 0) hx hb dL_refuses_398 (by decide) ?_
                            refine lv_istore_n (lv' := [(3, .int 0), (0, .ref (ad 62)), (1, .int x1), (2, .int x2)]) hx hb dL_refuses_399 rfl hl (by decide) rfl (fun ls hl => ?_)
                            refine lv_iconst (v := 0) hx hb dL_refuses_400 (by decide) ?_
                            refine lv_istore (lv' := [(4, .int 0), (3, .int 0), (0, .ref (ad 62)), (1, .int x1), (2, .int x2)]) hx hb dL_refuses_401 hl (by decide) rfl (fun ls hl => ?_)
                            refine lv_iconst (v := 0) hx hb dL_refuses_403 (by decide) ?_
                            refine lv_istore (lv' := [(5, .int 0), (4, .int 0), (3, .int 0), (0, .ref (ad 62)), (1, .int x1), (2, .int x2)]) hx hb dL_refuses_404 hl (by decide) rfl (fun ls hl => ?_)
                            exact L406 fu _ _ _ _ _ _ _ _ _ hM hP hS (lv_sub hl [3, 4, 5, 2, 1, 0] rfl)
                          · have hM := (if_pos c61).symm.trans hM
                            refine lv_aload_n hx hb dL_refuses_342 rfl (lv_at hl 1 rfl) ?_
                            refine lv_iconst (v := 0) hx hb dL_refuses_343 (by decide) ?_
                            refine lv_bipush (v := (-101)) hx hb dL_refuses_344 (by decide) ?_
                            refine lv_iconst (v := 0) hx hb dL_refuses_346 (by decide) ?_
                            obtain ⟨r64, σ63, h62, hM⟩ := bnd_i hM
                            refine x_callV (As := [.int 0, .int (-101), .int 0]) (rest := []) hA ⟨hx, hb, hml, hown, hts⟩ (tX6_strokeAt l D cA ad hJ 0 (-101) 0 σ59 _ _ h62) (cwV 3 hts gL_refuses_X6_strokeAt rfl rfl rfl (by decide +kernel) ⟨(Nat.le_of_ble_eq_true rfl), (Nat.le_of_ble_eq_true rfl)⟩) hK hP hS KC_sb rfl rfl hl.1 rfl (Nat.le_of_ble_eq_true rfl) ⟨Nat.zero_le _, Nat.zero_le _⟩ dL_refuses_347 (fun H locs hP hS _ _ => ?_)
                            refine lv_ldc (own := RL) (v := (-1000000001)) hx hb hown (hts (.constant RL 72 (-1000000001)) (by decide +kernel)) dL_refuses_350 ?_
                            refine lv_icmp_ne (tgt := 398) hx hb dL_refuses_352 (by decide) (fun c65 => ?_) (fun c65 => ?_)
                            · have hM := (if_neg c65).symm.trans hM
                              refine lv_iconst (v := 0) hx hb dL_refuses_398 (by decide) ?_
                              refine lv_istore_n (lv' := [(3, .int 0), (0, .ref (ad 62)), (1, .int x1), (2, .int x2)]) hx hb dL_refuses_399 rfl hl (by decide) rfl (fun ls hl => ?_)
                              refine lv_iconst (v := 0) hx hb dL_refuses_400 (by decide) ?_
                              refine lv_istore (lv' := [(4, .int 0), (3, .int 0), (0, .ref (ad 62)), (1, .int x1), (2, .int x2)]) hx hb dL_refuses_401 hl (by decide) rfl (fun ls hl => ?_)
                              refine lv_iconst (v := 0) hx hb dL_refuses_403 (by decide) ?_
                              refine lv_istore (lv' := [(5, .int 0), (4, .int 0), (3, .int 0), (0, .ref (ad 62)), (1, .int x1), (2, .int x2)]) hx hb dL_refuses_404 hl (by decide) rfl (fun ls hl => ?_)
                              exact L406 fu _ _ _ _ _ _ _ _ _ hM hP hS (lv_sub hl [3, 4, 5, 2, 1, 0] rfl)
                            · have hM := (if_pos c65).symm.trans hM
                              refine lv_aload_n hx hb dL_refuses_355 rfl (lv_at hl 1 rfl) ?_
                              refine lv_iconst (v := (-1)) hx hb dL_refuses_356 (by decide) ?_
                              obtain ⟨r68, σ67, h66, hM⟩ := bnd_i hM
                              refine x_callV (As := [.int (-1)]) (rest := []) hA ⟨hx, hb, hml, hown, hts⟩ (tX6_digest l D cA ad hJ (-1) σ63 _ _ h66) (cwV 1 hts gL_refuses_X6_digest rfl rfl rfl (by decide +kernel) ⟨(Nat.le_of_ble_eq_true rfl), (Nat.le_of_ble_eq_true rfl)⟩) hK hP hS KC_sb rfl rfl hl.1 rfl (Nat.le_of_ble_eq_true rfl) ⟨Nat.zero_le _, Nat.zero_le _⟩ dL_refuses_357 (fun H locs hP hS _ _ => ?_)
                              refine lv_if_ne (tgt := 398) hx hb dL_refuses_360 (by decide) (fun c69 => ?_) (fun c69 => ?_)
                              · have hM := (if_neg c69).symm.trans hM
                                refine lv_iconst (v := 0) hx hb dL_refuses_398 (by decide) ?_
                                refine lv_istore_n (lv' := [(3, .int 0), (0, .ref (ad 62)), (1, .int x1), (2, .int x2)]) hx hb dL_refuses_399 rfl hl (by decide) rfl (fun ls hl => ?_)
                                refine lv_iconst (v := 0) hx hb dL_refuses_400 (by decide) ?_
                                refine lv_istore (lv' := [(4, .int 0), (3, .int 0), (0, .ref (ad 62)), (1, .int x1), (2, .int x2)]) hx hb dL_refuses_401 hl (by decide) rfl (fun ls hl => ?_)
                                refine lv_iconst (v := 0) hx hb dL_refuses_403 (by decide) ?_
                                refine lv_istore (lv' := [(5, .int 0), (4, .int 0), (3, .int 0), (0, .ref (ad 62)), (1, .int x1), (2, .int x2)]) hx hb dL_refuses_404 hl (by decide) rfl (fun ls hl => ?_)
                                exact L406 fu _ _ _ _ _ _ _ _ _ hM hP hS (lv_sub hl [3, 4, 5, 2, 1, 0] rfl)
                              · have hM := (if_pos c69).symm.trans hM
                                refine lv_aload_n hx hb dL_refuses_363 rfl (lv_at hl 1 rfl) ?_
                                refine lv_iload_n hx hb dL_refuses_364 rfl (lv_at hl 2 rfl) ?_
                                refine lv_iconst (v := 0) hx hb dL_refuses_365 (by decide) ?_
                                obtain ⟨r72, σ71, h70, hM⟩ := bnd_i hM
                                refine x_callV (As := [.int x1, .int 0]) (rest := []) hA ⟨hx, hb, hml, hown, hts⟩ (tX6_areSame l D cA ad hJ x1 0 σ67 _ _ h70) (cwV 2 hts gL_refuses_X6_areSame rfl rfl rfl (by decide +kernel) ⟨(Nat.le_of_ble_eq_true rfl), (Nat.le_of_ble_eq_true rfl)⟩) hK hP hS KC_sb rfl rfl hl.1 rfl (Nat.le_of_ble_eq_true rfl) ⟨Nat.zero_le _, Nat.zero_le _⟩ dL_refuses_366 (fun H locs hP hS _ _ => ?_)
                                refine lv_ldc (own := RL) (v := (-1000000001)) hx hb hown (hts (.constant RL 72 (-1000000001)) (by decide +kernel)) dL_refuses_369 ?_
                                refine lv_icmp_ne (tgt := 398) hx hb dL_refuses_371 (by decide) (fun c73 => ?_) (fun c73 => ?_)
                                · have hM := (if_neg c73).symm.trans hM
                                  refine lv_iconst (v := 0) hx hb dL_refuses_398 (by decide) ?_
                                  refine lv_istore_n (lv' := [(3, .int 0), (0, .ref (ad 62)), (1, .int x1), (2, .int x2)]) hx hb dL_refuses_399 rfl hl (by decide) rfl (fun ls hl => ?_)
                                  refine lv_iconst (v := 0) hx hb dL_refuses_400 (by decide) ?_
                                  refine lv_istore (lv' := [(4, .int 0), (3, .int 0), (0, .ref (ad 62)), (1, .int x1), (2, .int x2)]) hx hb dL_refuses_401 hl (by decide) rfl (fun ls hl => ?_)
                                  refine lv_iconst (v := 0) hx hb dL_refuses_403 (by decide) ?_
                                  refine lv_istore (lv' := [(5, .int 0), (4, .int 0), (3, .int 0), (0, .ref (ad 62)), (1, .int x1), (2, .int x2)]) hx hb dL_refuses_404 hl (by decide) rfl (fun ls hl => ?_)
                                  exact L406 fu _ _ _ _ _ _ _ _ _ hM hP hS (lv_sub hl [3, 4, 5, 2, 1, 0] rfl)
                                · have hM := (if_pos c73).symm.trans hM
                                  refine lv_aload_n hx hb dL_refuses_374 rfl (lv_at hl 1 rfl) ?_
                                  refine lv_iconst (v := (-1)) hx hb dL_refuses_375 (by decide) ?_
                                  obtain ⟨r76, σ75, h74, hM⟩ := bnd_i hM
                                  refine x_callV (As := [.int (-1)]) (rest := []) hA ⟨hx, hb, hml, hown, hts⟩ (tX6_bestHelper l D cA ad hJ (-1) σ71 _ _ h74) (cwV 1 hts gL_refuses_X6_bestHelper rfl rfl rfl (by decide +kernel) ⟨(Nat.le_of_ble_eq_true rfl), (Nat.le_of_ble_eq_true rfl)⟩) hK hP hS KC_sb rfl rfl hl.1 rfl (Nat.le_of_ble_eq_true rfl) ⟨Nat.zero_le _, Nat.zero_le _⟩ dL_refuses_376 (fun H locs hP hS _ _ => ?_)
                                  refine lv_ldc (own := RL) (v := (-1000000001)) hx hb hown (hts (.constant RL 72 (-1000000001)) (by decide +kernel)) dL_refuses_379 ?_
                                  refine lv_icmp_ne (tgt := 398) hx hb dL_refuses_381 (by decide) (fun c77 => ?_) (fun c77 => ?_)
                                  · have hM := (if_neg c77).symm.trans hM
                                    refine lv_iconst (v := 0) hx hb dL_refuses_398 (by decide) ?_
                                    refine lv_istore_n (lv' := [(3, .int 0), (0, .ref (ad 62)), (1, .int x1), (2, .int x2)]) hx hb dL_refuses_399 rfl hl (by decide) rfl (fun ls hl => ?_)
                                    refine lv_iconst (v := 0) hx hb dL_refuses_400 (by decide) ?_
                                    refine lv_istore (lv' := [(4, .int 0), (3, .int 0), (0, .ref (ad 62)), (1, .int x1), (2, .int x2)]) hx hb dL_refuses_401 hl (by decide) rfl (fun ls hl => ?_)
                                    refine lv_iconst (v := 0) hx hb dL_refuses_403 (by decide) ?_
                                    refine lv_istore (lv' := [(5, .int 0), (4, .int 0), (3, .int 0), (0, .ref (ad 62)), (1, .int x1), (2, .int x2)]) hx hb dL_refuses_404 hl (by decide) rfl (fun ls hl => ?_)
                                    exact L406 fu _ _ _ _ _ _ _ _ _ hM hP hS (lv_sub hl [3, 4, 5, 2, 1, 0] rfl)
                                  · have hM := (if_pos c77).symm.trans hM
                                    refine lv_aload_n hx hb dL_refuses_384 rfl (lv_at hl 1 rfl) ?_
                                    refine lv_iload_n hx hb dL_refuses_385 rfl (lv_at hl 2 rfl) ?_
                                    obtain ⟨r80, σ79, h78, hM⟩ := bnd_i hM
                                    refine x_callV (As := [.int x1]) (rest := []) hA ⟨hx, hb, hml, hown, hts⟩ (tX6_endangered l D cA ad hJ x1 σ75 _ _ h78) (cwV 1 hts gL_refuses_X6_endangered rfl rfl rfl (by decide +kernel) ⟨(Nat.le_of_ble_eq_true rfl), (Nat.le_of_ble_eq_true rfl)⟩) hK hP hS KC_sb rfl rfl hl.1 rfl (Nat.le_of_ble_eq_true rfl) ⟨Nat.zero_le _, Nat.zero_le _⟩ dL_refuses_386 (fun H locs hP hS _ _ => ?_)
                                    refine lv_ldc (own := RL) (v := (-1000000001)) hx hb hown (hts (.constant RL 72 (-1000000001)) (by decide +kernel)) dL_refuses_389 ?_
                                    refine lv_icmp_ne (tgt := 398) hx hb dL_refuses_391 (by decide) (fun c81 => ?_) (fun c81 => ?_)
                                    · have hM := (if_neg c81).symm.trans hM
                                      refine lv_iconst (v := 0) hx hb dL_refuses_398 (by decide) ?_
                                      refine lv_istore_n (lv' := [(3, .int 0), (0, .ref (ad 62)), (1, .int x1), (2, .int x2)]) hx hb dL_refuses_399 rfl hl (by decide) rfl (fun ls hl => ?_)
                                      refine lv_iconst (v := 0) hx hb dL_refuses_400 (by decide) ?_
                                      refine lv_istore (lv' := [(4, .int 0), (3, .int 0), (0, .ref (ad 62)), (1, .int x1), (2, .int x2)]) hx hb dL_refuses_401 hl (by decide) rfl (fun ls hl => ?_)
                                      refine lv_iconst (v := 0) hx hb dL_refuses_403 (by decide) ?_
                                      refine lv_istore (lv' := [(5, .int 0), (4, .int 0), (3, .int 0), (0, .ref (ad 62)), (1, .int x1), (2, .int x2)]) hx hb dL_refuses_404 hl (by decide) rfl (fun ls hl => ?_)
                                      exact L406 fu _ _ _ _ _ _ _ _ _ hM hP hS (lv_sub hl [3, 4, 5, 2, 1, 0] rfl)
                                    · have hM := (if_pos c81).symm.trans hM
                                      refine lv_iconst (v := 1) hx hb dL_refuses_394 (by decide) ?_
                                      refine lv_goto (tgt := 399) hx hb dL_refuses_395 (by decide) ?_
                                      refine lv_istore_n (lv' := [(3, .int 1), (0, .ref (ad 62)), (1, .int x1), (2, .int x2)]) hx hb dL_refuses_399 rfl hl (by decide) rfl (fun ls hl => ?_)
                                      refine lv_iconst (v := 0) hx hb dL_refuses_400 (by decide) ?_
                                      refine lv_istore (lv' := [(4, .int 0), (3, .int 1), (0, .ref (ad 62)), (1, .int x1), (2, .int x2)]) hx hb dL_refuses_401 hl (by decide) rfl (fun ls hl => ?_)
                                      refine lv_iconst (v := 0) hx hb dL_refuses_403 (by decide) ?_
                                      refine lv_istore (lv' := [(5, .int 0), (4, .int 0), (3, .int 1), (0, .ref (ad 62)), (1, .int x1), (2, .int x2)]) hx hb dL_refuses_404 hl (by decide) rfl (fun ls hl => ?_)
                                      exact L406 fu _ _ _ _ _ _ _ _ _ hM hP hS (lv_sub hl [3, 4, 5, 2, 1, 0] rfl)
  have b206 : ∀ (x1 x2 : Int32) (σ : St) (H : Heap) (locs : List Loc) (ls : Array Slot), mL_refuses_b206 x1 x2 σ = some (r, σ') → w_P D cA ad KC σ H → va_S (w_A ad KC) s.heap H locs → lv_has ls 6 [(0, .ref (ad 62)), (1, .int x1), (2, .int x2)] → Wm p l e wsL_refuses 7 161 s m ([.ref (ad 62)] : List Value).toArray below meth c (w_Qi D cA ad KC r σ') (w_A ad KC) H locs (F0 m 206 ls []) := by
    intro x1 x2 σ H locs ls hM hP hS hl
    unfold mL_refuses_b206 at hM
    refine lv_iconst (v := 0) hx hb dL_refuses_206 (by decide) ?_
    exact b207 _ _ _ _ _ _ _ hM hP hS (lv_sub hl [0, 1, 2] rfl)
  have b58 : ∀ (x1 x2 : Int32) (σ : St) (H : Heap) (locs : List Loc) (ls : Array Slot), mL_refuses_b58 x1 x2 σ = some (r, σ') → w_P D cA ad KC σ H → va_S (w_A ad KC) s.heap H locs → lv_has ls 6 [(0, .ref (ad 62)), (1, .int x1), (2, .int x2)] → Wm p l e wsL_refuses 7 161 s m ([.ref (ad 62)] : List Value).toArray below meth c (w_Qi D cA ad KC r σ') (w_A ad KC) H locs (F0 m 58 ls []) := by
    intro x1 x2 σ H locs ls hM hP hS hl
    unfold mL_refuses_b58 at hM
    refine lv_aload_n hx hb dL_refuses_58 rfl (lv_at hl 0 rfl) ?_
    refine lv_bipush (v := 6) hx hb dL_refuses_59 (by decide) ?_
    obtain ⟨r84, σ83, h82, hM⟩ := bnd_i hM
    refine x_callV (As := [.int 6]) (rest := []) hA ⟨hx, hb, hml, hown, hts⟩ (tX6_reset l D cA ad hJ 6 σ _ _ h82) (cwV 1 hts gL_refuses_X6_reset rfl rfl rfl (by decide +kernel) ⟨(Nat.le_of_ble_eq_true rfl), (Nat.le_of_ble_eq_true rfl)⟩) hK hP hS KC_sb rfl rfl hl.1 rfl (Nat.le_of_ble_eq_true rfl) ⟨Nat.zero_le _, Nat.zero_le _⟩ dL_refuses_61 (fun H locs hP hS _ _ => ?_)
    refine lv_ldc (own := RL) (v := (-1000000001)) hx hb hown (hts (.constant RL 72 (-1000000001)) (by decide +kernel)) dL_refuses_64 ?_
    refine lv_icmp_ne (tgt := 206) hx hb dL_refuses_66 (by decide) (fun c85 => ?_) (fun c85 => ?_)
    · have hM := (if_neg c85).symm.trans hM
      exact b206 _ _ _ _ _ _ hM hP hS (lv_sub hl [0, 1, 2] rfl)
    · have hM := (if_pos c85).symm.trans hM
      refine lv_aload_n hx hb dL_refuses_69 rfl (lv_at hl 0 rfl) ?_
      refine lv_iload_n hx hb dL_refuses_70 rfl (lv_at hl 1 rfl) ?_
      refine lv_iconst (v := 0) hx hb dL_refuses_71 (by decide) ?_
      obtain ⟨r88, σ87, h86, hM⟩ := bnd_i hM
      refine x_callV (As := [.int x1, .int 0]) (rest := []) hA ⟨hx, hb, hml, hown, hts⟩ (tX6_siteInfo l D cA ad hJ x1 0 σ83 _ _ h86) (cwV 2 hts gL_refuses_X6_siteInfo rfl rfl rfl (by decide +kernel) ⟨(Nat.le_of_ble_eq_true rfl), (Nat.le_of_ble_eq_true rfl)⟩) hK hP hS KC_sb rfl rfl hl.1 rfl (Nat.le_of_ble_eq_true rfl) ⟨Nat.zero_le _, Nat.zero_le _⟩ dL_refuses_72 (fun H locs hP hS _ _ => ?_)
      refine lv_ldc (own := RL) (v := (-1000000001)) hx hb hown (hts (.constant RL 72 (-1000000001)) (by decide +kernel)) dL_refuses_75 ?_
      refine lv_icmp_ne (tgt := 206) hx hb dL_refuses_77 (by decide) (fun c89 => ?_) (fun c89 => ?_)
      · have hM := (if_neg c89).symm.trans hM
        exact b206 _ _ _ _ _ _ hM hP hS (lv_sub hl [0, 1, 2] rfl)
      · have hM := (if_pos c89).symm.trans hM
        refine lv_aload_n hx hb dL_refuses_80 rfl (lv_at hl 0 rfl) ?_
        refine lv_iconst (v := 0) hx hb dL_refuses_81 (by decide) ?_
        refine lv_iconst (v := (-1)) hx hb dL_refuses_82 (by decide) ?_
        obtain ⟨r92, σ91, h90, hM⟩ := bnd_i hM
        refine x_callV (As := [.int 0, .int (-1)]) (rest := []) hA ⟨hx, hb, hml, hown, hts⟩ (tX6_siteInfo l D cA ad hJ 0 (-1) σ87 _ _ h90) (cwV 2 hts gL_refuses_X6_siteInfo rfl rfl rfl (by decide +kernel) ⟨(Nat.le_of_ble_eq_true rfl), (Nat.le_of_ble_eq_true rfl)⟩) hK hP hS KC_sb rfl rfl hl.1 rfl (Nat.le_of_ble_eq_true rfl) ⟨Nat.zero_le _, Nat.zero_le _⟩ dL_refuses_83 (fun H locs hP hS _ _ => ?_)
        refine lv_ldc (own := RL) (v := (-1000000001)) hx hb hown (hts (.constant RL 72 (-1000000001)) (by decide +kernel)) dL_refuses_86 ?_
        refine lv_icmp_ne (tgt := 206) hx hb dL_refuses_88 (by decide) (fun c93 => ?_) (fun c93 => ?_)
        · have hM := (if_neg c93).symm.trans hM
          exact b206 _ _ _ _ _ _ hM hP hS (lv_sub hl [0, 1, 2] rfl)
        · have hM := (if_pos c93).symm.trans hM
          refine lv_aload_n hx hb dL_refuses_91 rfl (lv_at hl 0 rfl) ?_
          refine lv_iload_n hx hb dL_refuses_92 rfl (lv_at hl 1 rfl) ?_
          refine lv_iconst (v := 0) hx hb dL_refuses_93 (by decide) ?_
          refine lv_iconst (v := 0) hx hb dL_refuses_94 (by decide) ?_
          refine lv_iconst (v := 0) hx hb dL_refuses_95 (by decide) ?_
          refine lv_iconst (v := 0) hx hb dL_refuses_96 (by decide) ?_
          obtain ⟨r96, σ95, h94, hM⟩ := bnd_i hM
          refine x_callV (As := [.int x1, .int 0, .int 0, .int 0, .int 0]) (rest := []) hA ⟨hx, hb, hml, hown, hts⟩ (tX6_penDown l D cA ad hJ x1 0 0 0 0 σ91 _ _ h94) (cwV 5 hts gL_refuses_X6_penDown rfl rfl rfl (by decide +kernel) ⟨(Nat.le_of_ble_eq_true rfl), (Nat.le_of_ble_eq_true rfl)⟩) hK hP hS KC_sb rfl rfl hl.1 rfl (Nat.le_of_ble_eq_true rfl) ⟨Nat.zero_le _, Nat.zero_le _⟩ dL_refuses_97 (fun H locs hP hS _ _ => ?_)
          refine lv_ldc (own := RL) (v := (-1000000001)) hx hb hown (hts (.constant RL 72 (-1000000001)) (by decide +kernel)) dL_refuses_100 ?_
          refine lv_icmp_ne (tgt := 206) hx hb dL_refuses_102 (by decide) (fun c97 => ?_) (fun c97 => ?_)
          · have hM := (if_neg c97).symm.trans hM
            exact b206 _ _ _ _ _ _ hM hP hS (lv_sub hl [0, 1, 2] rfl)
          · have hM := (if_pos c97).symm.trans hM
            refine lv_aload_n hx hb dL_refuses_105 rfl (lv_at hl 0 rfl) ?_
            refine lv_iconst (v := 0) hx hb dL_refuses_106 (by decide) ?_
            refine lv_iconst (v := 0) hx hb dL_refuses_107 (by decide) ?_
            refine lv_bipush (v := 64) hx hb dL_refuses_108 (by decide) ?_
            refine lv_iconst (v := 0) hx hb dL_refuses_110 (by decide) ?_
            refine lv_iconst (v := 0) hx hb dL_refuses_111 (by decide) ?_
            obtain ⟨r100, σ99, h98, hM⟩ := bnd_i hM
            refine x_callV (As := [.int 0, .int 0, .int 64, .int 0, .int 0]) (rest := []) hA ⟨hx, hb, hml, hown, hts⟩ (tX6_penDown l D cA ad hJ 0 0 64 0 0 σ95 _ _ h98) (cwV 5 hts gL_refuses_X6_penDown rfl rfl rfl (by decide +kernel) ⟨(Nat.le_of_ble_eq_true rfl), (Nat.le_of_ble_eq_true rfl)⟩) hK hP hS KC_sb rfl rfl hl.1 rfl (Nat.le_of_ble_eq_true rfl) ⟨Nat.zero_le _, Nat.zero_le _⟩ dL_refuses_112 (fun H locs hP hS _ _ => ?_)
            refine lv_ldc (own := RL) (v := (-1000000001)) hx hb hown (hts (.constant RL 72 (-1000000001)) (by decide +kernel)) dL_refuses_115 ?_
            refine lv_icmp_ne (tgt := 206) hx hb dL_refuses_117 (by decide) (fun c101 => ?_) (fun c101 => ?_)
            · have hM := (if_neg c101).symm.trans hM
              exact b206 _ _ _ _ _ _ hM hP hS (lv_sub hl [0, 1, 2] rfl)
            · have hM := (if_pos c101).symm.trans hM
              refine lv_aload_n hx hb dL_refuses_120 rfl (lv_at hl 0 rfl) ?_
              refine lv_iconst (v := 0) hx hb dL_refuses_121 (by decide) ?_
              refine lv_iconst (v := 0) hx hb dL_refuses_122 (by decide) ?_
              refine lv_iconst (v := 0) hx hb dL_refuses_123 (by decide) ?_
              refine lv_iconst (v := 0) hx hb dL_refuses_124 (by decide) ?_
              refine lv_iconst (v := 4) hx hb dL_refuses_125 (by decide) ?_
              obtain ⟨r104, σ103, h102, hM⟩ := bnd_i hM
              refine x_callV (As := [.int 0, .int 0, .int 0, .int 0, .int 4]) (rest := []) hA ⟨hx, hb, hml, hown, hts⟩ (tX6_penDown l D cA ad hJ 0 0 0 0 4 σ99 _ _ h102) (cwV 5 hts gL_refuses_X6_penDown rfl rfl rfl (by decide +kernel) ⟨(Nat.le_of_ble_eq_true rfl), (Nat.le_of_ble_eq_true rfl)⟩) hK hP hS KC_sb rfl rfl hl.1 rfl (Nat.le_of_ble_eq_true rfl) ⟨Nat.zero_le _, Nat.zero_le _⟩ dL_refuses_126 (fun H locs hP hS _ _ => ?_)
              refine lv_ldc (own := RL) (v := (-1000000001)) hx hb hown (hts (.constant RL 72 (-1000000001)) (by decide +kernel)) dL_refuses_129 ?_
              refine lv_icmp_ne (tgt := 206) hx hb dL_refuses_131 (by decide) (fun c105 => ?_) (fun c105 => ?_)
              · have hM := (if_neg c105).symm.trans hM
                exact b206 _ _ _ _ _ _ hM hP hS (lv_sub hl [0, 1, 2] rfl)
              · have hM := (if_pos c105).symm.trans hM
                refine lv_aload_n hx hb dL_refuses_134 rfl (lv_at hl 0 rfl) ?_
                refine lv_iconst (v := 0) hx hb dL_refuses_135 (by decide) ?_
                refine lv_iconst (v := 0) hx hb dL_refuses_136 (by decide) ?_
                refine lv_bipush (v := (-9)) hx hb dL_refuses_137 (by decide) ?_
                obtain ⟨r108, σ107, h106, hM⟩ := bnd_i hM
                refine x_callV (As := [.int 0, .int 0, .int (-9)]) (rest := []) hA ⟨hx, hb, hml, hown, hts⟩ (tX6_penMove l D cA ad hJ 0 0 (-9) σ103 _ _ h106) (cwV 3 hts gL_refuses_X6_penMove rfl rfl rfl (by decide +kernel) ⟨(Nat.le_of_ble_eq_true rfl), (Nat.le_of_ble_eq_true rfl)⟩) hK hP hS KC_sb rfl rfl hl.1 rfl (Nat.le_of_ble_eq_true rfl) ⟨Nat.zero_le _, Nat.zero_le _⟩ dL_refuses_139 (fun H locs hP hS _ _ => ?_)
                refine lv_ldc (own := RL) (v := (-1000000001)) hx hb hown (hts (.constant RL 72 (-1000000001)) (by decide +kernel)) dL_refuses_142 ?_
                refine lv_icmp_ne (tgt := 206) hx hb dL_refuses_144 (by decide) (fun c109 => ?_) (fun c109 => ?_)
                · have hM := (if_neg c109).symm.trans hM
                  exact b206 _ _ _ _ _ _ hM hP hS (lv_sub hl [0, 1, 2] rfl)
                · have hM := (if_pos c109).symm.trans hM
                  refine lv_aload_n hx hb dL_refuses_147 rfl (lv_at hl 0 rfl) ?_
                  refine lv_iload_n hx hb dL_refuses_148 rfl (lv_at hl 1 rfl) ?_
                  obtain ⟨r112, σ111, h110, hM⟩ := bnd_i hM
                  refine x_callV (As := [.int x1]) (rest := []) hA ⟨hx, hb, hml, hown, hts⟩ (tX6_penUp l D cA ad hJ x1 σ107 _ _ h110) (cwV 1 hts gL_refuses_X6_penUp rfl rfl rfl (by decide +kernel) ⟨(Nat.le_of_ble_eq_true rfl), (Nat.le_of_ble_eq_true rfl)⟩) hK hP hS KC_sb rfl rfl hl.1 rfl (Nat.le_of_ble_eq_true rfl) ⟨Nat.zero_le _, Nat.zero_le _⟩ dL_refuses_149 (fun H locs hP hS _ _ => ?_)
                  refine lv_ldc (own := RL) (v := (-1000000001)) hx hb hown (hts (.constant RL 72 (-1000000001)) (by decide +kernel)) dL_refuses_152 ?_
                  refine lv_icmp_ne (tgt := 206) hx hb dL_refuses_154 (by decide) (fun c113 => ?_) (fun c113 => ?_)
                  · have hM := (if_neg c113).symm.trans hM
                    exact b206 _ _ _ _ _ _ hM hP hS (lv_sub hl [0, 1, 2] rfl)
                  · have hM := (if_pos c113).symm.trans hM
                    refine lv_aload_n hx hb dL_refuses_157 rfl (lv_at hl 0 rfl) ?_
                    refine lv_iconst (v := (-1)) hx hb dL_refuses_158 (by decide) ?_
                    obtain ⟨r116, σ115, h114, hM⟩ := bnd_i hM
                    refine x_callV (As := [.int (-1)]) (rest := []) hA ⟨hx, hb, hml, hown, hts⟩ (tX6_undo l D cA ad hJ (-1) σ111 _ _ h114) (cwV 1 hts gL_refuses_X6_undo rfl rfl rfl (by decide +kernel) ⟨(Nat.le_of_ble_eq_true rfl), (Nat.le_of_ble_eq_true rfl)⟩) hK hP hS KC_sb rfl rfl hl.1 rfl (Nat.le_of_ble_eq_true rfl) ⟨Nat.zero_le _, Nat.zero_le _⟩ dL_refuses_159 (fun H locs hP hS _ _ => ?_)
                    refine lv_ldc (own := RL) (v := (-1000000001)) hx hb hown (hts (.constant RL 72 (-1000000001)) (by decide +kernel)) dL_refuses_162 ?_
                    refine lv_icmp_ne (tgt := 206) hx hb dL_refuses_164 (by decide) (fun c117 => ?_) (fun c117 => ?_)
                    · have hM := (if_neg c117).symm.trans hM
                      exact b206 _ _ _ _ _ _ hM hP hS (lv_sub hl [0, 1, 2] rfl)
                    · have hM := (if_pos c117).symm.trans hM
                      refine lv_aload_n hx hb dL_refuses_167 rfl (lv_at hl 0 rfl) ?_
                      refine lv_iload_n hx hb dL_refuses_168 rfl (lv_at hl 1 rfl) ?_
                      obtain ⟨r120, σ119, h118, hM⟩ := bnd_i hM
                      refine x_callV (As := [.int x1]) (rest := []) hA ⟨hx, hb, hml, hown, hts⟩ (tX6_redo l D cA ad hJ x1 σ115 _ _ h118) (cwV 1 hts gL_refuses_X6_redo rfl rfl rfl (by decide +kernel) ⟨(Nat.le_of_ble_eq_true rfl), (Nat.le_of_ble_eq_true rfl)⟩) hK hP hS KC_sb rfl rfl hl.1 rfl (Nat.le_of_ble_eq_true rfl) ⟨Nat.zero_le _, Nat.zero_le _⟩ dL_refuses_169 (fun H locs hP hS _ _ => ?_)
                      refine lv_ldc (own := RL) (v := (-1000000001)) hx hb hown (hts (.constant RL 72 (-1000000001)) (by decide +kernel)) dL_refuses_172 ?_
                      refine lv_icmp_ne (tgt := 206) hx hb dL_refuses_174 (by decide) (fun c121 => ?_) (fun c121 => ?_)
                      · have hM := (if_neg c121).symm.trans hM
                        exact b206 _ _ _ _ _ _ hM hP hS (lv_sub hl [0, 1, 2] rfl)
                      · have hM := (if_pos c121).symm.trans hM
                        refine lv_aload_n hx hb dL_refuses_177 rfl (lv_at hl 0 rfl) ?_
                        refine lv_iload_n hx hb dL_refuses_178 rfl (lv_at hl 1 rfl) ?_
                        refine lv_iconst (v := 0) hx hb dL_refuses_179 (by decide) ?_
                        refine lv_iconst (v := 0) hx hb dL_refuses_180 (by decide) ?_
                        obtain ⟨r124, σ123, h122, hM⟩ := bnd_i hM
                        refine x_callV (As := [.int x1, .int 0, .int 0]) (rest := []) hA ⟨hx, hb, hml, hown, hts⟩ (tX6_lift l D cA ad hJ x1 0 0 σ119 _ _ h122) (cwV 3 hts gL_refuses_X6_lift rfl rfl rfl (by decide +kernel) ⟨(Nat.le_of_ble_eq_true rfl), (Nat.le_of_ble_eq_true rfl)⟩) hK hP hS KC_sb rfl rfl hl.1 rfl (Nat.le_of_ble_eq_true rfl) ⟨Nat.zero_le _, Nat.zero_le _⟩ dL_refuses_181 (fun H locs hP hS _ _ => ?_)
                        refine lv_ldc (own := RL) (v := (-1000000001)) hx hb hown (hts (.constant RL 72 (-1000000001)) (by decide +kernel)) dL_refuses_184 ?_
                        refine lv_icmp_ne (tgt := 206) hx hb dL_refuses_186 (by decide) (fun c125 => ?_) (fun c125 => ?_)
                        · have hM := (if_neg c125).symm.trans hM
                          exact b206 _ _ _ _ _ _ hM hP hS (lv_sub hl [0, 1, 2] rfl)
                        · have hM := (if_pos c125).symm.trans hM
                          refine lv_aload_n hx hb dL_refuses_189 rfl (lv_at hl 0 rfl) ?_
                          refine lv_iconst (v := 0) hx hb dL_refuses_190 (by decide) ?_
                          refine lv_bipush (v := 100) hx hb dL_refuses_191 (by decide) ?_
                          refine lv_iconst (v := 0) hx hb dL_refuses_193 (by decide) ?_
                          obtain ⟨r128, σ127, h126, hM⟩ := bnd_i hM
                          refine x_callV (As := [.int 0, .int 100, .int 0]) (rest := []) hA ⟨hx, hb, hml, hown, hts⟩ (tX6_lift l D cA ad hJ 0 100 0 σ123 _ _ h126) (cwV 3 hts gL_refuses_X6_lift rfl rfl rfl (by decide +kernel) ⟨(Nat.le_of_ble_eq_true rfl), (Nat.le_of_ble_eq_true rfl)⟩) hK hP hS KC_sb rfl rfl hl.1 rfl (Nat.le_of_ble_eq_true rfl) ⟨Nat.zero_le _, Nat.zero_le _⟩ dL_refuses_194 (fun H locs hP hS _ _ => ?_)
                          refine lv_ldc (own := RL) (v := (-1000000002)) hx hb hown (hts (.constant RL 64 (-1000000002)) (by decide +kernel)) dL_refuses_197 ?_
                          refine lv_icmp_ne (tgt := 206) hx hb dL_refuses_199 (by decide) (fun c129 => ?_) (fun c129 => ?_)
                          · have hM := (if_neg c129).symm.trans hM
                            exact b206 _ _ _ _ _ _ hM hP hS (lv_sub hl [0, 1, 2] rfl)
                          · have hM := (if_pos c129).symm.trans hM
                            refine lv_iconst (v := 1) hx hb dL_refuses_202 (by decide) ?_
                            refine lv_goto (tgt := 207) hx hb dL_refuses_203 (by decide) ?_
                            exact b207 _ _ _ _ _ _ _ hM hP hS (lv_sub hl [0, 1, 2] rfl)
  have L9 : ∀ (n : Nat) (x1 x2 x3 : Int32) (σ : St) (H : Heap) (locs : List Loc) (ls : Array Slot), mL_refuses_L9 n x1 x2 x3 σ = some (r, σ') → w_P D cA ad KC σ H → va_S (w_A ad KC) s.heap H locs → lv_has ls 6 [(0, .ref (ad 62)), (1, .int x1), (2, .int x2), (3, .int x3)] → Wm p l e wsL_refuses 7 161 s m ([.ref (ad 62)] : List Value).toArray below meth c (w_Qi D cA ad KC r σ') (w_A ad KC) H locs (F0 m 9 ls []) := by
    intro n9
    induction n9 with
    | zero =>
      intro x1 x2 x3 σ H locs ls hM hP hS hl
      rw [mL_refuses_L9] at hM
      cases hM
    | succ n9 ih9 =>
      intro x1 x2 x3 σ H locs ls hM hP hS hl
      rw [mL_refuses_L9] at hM
      refine lv_iload_n hx hb dL_refuses_9 rfl (lv_at hl 3 rfl) ?_
      refine lv_iload_n hx hb dL_refuses_10 rfl (lv_at hl 1 rfl) ?_
      refine lv_icmp_ge (tgt := 58) hx hb dL_refuses_11 (by decide) (fun c130 => ?_) (fun c130 => ?_)
      · have hM := (if_pos c130).symm.trans hM
        exact b58 _ _ _ _ _ _ hM hP hS (lv_sub hl [0, 1, 2] rfl)
      · have hM := (if_neg c130).symm.trans hM
        refine lv_bipush (v := 31) hx hb dL_refuses_14 (by decide) ?_
        refine lv_iload_n hx hb dL_refuses_16 rfl (lv_at hl 2 rfl) ?_
        refine lv_imul hx hb dL_refuses_17 ?_
        refine lv_aload_n hx hb dL_refuses_18 rfl (lv_at hl 0 rfl) ?_
        refine lv_iload_n hx hb dL_refuses_19 rfl (lv_at hl 3 rfl) ?_
        obtain ⟨r133, σ132, h131, hM⟩ := bnd_i hM
        refine x_callV (As := [.int x3]) (rest := [.int (31 * x2)]) hA ⟨hx, hb, hml, hown, hts⟩ (tX6_digest l D cA ad hJ x3 σ _ _ h131) (cwV 1 hts gL_refuses_X6_digest rfl rfl rfl (by decide +kernel) ⟨(Nat.le_of_ble_eq_true rfl), (Nat.le_of_ble_eq_true rfl)⟩) hK hP hS KC_sb rfl rfl hl.1 rfl (Nat.le_of_ble_eq_true rfl) ⟨Nat.zero_le _, Nat.zero_le _⟩ dL_refuses_20 (fun H locs hP hS _ _ => ?_)
        refine lv_iadd hx hb dL_refuses_23 ?_
        refine lv_bipush (v := 7) hx hb dL_refuses_24 (by decide) ?_
        refine lv_aload_n hx hb dL_refuses_26 rfl (lv_at hl 0 rfl) ?_
        refine lv_iload_n hx hb dL_refuses_27 rfl (lv_at hl 3 rfl) ?_
        refine lv_iconst (v := 0) hx hb dL_refuses_28 (by decide) ?_
        obtain ⟨r136, σ135, h134, hM⟩ := bnd_i hM
        refine x_callV (As := [.int x3, .int 0]) (rest := [.int 7, .int ((31 * x2) + r133)]) hA ⟨hx, hb, hml, hown, hts⟩ (tX6_siteInfo l D cA ad hJ x3 0 σ132 _ _ h134) (cwV 2 hts gL_refuses_X6_siteInfo rfl rfl rfl (by decide +kernel) ⟨(Nat.le_of_ble_eq_true rfl), (Nat.le_of_ble_eq_true rfl)⟩) hK hP hS KC_sb rfl rfl hl.1 rfl (Nat.le_of_ble_eq_true rfl) ⟨Nat.zero_le _, Nat.zero_le _⟩ dL_refuses_29 (fun H locs hP hS _ _ => ?_)
        refine lv_imul hx hb dL_refuses_32 ?_
        refine lv_iadd hx hb dL_refuses_33 ?_
        refine lv_aload_n hx hb dL_refuses_34 rfl (lv_at hl 0 rfl) ?_
        refine lv_iload_n hx hb dL_refuses_35 rfl (lv_at hl 3 rfl) ?_
        refine lv_iconst (v := 1) hx hb dL_refuses_36 (by decide) ?_
        obtain ⟨r139, σ138, h137, hM⟩ := bnd_i hM
        refine x_callV (As := [.int x3, .int 1]) (rest := [.int (((31 * x2) + r133) + (7 * r136))]) hA ⟨hx, hb, hml, hown, hts⟩ (tX6_siteInfo l D cA ad hJ x3 1 σ135 _ _ h137) (cwV 2 hts gL_refuses_X6_siteInfo rfl rfl rfl (by decide +kernel) ⟨(Nat.le_of_ble_eq_true rfl), (Nat.le_of_ble_eq_true rfl)⟩) hK hP hS KC_sb rfl rfl hl.1 rfl (Nat.le_of_ble_eq_true rfl) ⟨Nat.zero_le _, Nat.zero_le _⟩ dL_refuses_37 (fun H locs hP hS _ _ => ?_)
        refine lv_iadd hx hb dL_refuses_40 ?_
        refine lv_bipush (v := 100) hx hb dL_refuses_41 (by decide) ?_
        refine lv_aload_n hx hb dL_refuses_43 rfl (lv_at hl 0 rfl) ?_
        refine lv_iload_n hx hb dL_refuses_44 rfl (lv_at hl 3 rfl) ?_
        refine lv_iconst (v := 4) hx hb dL_refuses_45 (by decide) ?_
        obtain ⟨r142, σ141, h140, hM⟩ := bnd_i hM
        refine x_callV (As := [.int x3, .int 4]) (rest := [.int 100, .int ((((31 * x2) + r133) + (7 * r136)) + r139)]) hA ⟨hx, hb, hml, hown, hts⟩ (tX6_siteInfo l D cA ad hJ x3 4 σ138 _ _ h140) (cwV 2 hts gL_refuses_X6_siteInfo rfl rfl rfl (by decide +kernel) ⟨(Nat.le_of_ble_eq_true rfl), (Nat.le_of_ble_eq_true rfl)⟩) hK hP hS KC_sb rfl rfl hl.1 rfl (Nat.le_of_ble_eq_true rfl) ⟨Nat.zero_le _, Nat.zero_le _⟩ dL_refuses_46 (fun H locs hP hS _ _ => ?_)
        refine lv_imul hx hb dL_refuses_49 ?_
        refine lv_iadd hx hb dL_refuses_50 ?_
        refine lv_topi (fun z143 ez143 => ?_)
        have hM := lti_u ez143 hM
        refine lv_istore_n (lv' := [(2, .int z143), (0, .ref (ad 62)), (1, .int x1), (3, .int x3)]) hx hb dL_refuses_51 rfl hl (by decide) rfl (fun ls hl => ?_)
        refine lv_iinc (v := (x3 + 1)) (lv' := [(3, .int (x3 + 1)), (2, .int z143), (0, .ref (ad 62)), (1, .int x1)]) hx hb dL_refuses_52 hl (k := 3) rfl rfl (by decide) rfl (fun ls hl => ?_)
        refine lv_goto (tgt := 9) hx hb dL_refuses_55 (by decide) ?_
        exact ih9 _ _ _ _ _ _ _ hM hP hS (lv_sub hl [2, 3, 1, 0] rfl)
  unfold mL_refuses at hM
  refine lv_aload_n hx hb dL_refuses_0 rfl (lv_at hl 0 rfl) ?_
  obtain ⟨r146, σ145, h144, hM⟩ := bnd_i hM
  refine x_callV (As := []) (rest := []) hA ⟨hx, hb, hml, hown, hts⟩ (tX6_sites l D cA ad hJ σ _ _ h144) (cwV 0 hts gL_refuses_X6_sites rfl rfl rfl (by decide +kernel) ⟨(Nat.le_of_ble_eq_true rfl), (Nat.le_of_ble_eq_true rfl)⟩) hK hP hS KC_sb rfl rfl hl.1 rfl (Nat.le_of_ble_eq_true rfl) ⟨Nat.zero_le _, Nat.zero_le _⟩ dL_refuses_1 (fun H locs hP hS _ _ => ?_)
  refine lv_istore_n (lv' := [(1, .int r146), (0, .ref (ad 62))]) hx hb dL_refuses_4 rfl hl (by decide) rfl (fun ls hl => ?_)
  refine lv_iconst (v := 0) hx hb dL_refuses_5 (by decide) ?_
  refine lv_istore_n (lv' := [(2, .int 0), (1, .int r146), (0, .ref (ad 62))]) hx hb dL_refuses_6 rfl hl (by decide) rfl (fun ls hl => ?_)
  refine lv_iconst (v := 0) hx hb dL_refuses_7 (by decide) ?_
  refine lv_istore_n (lv' := [(3, .int 0), (2, .int 0), (1, .int r146), (0, .ref (ad 62))]) hx hb dL_refuses_8 rfl hl (by decide) rfl (fun ls hl => ?_)
  exact L9 fu _ _ _ _ _ _ _ hM hP hS (lv_sub hl [3, 2, 1, 0] rfl)
