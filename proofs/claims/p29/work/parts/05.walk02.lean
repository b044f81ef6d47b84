/-! The walks, laid by wip/p29/gen.py. -/
theorem hinX6_X6_transfer : ∀ w ∈ u_ws RX6 TX6 9, w ∈ wsX6_transfer := by decide +kernel
set_option maxHeartbeats 4000000 in
set_option maxRecDepth 100000 in
theorem tX6_transfer (l : Launch) (D : va_G) (cA : ClassId) (ad : Nat → Nat) (hJ : w_J ad KC) (u1 u2 : Int32) (σ σ' : St) (r : Int32) (hM : mX6_transfer u1 u2 σ = some (r, σ')) : Ct l yX6_transfer wsX6_transfer 4 88 D cA ad KC [.ref (ad 62), .int u1, .int u2] σ r σ' := by
  unfold Ct
  refine Met_of (cc := cX6_transfer) (maxL := 5) (ret := (some .int)) hJ (by decide +kernel) rfl (Nat.le_of_ble_eq_true rfl) ?_
  intro p e s m below meth c Z H locs ls hP hS hl
  obtain ⟨hx, hb, hml, hown, hts, hr, hlk, hK, -⟩ := Z
  have hown : s.vm.findClass RX6 = some m.cls := hown
  have hl : lv_has ls 5 [(0, .ref (ad 62)), (1, .int u1), (2, .int u2)] := hl
  have hA : ∀ q, w_A ad KC q → w_A ad KC q := fun _ h => h
  have b75 : ∀ (x1 x2 x3 : Int32) (σ : St) (H : Heap) (locs : List Loc) (ls : Array Slot), mX6_transfer_b75 x1 x2 x3 σ = some (r, σ') → w_P D cA ad KC σ H → va_S (w_A ad KC) s.heap H locs → lv_has ls 5 [(0, .ref (ad 62)), (1, .int x1), (2, .int x2), (3, .int x3)] → Wm p l e wsX6_transfer 4 88 s m ([.ref (ad 62), .int u1, .int u2] : List Value).toArray below meth c (w_Qi D cA ad KC r σ') (w_A ad KC) H locs (F0 m 75 ls []) := by
    intro x1 x2 x3 σ H locs ls hM hP hS hl
    unfold mX6_transfer_b75 at hM
    refine lv_aload_n hx hb dX6_transfer_75 rfl (lv_at hl 0 rfl) ?_
    refine x_getr (own := RX6) (C := RX6) (T := TX6) (N := 9) hx hb hts hinX6_X6_transfer hown hK hP KC_sb rfl 7 (by decide) (hts (.fieldLink RX6 55 "StrokeBoard" "clocks" "LStrokeBoard$Row;") (by decide +kernel)) rfl dX6_transfer_76 ?_
    refine lv_iload_n hx hb dX6_transfer_79 rfl (lv_at hl 1 rfl) ?_
    refine lv_aload_n hx hb dX6_transfer_80 rfl (lv_at hl 0 rfl) ?_
    refine x_getr (own := RX6) (C := RX6) (T := TX6) (N := 9) hx hb hts hinX6_X6_transfer hown hK hP KC_sb rfl 7 (by decide) (hts (.fieldLink RX6 55 "StrokeBoard" "clocks" "LStrokeBoard$Row;") (by decide +kernel)) rfl dX6_transfer_81 ?_
    refine lv_iload_n hx hb dX6_transfer_84 rfl (lv_at hl 1 rfl) ?_
    obtain ⟨r3, σ2, h1, hM⟩ := bnd_i hM
    refine x_callV (As := [.int x1]) (rest := [.int x1, .ref (ad (2 * 26))]) hA ⟨hx, hb, hml, hown, hts⟩ (tX5_get l D cA ad hJ 26 (by omega) x1 σ _ _ h1) (cwV 1 hts gX6_transfer_X5_get rfl rfl rfl (by decide +kernel) ⟨(Nat.le_of_ble_eq_true rfl), (Nat.le_of_ble_eq_true rfl)⟩) hK hP hS (KC_row 26 (by omega)) rfl rfl hl.1 rfl (Nat.le_of_ble_eq_true rfl) ⟨Nat.zero_le _, Nat.zero_le _⟩ dX6_transfer_85 (fun H locs hP hS _ _ => ?_)
    refine lv_aload_n hx hb dX6_transfer_88 rfl (lv_at hl 0 rfl) ?_
    refine x_getr (own := RX6) (C := RX6) (T := TX6) (N := 9) hx hb hts hinX6_X6_transfer hown hK hP KC_sb rfl 7 (by decide) (hts (.fieldLink RX6 55 "StrokeBoard" "clocks" "LStrokeBoard$Row;") (by decide +kernel)) rfl dX6_transfer_89 ?_
    refine lv_iload_n hx hb dX6_transfer_92 rfl (lv_at hl 2 rfl) ?_
    obtain ⟨r6, σ5, h4, hM⟩ := bnd_i hM
    refine x_callV (As := [.int x2]) (rest := [.int r3, .int x1, .ref (ad (2 * 26))]) hA ⟨hx, hb, hml, hown, hts⟩ (tX5_get l D cA ad hJ 26 (by omega) x2 σ2 _ _ h4) (cwV 1 hts gX6_transfer_X5_get rfl rfl rfl (by decide +kernel) ⟨(Nat.le_of_ble_eq_true rfl), (Nat.le_of_ble_eq_true rfl)⟩) hK hP hS (KC_row 26 (by omega)) rfl rfl hl.1 rfl (Nat.le_of_ble_eq_true rfl) ⟨Nat.zero_le _, Nat.zero_le _⟩ dX6_transfer_93 (fun H locs hP hS _ _ => ?_)
    refine va_mmax hx hb (hml.trans hl.1.symm) hown (hts (.methodLink RX6 190 Lib.Math.max.name) (by decide +kernel)) (hts (.static Lib.Math.max.name) (by decide +kernel)) (hts (.initialized "java/lang/Math") (by decide +kernel)) (hts (.code Lib.Math.max.name Lib.Math.max.code 2 (some .int)) (by decide +kernel)) (Nat.le_of_ble_eq_true rfl) (Nat.le_of_ble_eq_true rfl) (Nat.zero_le _) (Nat.zero_le _) dX6_transfer_96 ?_
    refine lv_topi (fun z7 ez7 => ?_)
    have hM := lti_u ez7 hM
    obtain ⟨σ9, h8, hM⟩ := bnv_i hM
    refine x_callVv (As := [.int x1, .int z7]) (rest := []) hA ⟨hx, hb, hml, hown, hts⟩ (tX5_set l D cA ad hJ 26 (by omega) x1 z7 σ5 _ h8) (cwV 2 hts gX6_transfer_X5_set rfl rfl rfl (by decide +kernel) ⟨(Nat.le_of_ble_eq_true rfl), (Nat.le_of_ble_eq_true rfl)⟩) hK hP hS (KC_row 26 (by omega)) rfl rfl hl.1 rfl (Nat.le_of_ble_eq_true rfl) ⟨Nat.zero_le _, Nat.zero_le _⟩ dX6_transfer_99 (fun H locs hP hS _ _ => ?_)
    refine lv_iload_n hx hb dX6_transfer_102 rfl (lv_at hl 3 rfl) ?_
    exact x_iret hx hb hr hlk hP hS hM dX6_transfer_103
  have L17 : ∀ (n : Nat) (x1 x2 x3 x4 : Int32) (σ : St) (H : Heap) (locs : List Loc) (ls : Array Slot), mX6_transfer_L17 n x1 x2 x3 x4 σ = some (r, σ') → w_P D cA ad KC σ H → va_S (w_A ad KC) s.heap H locs → lv_has ls 5 [(0, .ref (ad 62)), (1, .int x1), (2, .int x2), (3, .int x3), (4, .int x4)] → Wm p l e wsX6_transfer 4 88 s m ([.ref (ad 62), .int u1, .int u2] : List Value).toArray below meth c (w_Qi D cA ad KC r σ') (w_A ad KC) H locs (F0 m 17 ls []) := by
    intro n17
    induction n17 with
    | zero =>
      intro x1 x2 x3 x4 σ H locs ls hM hP hS hl
      rw [mX6_transfer_L17] at hM
      cases hM
    | succ n17 ih17 =>
      intro x1 x2 x3 x4 σ H locs ls hM hP hS hl
      rw [mX6_transfer_L17] at hM
      refine lv_iload hx hb dX6_transfer_17 (lv_at hl 4 rfl) ?_
      refine lv_bipush (v := 100) hx hb dX6_transfer_19 (by decide) ?_
      refine lv_icmp_ge (tgt := 75) hx hb dX6_transfer_21 (by decide) (fun c10 => ?_) (fun c10 => ?_)
      · have hM := (if_pos c10).symm.trans hM
        exact b75 _ _ _ _ _ _ _ hM hP hS (lv_sub hl [0, 1, 2, 3] rfl)
      · have hM := (if_neg c10).symm.trans hM
        refine lv_aload_n hx hb dX6_transfer_24 rfl (lv_at hl 0 rfl) ?_
        refine x_getr (own := RX6) (C := RX6) (T := TX6) (N := 9) hx hb hts hinX6_X6_transfer hown hK hP KC_sb rfl 2 (by decide) (hts (.fieldLink RX6 28 "StrokeBoard" "knowledge" "LStrokeBoard$Knowledge;") (by decide +kernel)) rfl dX6_transfer_25 ?_
        refine lv_iload_n hx hb dX6_transfer_28 rfl (lv_at hl 2 rfl) ?_
        refine lv_iload hx hb dX6_transfer_29 (lv_at hl 4 rfl) ?_
        obtain ⟨r13, σ12, h11, hM⟩ := bnd_i hM
        refine x_callV (As := [.int x2, .int x4]) (rest := []) hA ⟨hx, hb, hml, hown, hts⟩ (tX2_has l D cA ad hJ 0 (by omega) x2 x4 σ _ _ h11) (cwV 2 hts gX6_transfer_X2_has rfl rfl rfl (by decide +kernel) ⟨(Nat.le_of_ble_eq_true rfl), (Nat.le_of_ble_eq_true rfl)⟩) hK hP hS (KC_kno 0 (by omega)) rfl rfl hl.1 rfl (Nat.le_of_ble_eq_true rfl) ⟨Nat.zero_le _, Nat.zero_le _⟩ dX6_transfer_31 (fun H locs hP hS _ _ => ?_)
        refine lv_if_eq (tgt := 69) hx hb dX6_transfer_34 (by decide) (fun c14 => ?_) (fun c14 => ?_)
        · have hM := (if_pos c14).symm.trans hM
          refine lv_iinc (v := (x4 + 1)) (lv' := [(4, .int (x4 + 1)), (0, .ref (ad 62)), (1, .int x1), (2, .int x2), (3, .int x3)]) hx hb dX6_transfer_69 hl (k := 4) rfl rfl (by decide) rfl (fun ls hl => ?_)
          refine lv_goto (tgt := 17) hx hb dX6_transfer_72 (by decide) ?_
          exact ih17 _ _ _ _ _ _ _ _ hM hP hS (lv_sub hl [1, 2, 3, 4, 0] rfl)
        · have hM := (if_neg c14).symm.trans hM
          refine lv_aload_n hx hb dX6_transfer_37 rfl (lv_at hl 0 rfl) ?_
          refine x_getr (own := RX6) (C := RX6) (T := TX6) (N := 9) hx hb hts hinX6_X6_transfer hown hK hP KC_sb rfl 2 (by decide) (hts (.fieldLink RX6 28 "StrokeBoard" "knowledge" "LStrokeBoard$Knowledge;") (by decide +kernel)) rfl dX6_transfer_38 ?_
          refine lv_iload_n hx hb dX6_transfer_41 rfl (lv_at hl 1 rfl) ?_
          refine lv_iload hx hb dX6_transfer_42 (lv_at hl 4 rfl) ?_
          obtain ⟨r17, σ16, h15, hM⟩ := bnd_i hM
          refine x_callV (As := [.int x1, .int x4]) (rest := []) hA ⟨hx, hb, hml, hown, hts⟩ (tX2_has l D cA ad hJ 0 (by omega) x1 x4 σ12 _ _ h15) (cwV 2 hts gX6_transfer_X2_has rfl rfl rfl (by decide +kernel) ⟨(Nat.le_of_ble_eq_true rfl), (Nat.le_of_ble_eq_true rfl)⟩) hK hP hS (KC_kno 0 (by omega)) rfl rfl hl.1 rfl (Nat.le_of_ble_eq_true rfl) ⟨Nat.zero_le _, Nat.zero_le _⟩ dX6_transfer_44 (fun H locs hP hS _ _ => ?_)
          refine lv_if_ne (tgt := 69) hx hb dX6_transfer_47 (by decide) (fun c18 => ?_) (fun c18 => ?_)
          · have hM := (if_neg c18).symm.trans hM
            refine lv_iinc (v := (x4 + 1)) (lv' := [(4, .int (x4 + 1)), (0, .ref (ad 62)), (1, .int x1), (2, .int x2), (3, .int x3)]) hx hb dX6_transfer_69 hl (k := 4) rfl rfl (by decide) rfl (fun ls hl => ?_)
            refine lv_goto (tgt := 17) hx hb dX6_transfer_72 (by decide) ?_
            exact ih17 _ _ _ _ _ _ _ _ hM hP hS (lv_sub hl [1, 2, 3, 4, 0] rfl)
          · have hM := (if_pos c18).symm.trans hM
            refine lv_aload_n hx hb dX6_transfer_50 rfl (lv_at hl 0 rfl) ?_
            refine lv_iload_n hx hb dX6_transfer_51 rfl (lv_at hl 1 rfl) ?_
            refine lv_iload hx hb dX6_transfer_52 (lv_at hl 4 rfl) ?_
            obtain ⟨σ20, h19, hM⟩ := bnv_i hM
            refine x_callVv (As := [.int x1, .int x4]) (rest := []) hA ⟨hx, hb, hml, hown, hts⟩ (tX6_receive l D cA ad hJ x1 x4 σ16 _ h19) (cwV 2 hts gX6_transfer_X6_receive rfl rfl rfl (by decide +kernel) ⟨(Nat.le_of_ble_eq_true rfl), (Nat.le_of_ble_eq_true rfl)⟩) hK hP hS KC_sb rfl rfl hl.1 rfl (Nat.le_of_ble_eq_true rfl) ⟨Nat.zero_le _, Nat.zero_le _⟩ dX6_transfer_54 (fun H locs hP hS _ _ => ?_)
            refine lv_iload_n hx hb dX6_transfer_57 rfl (lv_at hl 3 rfl) ?_
            refine lv_aload_n hx hb dX6_transfer_58 rfl (lv_at hl 0 rfl) ?_
            refine x_getr (own := RX6) (C := RX6) (T := TX6) (N := 9) hx hb hts hinX6_X6_transfer hown hK hP KC_sb rfl 0 (by decide) (hts (.fieldLink RX6 12 "StrokeBoard" "log" "LStrokeBoard$Log;") (by decide +kernel)) rfl dX6_transfer_59 ?_
            refine lv_iload hx hb dX6_transfer_62 (lv_at hl 4 rfl) ?_
            obtain ⟨r23, σ22, h21, hM⟩ := bnd_i hM
            refine x_callV (As := [.int x4]) (rest := [.int x3]) hA ⟨hx, hb, hml, hown, hts⟩ (tX4_sizeOf l D cA ad hJ x4 σ20 _ _ h21) (cwV 1 hts gX6_transfer_X4_sizeOf rfl rfl rfl (by decide +kernel) ⟨(Nat.le_of_ble_eq_true rfl), (Nat.le_of_ble_eq_true rfl)⟩) hK hP hS KC_log rfl rfl hl.1 rfl (Nat.le_of_ble_eq_true rfl) ⟨Nat.zero_le _, Nat.zero_le _⟩ dX6_transfer_64 (fun H locs hP hS _ _ => ?_)
            refine lv_iadd hx hb dX6_transfer_67 ?_
            refine lv_istore_n (lv' := [(3, .int (x3 + r23)), (0, .ref (ad 62)), (1, .int x1), (2, .int x2), (4, .int x4)]) hx hb dX6_transfer_68 rfl hl (by decide) rfl (fun ls hl => ?_)
            refine lv_iinc (v := (x4 + 1)) (lv' := [(4, .int (x4 + 1)), (3, .int (x3 + r23)), (0, .ref (ad 62)), (1, .int x1), (2, .int x2)]) hx hb dX6_transfer_69 hl (k := 4) rfl rfl (by decide) rfl (fun ls hl => ?_)
            refine lv_goto (tgt := 17) hx hb dX6_transfer_72 (by decide) ?_
            exact ih17 _ _ _ _ _ _ _ _ hM hP hS (lv_sub hl [2, 3, 4, 1, 0] rfl)
  unfold mX6_transfer at hM
  refine lv_aload_n hx hb dX6_transfer_0 rfl (lv_at hl 0 rfl) ?_
  refine lv_iload_n hx hb dX6_transfer_1 rfl (lv_at hl 1 rfl) ?_
  refine lv_iload_n hx hb dX6_transfer_2 rfl (lv_at hl 2 rfl) ?_
  obtain ⟨r26, σ25, h24, hM⟩ := bnd_i hM
  refine x_callV (As := [.int u1, .int u2]) (rest := []) hA ⟨hx, hb, hml, hown, hts⟩ (tX6_areTwoSites l D cA ad hJ u1 u2 σ _ _ h24) (cwV 2 hts gX6_transfer_X6_areTwoSites rfl rfl rfl (by decide +kernel) ⟨(Nat.le_of_ble_eq_true rfl), (Nat.le_of_ble_eq_true rfl)⟩) hK hP hS KC_sb rfl rfl hl.1 rfl (Nat.le_of_ble_eq_true rfl) ⟨Nat.zero_le _, Nat.zero_le _⟩ dX6_transfer_3 (fun H locs hP hS _ _ => ?_)
  refine lv_if_ne (tgt := 12) hx hb dX6_transfer_6 (by decide) (fun c27 => ?_) (fun c27 => ?_)
  · have hM := (if_neg c27).symm.trans hM
    refine lv_iconst (v := 0) hx hb dX6_transfer_12 (by decide) ?_
    refine lv_istore_n (lv' := [(3, .int 0), (0, .ref (ad 62)), (1, .int u1), (2, .int u2)]) hx hb dX6_transfer_13 rfl hl (by decide) rfl (fun ls hl => ?_)
    refine lv_iconst (v := 0) hx hb dX6_transfer_14 (by decide) ?_
    refine lv_istore (lv' := [(4, .int 0), (3, .int 0), (0, .ref (ad 62)), (1, .int u1), (2, .int u2)]) hx hb dX6_transfer_15 hl (by decide) rfl (fun ls hl => ?_)
    exact L17 fu _ _ _ _ _ _ _ _ hM hP hS (lv_sub hl [2, 3, 4, 1, 0] rfl)
  · have hM := (if_pos c27).symm.trans hM
    refine lv_ldc (own := RX6) (v := (-1000000001)) hx hb hown (hts (.constant RX6 67 (-1000000001)) (by decide +kernel)) dX6_transfer_9 ?_
    exact x_iret hx hb hr hlk hP hS hM dX6_transfer_11
theorem hinX4_X6_operation : ∀ w ∈ u_ws RX4 TX4 8, w ∈ wsX6_operation := by decide +kernel
theorem hinX6_X6_operation : ∀ w ∈ u_ws RX6 TX6 9, w ∈ wsX6_operation := by decide +kernel
set_option maxHeartbeats 4000000 in
set_option maxRecDepth 100000 in
theorem tX6_operation (l : Launch) (D : va_G) (cA : ClassId) (ad : Nat → Nat) (hJ : w_J ad KC) (u1 u2 u3 : Int32) (σ σ' : St) (r : Int32) (hM : mX6_operation u1 u2 u3 σ = some (r, σ')) : Ct l yX6_operation wsX6_operation 4 88 D cA ad KC [.ref (ad 62), .int u1, .int u2, .int u3] σ r σ' := by
  unfold Ct
  refine Met_of (cc := cX6_operation) (maxL := 5) (ret := (some .int)) hJ (by decide +kernel) rfl (Nat.le_of_ble_eq_true rfl) ?_
  intro p e s m below meth c Z H locs ls hP hS hl
  obtain ⟨hx, hb, hml, hown, hts, hr, hlk, hK, -⟩ := Z
  have hown : s.vm.findClass RX6 = some m.cls := hown
  have hl : lv_has ls 5 [(0, .ref (ad 62)), (1, .int u1), (2, .int u2), (3, .int u3)] := hl
  have hA : ∀ q, w_A ad KC q → w_A ad KC q := fun _ h => h
  unfold mX6_operation at hM
  refine lv_aload_n hx hb dX6_operation_0 rfl (lv_at hl 0 rfl) ?_
  refine lv_iload_n hx hb dX6_operation_1 rfl (lv_at hl 1 rfl) ?_
  obtain ⟨r3, σ2, h1, hM⟩ := bnd_i hM
  refine x_callV (As := [.int u1]) (rest := []) hA ⟨hx, hb, hml, hown, hts⟩ (tX6_isSite l D cA ad hJ u1 σ _ _ h1) (cwV 1 hts gX6_operation_X6_isSite rfl rfl rfl (by decide +kernel) ⟨(Nat.le_of_ble_eq_true rfl), (Nat.le_of_ble_eq_true rfl)⟩) hK hP hS KC_sb rfl rfl hl.1 rfl (Nat.le_of_ble_eq_true rfl) ⟨Nat.zero_le _, Nat.zero_le _⟩ dX6_operation_2 (fun H locs hP hS _ _ => ?_)
  refine lv_if_eq (tgt := 22) hx hb dX6_operation_5 (by decide) (fun c4 => ?_) (fun c4 => ?_)
  · have hM := (if_pos c4).symm.trans hM
    refine lv_ldc (own := RX6) (v := (-1000000001)) hx hb hown (hts (.constant RX6 67 (-1000000001)) (by decide +kernel)) dX6_operation_22 ?_
    exact x_iret hx hb hr hlk hP hS hM dX6_operation_24
  · have hM := (if_neg c4).symm.trans hM
    refine lv_iload_n hx hb dX6_operation_8 rfl (lv_at hl 2 rfl) ?_
    refine lv_iconst (v := 1) hx hb dX6_operation_9 (by decide) ?_
    refine lv_icmp_lt (tgt := 22) hx hb dX6_operation_10 (by decide) (fun c5 => ?_) (fun c5 => ?_)
    · have hM := (if_pos c5).symm.trans hM
      refine lv_ldc (own := RX6) (v := (-1000000001)) hx hb hown (hts (.constant RX6 67 (-1000000001)) (by decide +kernel)) dX6_operation_22 ?_
      exact x_iret hx hb hr hlk hP hS hM dX6_operation_24
    · have hM := (if_neg c5).symm.trans hM
      refine lv_iload_n hx hb dX6_operation_13 rfl (lv_at hl 3 rfl) ?_
      refine lv_iconst (v := 0) hx hb dX6_operation_14 (by decide) ?_
      refine lv_iconst (v := 5) hx hb dX6_operation_15 (by decide) ?_
      obtain ⟨r8, σ7, h6, hM⟩ := bnd_i hM
      refine x_callS (As := [.int u3, .int 0, .int 5]) (rest := []) hA ⟨hx, hb, hml, hown, hts⟩ (tX6_isWithin l D cA ad hJ u3 0 5 σ2 _ _ h6) (va_cwS 3 hts gX6_operation_X6_isWithin rfl rfl rfl (by decide +kernel) ⟨(Nat.le_of_ble_eq_true rfl), (Nat.le_of_ble_eq_true rfl)⟩) hK hP hS rfl hl.1 rfl (Nat.le_of_ble_eq_true rfl) ⟨Nat.zero_le _, Nat.zero_le _⟩ dX6_operation_16 (fun H locs hP hS => ?_)
      refine lv_if_ne (tgt := 25) hx hb dX6_operation_19 (by decide) (fun c9 => ?_) (fun c9 => ?_)
      · have hM := (if_neg c9).symm.trans hM
        refine lv_iload_n hx hb dX6_operation_25 rfl (lv_at hl 2 rfl) ?_
        refine lv_aload_n hx hb dX6_operation_26 rfl (lv_at hl 0 rfl) ?_
        refine x_getr (own := RX6) (C := RX6) (T := TX6) (N := 9) hx hb hts hinX6_X6_operation hown hK hP KC_sb rfl 0 (by decide) (hts (.fieldLink RX6 12 "StrokeBoard" "log" "LStrokeBoard$Log;") (by decide +kernel)) rfl dX6_operation_27 ?_
        refine lv_iload_n hx hb dX6_operation_30 rfl (lv_at hl 1 rfl) ?_
        obtain ⟨r12, σ11, h10, hM⟩ := bnd_i hM
        refine x_callV (As := [.int u1]) (rest := [.int u2]) hA ⟨hx, hb, hml, hown, hts⟩ (tX4_madeBy l D cA ad hJ u1 σ7 _ _ h10) (cwV 1 hts gX6_operation_X4_madeBy rfl rfl rfl (by decide +kernel) ⟨(Nat.le_of_ble_eq_true rfl), (Nat.le_of_ble_eq_true rfl)⟩) hK hP hS KC_log rfl rfl hl.1 rfl (Nat.le_of_ble_eq_true rfl) ⟨Nat.zero_le _, Nat.zero_le _⟩ dX6_operation_31 (fun H locs hP hS _ _ => ?_)
        refine lv_icmp_le (tgt := 40) hx hb dX6_operation_34 (by decide) (fun c13 => ?_) (fun c13 => ?_)
        · have hM := (if_pos c13).symm.trans hM
          refine lv_iload_n hx hb dX6_operation_40 rfl (lv_at hl 1 rfl) ?_
          refine lv_iload_n hx hb dX6_operation_41 rfl (lv_at hl 2 rfl) ?_
          obtain ⟨r16, σ15, h14, hM⟩ := bnd_i hM
          refine x_callS (As := [.int u1, .int u2]) (rest := []) hA ⟨hx, hb, hml, hown, hts⟩ (tX6_idOf l D cA ad hJ u1 u2 σ11 _ _ h14) (va_cwS 2 hts gX6_operation_X6_idOf rfl rfl rfl (by decide +kernel) ⟨(Nat.le_of_ble_eq_true rfl), (Nat.le_of_ble_eq_true rfl)⟩) hK hP hS rfl hl.1 rfl (Nat.le_of_ble_eq_true rfl) ⟨Nat.zero_le _, Nat.zero_le _⟩ dX6_operation_42 (fun H locs hP hS => ?_)
          refine lv_istore (lv' := [(4, .int r16), (0, .ref (ad 62)), (1, .int u1), (2, .int u2), (3, .int u3)]) hx hb dX6_operation_45 hl (by decide) rfl (fun ls hl => ?_)
          refine lv_iload_n hx hb dX6_operation_47 rfl (lv_at hl 4 rfl) ?_
          by_cases c17 : u3 = 0
          · have hM := (if_pos c17).symm.trans hM
            refine lv_tableIn (tgt := 84) (off := 36) hx hb dX6_operation_48 (by rw [c17]; decide) (by rw [c17]; decide) (by rw [c17]; rfl) (by decide) ?_
            refine lv_aload_n hx hb dX6_operation_84 rfl (lv_at hl 1 rfl) ?_
            refine x_getr (own := RX6) (C := RX6) (T := TX6) (N := 9) hx hb hts hinX6_X6_operation hown hK hP KC_sb rfl 0 (by decide) (hts (.fieldLink RX6 12 "StrokeBoard" "log" "LStrokeBoard$Log;") (by decide +kernel)) rfl dX6_operation_85 ?_
            refine lv_iload hx hb dX6_operation_88 (lv_at hl 0 rfl) ?_
            obtain ⟨r20, σ19, h18, hM⟩ := bnd_i hM
            refine x_callV (As := [.int r16]) (rest := []) hA ⟨hx, hb, hml, hown, hts⟩ (tX4_kindOf l D cA ad hJ r16 σ15 _ _ h18) (cwV 1 hts gX6_operation_X4_kindOf rfl rfl rfl (by decide +kernel) ⟨(Nat.le_of_ble_eq_true rfl), (Nat.le_of_ble_eq_true rfl)⟩) hK hP hS KC_log rfl rfl hl.1 rfl (Nat.le_of_ble_eq_true rfl) ⟨Nat.zero_le _, Nat.zero_le _⟩ dX6_operation_90 (fun H locs hP hS _ _ => ?_)
            exact x_iret hx hb hr hlk hP hS hM dX6_operation_93
          · have hM := (if_neg c17).symm.trans hM
            by_cases c21 : u3 = 1
            · have hM := (if_pos c21).symm.trans hM
              refine lv_tableIn (tgt := 94) (off := 46) hx hb dX6_operation_48 (by rw [c21]; decide) (by rw [c21]; decide) (by rw [c21]; rfl) (by decide) ?_
              refine lv_aload_n hx hb dX6_operation_94 rfl (lv_at hl 1 rfl) ?_
              refine x_getr (own := RX6) (C := RX6) (T := TX6) (N := 9) hx hb hts hinX6_X6_operation hown hK hP KC_sb rfl 0 (by decide) (hts (.fieldLink RX6 12 "StrokeBoard" "log" "LStrokeBoard$Log;") (by decide +kernel)) rfl dX6_operation_95 ?_
              refine lv_iload hx hb dX6_operation_98 (lv_at hl 0 rfl) ?_
              obtain ⟨r24, σ23, h22, hM⟩ := bnd_i hM
              refine x_callV (As := [.int r16]) (rest := []) hA ⟨hx, hb, hml, hown, hts⟩ (tX4_timeOf l D cA ad hJ r16 σ15 _ _ h22) (cwV 1 hts gX6_operation_X4_timeOf rfl rfl rfl (by decide +kernel) ⟨(Nat.le_of_ble_eq_true rfl), (Nat.le_of_ble_eq_true rfl)⟩) hK hP hS KC_log rfl rfl hl.1 rfl (Nat.le_of_ble_eq_true rfl) ⟨Nat.zero_le _, Nat.zero_le _⟩ dX6_operation_100 (fun H locs hP hS _ _ => ?_)
              exact x_iret hx hb hr hlk hP hS hM dX6_operation_103
            · have hM := (if_neg c21).symm.trans hM
              by_cases c25 : u3 = 2
              · have hM := (if_pos c25).symm.trans hM
                refine lv_tableIn (tgt := 104) (off := 56) hx hb dX6_operation_48 (by rw [c25]; decide) (by rw [c25]; decide) (by rw [c25]; rfl) (by decide) ?_
                refine lv_aload_n hx hb dX6_operation_104 rfl (lv_at hl 1 rfl) ?_
                refine x_getr (own := RX6) (C := RX6) (T := TX6) (N := 9) hx hb hts hinX6_X6_operation hown hK hP KC_sb rfl 0 (by decide) (hts (.fieldLink RX6 12 "StrokeBoard" "log" "LStrokeBoard$Log;") (by decide +kernel)) rfl dX6_operation_105 ?_
                refine lv_iload hx hb dX6_operation_108 (lv_at hl 0 rfl) ?_
                obtain ⟨r28, σ27, h26, hM⟩ := bnd_i hM
                refine x_callV (As := [.int r16]) (rest := []) hA ⟨hx, hb, hml, hown, hts⟩ (tX4_sizeOf l D cA ad hJ r16 σ15 _ _ h26) (cwV 1 hts gX6_operation_X4_sizeOf rfl rfl rfl (by decide +kernel) ⟨(Nat.le_of_ble_eq_true rfl), (Nat.le_of_ble_eq_true rfl)⟩) hK hP hS KC_log rfl rfl hl.1 rfl (Nat.le_of_ble_eq_true rfl) ⟨Nat.zero_le _, Nat.zero_le _⟩ dX6_operation_110 (fun H locs hP hS _ _ => ?_)
                exact x_iret hx hb hr hlk hP hS hM dX6_operation_113
              · have hM := (if_neg c25).symm.trans hM
                by_cases c29 : u3 = 3
                · have hM := (if_pos c29).symm.trans hM
                  refine lv_tableIn (tgt := 114) (off := 66) hx hb dX6_operation_48 (by rw [c29]; decide) (by rw [c29]; decide) (by rw [c29]; rfl) (by decide) ?_
                  refine lv_aload_n hx hb dX6_operation_114 rfl (lv_at hl 1 rfl) ?_
                  refine x_getr (own := RX6) (C := RX6) (T := TX6) (N := 9) hx hb hts hinX6_X6_operation hown hK hP KC_sb rfl 0 (by decide) (hts (.fieldLink RX6 12 "StrokeBoard" "log" "LStrokeBoard$Log;") (by decide +kernel)) rfl dX6_operation_115 ?_
                  refine lv_iload hx hb dX6_operation_118 (lv_at hl 0 rfl) ?_
                  obtain ⟨r32, σ31, h30, hM⟩ := bnd_i hM
                  refine x_callV (As := [.int r16]) (rest := []) hA ⟨hx, hb, hml, hown, hts⟩ (tX4_isStroke l D cA ad hJ r16 σ15 _ _ h30) (cwV 1 hts gX6_operation_X4_isStroke rfl rfl rfl (by decide +kernel) ⟨(Nat.le_of_ble_eq_true rfl), (Nat.le_of_ble_eq_true rfl)⟩) hK hP hS KC_log rfl rfl hl.1 rfl (Nat.le_of_ble_eq_true rfl) ⟨Nat.zero_le _, Nat.zero_le _⟩ dX6_operation_120 (fun H locs hP hS _ _ => ?_)
                  refine lv_if_eq (tgt := 141) hx hb dX6_operation_123 (by decide) (fun c33 => ?_) (fun c33 => ?_)
                  · have hM := (if_pos c33).symm.trans hM
                    refine lv_aload_n hx hb dX6_operation_141 rfl (lv_at hl 1 rfl) ?_
                    refine x_getr (own := RX6) (C := RX6) (T := TX6) (N := 9) hx hb hts hinX6_X6_operation hown hK hP KC_sb rfl 0 (by decide) (hts (.fieldLink RX6 12 "StrokeBoard" "log" "LStrokeBoard$Log;") (by decide +kernel)) rfl dX6_operation_142 ?_
                    refine lv_iload hx hb dX6_operation_145 (lv_at hl 0 rfl) ?_
                    obtain ⟨r36, σ35, h34, hM⟩ := bnd_i hM
                    refine x_callV (As := [.int r16]) (rest := []) hA ⟨hx, hb, hml, hown, hts⟩ (tX4_targetOf l D cA ad hJ r16 σ31 _ _ h34) (cwV 1 hts gX6_operation_X4_targetOf rfl rfl rfl (by decide +kernel) ⟨(Nat.le_of_ble_eq_true rfl), (Nat.le_of_ble_eq_true rfl)⟩) hK hP hS KC_log rfl rfl hl.1 rfl (Nat.le_of_ble_eq_true rfl) ⟨Nat.zero_le _, Nat.zero_le _⟩ dX6_operation_147 (fun H locs hP hS _ _ => ?_)
                    obtain ⟨r39, σ38, h37, hM⟩ := bnd_i hM
                    refine x_callS (As := [.int r36]) (rest := []) hA ⟨hx, hb, hml, hown, hts⟩ (tX6_numberOf l D cA ad hJ r36 σ35 _ _ h37) (va_cwS 1 hts gX6_operation_X6_numberOf rfl rfl rfl (by decide +kernel) ⟨(Nat.le_of_ble_eq_true rfl), (Nat.le_of_ble_eq_true rfl)⟩) hK hP hS rfl hl.1 rfl (Nat.le_of_ble_eq_true rfl) ⟨Nat.zero_le _, Nat.zero_le _⟩ dX6_operation_150 (fun H locs hP hS => ?_)
                    exact x_iret hx hb hr hlk hP hS hM dX6_operation_153
                  · have hM := (if_neg c33).symm.trans hM
                    refine lv_aload_n hx hb dX6_operation_126 rfl (lv_at hl 1 rfl) ?_
                    refine x_getr (own := RX6) (C := RX6) (T := TX6) (N := 9) hx hb hts hinX6_X6_operation hown hK hP KC_sb rfl 0 (by decide) (hts (.fieldLink RX6 12 "StrokeBoard" "log" "LStrokeBoard$Log;") (by decide +kernel)) rfl dX6_operation_127 ?_
                    refine x_getrN (own := RX6) (C := RX4) (T := TX4) (N := 8) hx hb hts hinX4_X6_operation hown hK hP KC_log rfl 6 (by decide) (nw_f hK.2 2 rfl) rfl dX6_operation_130 ?_
                    refine lv_iload hx hb dX6_operation_133 (lv_at hl 0 rfl) ?_
                    obtain ⟨r42, σ41, h40, hM⟩ := bnd_i hM
                    refine x_callV (As := [.int r16]) (rest := []) hA ⟨hx, hb, hml, hown, hts⟩ (tX1_pointCount l D cA ad hJ 0 (by omega) r16 σ31 _ _ h40) (cwV 1 hts gX6_operation_X1_pointCount rfl rfl rfl (by decide +kernel) ⟨(Nat.le_of_ble_eq_true rfl), (Nat.le_of_ble_eq_true rfl)⟩) hK hP hS (KC_ink 0 (by omega)) rfl rfl hl.1 rfl (Nat.le_of_ble_eq_true rfl) ⟨Nat.zero_le _, Nat.zero_le _⟩ dX6_operation_135 (fun H locs hP hS _ _ => ?_)
                    refine lv_goto (tgt := 153) hx hb dX6_operation_138 (by decide) ?_
                    exact x_iret hx hb hr hlk hP hS hM dX6_operation_153
                · have hM := (if_neg c29).symm.trans hM
                  by_cases c43 : u3 = 4
                  · have hM := (if_pos c43).symm.trans hM
                    refine lv_tableIn (tgt := 154) (off := 106) hx hb dX6_operation_48 (by rw [c43]; decide) (by rw [c43]; decide) (by rw [c43]; rfl) (by decide) ?_
                    refine lv_aload_n hx hb dX6_operation_154 rfl (lv_at hl 1 rfl) ?_
                    refine x_getr (own := RX6) (C := RX6) (T := TX6) (N := 9) hx hb hts hinX6_X6_operation hown hK hP KC_sb rfl 0 (by decide) (hts (.fieldLink RX6 12 "StrokeBoard" "log" "LStrokeBoard$Log;") (by decide +kernel)) rfl dX6_operation_155 ?_
                    refine lv_iload hx hb dX6_operation_158 (lv_at hl 0 rfl) ?_
                    obtain ⟨r46, σ45, h44, hM⟩ := bnd_i hM
                    refine x_callV (As := [.int r16]) (rest := []) hA ⟨hx, hb, hml, hown, hts⟩ (tX4_kindOf l D cA ad hJ r16 σ15 _ _ h44) (cwV 1 hts gX6_operation_X4_kindOf rfl rfl rfl (by decide +kernel) ⟨(Nat.le_of_ble_eq_true rfl), (Nat.le_of_ble_eq_true rfl)⟩) hK hP hS KC_log rfl rfl hl.1 rfl (Nat.le_of_ble_eq_true rfl) ⟨Nat.zero_le _, Nat.zero_le _⟩ dX6_operation_160 (fun H locs hP hS _ _ => ?_)
                    refine lv_iconst (v := 3) hx hb dX6_operation_163 (by decide) ?_
                    refine lv_icmp_ne (tgt := 182) hx hb dX6_operation_164 (by decide) (fun c47 => ?_) (fun c47 => ?_)
                    · have hM := (if_neg c47).symm.trans hM
                      refine lv_iload_n hx hb dX6_operation_182 rfl (lv_at hl 2 rfl) ?_
                      exact x_iret hx hb hr hlk hP hS hM dX6_operation_183
                    · have hM := (if_pos c47).symm.trans hM
                      refine lv_aload_n hx hb dX6_operation_167 rfl (lv_at hl 1 rfl) ?_
                      refine x_getr (own := RX6) (C := RX6) (T := TX6) (N := 9) hx hb hts hinX6_X6_operation hown hK hP KC_sb rfl 0 (by decide) (hts (.fieldLink RX6 12 "StrokeBoard" "log" "LStrokeBoard$Log;") (by decide +kernel)) rfl dX6_operation_168 ?_
                      refine lv_iload hx hb dX6_operation_171 (lv_at hl 0 rfl) ?_
                      obtain ⟨r50, σ49, h48, hM⟩ := bnd_i hM
                      refine x_callV (As := [.int r16]) (rest := []) hA ⟨hx, hb, hml, hown, hts⟩ (tX4_targetOf l D cA ad hJ r16 σ45 _ _ h48) (cwV 1 hts gX6_operation_X4_targetOf rfl rfl rfl (by decide +kernel) ⟨(Nat.le_of_ble_eq_true rfl), (Nat.le_of_ble_eq_true rfl)⟩) hK hP hS KC_log rfl rfl hl.1 rfl (Nat.le_of_ble_eq_true rfl) ⟨Nat.zero_le _, Nat.zero_le _⟩ dX6_operation_173 (fun H locs hP hS _ _ => ?_)
                      obtain ⟨r53, σ52, h51, hM⟩ := bnd_i hM
                      refine x_callS (As := [.int r50]) (rest := []) hA ⟨hx, hb, hml, hown, hts⟩ (tX6_authorOf l D cA ad hJ r50 σ49 _ _ h51) (va_cwS 1 hts gX6_operation_X6_authorOf rfl rfl rfl (by decide +kernel) ⟨(Nat.le_of_ble_eq_true rfl), (Nat.le_of_ble_eq_true rfl)⟩) hK hP hS rfl hl.1 rfl (Nat.le_of_ble_eq_true rfl) ⟨Nat.zero_le _, Nat.zero_le _⟩ dX6_operation_176 (fun H locs hP hS => ?_)
                      refine lv_goto (tgt := 183) hx hb dX6_operation_179 (by decide) ?_
                      exact x_iret hx hb hr hlk hP hS hM dX6_operation_183
                  · have hM := (if_neg c43).symm.trans hM
                    refine lv_tableOut (tgt := 184) hx hb dX6_operation_48 (by
                      rcases Int.lt_or_le (Int32.toInt u3) 0 with h9 | h9
                      · exact Or.inl h9
                      · rcases Int.lt_or_le 4 (Int32.toInt u3) with h8 | h8
                        · exact Or.inr h8
                        · exfalso
                          rcases (show Int32.toInt u3 = 0 ∨ Int32.toInt u3 = 1 ∨ Int32.toInt u3 = 2 ∨ Int32.toInt u3 = 3 ∨ Int32.toInt u3 = 4 by omega) with h7 | h7 | h7 | h7 | h7
                          · exact c17 (Int32.toInt_inj.mp (h7.trans (by decide)))
                          · exact c21 (Int32.toInt_inj.mp (h7.trans (by decide)))
                          · exact c25 (Int32.toInt_inj.mp (h7.trans (by decide)))
                          · exact c29 (Int32.toInt_inj.mp (h7.trans (by decide)))
                          · exact c43 (Int32.toInt_inj.mp (h7.trans (by decide)))) (by decide) ?_
                    refine lv_aload_n hx hb dX6_operation_184 rfl (lv_at hl 1 rfl) ?_
                    refine x_getr (own := RX6) (C := RX6) (T := TX6) (N := 9) hx hb hts hinX6_X6_operation hown hK hP KC_sb rfl 0 (by decide) (hts (.fieldLink RX6 12 "StrokeBoard" "log" "LStrokeBoard$Log;") (by decide +kernel)) rfl dX6_operation_185 ?_
                    refine lv_iload hx hb dX6_operation_188 (lv_at hl 0 rfl) ?_
                    obtain ⟨r56, σ55, h54, hM⟩ := bnd_i hM
                    refine x_callV (As := [.int r16]) (rest := []) hA ⟨hx, hb, hml, hown, hts⟩ (tX4_layerOf l D cA ad hJ r16 σ15 _ _ h54) (cwV 1 hts gX6_operation_X4_layerOf rfl rfl rfl (by decide +kernel) ⟨(Nat.le_of_ble_eq_true rfl), (Nat.le_of_ble_eq_true rfl)⟩) hK hP hS KC_log rfl rfl hl.1 rfl (Nat.le_of_ble_eq_true rfl) ⟨Nat.zero_le _, Nat.zero_le _⟩ dX6_operation_190 (fun H locs hP hS _ _ => ?_)
                    exact x_iret hx hb hr hlk hP hS hM dX6_operation_193
        · have hM := (if_neg c13).symm.trans hM
          refine lv_ldc (own := RX6) (v := (-1000000004)) hx hb hown (hts (.constant RX6 162 (-1000000004)) (by decide +kernel)) dX6_operation_37 ?_
          exact x_iret hx hb hr hlk hP hS hM dX6_operation_39
      · have hM := (if_pos c9).symm.trans hM
        refine lv_ldc (own := RX6) (v := (-1000000001)) hx hb hown (hts (.constant RX6 67 (-1000000001)) (by decide +kernel)) dX6_operation_22 ?_
        exact x_iret hx hb hr hlk hP hS hM dX6_operation_24
theorem hinX6_X6_knows : ∀ w ∈ u_ws RX6 TX6 9, w ∈ wsX6_knows := by decide +kernel
set_option maxHeartbeats 4000000 in
set_option maxRecDepth 100000 in
theorem tX6_knows (l : Launch) (D : va_G) (cA : ClassId) (ad : Nat → Nat) (hJ : w_J ad KC) (u1 u2 u3 : Int32) (σ σ' : St) (r : Int32) (hM : mX6_knows u1 u2 u3 σ = some (r, σ')) : Ct l yX6_knows wsX6_knows 2 43 D cA ad KC [.ref (ad 62), .int u1, .int u2, .int u3] σ r σ' := by
  unfold Ct
  refine Met_of (cc := cX6_knows) (maxL := 4) (ret := (some .int)) hJ (by decide +kernel) rfl (Nat.le_of_ble_eq_true rfl) ?_
  intro p e s m below meth c Z H locs ls hP hS hl
  obtain ⟨hx, hb, hml, hown, hts, hr, hlk, hK, -⟩ := Z
  have hown : s.vm.findClass RX6 = some m.cls := hown
  have hl : lv_has ls 4 [(0, .ref (ad 62)), (1, .int u1), (2, .int u2), (3, .int u3)] := hl
  have hA : ∀ q, w_A ad KC q → w_A ad KC q := fun _ h => h
  unfold mX6_knows at hM
  refine lv_aload_n hx hb dX6_knows_0 rfl (lv_at hl 0 rfl) ?_
  refine lv_iload_n hx hb dX6_knows_1 rfl (lv_at hl 1 rfl) ?_
  obtain ⟨r3, σ2, h1, hM⟩ := bnd_i hM
  refine x_callV (As := [.int u1]) (rest := []) hA ⟨hx, hb, hml, hown, hts⟩ (tX6_isSite l D cA ad hJ u1 σ _ _ h1) (cwV 1 hts gX6_knows_X6_isSite rfl rfl rfl (by decide +kernel) ⟨(Nat.le_of_ble_eq_true rfl), (Nat.le_of_ble_eq_true rfl)⟩) hK hP hS KC_sb rfl rfl hl.1 rfl (Nat.le_of_ble_eq_true rfl) ⟨Nat.zero_le _, Nat.zero_le _⟩ dX6_knows_2 (fun H locs hP hS _ _ => ?_)
  refine lv_if_eq (tgt := 21) hx hb dX6_knows_5 (by decide) (fun c4 => ?_) (fun c4 => ?_)
  · have hM := (if_pos c4).symm.trans hM
    refine lv_ldc (own := RX6) (v := (-1000000001)) hx hb hown (hts (.constant RX6 67 (-1000000001)) (by decide +kernel)) dX6_knows_21 ?_
    exact x_iret hx hb hr hlk hP hS hM dX6_knows_23
  · have hM := (if_neg c4).symm.trans hM
    refine lv_aload_n hx hb dX6_knows_8 rfl (lv_at hl 0 rfl) ?_
    refine lv_iload_n hx hb dX6_knows_9 rfl (lv_at hl 2 rfl) ?_
    obtain ⟨r7, σ6, h5, hM⟩ := bnd_i hM
    refine x_callV (As := [.int u2]) (rest := []) hA ⟨hx, hb, hml, hown, hts⟩ (tX6_isSite l D cA ad hJ u2 σ2 _ _ h5) (cwV 1 hts gX6_knows_X6_isSite rfl rfl rfl (by decide +kernel) ⟨(Nat.le_of_ble_eq_true rfl), (Nat.le_of_ble_eq_true rfl)⟩) hK hP hS KC_sb rfl rfl hl.1 rfl (Nat.le_of_ble_eq_true rfl) ⟨Nat.zero_le _, Nat.zero_le _⟩ dX6_knows_10 (fun H locs hP hS _ _ => ?_)
    refine lv_if_eq (tgt := 21) hx hb dX6_knows_13 (by decide) (fun c8 => ?_) (fun c8 => ?_)
    · have hM := (if_pos c8).symm.trans hM
      refine lv_ldc (own := RX6) (v := (-1000000001)) hx hb hown (hts (.constant RX6 67 (-1000000001)) (by decide +kernel)) dX6_knows_21 ?_
      exact x_iret hx hb hr hlk hP hS hM dX6_knows_23
    · have hM := (if_neg c8).symm.trans hM
      refine lv_iload_n hx hb dX6_knows_16 rfl (lv_at hl 3 rfl) ?_
      refine lv_iconst (v := 1) hx hb dX6_knows_17 (by decide) ?_
      refine lv_icmp_ge (tgt := 24) hx hb dX6_knows_18 (by decide) (fun c9 => ?_) (fun c9 => ?_)
      · have hM := (if_pos c9).symm.trans hM
        refine lv_iload_n hx hb dX6_knows_24 rfl (lv_at hl 3 rfl) ?_
        refine lv_aload_n hx hb dX6_knows_25 rfl (lv_at hl 0 rfl) ?_
        refine x_getr (own := RX6) (C := RX6) (T := TX6) (N := 9) hx hb hts hinX6_X6_knows hown hK hP KC_sb rfl 0 (by decide) (hts (.fieldLink RX6 12 "StrokeBoard" "log" "LStrokeBoard$Log;") (by decide +kernel)) rfl dX6_knows_26 ?_
        refine lv_iload_n hx hb dX6_knows_29 rfl (lv_at hl 2 rfl) ?_
        obtain ⟨r12, σ11, h10, hM⟩ := bnd_i hM
        refine x_callV (As := [.int u2]) (rest := [.int u3]) hA ⟨hx, hb, hml, hown, hts⟩ (tX4_madeBy l D cA ad hJ u2 σ6 _ _ h10) (cwV 1 hts gX6_knows_X4_madeBy rfl rfl rfl (by decide +kernel) ⟨(Nat.le_of_ble_eq_true rfl), (Nat.le_of_ble_eq_true rfl)⟩) hK hP hS KC_log rfl rfl hl.1 rfl (Nat.le_of_ble_eq_true rfl) ⟨Nat.zero_le _, Nat.zero_le _⟩ dX6_knows_30 (fun H locs hP hS _ _ => ?_)
        refine lv_icmp_le (tgt := 39) hx hb dX6_knows_33 (by decide) (fun c13 => ?_) (fun c13 => ?_)
        · have hM := (if_pos c13).symm.trans hM
          refine lv_aload_n hx hb dX6_knows_39 rfl (lv_at hl 0 rfl) ?_
          refine x_getr (own := RX6) (C := RX6) (T := TX6) (N := 9) hx hb hts hinX6_X6_knows hown hK hP KC_sb rfl 2 (by decide) (hts (.fieldLink RX6 28 "StrokeBoard" "knowledge" "LStrokeBoard$Knowledge;") (by decide +kernel)) rfl dX6_knows_40 ?_
          refine lv_iload_n hx hb dX6_knows_43 rfl (lv_at hl 1 rfl) ?_
          refine lv_iload_n hx hb dX6_knows_44 rfl (lv_at hl 2 rfl) ?_
          refine lv_iload_n hx hb dX6_knows_45 rfl (lv_at hl 3 rfl) ?_
          obtain ⟨r16, σ15, h14, hM⟩ := bnd_i hM
          refine x_callS (As := [.int u2, .int u3]) (rest := [.int u1, .ref (ad (57 + 0))]) hA ⟨hx, hb, hml, hown, hts⟩ (tX6_idOf l D cA ad hJ u2 u3 σ11 _ _ h14) (va_cwS 2 hts gX6_knows_X6_idOf rfl rfl rfl (by decide +kernel) ⟨(Nat.le_of_ble_eq_true rfl), (Nat.le_of_ble_eq_true rfl)⟩) hK hP hS rfl hl.1 rfl (Nat.le_of_ble_eq_true rfl) ⟨Nat.zero_le _, Nat.zero_le _⟩ dX6_knows_46 (fun H locs hP hS => ?_)
          obtain ⟨r19, σ18, h17, hM⟩ := bnd_i hM
          refine x_callV (As := [.int u1, .int r16]) (rest := []) hA ⟨hx, hb, hml, hown, hts⟩ (tX2_has l D cA ad hJ 0 (by omega) u1 r16 σ15 _ _ h17) (cwV 2 hts gX6_knows_X2_has rfl rfl rfl (by decide +kernel) ⟨(Nat.le_of_ble_eq_true rfl), (Nat.le_of_ble_eq_true rfl)⟩) hK hP hS (KC_kno 0 (by omega)) rfl rfl hl.1 rfl (Nat.le_of_ble_eq_true rfl) ⟨Nat.zero_le _, Nat.zero_le _⟩ dX6_knows_49 (fun H locs hP hS _ _ => ?_)
          refine lv_if_eq (tgt := 59) hx hb dX6_knows_52 (by decide) (fun c20 => ?_) (fun c20 => ?_)
          · have hM := (if_pos c20).symm.trans hM
            refine lv_iconst (v := 0) hx hb dX6_knows_59 (by decide) ?_
            exact x_iret hx hb hr hlk hP hS hM dX6_knows_60
          · have hM := (if_neg c20).symm.trans hM
            refine lv_iconst (v := 1) hx hb dX6_knows_55 (by decide) ?_
            refine lv_goto (tgt := 60) hx hb dX6_knows_56 (by decide) ?_
            exact x_iret hx hb hr hlk hP hS hM dX6_knows_60
        · have hM := (if_neg c13).symm.trans hM
          refine lv_ldc (own := RX6) (v := (-1000000004)) hx hb hown (hts (.constant RX6 162 (-1000000004)) (by decide +kernel)) dX6_knows_36 ?_
          exact x_iret hx hb hr hlk hP hS hM dX6_knows_38
      · have hM := (if_neg c9).symm.trans hM
        refine lv_ldc (own := RX6) (v := (-1000000001)) hx hb hown (hts (.constant RX6 67 (-1000000001)) (by decide +kernel)) dX6_knows_21 ?_
        exact x_iret hx hb hr hlk hP hS hM dX6_knows_23
theorem hinX4_X6_coordinate : ∀ w ∈ u_ws RX4 TX4 8, w ∈ wsX6_coordinate := by decide +kernel
theorem hinX6_X6_coordinate : ∀ w ∈ u_ws RX6 TX6 9, w ∈ wsX6_coordinate := by decide +kernel
set_option maxHeartbeats 4000000 in
set_option maxRecDepth 100000 in
theorem tX6_coordinate (l : Launch) (D : va_G) (cA : ClassId) (ad : Nat → Nat) (hJ : w_J ad KC) (u1 u2 : Int32) (σ σ' : St) (r : Int32) (hM : mX6_coordinate u1 u2 σ = some (r, σ')) : Ct l yX6_coordinate wsX6_coordinate 2 43 D cA ad KC [.ref (ad 62), .int u1, .int u2] σ r σ' := by
  unfold Ct
  refine Met_of (cc := cX6_coordinate) (maxL := 4) (ret := (some .int)) hJ (by decide +kernel) rfl (Nat.le_of_ble_eq_true rfl) ?_
  intro p e s m below meth c Z H locs ls hP hS hl
  obtain ⟨hx, hb, hml, hown, hts, hr, hlk, hK, -⟩ := Z
  have hown : s.vm.findClass RX6 = some m.cls := hown
  have hl : lv_has ls 4 [(0, .ref (ad 62)), (1, .int u1), (2, .int u2)] := hl
  have hA : ∀ q, w_A ad KC q → w_A ad KC q := fun _ h => h
  unfold mX6_coordinate at hM
  refine lv_iload_n hx hb dX6_coordinate_0 rfl (lv_at hl 2 rfl) ?_
  refine lv_iconst (v := 2) hx hb dX6_coordinate_1 (by decide) ?_
  refine lv_idiv hx hb dX6_coordinate_2 (by decide) ?_
  refine lv_istore_n (lv' := [(3, .int (u2 / 2)), (0, .ref (ad 62)), (1, .int u1), (2, .int u2)]) hx hb dX6_coordinate_3 rfl hl (by decide) rfl (fun ls hl => ?_)
  refine lv_iload_n hx hb dX6_coordinate_4 rfl (lv_at hl 0 rfl) ?_
  refine lv_aload_n hx hb dX6_coordinate_5 rfl (lv_at hl 1 rfl) ?_
  refine x_getr (own := RX6) (C := RX6) (T := TX6) (N := 9) hx hb hts hinX6_X6_coordinate hown hK hP KC_sb rfl 0 (by decide) (hts (.fieldLink RX6 12 "StrokeBoard" "log" "LStrokeBoard$Log;") (by decide +kernel)) rfl dX6_coordinate_6 ?_
  refine x_getrN (own := RX6) (C := RX4) (T := TX4) (N := 8) hx hb hts hinX4_X6_coordinate hown hK hP KC_log rfl 6 (by decide) (nw_f hK.2 2 rfl) rfl dX6_coordinate_9 ?_
  refine lv_iload_n hx hb dX6_coordinate_12 rfl (lv_at hl 2 rfl) ?_
  obtain ⟨r3, σ2, h1, hM⟩ := bnd_i hM
  refine x_callV (As := [.int u1]) (rest := [.int (u2 / 2)]) hA ⟨hx, hb, hml, hown, hts⟩ (tX1_pointCount l D cA ad hJ 0 (by omega) u1 σ _ _ h1) (cwV 1 hts gX6_coordinate_X1_pointCount rfl rfl rfl (by decide +kernel) ⟨(Nat.le_of_ble_eq_true rfl), (Nat.le_of_ble_eq_true rfl)⟩) hK hP hS (KC_ink 0 (by omega)) rfl rfl hl.1 rfl (Nat.le_of_ble_eq_true rfl) ⟨Nat.zero_le _, Nat.zero_le _⟩ dX6_coordinate_13 (fun H locs hP hS _ _ => ?_)
  refine lv_icmp_lt (tgt := 22) hx hb dX6_coordinate_16 (by decide) (fun c4 => ?_) (fun c4 => ?_)
  · have hM := (if_pos c4).symm.trans hM
    refine lv_iload_n hx hb dX6_coordinate_22 rfl (lv_at hl 3 rfl) ?_
    refine lv_iconst (v := 2) hx hb dX6_coordinate_23 (by decide) ?_
    refine lv_irem hx hb dX6_coordinate_24 (by decide) ?_
    refine lv_if_ne (tgt := 43) hx hb dX6_coordinate_25 (by decide) (fun c5 => ?_) (fun c5 => ?_)
    · have hM := (if_neg c5).symm.trans hM
      refine lv_aload_n hx hb dX6_coordinate_43 rfl (lv_at hl 1 rfl) ?_
      refine x_getr (own := RX6) (C := RX6) (T := TX6) (N := 9) hx hb hts hinX6_X6_coordinate hown hK hP KC_sb rfl 0 (by decide) (hts (.fieldLink RX6 12 "StrokeBoard" "log" "LStrokeBoard$Log;") (by decide +kernel)) rfl dX6_coordinate_44 ?_
      refine x_getrN (own := RX6) (C := RX4) (T := TX4) (N := 8) hx hb hts hinX4_X6_coordinate hown hK hP KC_log rfl 6 (by decide) (nw_f hK.2 2 rfl) rfl dX6_coordinate_47 ?_
      refine lv_iload_n hx hb dX6_coordinate_50 rfl (lv_at hl 2 rfl) ?_
      refine lv_iload_n hx hb dX6_coordinate_51 rfl (lv_at hl 0 rfl) ?_
      obtain ⟨r8, σ7, h6, hM⟩ := bnd_i hM
      refine x_callV (As := [.int u1, .int (u2 / 2)]) (rest := []) hA ⟨hx, hb, hml, hown, hts⟩ (tX1_yOf l D cA ad hJ 0 (by omega) u1 (u2 / 2) σ2 _ _ h6) (cwV 2 hts gX6_coordinate_X1_yOf rfl rfl rfl (by decide +kernel) ⟨(Nat.le_of_ble_eq_true rfl), (Nat.le_of_ble_eq_true rfl)⟩) hK hP hS (KC_ink 0 (by omega)) rfl rfl hl.1 rfl (Nat.le_of_ble_eq_true rfl) ⟨Nat.zero_le _, Nat.zero_le _⟩ dX6_coordinate_52 (fun H locs hP hS _ _ => ?_)
      exact x_iret hx hb hr hlk hP hS hM dX6_coordinate_55
    · have hM := (if_pos c5).symm.trans hM
      refine lv_aload_n hx hb dX6_coordinate_28 rfl (lv_at hl 1 rfl) ?_
      refine x_getr (own := RX6) (C := RX6) (T := TX6) (N := 9) hx hb hts hinX6_X6_coordinate hown hK hP KC_sb rfl 0 (by decide) (hts (.fieldLink RX6 12 "StrokeBoard" "log" "LStrokeBoard$Log;") (by decide +kernel)) rfl dX6_coordinate_29 ?_
      refine x_getrN (own := RX6) (C := RX4) (T := TX4) (N := 8) hx hb hts hinX4_X6_coordinate hown hK hP KC_log rfl 6 (by decide) (nw_f hK.2 2 rfl) rfl dX6_coordinate_32 ?_
      refine lv_iload_n hx hb dX6_coordinate_35 rfl (lv_at hl 2 rfl) ?_
      refine lv_iload_n hx hb dX6_coordinate_36 rfl (lv_at hl 0 rfl) ?_
      obtain ⟨r11, σ10, h9, hM⟩ := bnd_i hM
      refine x_callV (As := [.int u1, .int (u2 / 2)]) (rest := []) hA ⟨hx, hb, hml, hown, hts⟩ (tX1_xOf l D cA ad hJ 0 (by omega) u1 (u2 / 2) σ2 _ _ h9) (cwV 2 hts gX6_coordinate_X1_xOf rfl rfl rfl (by decide +kernel) ⟨(Nat.le_of_ble_eq_true rfl), (Nat.le_of_ble_eq_true rfl)⟩) hK hP hS (KC_ink 0 (by omega)) rfl rfl hl.1 rfl (Nat.le_of_ble_eq_true rfl) ⟨Nat.zero_le _, Nat.zero_le _⟩ dX6_coordinate_37 (fun H locs hP hS _ _ => ?_)
      refine lv_goto (tgt := 55) hx hb dX6_coordinate_40 (by decide) ?_
      exact x_iret hx hb hr hlk hP hS hM dX6_coordinate_55
  · have hM := (if_neg c4).symm.trans hM
    refine lv_ldc (own := RX6) (v := (-1000000004)) hx hb hown (hts (.constant RX6 162 (-1000000004)) (by decide +kernel)) dX6_coordinate_19 ?_
    exact x_iret hx hb hr hlk hP hS hM dX6_coordinate_21
theorem hinX4_X6_strokeValue : ∀ w ∈ u_ws RX4 TX4 8, w ∈ wsX6_strokeValue := by decide +kernel
theorem hinX6_X6_strokeValue : ∀ w ∈ u_ws RX6 TX6 9, w ∈ wsX6_strokeValue := by decide +kernel
set_option maxHeartbeats 4000000 in
set_option maxRecDepth 100000 in
theorem tX6_strokeValue (l : Launch) (D : va_G) (cA : ClassId) (ad : Nat → Nat) (hJ : w_J ad KC) (u1 u2 : Int32) (σ σ' : St) (r : Int32) (hM : mX6_strokeValue u1 u2 σ = some (r, σ')) : Ct l yX6_strokeValue wsX6_strokeValue 2 42 D cA ad KC [.ref (ad 62), .int u1, .int u2] σ r σ' := by
  unfold Ct
  refine Met_of (cc := cX6_strokeValue) (maxL := 3) (ret := (some .int)) hJ (by decide +kernel) rfl (Nat.le_of_ble_eq_true rfl) ?_
  intro p e s m below meth c Z H locs ls hP hS hl
  obtain ⟨hx, hb, hml, hown, hts, hr, hlk, hK, -⟩ := Z
  have hown : s.vm.findClass RX6 = some m.cls := hown
  have hl : lv_has ls 3 [(0, .ref (ad 62)), (1, .int u1), (2, .int u2)] := hl
  have hA : ∀ q, w_A ad KC q → w_A ad KC q := fun _ h => h
  unfold mX6_strokeValue at hM
  refine lv_iload_n hx hb dX6_strokeValue_0 rfl (lv_at hl 2 rfl) ?_
  by_cases c1 : u2 = 0
  · have hM := (if_pos c1).symm.trans hM
    refine lv_tableIn (tgt := 32) (off := 31) hx hb dX6_strokeValue_1 (by rw [c1]; decide) (by rw [c1]; decide) (by rw [c1]; rfl) (by decide) ?_
    refine lv_iload_n hx hb dX6_strokeValue_32 rfl (lv_at hl 1 rfl) ?_
    obtain ⟨r4, σ3, h2, hM⟩ := bnd_i hM
    refine x_callS (As := [.int u1]) (rest := []) hA ⟨hx, hb, hml, hown, hts⟩ (tX6_authorOf l D cA ad hJ u1 σ _ _ h2) (va_cwS 1 hts gX6_strokeValue_X6_authorOf rfl rfl rfl (by decide +kernel) ⟨(Nat.le_of_ble_eq_true rfl), (Nat.le_of_ble_eq_true rfl)⟩) hK hP hS rfl hl.1 rfl (Nat.le_of_ble_eq_true rfl) ⟨Nat.zero_le _, Nat.zero_le _⟩ dX6_strokeValue_33 (fun H locs hP hS => ?_)
    exact x_iret hx hb hr hlk hP hS hM dX6_strokeValue_36
  · have hM := (if_neg c1).symm.trans hM
    by_cases c5 : u2 = 1
    · have hM := (if_pos c5).symm.trans hM
      refine lv_tableIn (tgt := 37) (off := 36) hx hb dX6_strokeValue_1 (by rw [c5]; decide) (by rw [c5]; decide) (by rw [c5]; rfl) (by decide) ?_
      refine lv_iload_n hx hb dX6_strokeValue_37 rfl (lv_at hl 1 rfl) ?_
      obtain ⟨r8, σ7, h6, hM⟩ := bnd_i hM
      refine x_callS (As := [.int u1]) (rest := []) hA ⟨hx, hb, hml, hown, hts⟩ (tX6_numberOf l D cA ad hJ u1 σ _ _ h6) (va_cwS 1 hts gX6_strokeValue_X6_numberOf rfl rfl rfl (by decide +kernel) ⟨(Nat.le_of_ble_eq_true rfl), (Nat.le_of_ble_eq_true rfl)⟩) hK hP hS rfl hl.1 rfl (Nat.le_of_ble_eq_true rfl) ⟨Nat.zero_le _, Nat.zero_le _⟩ dX6_strokeValue_38 (fun H locs hP hS => ?_)
      exact x_iret hx hb hr hlk hP hS hM dX6_strokeValue_41
    · have hM := (if_neg c5).symm.trans hM
      by_cases c9 : u2 = 2
      · have hM := (if_pos c9).symm.trans hM
        refine lv_tableIn (tgt := 42) (off := 41) hx hb dX6_strokeValue_1 (by rw [c9]; decide) (by rw [c9]; decide) (by rw [c9]; rfl) (by decide) ?_
        refine lv_aload_n hx hb dX6_strokeValue_42 rfl (lv_at hl 0 rfl) ?_
        refine x_getr (own := RX6) (C := RX6) (T := TX6) (N := 9) hx hb hts hinX6_X6_strokeValue hown hK hP KC_sb rfl 5 (by decide) (hts (.fieldLink RX6 45 "StrokeBoard" "board" "LStrokeBoard$Board;") (by decide +kernel)) rfl dX6_strokeValue_43 ?_
        refine lv_iload_n hx hb dX6_strokeValue_46 rfl (lv_at hl 1 rfl) ?_
        obtain ⟨r12, σ11, h10, hM⟩ := bnd_i hM
        refine x_callV (As := [.int u1]) (rest := []) hA ⟨hx, hb, hml, hown, hts⟩ (tX0_layerOf l D cA ad hJ 0 (by omega) u1 σ _ _ h10) (cwV 1 hts gX6_strokeValue_X0_layerOf rfl rfl rfl (by decide +kernel) ⟨(Nat.le_of_ble_eq_true rfl), (Nat.le_of_ble_eq_true rfl)⟩) hK hP hS (KC_brd 0 (by omega)) rfl rfl hl.1 rfl (Nat.le_of_ble_eq_true rfl) ⟨Nat.zero_le _, Nat.zero_le _⟩ dX6_strokeValue_47 (fun H locs hP hS _ _ => ?_)
        exact x_iret hx hb hr hlk hP hS hM dX6_strokeValue_50
      · have hM := (if_neg c9).symm.trans hM
        by_cases c13 : u2 = 3
        · have hM := (if_pos c13).symm.trans hM
          refine lv_tableIn (tgt := 51) (off := 50) hx hb dX6_strokeValue_1 (by rw [c13]; decide) (by rw [c13]; decide) (by rw [c13]; rfl) (by decide) ?_
          refine lv_aload_n hx hb dX6_strokeValue_51 rfl (lv_at hl 0 rfl) ?_
          refine x_getr (own := RX6) (C := RX6) (T := TX6) (N := 9) hx hb hts hinX6_X6_strokeValue hown hK hP KC_sb rfl 0 (by decide) (hts (.fieldLink RX6 12 "StrokeBoard" "log" "LStrokeBoard$Log;") (by decide +kernel)) rfl dX6_strokeValue_52 ?_
          refine x_getrN (own := RX6) (C := RX4) (T := TX4) (N := 8) hx hb hts hinX4_X6_strokeValue hown hK hP KC_log rfl 6 (by decide) (nw_f hK.2 2 rfl) rfl dX6_strokeValue_55 ?_
          refine lv_iload_n hx hb dX6_strokeValue_58 rfl (lv_at hl 1 rfl) ?_
          obtain ⟨r16, σ15, h14, hM⟩ := bnd_i hM
          refine x_callV (As := [.int u1]) (rest := []) hA ⟨hx, hb, hml, hown, hts⟩ (tX1_colorOf l D cA ad hJ 0 (by omega) u1 σ _ _ h14) (cwV 1 hts gX6_strokeValue_X1_colorOf rfl rfl rfl (by decide +kernel) ⟨(Nat.le_of_ble_eq_true rfl), (Nat.le_of_ble_eq_true rfl)⟩) hK hP hS (KC_ink 0 (by omega)) rfl rfl hl.1 rfl (Nat.le_of_ble_eq_true rfl) ⟨Nat.zero_le _, Nat.zero_le _⟩ dX6_strokeValue_59 (fun H locs hP hS _ _ => ?_)
          exact x_iret hx hb hr hlk hP hS hM dX6_strokeValue_62
        · have hM := (if_neg c13).symm.trans hM
          refine lv_tableOut (tgt := 63) hx hb dX6_strokeValue_1 (by
            rcases Int.lt_or_le (Int32.toInt u2) 0 with h9 | h9
            · exact Or.inl h9
            · rcases Int.lt_or_le 3 (Int32.toInt u2) with h8 | h8
              · exact Or.inr h8
              · exfalso
                rcases (show Int32.toInt u2 = 0 ∨ Int32.toInt u2 = 1 ∨ Int32.toInt u2 = 2 ∨ Int32.toInt u2 = 3 by omega) with h7 | h7 | h7 | h7
                · exact c1 (Int32.toInt_inj.mp (h7.trans (by decide)))
                · exact c5 (Int32.toInt_inj.mp (h7.trans (by decide)))
                · exact c9 (Int32.toInt_inj.mp (h7.trans (by decide)))
                · exact c13 (Int32.toInt_inj.mp (h7.trans (by decide)))) (by decide) ?_
          refine lv_aload_n hx hb dX6_strokeValue_63 rfl (lv_at hl 0 rfl) ?_
          refine x_getr (own := RX6) (C := RX6) (T := TX6) (N := 9) hx hb hts hinX6_X6_strokeValue hown hK hP KC_sb rfl 0 (by decide) (hts (.fieldLink RX6 12 "StrokeBoard" "log" "LStrokeBoard$Log;") (by decide +kernel)) rfl dX6_strokeValue_64 ?_
          refine x_getrN (own := RX6) (C := RX4) (T := TX4) (N := 8) hx hb hts hinX4_X6_strokeValue hown hK hP KC_log rfl 6 (by decide) (nw_f hK.2 2 rfl) rfl dX6_strokeValue_67 ?_
          refine lv_iload_n hx hb dX6_strokeValue_70 rfl (lv_at hl 1 rfl) ?_
          obtain ⟨r19, σ18, h17, hM⟩ := bnd_i hM
          refine x_callV (As := [.int u1]) (rest := []) hA ⟨hx, hb, hml, hown, hts⟩ (tX1_pointCount l D cA ad hJ 0 (by omega) u1 σ _ _ h17) (cwV 1 hts gX6_strokeValue_X1_pointCount rfl rfl rfl (by decide +kernel) ⟨(Nat.le_of_ble_eq_true rfl), (Nat.le_of_ble_eq_true rfl)⟩) hK hP hS (KC_ink 0 (by omega)) rfl rfl hl.1 rfl (Nat.le_of_ble_eq_true rfl) ⟨Nat.zero_le _, Nat.zero_le _⟩ dX6_strokeValue_71 (fun H locs hP hS _ _ => ?_)
          exact x_iret hx hb hr hlk hP hS hM dX6_strokeValue_74
theorem hinX6_X6_stroke : ∀ w ∈ u_ws RX6 TX6 9, w ∈ wsX6_stroke := by decide +kernel
set_option maxHeartbeats 4000000 in
set_option maxRecDepth 100000 in
theorem tX6_stroke (l : Launch) (D : va_G) (cA : ClassId) (ad : Nat → Nat) (hJ : w_J ad KC) (u1 u2 u3 : Int32) (σ σ' : St) (r : Int32) (hM : mX6_stroke u1 u2 u3 σ = some (r, σ')) : Ct l yX6_stroke wsX6_stroke 4 96 D cA ad KC [.ref (ad 62), .int u1, .int u2, .int u3] σ r σ' := by
  unfold Ct
  refine Met_of (cc := cX6_stroke) (maxL := 6) (ret := (some .int)) hJ (by decide +kernel) rfl (Nat.le_of_ble_eq_true rfl) ?_
  intro p e s m below meth c Z H locs ls hP hS hl
  obtain ⟨hx, hb, hml, hown, hts, hr, hlk, hK, -⟩ := Z
  have hown : s.vm.findClass RX6 = some m.cls := hown
  have hl : lv_has ls 6 [(0, .ref (ad 62)), (1, .int u1), (2, .int u2), (3, .int u3)] := hl
  have hA : ∀ q, w_A ad KC q → w_A ad KC q := fun _ h => h
  have b39 : ∀ (x1 x2 x3 x4 : Int32) (σ : St) (H : Heap) (locs : List Loc) (ls : Array Slot), mX6_stroke_b39 x1 x2 x3 x4 σ = some (r, σ') → w_P D cA ad KC σ H → va_S (w_A ad KC) s.heap H locs → lv_has ls 6 [(0, .ref (ad 62)), (1, .int x1), (2, .int x2), (3, .int x3), (4, .int x4)] → Wm p l e wsX6_stroke 4 96 s m ([.ref (ad 62), .int u1, .int u2, .int u3] : List Value).toArray below meth c (w_Qi D cA ad KC r σ') (w_A ad KC) H locs (F0 m 39 ls []) := by
    intro x1 x2 x3 x4 σ H locs ls hM hP hS hl
    unfold mX6_stroke_b39 at hM
    refine lv_aload_n hx hb dX6_stroke_39 rfl (lv_at hl 0 rfl) ?_
    refine x_getr (own := RX6) (C := RX6) (T := TX6) (N := 9) hx hb hts hinX6_X6_stroke hown hK hP KC_sb rfl 5 (by decide) (hts (.fieldLink RX6 45 "StrokeBoard" "board" "LStrokeBoard$Board;") (by decide +kernel)) rfl dX6_stroke_40 ?_
    refine lv_aload_n hx hb dX6_stroke_43 rfl (lv_at hl 0 rfl) ?_
    refine x_getr (own := RX6) (C := RX6) (T := TX6) (N := 9) hx hb hts hinX6_X6_stroke hown hK hP KC_sb rfl 0 (by decide) (hts (.fieldLink RX6 12 "StrokeBoard" "log" "LStrokeBoard$Log;") (by decide +kernel)) rfl dX6_stroke_44 ?_
    refine lv_aload_n hx hb dX6_stroke_47 rfl (lv_at hl 0 rfl) ?_
    refine x_getr (own := RX6) (C := RX6) (T := TX6) (N := 9) hx hb hts hinX6_X6_stroke hown hK hP KC_sb rfl 2 (by decide) (hts (.fieldLink RX6 28 "StrokeBoard" "knowledge" "LStrokeBoard$Knowledge;") (by decide +kernel)) rfl dX6_stroke_48 ?_
    refine lv_iload_n hx hb dX6_stroke_51 rfl (lv_at hl 1 rfl) ?_
    obtain ⟨σ2, h1, hM⟩ := bnv_i hM
    refine x_callVv (As := [.ref (ad 54), .ref (ad (57 + 0)), .int x1]) (rest := []) hA ⟨hx, hb, hml, hown, hts⟩ (tX0_show l D cA ad hJ 0 (by omega) 0 (by omega) x1 σ _ h1) (cwV 3 hts gX6_stroke_X0_show rfl rfl rfl (by decide +kernel) ⟨(Nat.le_of_ble_eq_true rfl), (Nat.le_of_ble_eq_true rfl)⟩) hK hP hS (KC_brd 0 (by omega)) rfl rfl hl.1 rfl (Nat.le_of_ble_eq_true rfl) ⟨Nat.zero_le _, Nat.zero_le _⟩ dX6_stroke_52 (fun H locs hP hS _ _ => ?_)
    refine lv_iload_n hx hb dX6_stroke_55 rfl (lv_at hl 2 rfl) ?_
    refine lv_aload_n hx hb dX6_stroke_56 rfl (lv_at hl 0 rfl) ?_
    refine x_getr (own := RX6) (C := RX6) (T := TX6) (N := 9) hx hb hts hinX6_X6_stroke hown hK hP KC_sb rfl 5 (by decide) (hts (.fieldLink RX6 45 "StrokeBoard" "board" "LStrokeBoard$Board;") (by decide +kernel)) rfl dX6_stroke_57 ?_
    obtain ⟨r5, σ4, h3, hM⟩ := bnd_i hM
    refine x_callV (As := []) (rest := [.int x2]) hA ⟨hx, hb, hml, hown, hts⟩ (tX0_strokeCount l D cA ad hJ 0 (by omega) σ2 _ _ h3) (cwV 0 hts gX6_stroke_X0_strokeCount rfl rfl rfl (by decide +kernel) ⟨(Nat.le_of_ble_eq_true rfl), (Nat.le_of_ble_eq_true rfl)⟩) hK hP hS (KC_brd 0 (by omega)) rfl rfl hl.1 rfl (Nat.le_of_ble_eq_true rfl) ⟨Nat.zero_le _, Nat.zero_le _⟩ dX6_stroke_60 (fun H locs hP hS _ _ => ?_)
    refine lv_icmp_lt (tgt := 69) hx hb dX6_stroke_63 (by decide) (fun c6 => ?_) (fun c6 => ?_)
    · have hM := (if_pos c6).symm.trans hM
      refine lv_aload_n hx hb dX6_stroke_69 rfl (lv_at hl 0 rfl) ?_
      refine x_getr (own := RX6) (C := RX6) (T := TX6) (N := 9) hx hb hts hinX6_X6_stroke hown hK hP KC_sb rfl 5 (by decide) (hts (.fieldLink RX6 45 "StrokeBoard" "board" "LStrokeBoard$Board;") (by decide +kernel)) rfl dX6_stroke_70 ?_
      refine lv_iload_n hx hb dX6_stroke_73 rfl (lv_at hl 2 rfl) ?_
      obtain ⟨r9, σ8, h7, hM⟩ := bnd_i hM
      refine x_callV (As := [.int x2]) (rest := []) hA ⟨hx, hb, hml, hown, hts⟩ (tX0_strokeIn l D cA ad hJ 0 (by omega) x2 σ4 _ _ h7) (cwV 1 hts gX6_stroke_X0_strokeIn rfl rfl rfl (by decide +kernel) ⟨(Nat.le_of_ble_eq_true rfl), (Nat.le_of_ble_eq_true rfl)⟩) hK hP hS (KC_brd 0 (by omega)) rfl rfl hl.1 rfl (Nat.le_of_ble_eq_true rfl) ⟨Nat.zero_le _, Nat.zero_le _⟩ dX6_stroke_74 (fun H locs hP hS _ _ => ?_)
      refine lv_istore (lv' := [(5, .int r9), (0, .ref (ad 62)), (1, .int x1), (2, .int x2), (3, .int x3), (4, .int x4)]) hx hb dX6_stroke_77 hl (by decide) rfl (fun ls hl => ?_)
      refine lv_iload hx hb dX6_stroke_79 (lv_at hl 5 rfl) ?_
      refine lv_if_eq (tgt := 97) hx hb dX6_stroke_81 (by decide) (fun c10 => ?_) (fun c10 => ?_)
      · have hM := (if_pos c10).symm.trans hM
        refine lv_aload_n hx hb dX6_stroke_97 rfl (lv_at hl 1 rfl) ?_
        refine lv_iload hx hb dX6_stroke_98 (lv_at hl 0 rfl) ?_
        refine lv_iload_n hx hb dX6_stroke_100 rfl (lv_at hl 4 rfl) ?_
        obtain ⟨r13, σ12, h11, hM⟩ := bnd_i hM
        refine x_callV (As := [.int r9, .int x3]) (rest := []) hA ⟨hx, hb, hml, hown, hts⟩ (tX6_strokeValue l D cA ad hJ r9 x3 σ8 _ _ h11) (cwV 2 hts gX6_stroke_X6_strokeValue rfl rfl rfl (by decide +kernel) ⟨(Nat.le_of_ble_eq_true rfl), (Nat.le_of_ble_eq_true rfl)⟩) hK hP hS KC_sb rfl rfl hl.1 rfl (Nat.le_of_ble_eq_true rfl) ⟨Nat.zero_le _, Nat.zero_le _⟩ dX6_stroke_101 (fun H locs hP hS _ _ => ?_)
        exact x_iret hx hb hr hlk hP hS hM dX6_stroke_104
      · have hM := (if_neg c10).symm.trans hM
        refine lv_aload_n hx hb dX6_stroke_84 rfl (lv_at hl 1 rfl) ?_
        refine lv_iload hx hb dX6_stroke_85 (lv_at hl 0 rfl) ?_
        refine lv_iload_n hx hb dX6_stroke_87 rfl (lv_at hl 4 rfl) ?_
        refine lv_bipush (v := 10) hx hb dX6_stroke_88 (by decide) ?_
        refine lv_isub hx hb dX6_stroke_90 ?_
        obtain ⟨r16, σ15, h14, hM⟩ := bnd_i hM
        refine x_callV (As := [.int r9, .int (x3 - 10)]) (rest := []) hA ⟨hx, hb, hml, hown, hts⟩ (tX6_coordinate l D cA ad hJ r9 (x3 - 10) σ8 _ _ h14) (cwV 2 hts gX6_stroke_X6_coordinate rfl rfl rfl (by decide +kernel) ⟨(Nat.le_of_ble_eq_true rfl), (Nat.le_of_ble_eq_true rfl)⟩) hK hP hS KC_sb rfl rfl hl.1 rfl (Nat.le_of_ble_eq_true rfl) ⟨Nat.zero_le _, Nat.zero_le _⟩ dX6_stroke_91 (fun H locs hP hS _ _ => ?_)
        refine lv_goto (tgt := 104) hx hb dX6_stroke_94 (by decide) ?_
        exact x_iret hx hb hr hlk hP hS hM dX6_stroke_104
    · have hM := (if_neg c6).symm.trans hM
      refine lv_ldc (own := RX6) (v := (-1000000004)) hx hb hown (hts (.constant RX6 162 (-1000000004)) (by decide +kernel)) dX6_stroke_66 ?_
      exact x_iret hx hb hr hlk hP hS hM dX6_stroke_68
  unfold mX6_stroke at hM
  refine lv_iload_n hx hb dX6_stroke_0 rfl (lv_at hl 3 rfl) ?_
  refine lv_bipush (v := 10) hx hb dX6_stroke_1 (by decide) ?_
  refine lv_bipush (v := 25) hx hb dX6_stroke_3 (by decide) ?_
  obtain ⟨r19, σ18, h17, hM⟩ := bnd_i hM
  refine x_callS (As := [.int u3, .int 10, .int 25]) (rest := []) hA ⟨hx, hb, hml, hown, hts⟩ (tX6_isWithin l D cA ad hJ u3 10 25 σ _ _ h17) (va_cwS 3 hts gX6_stroke_X6_isWithin rfl rfl rfl (by decide +kernel) ⟨(Nat.le_of_ble_eq_true rfl), (Nat.le_of_ble_eq_true rfl)⟩) hK hP hS rfl hl.1 rfl (Nat.le_of_ble_eq_true rfl) ⟨Nat.zero_le _, Nat.zero_le _⟩ dX6_stroke_5 (fun H locs hP hS => ?_)
  refine lv_istore (lv' := [(4, .int r19), (0, .ref (ad 62)), (1, .int u1), (2, .int u2), (3, .int u3)]) hx hb dX6_stroke_8 hl (by decide) rfl (fun ls hl => ?_)
  refine lv_aload_n hx hb dX6_stroke_10 rfl (lv_at hl 1 rfl) ?_
  refine lv_iload_n hx hb dX6_stroke_11 rfl (lv_at hl 2 rfl) ?_
  obtain ⟨r22, σ21, h20, hM⟩ := bnd_i hM
  refine x_callV (As := [.int u1]) (rest := []) hA ⟨hx, hb, hml, hown, hts⟩ (tX6_isSite l D cA ad hJ u1 σ18 _ _ h20) (cwV 1 hts gX6_stroke_X6_isSite rfl rfl rfl (by decide +kernel) ⟨(Nat.le_of_ble_eq_true rfl), (Nat.le_of_ble_eq_true rfl)⟩) hK hP hS KC_sb rfl rfl hl.1 rfl (Nat.le_of_ble_eq_true rfl) ⟨Nat.zero_le _, Nat.zero_le _⟩ dX6_stroke_12 (fun H locs hP hS _ _ => ?_)
  refine lv_if_eq (tgt := 36) hx hb dX6_stroke_15 (by decide) (fun c23 => ?_) (fun c23 => ?_)
  · have hM := (if_pos c23).symm.trans hM
    refine lv_ldc (own := RX6) (v := (-1000000001)) hx hb hown (hts (.constant RX6 67 (-1000000001)) (by decide +kernel)) dX6_stroke_36 ?_
    exact x_iret hx hb hr hlk hP hS hM dX6_stroke_38
  · have hM := (if_neg c23).symm.trans hM
    refine lv_iload_n hx hb dX6_stroke_18 rfl (lv_at hl 3 rfl) ?_
    refine lv_if_lt (tgt := 36) hx hb dX6_stroke_19 (by decide) (fun c24 => ?_) (fun c24 => ?_)
    · have hM := (if_pos c24).symm.trans hM
      refine lv_ldc (own := RX6) (v := (-1000000001)) hx hb hown (hts (.constant RX6 67 (-1000000001)) (by decide +kernel)) dX6_stroke_36 ?_
      exact x_iret hx hb hr hlk hP hS hM dX6_stroke_38
    · have hM := (if_neg c24).symm.trans hM
      refine lv_iload hx hb dX6_stroke_22 (lv_at hl 0 rfl) ?_
      refine lv_if_ne (tgt := 39) hx hb dX6_stroke_24 (by decide) (fun c25 => ?_) (fun c25 => ?_)
      · have hM := (if_neg c25).symm.trans hM
        exact b39 _ _ _ _ _ _ _ _ hM hP hS (lv_sub hl [1, 2, 3, 4, 0] rfl)
      · have hM := (if_pos c25).symm.trans hM
        refine lv_iload_n hx hb dX6_stroke_27 rfl (lv_at hl 4 rfl) ?_
        refine lv_iconst (v := 0) hx hb dX6_stroke_28 (by decide) ?_
        refine lv_iconst (v := 4) hx hb dX6_stroke_29 (by decide) ?_
        obtain ⟨r28, σ27, h26, hM⟩ := bnd_i hM
        refine x_callS (As := [.int u3, .int 0, .int 4]) (rest := []) hA ⟨hx, hb, hml, hown, hts⟩ (tX6_isWithin l D cA ad hJ u3 0 4 σ21 _ _ h26) (va_cwS 3 hts gX6_stroke_X6_isWithin rfl rfl rfl (by decide +kernel) ⟨(Nat.le_of_ble_eq_true rfl), (Nat.le_of_ble_eq_true rfl)⟩) hK hP hS rfl hl.1 rfl (Nat.le_of_ble_eq_true rfl) ⟨Nat.zero_le _, Nat.zero_le _⟩ dX6_stroke_30 (fun H locs hP hS => ?_)
        refine lv_if_ne (tgt := 39) hx hb dX6_stroke_33 (by decide) (fun c29 => ?_) (fun c29 => ?_)
        · have hM := (if_neg c29).symm.trans hM
          exact b39 _ _ _ _ _ _ _ _ hM hP hS (lv_sub hl [1, 2, 3, 4, 0] rfl)
        · have hM := (if_pos c29).symm.trans hM
          refine lv_ldc (own := RX6) (v := (-1000000001)) hx hb hown (hts (.constant RX6 67 (-1000000001)) (by decide +kernel)) dX6_stroke_36 ?_
          exact x_iret hx hb hr hlk hP hS hM dX6_stroke_38
theorem hinX4_X6_strokeAt : ∀ w ∈ u_ws RX4 TX4 8, w ∈ wsX6_strokeAt := by decide +kernel
theorem hinX6_X6_strokeAt : ∀ w ∈ u_ws RX6 TX6 9, w ∈ wsX6_strokeAt := by decide +kernel
set_option maxHeartbeats 4000000 in
set_option maxRecDepth 100000 in
theorem tX6_strokeAt (l : Launch) (D : va_G) (cA : ClassId) (ad : Nat → Nat) (hJ : w_J ad KC) (u1 u2 u3 : Int32) (σ σ' : St) (r : Int32) (hM : mX6_strokeAt u1 u2 u3 σ = some (r, σ')) : Ct l yX6_strokeAt wsX6_strokeAt 4 96 D cA ad KC [.ref (ad 62), .int u1, .int u2, .int u3] σ r σ' := by
  unfold Ct
  refine Met_of (cc := cX6_strokeAt) (maxL := 5) (ret := (some .int)) hJ (by decide +kernel) rfl (Nat.le_of_ble_eq_true rfl) ?_
  intro p e s m below meth c Z H locs ls hP hS hl
  obtain ⟨hx, hb, hml, hown, hts, hr, hlk, hK, -⟩ := Z
  have hown : s.vm.findClass RX6 = some m.cls := hown
  have hl : lv_has ls 5 [(0, .ref (ad 62)), (1, .int u1), (2, .int u2), (3, .int u3)] := hl
  have hA : ∀ q, w_A ad KC q → w_A ad KC q := fun _ h => h
  have L62 : ∀ (n : Nat) (x2 x3 x4 : Int32) (σ : St) (H : Heap) (locs : List Loc) (ls : Array Slot), mX6_strokeAt_L62 n x2 x3 x4 σ = some (r, σ') → w_P D cA ad KC σ H → va_S (w_A ad KC) s.heap H locs → lv_has ls 5 [(0, .ref (ad 62)), (2, .int x2), (3, .int x3), (4, .int x4)] → Wm p l e wsX6_strokeAt 4 96 s m ([.ref (ad 62), .int u1, .int u2, .int u3] : List Value).toArray below meth c (w_Qi D cA ad KC r σ') (w_A ad KC) H locs (F0 m 62 ls []) := by
    intro n62
    induction n62 with
    | zero =>
      intro x2 x3 x4 σ H locs ls hM hP hS hl
      rw [mX6_strokeAt_L62] at hM
      cases hM
    | succ n62 ih62 =>
      intro x2 x3 x4 σ H locs ls hM hP hS hl
      rw [mX6_strokeAt_L62] at hM
      refine lv_iload hx hb dX6_strokeAt_62 (lv_at hl 3 rfl) ?_
      refine lv_if_lt (tgt := 100) hx hb dX6_strokeAt_64 (by decide) (fun c1 => ?_) (fun c1 => ?_)
      · have hM := (if_pos c1).symm.trans hM
        refine lv_ldc (own := RX6) (v := (-1000000004)) hx hb hown (hts (.constant RX6 162 (-1000000004)) (by decide +kernel)) dX6_strokeAt_100 ?_
        exact x_iret hx hb hr hlk hP hS hM dX6_strokeAt_102
      · have hM := (if_neg c1).symm.trans hM
        refine lv_aload_n hx hb dX6_strokeAt_67 rfl (lv_at hl 0 rfl) ?_
        refine x_getr (own := RX6) (C := RX6) (T := TX6) (N := 9) hx hb hts hinX6_X6_strokeAt hown hK hP KC_sb rfl 0 (by decide) (hts (.fieldLink RX6 12 "StrokeBoard" "log" "LStrokeBoard$Log;") (by decide +kernel)) rfl dX6_strokeAt_68 ?_
        refine x_getrN (own := RX6) (C := RX4) (T := TX4) (N := 8) hx hb hts hinX4_X6_strokeAt hown hK hP KC_log rfl 6 (by decide) (nw_f hK.2 2 rfl) rfl dX6_strokeAt_71 ?_
        refine lv_aload_n hx hb dX6_strokeAt_74 rfl (lv_at hl 0 rfl) ?_
        refine x_getr (own := RX6) (C := RX6) (T := TX6) (N := 9) hx hb hts hinX6_X6_strokeAt hown hK hP KC_sb rfl 5 (by decide) (hts (.fieldLink RX6 45 "StrokeBoard" "board" "LStrokeBoard$Board;") (by decide +kernel)) rfl dX6_strokeAt_75 ?_
        refine lv_iload hx hb dX6_strokeAt_78 (lv_at hl 3 rfl) ?_
        obtain ⟨r4, σ3, h2, hM⟩ := bnd_i hM
        refine x_callV (As := [.int x4]) (rest := [.ref (ad (55 + 0))]) hA ⟨hx, hb, hml, hown, hts⟩ (tX0_strokeIn l D cA ad hJ 0 (by omega) x4 σ _ _ h2) (cwV 1 hts gX6_strokeAt_X0_strokeIn rfl rfl rfl (by decide +kernel) ⟨(Nat.le_of_ble_eq_true rfl), (Nat.le_of_ble_eq_true rfl)⟩) hK hP hS (KC_brd 0 (by omega)) rfl rfl hl.1 rfl (Nat.le_of_ble_eq_true rfl) ⟨Nat.zero_le _, Nat.zero_le _⟩ dX6_strokeAt_80 (fun H locs hP hS _ _ => ?_)
        refine lv_iload_n hx hb dX6_strokeAt_83 rfl (lv_at hl 1 rfl) ?_
        refine lv_iload_n hx hb dX6_strokeAt_84 rfl (lv_at hl 2 rfl) ?_
        obtain ⟨r7, σ6, h5, hM⟩ := bnd_i hM
        refine x_callV (As := [.int r4, .int x2, .int x3]) (rest := []) hA ⟨hx, hb, hml, hown, hts⟩ (tX1_hasPoint l D cA ad hJ 0 (by omega) r4 x2 x3 σ3 _ _ h5) (cwV 3 hts gX6_strokeAt_X1_hasPoint rfl rfl rfl (by decide +kernel) ⟨(Nat.le_of_ble_eq_true rfl), (Nat.le_of_ble_eq_true rfl)⟩) hK hP hS (KC_ink 0 (by omega)) rfl rfl hl.1 rfl (Nat.le_of_ble_eq_true rfl) ⟨Nat.zero_le _, Nat.zero_le _⟩ dX6_strokeAt_85 (fun H locs hP hS _ _ => ?_)
        refine lv_if_eq (tgt := 94) hx hb dX6_strokeAt_88 (by decide) (fun c8 => ?_) (fun c8 => ?_)
        · have hM := (if_pos c8).symm.trans hM
          refine lv_iinc (v := (x4 + (-1))) (lv' := [(4, .int (x4 + (-1))), (0, .ref (ad 62)), (2, .int x2), (3, .int x3)]) hx hb dX6_strokeAt_94 hl (k := 3) rfl rfl (by decide) rfl (fun ls hl => ?_)
          refine lv_goto (tgt := 62) hx hb dX6_strokeAt_97 (by decide) ?_
          exact ih62 _ _ _ _ _ _ _ hM hP hS (lv_sub hl [1, 2, 3, 0] rfl)
        · have hM := (if_neg c8).symm.trans hM
          refine lv_iload hx hb dX6_strokeAt_91 (lv_at hl 3 rfl) ?_
          exact x_iret hx hb hr hlk hP hS hM dX6_strokeAt_93
  unfold mX6_strokeAt at hM
  refine lv_aload_n hx hb dX6_strokeAt_0 rfl (lv_at hl 0 rfl) ?_
  refine lv_iload_n hx hb dX6_strokeAt_1 rfl (lv_at hl 1 rfl) ?_
  obtain ⟨r11, σ10, h9, hM⟩ := bnd_i hM
  refine x_callV (As := [.int u1]) (rest := []) hA ⟨hx, hb, hml, hown, hts⟩ (tX6_isSite l D cA ad hJ u1 σ _ _ h9) (cwV 1 hts gX6_strokeAt_X6_isSite rfl rfl rfl (by decide +kernel) ⟨(Nat.le_of_ble_eq_true rfl), (Nat.le_of_ble_eq_true rfl)⟩) hK hP hS KC_sb rfl rfl hl.1 rfl (Nat.le_of_ble_eq_true rfl) ⟨Nat.zero_le _, Nat.zero_le _⟩ dX6_strokeAt_2 (fun H locs hP hS _ _ => ?_)
  refine lv_if_eq (tgt := 32) hx hb dX6_strokeAt_5 (by decide) (fun c12 => ?_) (fun c12 => ?_)
  · have hM := (if_pos c12).symm.trans hM
    refine lv_ldc (own := RX6) (v := (-1000000001)) hx hb hown (hts (.constant RX6 67 (-1000000001)) (by decide +kernel)) dX6_strokeAt_32 ?_
    exact x_iret hx hb hr hlk hP hS hM dX6_strokeAt_34
  · have hM := (if_neg c12).symm.trans hM
    refine lv_iload_n hx hb dX6_strokeAt_8 rfl (lv_at hl 2 rfl) ?_
    refine lv_bipush (v := (-100)) hx hb dX6_strokeAt_9 (by decide) ?_
    refine lv_sipush (v := 200) hx hb dX6_strokeAt_11 (by decide) ?_
    obtain ⟨r15, σ14, h13, hM⟩ := bnd_i hM
    refine x_callS (As := [.int u2, .int (-100), .int 200]) (rest := []) hA ⟨hx, hb, hml, hown, hts⟩ (tX6_isWithin l D cA ad hJ u2 (-100) 200 σ10 _ _ h13) (va_cwS 3 hts gX6_strokeAt_X6_isWithin rfl rfl rfl (by decide +kernel) ⟨(Nat.le_of_ble_eq_true rfl), (Nat.le_of_ble_eq_true rfl)⟩) hK hP hS rfl hl.1 rfl (Nat.le_of_ble_eq_true rfl) ⟨Nat.zero_le _, Nat.zero_le _⟩ dX6_strokeAt_14 (fun H locs hP hS => ?_)
    refine lv_if_eq (tgt := 32) hx hb dX6_strokeAt_17 (by decide) (fun c16 => ?_) (fun c16 => ?_)
    · have hM := (if_pos c16).symm.trans hM
      refine lv_ldc (own := RX6) (v := (-1000000001)) hx hb hown (hts (.constant RX6 67 (-1000000001)) (by decide +kernel)) dX6_strokeAt_32 ?_
      exact x_iret hx hb hr hlk hP hS hM dX6_strokeAt_34
    · have hM := (if_neg c16).symm.trans hM
      refine lv_iload_n hx hb dX6_strokeAt_20 rfl (lv_at hl 3 rfl) ?_
      refine lv_bipush (v := (-100)) hx hb dX6_strokeAt_21 (by decide) ?_
      refine lv_sipush (v := 200) hx hb dX6_strokeAt_23 (by decide) ?_
      obtain ⟨r19, σ18, h17, hM⟩ := bnd_i hM
      refine x_callS (As := [.int u3, .int (-100), .int 200]) (rest := []) hA ⟨hx, hb, hml, hown, hts⟩ (tX6_isWithin l D cA ad hJ u3 (-100) 200 σ14 _ _ h17) (va_cwS 3 hts gX6_strokeAt_X6_isWithin rfl rfl rfl (by decide +kernel) ⟨(Nat.le_of_ble_eq_true rfl), (Nat.le_of_ble_eq_true rfl)⟩) hK hP hS rfl hl.1 rfl (Nat.le_of_ble_eq_true rfl) ⟨Nat.zero_le _, Nat.zero_le _⟩ dX6_strokeAt_26 (fun H locs hP hS => ?_)
      refine lv_if_ne (tgt := 35) hx hb dX6_strokeAt_29 (by decide) (fun c20 => ?_) (fun c20 => ?_)
      · have hM := (if_neg c20).symm.trans hM
        refine lv_aload_n hx hb dX6_strokeAt_35 rfl (lv_at hl 0 rfl) ?_
        refine x_getr (own := RX6) (C := RX6) (T := TX6) (N := 9) hx hb hts hinX6_X6_strokeAt hown hK hP KC_sb rfl 5 (by decide) (hts (.fieldLink RX6 45 "StrokeBoard" "board" "LStrokeBoard$Board;") (by decide +kernel)) rfl dX6_strokeAt_36 ?_
        refine lv_aload_n hx hb dX6_strokeAt_39 rfl (lv_at hl 0 rfl) ?_
        refine x_getr (own := RX6) (C := RX6) (T := TX6) (N := 9) hx hb hts hinX6_X6_strokeAt hown hK hP KC_sb rfl 0 (by decide) (hts (.fieldLink RX6 12 "StrokeBoard" "log" "LStrokeBoard$Log;") (by decide +kernel)) rfl dX6_strokeAt_40 ?_
        refine lv_aload_n hx hb dX6_strokeAt_43 rfl (lv_at hl 0 rfl) ?_
        refine x_getr (own := RX6) (C := RX6) (T := TX6) (N := 9) hx hb hts hinX6_X6_strokeAt hown hK hP KC_sb rfl 2 (by decide) (hts (.fieldLink RX6 28 "StrokeBoard" "knowledge" "LStrokeBoard$Knowledge;") (by decide +kernel)) rfl dX6_strokeAt_44 ?_
        refine lv_iload_n hx hb dX6_strokeAt_47 rfl (lv_at hl 1 rfl) ?_
        obtain ⟨σ22, h21, hM⟩ := bnv_i hM
        refine x_callVv (As := [.ref (ad 54), .ref (ad (57 + 0)), .int u1]) (rest := []) hA ⟨hx, hb, hml, hown, hts⟩ (tX0_show l D cA ad hJ 0 (by omega) 0 (by omega) u1 σ18 _ h21) (cwV 3 hts gX6_strokeAt_X0_show rfl rfl rfl (by decide +kernel) ⟨(Nat.le_of_ble_eq_true rfl), (Nat.le_of_ble_eq_true rfl)⟩) hK hP hS (KC_brd 0 (by omega)) rfl rfl hl.1 rfl (Nat.le_of_ble_eq_true rfl) ⟨Nat.zero_le _, Nat.zero_le _⟩ dX6_strokeAt_48 (fun H locs hP hS _ _ => ?_)
        refine lv_aload_n hx hb dX6_strokeAt_51 rfl (lv_at hl 0 rfl) ?_
        refine x_getr (own := RX6) (C := RX6) (T := TX6) (N := 9) hx hb hts hinX6_X6_strokeAt hown hK hP KC_sb rfl 5 (by decide) (hts (.fieldLink RX6 45 "StrokeBoard" "board" "LStrokeBoard$Board;") (by decide +kernel)) rfl dX6_strokeAt_52 ?_
        obtain ⟨r25, σ24, h23, hM⟩ := bnd_i hM
        refine x_callV (As := []) (rest := []) hA ⟨hx, hb, hml, hown, hts⟩ (tX0_strokeCount l D cA ad hJ 0 (by omega) σ22 _ _ h23) (cwV 0 hts gX6_strokeAt_X0_strokeCount rfl rfl rfl (by decide +kernel) ⟨(Nat.le_of_ble_eq_true rfl), (Nat.le_of_ble_eq_true rfl)⟩) hK hP hS (KC_brd 0 (by omega)) rfl rfl hl.1 rfl (Nat.le_of_ble_eq_true rfl) ⟨Nat.zero_le _, Nat.zero_le _⟩ dX6_strokeAt_55 (fun H locs hP hS _ _ => ?_)
        refine lv_iconst (v := 1) hx hb dX6_strokeAt_58 (by decide) ?_
        refine lv_isub hx hb dX6_strokeAt_59 ?_
        refine lv_istore (lv' := [(4, .int (r25 - 1)), (0, .ref (ad 62)), (1, .int u1), (2, .int u2), (3, .int u3)]) hx hb dX6_strokeAt_60 hl (by decide) rfl (fun ls hl => ?_)
        exact L62 fu _ _ _ _ _ _ _ hM hP hS (lv_sub hl [1, 3, 4, 0] rfl)
      · have hM := (if_pos c20).symm.trans hM
        refine lv_ldc (own := RX6) (v := (-1000000001)) hx hb hown (hts (.constant RX6 67 (-1000000001)) (by decide +kernel)) dX6_strokeAt_32 ?_
        exact x_iret hx hb hr hlk hP hS hM dX6_strokeAt_34
theorem hinX6_X6_digest : ∀ w ∈ u_ws RX6 TX6 9, w ∈ wsX6_digest := by decide +kernel
set_option maxHeartbeats 4000000 in
set_option maxRecDepth 100000 in
theorem tX6_digest (l : Launch) (D : va_G) (cA : ClassId) (ad : Nat → Nat) (hJ : w_J ad KC) (u1 : Int32) (σ σ' : St) (r : Int32) (hM : mX6_digest u1 σ = some (r, σ')) : Ct l yX6_digest wsX6_digest 4 96 D cA ad KC [.ref (ad 62), .int u1] σ r σ' := by
  unfold Ct
  refine Met_of (cc := cX6_digest) (maxL := 2) (ret := (some .int)) hJ (by decide +kernel) rfl (Nat.le_of_ble_eq_true rfl) ?_
  intro p e s m below meth c Z H locs ls hP hS hl
  obtain ⟨hx, hb, hml, hown, hts, hr, hlk, hK, -⟩ := Z
  have hown : s.vm.findClass RX6 = some m.cls := hown
  have hl : lv_has ls 2 [(0, .ref (ad 62)), (1, .int u1)] := hl
  have hA : ∀ q, w_A ad KC q → w_A ad KC q := fun _ h => h
  unfold mX6_digest at hM
  refine lv_aload_n hx hb dX6_digest_0 rfl (lv_at hl 0 rfl) ?_
  refine lv_iload_n hx hb dX6_digest_1 rfl (lv_at hl 1 rfl) ?_
  obtain ⟨r3, σ2, h1, hM⟩ := bnd_i hM
  refine x_callV (As := [.int u1]) (rest := []) hA ⟨hx, hb, hml, hown, hts⟩ (tX6_isSite l D cA ad hJ u1 σ _ _ h1) (cwV 1 hts gX6_digest_X6_isSite rfl rfl rfl (by decide +kernel) ⟨(Nat.le_of_ble_eq_true rfl), (Nat.le_of_ble_eq_true rfl)⟩) hK hP hS KC_sb rfl rfl hl.1 rfl (Nat.le_of_ble_eq_true rfl) ⟨Nat.zero_le _, Nat.zero_le _⟩ dX6_digest_2 (fun H locs hP hS _ _ => ?_)
  refine lv_if_ne (tgt := 10) hx hb dX6_digest_5 (by decide) (fun c4 => ?_) (fun c4 => ?_)
  · have hM := (if_neg c4).symm.trans hM
    refine lv_aload_n hx hb dX6_digest_10 rfl (lv_at hl 0 rfl) ?_
    refine x_getr (own := RX6) (C := RX6) (T := TX6) (N := 9) hx hb hts hinX6_X6_digest hown hK hP KC_sb rfl 5 (by decide) (hts (.fieldLink RX6 45 "StrokeBoard" "board" "LStrokeBoard$Board;") (by decide +kernel)) rfl dX6_digest_11 ?_
    refine lv_aload_n hx hb dX6_digest_14 rfl (lv_at hl 0 rfl) ?_
    refine x_getr (own := RX6) (C := RX6) (T := TX6) (N := 9) hx hb hts hinX6_X6_digest hown hK hP KC_sb rfl 0 (by decide) (hts (.fieldLink RX6 12 "StrokeBoard" "log" "LStrokeBoard$Log;") (by decide +kernel)) rfl dX6_digest_15 ?_
    refine lv_aload_n hx hb dX6_digest_18 rfl (lv_at hl 0 rfl) ?_
    refine x_getr (own := RX6) (C := RX6) (T := TX6) (N := 9) hx hb hts hinX6_X6_digest hown hK hP KC_sb rfl 2 (by decide) (hts (.fieldLink RX6 28 "StrokeBoard" "knowledge" "LStrokeBoard$Knowledge;") (by decide +kernel)) rfl dX6_digest_19 ?_
    refine lv_iload_n hx hb dX6_digest_22 rfl (lv_at hl 1 rfl) ?_
    obtain ⟨σ6, h5, hM⟩ := bnv_i hM
    refine x_callVv (As := [.ref (ad 54), .ref (ad (57 + 0)), .int u1]) (rest := []) hA ⟨hx, hb, hml, hown, hts⟩ (tX0_show l D cA ad hJ 0 (by omega) 0 (by omega) u1 σ2 _ h5) (cwV 3 hts gX6_digest_X0_show rfl rfl rfl (by decide +kernel) ⟨(Nat.le_of_ble_eq_true rfl), (Nat.le_of_ble_eq_true rfl)⟩) hK hP hS (KC_brd 0 (by omega)) rfl rfl hl.1 rfl (Nat.le_of_ble_eq_true rfl) ⟨Nat.zero_le _, Nat.zero_le _⟩ dX6_digest_23 (fun H locs hP hS _ _ => ?_)
    refine lv_aload_n hx hb dX6_digest_26 rfl (lv_at hl 0 rfl) ?_
    refine x_getr (own := RX6) (C := RX6) (T := TX6) (N := 9) hx hb hts hinX6_X6_digest hown hK hP KC_sb rfl 5 (by decide) (hts (.fieldLink RX6 45 "StrokeBoard" "board" "LStrokeBoard$Board;") (by decide +kernel)) rfl dX6_digest_27 ?_
    refine lv_aload_n hx hb dX6_digest_30 rfl (lv_at hl 0 rfl) ?_
    refine x_getr (own := RX6) (C := RX6) (T := TX6) (N := 9) hx hb hts hinX6_X6_digest hown hK hP KC_sb rfl 0 (by decide) (hts (.fieldLink RX6 12 "StrokeBoard" "log" "LStrokeBoard$Log;") (by decide +kernel)) rfl dX6_digest_31 ?_
    obtain ⟨r9, σ8, h7, hM⟩ := bnd_i hM
    refine x_callV (As := [.ref (ad 54)]) (rest := []) hA ⟨hx, hb, hml, hown, hts⟩ (tX0_hash l D cA ad hJ 0 (by omega) σ6 _ _ h7) (cwV 1 hts gX6_digest_X0_hash rfl rfl rfl (by decide +kernel) ⟨(Nat.le_of_ble_eq_true rfl), (Nat.le_of_ble_eq_true rfl)⟩) hK hP hS (KC_brd 0 (by omega)) rfl rfl hl.1 rfl (Nat.le_of_ble_eq_true rfl) ⟨Nat.zero_le _, Nat.zero_le _⟩ dX6_digest_34 (fun H locs hP hS _ _ => ?_)
    exact x_iret hx hb hr hlk hP hS hM dX6_digest_37
  · have hM := (if_pos c4).symm.trans hM
    refine lv_iconst (v := 0) hx hb dX6_digest_8 (by decide) ?_
    exact x_iret hx hb hr hlk hP hS hM dX6_digest_9
theorem hinX6_X6_showSame : ∀ w ∈ u_ws RX6 TX6 9, w ∈ wsX6_showSame := by decide +kernel
set_option maxHeartbeats 4000000 in
set_option maxRecDepth 100000 in
theorem tX6_showSame (l : Launch) (D : va_G) (cA : ClassId) (ad : Nat → Nat) (hJ : w_J ad KC) (g : Nat) (hg : g < 2) (u2 u3 : Int32) (σ σ' : St) (r : Int32) (hM : mX6_showSame g u2 u3 σ = some (r, σ')) : Ct l yX6_showSame wsX6_showSame 4 96 D cA ad KC [.ref (ad 62), .ref (ad (57 + g)), .int u2, .int u3] σ r σ' := by
  unfold Ct
  refine Met_of (cc := cX6_showSame) (maxL := 4) (ret := (some .boolean)) hJ (by decide +kernel) rfl (Nat.le_of_ble_eq_true rfl) ?_
  intro p e s m below meth c Z H locs ls hP hS hl
  obtain ⟨hx, hb, hml, hown, hts, hr, hlk, hK, -⟩ := Z
  have hown : s.vm.findClass RX6 = some m.cls := hown
  have hl : lv_has ls 4 [(0, .ref (ad 62)), (1, .ref (ad (57 + g))), (2, .int u2), (3, .int u3)] := hl
  have hA : ∀ q, w_A ad KC q → w_A ad KC q := fun _ h => h
  unfold mX6_showSame at hM
  refine lv_aload_n hx hb dX6_showSame_0 rfl (lv_at hl 0 rfl) ?_
  refine x_getr (own := RX6) (C := RX6) (T := TX6) (N := 9) hx hb hts hinX6_X6_showSame hown hK hP KC_sb rfl 5 (by decide) (hts (.fieldLink RX6 45 "StrokeBoard" "board" "LStrokeBoard$Board;") (by decide +kernel)) rfl dX6_showSame_1 ?_
  refine lv_aload_n hx hb dX6_showSame_4 rfl (lv_at hl 0 rfl) ?_
  refine x_getr (own := RX6) (C := RX6) (T := TX6) (N := 9) hx hb hts hinX6_X6_showSame hown hK hP KC_sb rfl 0 (by decide) (hts (.fieldLink RX6 12 "StrokeBoard" "log" "LStrokeBoard$Log;") (by decide +kernel)) rfl dX6_showSame_5 ?_
  refine lv_aload_n hx hb dX6_showSame_8 rfl (lv_at hl 1 rfl) ?_
  refine lv_iload_n hx hb dX6_showSame_9 rfl (lv_at hl 2 rfl) ?_
  obtain ⟨σ2, h1, hM⟩ := bnv_i hM
  refine x_callVv (As := [.ref (ad 54), .ref (ad (57 + g)), .int u2]) (rest := []) hA ⟨hx, hb, hml, hown, hts⟩ (tX0_show l D cA ad hJ 0 (by omega) g (by omega) u2 σ _ h1) (cwV 3 hts gX6_showSame_X0_show rfl rfl rfl (by decide +kernel) ⟨(Nat.le_of_ble_eq_true rfl), (Nat.le_of_ble_eq_true rfl)⟩) hK hP hS (KC_brd 0 (by omega)) rfl rfl hl.1 rfl (Nat.le_of_ble_eq_true rfl) ⟨Nat.zero_le _, Nat.zero_le _⟩ dX6_showSame_10 (fun H locs hP hS _ _ => ?_)
  refine lv_aload_n hx hb dX6_showSame_13 rfl (lv_at hl 0 rfl) ?_
  refine x_getr (own := RX6) (C := RX6) (T := TX6) (N := 9) hx hb hts hinX6_X6_showSame hown hK hP KC_sb rfl 6 (by decide) (hts (.fieldLink RX6 49 "StrokeBoard" "secondBoard" "LStrokeBoard$Board;") (by decide +kernel)) rfl dX6_showSame_14 ?_
  refine lv_aload_n hx hb dX6_showSame_17 rfl (lv_at hl 0 rfl) ?_
  refine x_getr (own := RX6) (C := RX6) (T := TX6) (N := 9) hx hb hts hinX6_X6_showSame hown hK hP KC_sb rfl 0 (by decide) (hts (.fieldLink RX6 12 "StrokeBoard" "log" "LStrokeBoard$Log;") (by decide +kernel)) rfl dX6_showSame_18 ?_
  refine lv_aload_n hx hb dX6_showSame_21 rfl (lv_at hl 1 rfl) ?_
  refine lv_iload_n hx hb dX6_showSame_22 rfl (lv_at hl 3 rfl) ?_
  obtain ⟨σ4, h3, hM⟩ := bnv_i hM
  refine x_callVv (As := [.ref (ad 54), .ref (ad (57 + g)), .int u3]) (rest := []) hA ⟨hx, hb, hml, hown, hts⟩ (tX0_show l D cA ad hJ 1 (by omega) g (by omega) u3 σ2 _ h3) (cwV 3 hts gX6_showSame_X0_show rfl rfl rfl (by decide +kernel) ⟨(Nat.le_of_ble_eq_true rfl), (Nat.le_of_ble_eq_true rfl)⟩) hK hP hS (KC_brd 1 (by omega)) rfl rfl hl.1 rfl (Nat.le_of_ble_eq_true rfl) ⟨Nat.zero_le _, Nat.zero_le _⟩ dX6_showSame_23 (fun H locs hP hS _ _ => ?_)
  refine lv_aload_n hx hb dX6_showSame_26 rfl (lv_at hl 0 rfl) ?_
  refine x_getr (own := RX6) (C := RX6) (T := TX6) (N := 9) hx hb hts hinX6_X6_showSame hown hK hP KC_sb rfl 5 (by decide) (hts (.fieldLink RX6 45 "StrokeBoard" "board" "LStrokeBoard$Board;") (by decide +kernel)) rfl dX6_showSame_27 ?_
  refine lv_aload_n hx hb dX6_showSame_30 rfl (lv_at hl 0 rfl) ?_
  refine x_getr (own := RX6) (C := RX6) (T := TX6) (N := 9) hx hb hts hinX6_X6_showSame hown hK hP KC_sb rfl 6 (by decide) (hts (.fieldLink RX6 49 "StrokeBoard" "secondBoard" "LStrokeBoard$Board;") (by decide +kernel)) rfl dX6_showSame_31 ?_
  obtain ⟨r7, σ6, h5, hM⟩ := bnd_i hM
  refine x_callV (As := [.ref (ad (60 + 1))]) (rest := []) hA ⟨hx, hb, hml, hown, hts⟩ (tX0_matches l D cA ad hJ 0 (by omega) 1 (by omega) σ4 _ _ h5) (cwV 1 hts gX6_showSame_X0_matches rfl rfl rfl (by decide +kernel) ⟨(Nat.le_of_ble_eq_true rfl), (Nat.le_of_ble_eq_true rfl)⟩) hK hP hS (KC_brd 0 (by omega)) rfl rfl hl.1 rfl (Nat.le_of_ble_eq_true rfl) ⟨Nat.zero_le _, Nat.zero_le _⟩ dX6_showSame_34 (fun H locs hP hS _ _ => ?_)
  exact x_zret hx hb hr hlk hP hS hM dX6_showSame_37
theorem hinX6_X6_areSame : ∀ w ∈ u_ws RX6 TX6 9, w ∈ wsX6_areSame := by decide +kernel
set_option maxHeartbeats 4000000 in
set_option maxRecDepth 100000 in
theorem tX6_areSame (l : Launch) (D : va_G) (cA : ClassId) (ad : Nat → Nat) (hJ : w_J ad KC) (u1 u2 : Int32) (σ σ' : St) (r : Int32) (hM : mX6_areSame u1 u2 σ = some (r, σ')) : Ct l yX6_areSame wsX6_areSame 5 119 D cA ad KC [.ref (ad 62), .int u1, .int u2] σ r σ' := by
  unfold Ct
  refine Met_of (cc := cX6_areSame) (maxL := 3) (ret := (some .int)) hJ (by decide +kernel) rfl (Nat.le_of_ble_eq_true rfl) ?_
  intro p e s m below meth c Z H locs ls hP hS hl
  obtain ⟨hx, hb, hml, hown, hts, hr, hlk, hK, -⟩ := Z
  have hown : s.vm.findClass RX6 = some m.cls := hown
  have hl : lv_has ls 3 [(0, .ref (ad 62)), (1, .int u1), (2, .int u2)] := hl
  have hA : ∀ q, w_A ad KC q → w_A ad KC q := fun _ h => h
  unfold mX6_areSame at hM
  refine lv_aload_n hx hb dX6_areSame_0 rfl (lv_at hl 0 rfl) ?_
  refine lv_iload_n hx hb dX6_areSame_1 rfl (lv_at hl 1 rfl) ?_
  obtain ⟨r3, σ2, h1, hM⟩ := bnd_i hM
  refine x_callV (As := [.int u1]) (rest := []) hA ⟨hx, hb, hml, hown, hts⟩ (tX6_isSite l D cA ad hJ u1 σ _ _ h1) (cwV 1 hts gX6_areSame_X6_isSite rfl rfl rfl (by decide +kernel) ⟨(Nat.le_of_ble_eq_true rfl), (Nat.le_of_ble_eq_true rfl)⟩) hK hP hS KC_sb rfl rfl hl.1 rfl (Nat.le_of_ble_eq_true rfl) ⟨Nat.zero_le _, Nat.zero_le _⟩ dX6_areSame_2 (fun H locs hP hS _ _ => ?_)
  refine lv_if_eq (tgt := 16) hx hb dX6_areSame_5 (by decide) (fun c4 => ?_) (fun c4 => ?_)
  · have hM := (if_pos c4).symm.trans hM
    refine lv_ldc (own := RX6) (v := (-1000000001)) hx hb hown (hts (.constant RX6 67 (-1000000001)) (by decide +kernel)) dX6_areSame_16 ?_
    exact x_iret hx hb hr hlk hP hS hM dX6_areSame_18
  · have hM := (if_neg c4).symm.trans hM
    refine lv_aload_n hx hb dX6_areSame_8 rfl (lv_at hl 0 rfl) ?_
    refine lv_iload_n hx hb dX6_areSame_9 rfl (lv_at hl 2 rfl) ?_
    obtain ⟨r7, σ6, h5, hM⟩ := bnd_i hM
    refine x_callV (As := [.int u2]) (rest := []) hA ⟨hx, hb, hml, hown, hts⟩ (tX6_isSite l D cA ad hJ u2 σ2 _ _ h5) (cwV 1 hts gX6_areSame_X6_isSite rfl rfl rfl (by decide +kernel) ⟨(Nat.le_of_ble_eq_true rfl), (Nat.le_of_ble_eq_true rfl)⟩) hK hP hS KC_sb rfl rfl hl.1 rfl (Nat.le_of_ble_eq_true rfl) ⟨Nat.zero_le _, Nat.zero_le _⟩ dX6_areSame_10 (fun H locs hP hS _ _ => ?_)
    refine lv_if_ne (tgt := 19) hx hb dX6_areSame_13 (by decide) (fun c8 => ?_) (fun c8 => ?_)
    · have hM := (if_neg c8).symm.trans hM
      refine lv_aload_n hx hb dX6_areSame_19 rfl (lv_at hl 0 rfl) ?_
      refine lv_aload_n hx hb dX6_areSame_20 rfl (lv_at hl 0 rfl) ?_
      refine x_getr (own := RX6) (C := RX6) (T := TX6) (N := 9) hx hb hts hinX6_X6_areSame hown hK hP KC_sb rfl 2 (by decide) (hts (.fieldLink RX6 28 "StrokeBoard" "knowledge" "LStrokeBoard$Knowledge;") (by decide +kernel)) rfl dX6_areSame_21 ?_
      refine lv_iload_n hx hb dX6_areSame_24 rfl (lv_at hl 1 rfl) ?_
      refine lv_iload_n hx hb dX6_areSame_25 rfl (lv_at hl 2 rfl) ?_
      obtain ⟨r11, σ10, h9, hM⟩ := bnd_i hM
      refine x_callV (As := [.ref (ad (57 + 0)), .int u1, .int u2]) (rest := []) hA ⟨hx, hb, hml, hown, hts⟩ (tX6_showSame l D cA ad hJ 0 (by omega) u1 u2 σ6 _ _ h9) (cwV 3 hts gX6_areSame_X6_showSame rfl rfl rfl (by decide +kernel) ⟨(Nat.le_of_ble_eq_true rfl), (Nat.le_of_ble_eq_true rfl)⟩) hK hP hS KC_sb rfl rfl hl.1 rfl (Nat.le_of_ble_eq_true rfl) ⟨Nat.zero_le _, Nat.zero_le _⟩ dX6_areSame_26 (fun H locs hP hS _ _ => ?_)
      refine lv_if_eq (tgt := 36) hx hb dX6_areSame_29 (by decide) (fun c12 => ?_) (fun c12 => ?_)
      · have hM := (if_pos c12).symm.trans hM
        refine lv_iconst (v := 0) hx hb dX6_areSame_36 (by decide) ?_
        exact x_iret hx hb hr hlk hP hS hM dX6_areSame_37
      · have hM := (if_neg c12).symm.trans hM
        refine lv_iconst (v := 1) hx hb dX6_areSame_32 (by decide) ?_
        refine lv_goto (tgt := 37) hx hb dX6_areSame_33 (by decide) ?_
        exact x_iret hx hb hr hlk hP hS hM dX6_areSame_37
    · have hM := (if_pos c8).symm.trans hM
      refine lv_ldc (own := RX6) (v := (-1000000001)) hx hb hown (hts (.constant RX6 67 (-1000000001)) (by decide +kernel)) dX6_areSame_16 ?_
      exact x_iret hx hb hr hlk hP hS hM dX6_areSame_18
theorem hinX6_X6_lookAhead : ∀ w ∈ u_ws RX6 TX6 9, w ∈ wsX6_lookAhead := by decide +kernel
set_option maxHeartbeats 4000000 in
set_option maxRecDepth 100000 in
theorem tX6_lookAhead (l : Launch) (D : va_G) (cA : ClassId) (ad : Nat → Nat) (hJ : w_J ad KC) (σ σ' : St) (hM : mX6_lookAhead σ = some σ') : Cv l yX6_lookAhead wsX6_lookAhead 3 64 D cA ad KC [.ref (ad 62)] σ σ' := by
  unfold Cv
  refine Met_of (cc := cX6_lookAhead) (maxL := 4) (ret := none) hJ (by decide +kernel) rfl (Nat.le_of_ble_eq_true rfl) ?_
  intro p e s m below meth c Z H locs ls hP hS hl
  obtain ⟨hx, hb, hml, hown, hts, hr, hlk, hK, -⟩ := Z
  have hown : s.vm.findClass RX6 = some m.cls := hown
  have hl : lv_has ls 4 [(0, .ref (ad 62))] := hl
  have hA : ∀ q, w_A ad KC q → w_A ad KC q := fun _ h => h
  have L13 : ∀ (n : Nat) (x1 : Int32) (σ : St) (H : Heap) (locs : List Loc) (ls : Array Slot), mX6_lookAhead_L13 n x1 σ = some σ' → w_P D cA ad KC σ H → va_S (w_A ad KC) s.heap H locs → lv_has ls 4 [(0, .ref (ad 62)), (1, .int x1)] → Wm p l e wsX6_lookAhead 3 64 s m ([.ref (ad 62)] : List Value).toArray below meth c (w_Qv D cA ad KC σ') (w_A ad KC) H locs (F0 m 13 ls []) := by
    intro n13
    induction n13 with
    | zero =>
      intro x1 σ H locs ls hM hP hS hl
      rw [mX6_lookAhead_L13] at hM
      cases hM
    | succ n13 ih13 =>
      have L23 : ∀ (n : Nat) (x1 x2 : Int32) (σ : St) (H : Heap) (locs : List Loc) (ls : Array Slot), mX6_lookAhead_L23 (mX6_lookAhead_L13 n13) n x1 x2 σ = some σ' → w_P D cA ad KC σ H → va_S (w_A ad KC) s.heap H locs → lv_has ls 4 [(0, .ref (ad 62)), (1, .int x1), (2, .int x2)] → Wm p l e wsX6_lookAhead 3 64 s m ([.ref (ad 62)] : List Value).toArray below meth c (w_Qv D cA ad KC σ') (w_A ad KC) H locs (F0 m 23 ls []) := by
        intro n23
        induction n23 with
        | zero =>
          intro x1 x2 σ H locs ls hM hP hS hl
          rw [mX6_lookAhead_L23] at hM
          cases hM
        | succ n23 ih23 =>
          have L33 : ∀ (n : Nat) (x1 x2 x3 : Int32) (σ : St) (H : Heap) (locs : List Loc) (ls : Array Slot), mX6_lookAhead_L33 (mX6_lookAhead_L13 n13) (mX6_lookAhead_L23 (mX6_lookAhead_L13 n13) n23) n x1 x2 x3 σ = some σ' → w_P D cA ad KC σ H → va_S (w_A ad KC) s.heap H locs → lv_has ls 4 [(0, .ref (ad 62)), (1, .int x1), (2, .int x2), (3, .int x3)] → Wm p l e wsX6_lookAhead 3 64 s m ([.ref (ad 62)] : List Value).toArray below meth c (w_Qv D cA ad KC σ') (w_A ad KC) H locs (F0 m 33 ls []) := by
            intro n33
            induction n33 with
            | zero =>
              intro x1 x2 x3 σ H locs ls hM hP hS hl
              rw [mX6_lookAhead_L33] at hM
              cases hM
            | succ n33 ih33 =>
              intro x1 x2 x3 σ H locs ls hM hP hS hl
              rw [mX6_lookAhead_L33] at hM
              refine lv_iload_n hx hb dX6_lookAhead_33 rfl (lv_at hl 3 rfl) ?_
              refine lv_aload_n hx hb dX6_lookAhead_34 rfl (lv_at hl 0 rfl) ?_
              refine x_getr (own := RX6) (C := RX6) (T := TX6) (N := 9) hx hb hts hinX6_X6_lookAhead hown hK hP KC_sb rfl 4 (by decide) (hts (.fieldLink RX6 38 "StrokeBoard" "links" "LStrokeBoard$Links;") (by decide +kernel)) rfl dX6_lookAhead_35 ?_
              refine lv_iload_n hx hb dX6_lookAhead_38 rfl (lv_at hl 1 rfl) ?_
              refine lv_iload_n hx hb dX6_lookAhead_39 rfl (lv_at hl 2 rfl) ?_
              obtain ⟨r3, σ2, h1, hM⟩ := bnd_i hM
              refine x_callV (As := [.int x1, .int x2]) (rest := [.int x3]) hA ⟨hx, hb, hml, hown, hts⟩ (tX3_countIn l D cA ad hJ x1 x2 σ _ _ h1) (cwV 2 hts gX6_lookAhead_X3_countIn rfl rfl rfl (by decide +kernel) ⟨(Nat.le_of_ble_eq_true rfl), (Nat.le_of_ble_eq_true rfl)⟩) hK hP hS KC_lnk rfl rfl hl.1 rfl (Nat.le_of_ble_eq_true rfl) ⟨Nat.zero_le _, Nat.zero_le _⟩ dX6_lookAhead_40 (fun H locs hP hS _ _ => ?_)
              refine lv_icmp_ge (tgt := 70) hx hb dX6_lookAhead_43 (by decide) (fun c4 => ?_) (fun c4 => ?_)
              · have hM := (if_pos c4).symm.trans hM
                refine lv_iinc (v := (x2 + 1)) (lv' := [(2, .int (x2 + 1)), (0, .ref (ad 62)), (1, .int x1), (3, .int x3)]) hx hb dX6_lookAhead_70 hl (k := 2) rfl rfl (by decide) rfl (fun ls hl => ?_)
                refine lv_goto (tgt := 23) hx hb dX6_lookAhead_73 (by decide) ?_
                exact ih23 _ _ _ _ _ _ hM hP hS (lv_sub hl [1, 2, 0] rfl)
              · have hM := (if_neg c4).symm.trans hM
                refine lv_aload_n hx hb dX6_lookAhead_46 rfl (lv_at hl 0 rfl) ?_
                refine x_getr (own := RX6) (C := RX6) (T := TX6) (N := 9) hx hb hts hinX6_X6_lookAhead hown hK hP KC_sb rfl 3 (by decide) (hts (.fieldLink RX6 32 "StrokeBoard" "future" "LStrokeBoard$Knowledge;") (by decide +kernel)) rfl dX6_lookAhead_47 ?_
                refine lv_iload_n hx hb dX6_lookAhead_50 rfl (lv_at hl 2 rfl) ?_
                refine lv_aload_n hx hb dX6_lookAhead_51 rfl (lv_at hl 0 rfl) ?_
                refine x_getr (own := RX6) (C := RX6) (T := TX6) (N := 9) hx hb hts hinX6_X6_lookAhead hown hK hP KC_sb rfl 4 (by decide) (hts (.fieldLink RX6 38 "StrokeBoard" "links" "LStrokeBoard$Links;") (by decide +kernel)) rfl dX6_lookAhead_52 ?_
                refine lv_iload_n hx hb dX6_lookAhead_55 rfl (lv_at hl 1 rfl) ?_
                refine lv_iload_n hx hb dX6_lookAhead_56 rfl (lv_at hl 2 rfl) ?_
                refine lv_iload_n hx hb dX6_lookAhead_57 rfl (lv_at hl 3 rfl) ?_
                obtain ⟨r7, σ6, h5, hM⟩ := bnd_i hM
                refine x_callV (As := [.int x1, .int x2, .int x3]) (rest := [.int x2, .ref (ad (57 + 1))]) hA ⟨hx, hb, hml, hown, hts⟩ (tX3_messageIn l D cA ad hJ x1 x2 x3 σ2 _ _ h5) (cwV 3 hts gX6_lookAhead_X3_messageIn rfl rfl rfl (by decide +kernel) ⟨(Nat.le_of_ble_eq_true rfl), (Nat.le_of_ble_eq_true rfl)⟩) hK hP hS KC_lnk rfl rfl hl.1 rfl (Nat.le_of_ble_eq_true rfl) ⟨Nat.zero_le _, Nat.zero_le _⟩ dX6_lookAhead_58 (fun H locs hP hS _ _ => ?_)
                obtain ⟨σ9, h8, hM⟩ := bnv_i hM
                refine x_callVv (As := [.int x2, .int r7]) (rest := []) hA ⟨hx, hb, hml, hown, hts⟩ (tX2_learn l D cA ad hJ 1 (by omega) x2 r7 σ6 _ h8) (cwV 2 hts gX6_lookAhead_X2_learn rfl rfl rfl (by decide +kernel) ⟨(Nat.le_of_ble_eq_true rfl), (Nat.le_of_ble_eq_true rfl)⟩) hK hP hS (KC_kno 1 (by omega)) rfl rfl hl.1 rfl (Nat.le_of_ble_eq_true rfl) ⟨Nat.zero_le _, Nat.zero_le _⟩ dX6_lookAhead_61 (fun H locs hP hS _ _ => ?_)
                refine lv_iinc (v := (x3 + 1)) (lv' := [(3, .int (x3 + 1)), (0, .ref (ad 62)), (1, .int x1), (2, .int x2)]) hx hb dX6_lookAhead_64 hl (k := 3) rfl rfl (by decide) rfl (fun ls hl => ?_)
                refine lv_goto (tgt := 33) hx hb dX6_lookAhead_67 (by decide) ?_
                exact ih33 _ _ _ _ _ _ _ hM hP hS (lv_sub hl [1, 2, 3, 0] rfl)
          intro x1 x2 σ H locs ls hM hP hS hl
          rw [mX6_lookAhead_L23] at hM
          refine lv_iload_n hx hb dX6_lookAhead_23 rfl (lv_at hl 2 rfl) ?_
          refine lv_aload_n hx hb dX6_lookAhead_24 rfl (lv_at hl 0 rfl) ?_
          refine x_geti (own := RX6) (C := RX6) (T := TX6) (N := 9) hx hb hts hinX6_X6_lookAhead hown hK hP KC_sb rfl 8 (by decide) (hts (.fieldLink RX6 59 "StrokeBoard" "siteCount" "I") (by decide +kernel)) rfl dX6_lookAhead_25 ?_
          refine lv_icmp_ge (tgt := 76) hx hb dX6_lookAhead_28 (by decide) (fun c10 => ?_) (fun c10 => ?_)
          · have hM := (if_pos c10).symm.trans hM
            refine lv_iinc (v := (x1 + 1)) (lv' := [(1, .int (x1 + 1)), (0, .ref (ad 62)), (2, .int x2)]) hx hb dX6_lookAhead_76 hl (k := 1) rfl rfl (by decide) rfl (fun ls hl => ?_)
            refine lv_goto (tgt := 13) hx hb dX6_lookAhead_79 (by decide) ?_
            exact ih13 _ _ _ _ _ hM hP hS (lv_sub hl [1, 0] rfl)
          · have hM := (if_neg c10).symm.trans hM
            refine lv_iconst (v := 0) hx hb dX6_lookAhead_31 (by decide) ?_
            refine lv_istore_n (lv' := [(3, .int 0), (0, .ref (ad 62)), (1, .int x1), (2, .int x2)]) hx hb dX6_lookAhead_32 rfl hl (by decide) rfl (fun ls hl => ?_)
            exact L33 fu _ _ _ _ _ _ _ hM hP hS (lv_sub hl [1, 2, 3, 0] rfl)
      intro x1 σ H locs ls hM hP hS hl
      rw [mX6_lookAhead_L13] at hM
      refine lv_iload_n hx hb dX6_lookAhead_13 rfl (lv_at hl 1 rfl) ?_
      refine lv_aload_n hx hb dX6_lookAhead_14 rfl (lv_at hl 0 rfl) ?_
      refine x_geti (own := RX6) (C := RX6) (T := TX6) (N := 9) hx hb hts hinX6_X6_lookAhead hown hK hP KC_sb rfl 8 (by decide) (hts (.fieldLink RX6 59 "StrokeBoard" "siteCount" "I") (by decide +kernel)) rfl dX6_lookAhead_15 ?_
      refine lv_icmp_ge (tgt := 82) hx hb dX6_lookAhead_18 (by decide) (fun c11 => ?_) (fun c11 => ?_)
      · have hM := (if_pos c11).symm.trans hM
        exact x_vret hx hb hr hlk hP hS hM dX6_lookAhead_82
      · have hM := (if_neg c11).symm.trans hM
        refine lv_iconst (v := 0) hx hb dX6_lookAhead_21 (by decide) ?_
        refine lv_istore_n (lv' := [(2, .int 0), (0, .ref (ad 62)), (1, .int x1)]) hx hb dX6_lookAhead_22 rfl hl (by decide) rfl (fun ls hl => ?_)
        exact L23 fu _ _ _ _ _ _ hM hP hS (lv_sub hl [1, 2, 0] rfl)
  unfold mX6_lookAhead at hM
  refine lv_aload_n hx hb dX6_lookAhead_0 rfl (lv_at hl 0 rfl) ?_
  refine x_getr (own := RX6) (C := RX6) (T := TX6) (N := 9) hx hb hts hinX6_X6_lookAhead hown hK hP KC_sb rfl 3 (by decide) (hts (.fieldLink RX6 32 "StrokeBoard" "future" "LStrokeBoard$Knowledge;") (by decide +kernel)) rfl dX6_lookAhead_1 ?_
  refine lv_aload_n hx hb dX6_lookAhead_4 rfl (lv_at hl 0 rfl) ?_
  refine x_getr (own := RX6) (C := RX6) (T := TX6) (N := 9) hx hb hts hinX6_X6_lookAhead hown hK hP KC_sb rfl 2 (by decide) (hts (.fieldLink RX6 28 "StrokeBoard" "knowledge" "LStrokeBoard$Knowledge;") (by decide +kernel)) rfl dX6_lookAhead_5 ?_
  obtain ⟨σ13, h12, hM⟩ := bnv_i hM
  refine x_callVv (As := [.ref (ad (57 + 0))]) (rest := []) hA ⟨hx, hb, hml, hown, hts⟩ (tX2_copyFrom l D cA ad hJ 1 (by omega) 0 (by omega) σ _ h12) (cwV 1 hts gX6_lookAhead_X2_copyFrom rfl rfl rfl (by decide +kernel) ⟨(Nat.le_of_ble_eq_true rfl), (Nat.le_of_ble_eq_true rfl)⟩) hK hP hS (KC_kno 1 (by omega)) rfl rfl hl.1 rfl (Nat.le_of_ble_eq_true rfl) ⟨Nat.zero_le _, Nat.zero_le _⟩ dX6_lookAhead_8 (fun H locs hP hS _ _ => ?_)
  refine lv_iconst (v := 0) hx hb dX6_lookAhead_11 (by decide) ?_
  refine lv_istore_n (lv' := [(1, .int 0), (0, .ref (ad 62))]) hx hb dX6_lookAhead_12 rfl hl (by decide) rfl (fun ls hl => ?_)
  exact L13 fu _ _ _ _ _ hM hP hS (lv_sub hl [1, 0] rfl)
theorem hinX6_X6_differing : ∀ w ∈ u_ws RX6 TX6 9, w ∈ wsX6_differing := by decide +kernel
set_option maxHeartbeats 4000000 in
set_option maxRecDepth 100000 in
theorem tX6_differing (l : Launch) (D : va_G) (cA : ClassId) (ad : Nat → Nat) (hJ : w_J ad KC) (σ σ' : St) (r : Int32) (hM : mX6_differing σ = some (r, σ')) : Ct l yX6_differing wsX6_differing 5 119 D cA ad KC [.ref (ad 62)] σ r σ' := by
  unfold Ct
  refine Met_of (cc := cX6_differing) (maxL := 4) (ret := (some .int)) hJ (by decide +kernel) rfl (Nat.le_of_ble_eq_true rfl) ?_
  intro p e s m below meth c Z H locs ls hP hS hl
  obtain ⟨hx, hb, hml, hown, hts, hr, hlk, hK, -⟩ := Z
  have hown : s.vm.findClass RX6 = some m.cls := hown
  have hl : lv_has ls 4 [(0, .ref (ad 62))] := hl
  have hA : ∀ q, w_A ad KC q → w_A ad KC q := fun _ h => h
  have L8 : ∀ (n : Nat) (x1 x2 : Int32) (σ : St) (H : Heap) (locs : List Loc) (ls : Array Slot), mX6_differing_L8 n x1 x2 σ = some (r, σ') → w_P D cA ad KC σ H → va_S (w_A ad KC) s.heap H locs → lv_has ls 4 [(0, .ref (ad 62)), (1, .int x1), (2, .int x2)] → Wm p l e wsX6_differing 5 119 s m ([.ref (ad 62)] : List Value).toArray below meth c (w_Qi D cA ad KC r σ') (w_A ad KC) H locs (F0 m 8 ls []) := by
    intro n8
    induction n8 with
    | zero =>
      intro x1 x2 σ H locs ls hM hP hS hl
      rw [mX6_differing_L8] at hM
      cases hM
    | succ n8 ih8 =>
      have L20 : ∀ (n : Nat) (x1 x2 x3 : Int32) (σ : St) (H : Heap) (locs : List Loc) (ls : Array Slot), mX6_differing_L20 (mX6_differing_L8 n8) n x1 x2 x3 σ = some (r, σ') → w_P D cA ad KC σ H → va_S (w_A ad KC) s.heap H locs → lv_has ls 4 [(0, .ref (ad 62)), (1, .int x1), (2, .int x2), (3, .int x3)] → Wm p l e wsX6_differing 5 119 s m ([.ref (ad 62)] : List Value).toArray below meth c (w_Qi D cA ad KC r σ') (w_A ad KC) H locs (F0 m 20 ls []) := by
        intro n20
        induction n20 with
        | zero =>
          intro x1 x2 x3 σ H locs ls hM hP hS hl
          rw [mX6_differing_L20] at hM
          cases hM
        | succ n20 ih20 =>
          intro x1 x2 x3 σ H locs ls hM hP hS hl
          rw [mX6_differing_L20] at hM
          refine lv_iload_n hx hb dX6_differing_20 rfl (lv_at hl 3 rfl) ?_
          refine lv_aload_n hx hb dX6_differing_21 rfl (lv_at hl 0 rfl) ?_
          refine x_geti (own := RX6) (C := RX6) (T := TX6) (N := 9) hx hb hts hinX6_X6_differing hown hK hP KC_sb rfl 8 (by decide) (hts (.fieldLink RX6 59 "StrokeBoard" "siteCount" "I") (by decide +kernel)) rfl dX6_differing_22 ?_
          refine lv_icmp_ge (tgt := 50) hx hb dX6_differing_25 (by decide) (fun c1 => ?_) (fun c1 => ?_)
          · have hM := (if_pos c1).symm.trans hM
            refine lv_iinc (v := (x2 + 1)) (lv' := [(2, .int (x2 + 1)), (0, .ref (ad 62)), (1, .int x1), (3, .int x3)]) hx hb dX6_differing_50 hl (k := 2) rfl rfl (by decide) rfl (fun ls hl => ?_)
            refine lv_goto (tgt := 8) hx hb dX6_differing_53 (by decide) ?_
            exact ih8 _ _ _ _ _ _ hM hP hS (lv_sub hl [1, 2, 0] rfl)
          · have hM := (if_neg c1).symm.trans hM
            refine lv_aload_n hx hb dX6_differing_28 rfl (lv_at hl 0 rfl) ?_
            refine lv_aload_n hx hb dX6_differing_29 rfl (lv_at hl 0 rfl) ?_
            refine x_getr (own := RX6) (C := RX6) (T := TX6) (N := 9) hx hb hts hinX6_X6_differing hown hK hP KC_sb rfl 3 (by decide) (hts (.fieldLink RX6 32 "StrokeBoard" "future" "LStrokeBoard$Knowledge;") (by decide +kernel)) rfl dX6_differing_30 ?_
            refine lv_iload_n hx hb dX6_differing_33 rfl (lv_at hl 2 rfl) ?_
            refine lv_iload_n hx hb dX6_differing_34 rfl (lv_at hl 3 rfl) ?_
            obtain ⟨r4, σ3, h2, hM⟩ := bnd_i hM
            refine x_callV (As := [.ref (ad (57 + 1)), .int x2, .int x3]) (rest := []) hA ⟨hx, hb, hml, hown, hts⟩ (tX6_showSame l D cA ad hJ 1 (by omega) x2 x3 σ _ _ h2) (cwV 3 hts gX6_differing_X6_showSame rfl rfl rfl (by decide +kernel) ⟨(Nat.le_of_ble_eq_true rfl), (Nat.le_of_ble_eq_true rfl)⟩) hK hP hS KC_sb rfl rfl hl.1 rfl (Nat.le_of_ble_eq_true rfl) ⟨Nat.zero_le _, Nat.zero_le _⟩ dX6_differing_35 (fun H locs hP hS _ _ => ?_)
            refine lv_if_ne (tgt := 44) hx hb dX6_differing_38 (by decide) (fun c5 => ?_) (fun c5 => ?_)
            · have hM := (if_neg c5).symm.trans hM
              refine lv_iinc (v := (x3 + 1)) (lv' := [(3, .int (x3 + 1)), (0, .ref (ad 62)), (1, .int x1), (2, .int x2)]) hx hb dX6_differing_44 hl (k := 3) rfl rfl (by decide) rfl (fun ls hl => ?_)
              refine lv_goto (tgt := 20) hx hb dX6_differing_47 (by decide) ?_
              exact ih20 _ _ _ _ _ _ _ hM hP hS (lv_sub hl [1, 2, 3, 0] rfl)
            · have hM := (if_pos c5).symm.trans hM
              refine lv_iinc (v := (x1 + 1)) (lv' := [(1, .int (x1 + 1)), (0, .ref (ad 62)), (2, .int x2), (3, .int x3)]) hx hb dX6_differing_41 hl (k := 1) rfl rfl (by decide) rfl (fun ls hl => ?_)
              refine lv_iinc (v := (x3 + 1)) (lv' := [(3, .int (x3 + 1)), (1, .int (x1 + 1)), (0, .ref (ad 62)), (2, .int x2)]) hx hb dX6_differing_44 hl (k := 3) rfl rfl (by decide) rfl (fun ls hl => ?_)
              refine lv_goto (tgt := 20) hx hb dX6_differing_47 (by decide) ?_
              exact ih20 _ _ _ _ _ _ _ hM hP hS (lv_sub hl [2, 1, 3, 0] rfl)
      intro x1 x2 σ H locs ls hM hP hS hl
      rw [mX6_differing_L8] at hM
      refine lv_iload_n hx hb dX6_differing_8 rfl (lv_at hl 2 rfl) ?_
      refine lv_aload_n hx hb dX6_differing_9 rfl (lv_at hl 0 rfl) ?_
      refine x_geti (own := RX6) (C := RX6) (T := TX6) (N := 9) hx hb hts hinX6_X6_differing hown hK hP KC_sb rfl 8 (by decide) (hts (.fieldLink RX6 59 "StrokeBoard" "siteCount" "I") (by decide +kernel)) rfl dX6_differing_10 ?_
      refine lv_icmp_ge (tgt := 56) hx hb dX6_differing_13 (by decide) (fun c6 => ?_) (fun c6 => ?_)
      · have hM := (if_pos c6).symm.trans hM
        refine lv_iload_n hx hb dX6_differing_56 rfl (lv_at hl 1 rfl) ?_
        exact x_iret hx hb hr hlk hP hS hM dX6_differing_57
      · have hM := (if_neg c6).symm.trans hM
        refine lv_iload_n hx hb dX6_differing_16 rfl (lv_at hl 2 rfl) ?_
        refine lv_iconst (v := 1) hx hb dX6_differing_17 (by decide) ?_
        refine lv_iadd hx hb dX6_differing_18 ?_
        refine lv_istore_n (lv' := [(3, .int (x2 + 1)), (0, .ref (ad 62)), (1, .int x1), (2, .int x2)]) hx hb dX6_differing_19 rfl hl (by decide) rfl (fun ls hl => ?_)
        exact L20 fu _ _ _ _ _ _ _ hM hP hS (lv_sub hl [1, 2, 3, 0] rfl)
  unfold mX6_differing at hM
  refine lv_aload_n hx hb dX6_differing_0 rfl (lv_at hl 0 rfl) ?_
  obtain ⟨σ8, h7, hM⟩ := bnv_i hM
  refine x_callVv (As := []) (rest := []) hA ⟨hx, hb, hml, hown, hts⟩ (tX6_lookAhead l D cA ad hJ σ _ h7) (cwV 0 hts gX6_differing_X6_lookAhead rfl rfl rfl (by decide +kernel) ⟨(Nat.le_of_ble_eq_true rfl), (Nat.le_of_ble_eq_true rfl)⟩) hK hP hS KC_sb rfl rfl hl.1 rfl (Nat.le_of_ble_eq_true rfl) ⟨Nat.zero_le _, Nat.zero_le _⟩ dX6_differing_1 (fun H locs hP hS _ _ => ?_)
  refine lv_iconst (v := 0) hx hb dX6_differing_4 (by decide) ?_
  refine lv_istore_n (lv' := [(1, .int 0), (0, .ref (ad 62))]) hx hb dX6_differing_5 rfl hl (by decide) rfl (fun ls hl => ?_)
  refine lv_iconst (v := 0) hx hb dX6_differing_6 (by decide) ?_
  refine lv_istore_n (lv' := [(2, .int 0), (1, .int 0), (0, .ref (ad 62))]) hx hb dX6_differing_7 rfl hl (by decide) rfl (fun ls hl => ?_)
  exact L8 fu _ _ _ _ _ _ hM hP hS (lv_sub hl [2, 1, 0] rfl)
set_option maxHeartbeats 4000000 in
set_option maxRecDepth 100000 in
theorem tX6_repairable (l : Launch) (D : va_G) (cA : ClassId) (ad : Nat → Nat) (hJ : w_J ad KC) (u1 u2 : Int32) (σ σ' : St) (r : Int32) (hM : mX6_repairable u1 u2 σ = some (r, σ')) : Ct l yX6_repairable wsX6_repairable 5 112 D cA ad KC [.ref (ad 62), .int u1, .int u2] σ r σ' := by
  unfold Ct
  refine Met_of (cc := cX6_repairable) (maxL := 5) (ret := (some .int)) hJ (by decide +kernel) rfl (Nat.le_of_ble_eq_true rfl) ?_
  intro p e s m below meth c Z H locs ls hP hS hl
  obtain ⟨hx, hb, hml, hown, hts, hr, hlk, hK, -⟩ := Z
  have hown : s.vm.findClass RX6 = some m.cls := hown
  have hl : lv_has ls 5 [(0, .ref (ad 62)), (1, .int u1), (2, .int u2)] := hl
  have hA : ∀ q, w_A ad KC q → w_A ad KC q := fun _ h => h
  have L5 : ∀ (n : Nat) (x1 x2 x3 x4 : Int32) (σ : St) (H : Heap) (locs : List Loc) (ls : Array Slot), mX6_repairable_L5 n x1 x2 x3 x4 σ = some (r, σ') → w_P D cA ad KC σ H → va_S (w_A ad KC) s.heap H locs → lv_has ls 5 [(0, .ref (ad 62)), (1, .int x1), (2, .int x2), (3, .int x3), (4, .int x4)] → Wm p l e wsX6_repairable 5 112 s m ([.ref (ad 62), .int u1, .int u2] : List Value).toArray below meth c (w_Qi D cA ad KC r σ') (w_A ad KC) H locs (F0 m 5 ls []) := by
    intro n5
    induction n5 with
    | zero =>
      intro x1 x2 x3 x4 σ H locs ls hM hP hS hl
      rw [mX6_repairable_L5] at hM
      cases hM
    | succ n5 ih5 =>
      intro x1 x2 x3 x4 σ H locs ls hM hP hS hl
      rw [mX6_repairable_L5] at hM
      refine lv_iload hx hb dX6_repairable_5 (lv_at hl 4 rfl) ?_
      refine lv_bipush (v := 100) hx hb dX6_repairable_7 (by decide) ?_
      refine lv_icmp_ge (tgt := 32) hx hb dX6_repairable_9 (by decide) (fun c1 => ?_) (fun c1 => ?_)
      · have hM := (if_pos c1).symm.trans hM
        refine lv_iload_n hx hb dX6_repairable_32 rfl (lv_at hl 3 rfl) ?_
        exact x_iret hx hb hr hlk hP hS hM dX6_repairable_33
      · have hM := (if_neg c1).symm.trans hM
        refine lv_aload_n hx hb dX6_repairable_12 rfl (lv_at hl 0 rfl) ?_
        refine lv_iload_n hx hb dX6_repairable_13 rfl (lv_at hl 1 rfl) ?_
        refine lv_iload_n hx hb dX6_repairable_14 rfl (lv_at hl 2 rfl) ?_
        refine lv_iload hx hb dX6_repairable_15 (lv_at hl 4 rfl) ?_
        obtain ⟨r4, σ3, h2, hM⟩ := bnd_i hM
        refine x_callV (As := [.int x1, .int x2, .int x4]) (rest := []) hA ⟨hx, hb, hml, hown, hts⟩ (tX6_canRepair l D cA ad hJ x1 x2 x4 σ _ _ h2) (cwV 3 hts gX6_repairable_X6_canRepair rfl rfl rfl (by decide +kernel) ⟨(Nat.le_of_ble_eq_true rfl), (Nat.le_of_ble_eq_true rfl)⟩) hK hP hS KC_sb rfl rfl hl.1 rfl (Nat.le_of_ble_eq_true rfl) ⟨Nat.zero_le _, Nat.zero_le _⟩ dX6_repairable_17 (fun H locs hP hS _ _ => ?_)
        refine lv_if_eq (tgt := 26) hx hb dX6_repairable_20 (by decide) (fun c5 => ?_) (fun c5 => ?_)
        · have hM := (if_pos c5).symm.trans hM
          refine lv_iinc (v := (x4 + 1)) (lv' := [(4, .int (x4 + 1)), (0, .ref (ad 62)), (1, .int x1), (2, .int x2), (3, .int x3)]) hx hb dX6_repairable_26 hl (k := 4) rfl rfl (by decide) rfl (fun ls hl => ?_)
          refine lv_goto (tgt := 5) hx hb dX6_repairable_29 (by decide) ?_
          exact ih5 _ _ _ _ _ _ _ _ hM hP hS (lv_sub hl [1, 2, 3, 4, 0] rfl)
        · have hM := (if_neg c5).symm.trans hM
          refine lv_iinc (v := (x3 + 1)) (lv' := [(3, .int (x3 + 1)), (0, .ref (ad 62)), (1, .int x1), (2, .int x2), (4, .int x4)]) hx hb dX6_repairable_23 hl (k := 3) rfl rfl (by decide) rfl (fun ls hl => ?_)
          refine lv_iinc (v := (x4 + 1)) (lv' := [(4, .int (x4 + 1)), (3, .int (x3 + 1)), (0, .ref (ad 62)), (1, .int x1), (2, .int x2)]) hx hb dX6_repairable_26 hl (k := 4) rfl rfl (by decide) rfl (fun ls hl => ?_)
          refine lv_goto (tgt := 5) hx hb dX6_repairable_29 (by decide) ?_
          exact ih5 _ _ _ _ _ _ _ _ hM hP hS (lv_sub hl [2, 3, 4, 1, 0] rfl)
  unfold mX6_repairable at hM
  refine lv_iconst (v := 0) hx hb dX6_repairable_0 (by decide) ?_
  refine lv_istore_n (lv' := [(3, .int 0), (0, .ref (ad 62)), (1, .int u1), (2, .int u2)]) hx hb dX6_repairable_1 rfl hl (by decide) rfl (fun ls hl => ?_)
  refine lv_iconst (v := 0) hx hb dX6_repairable_2 (by decide) ?_
  refine lv_istore (lv' := [(4, .int 0), (3, .int 0), (0, .ref (ad 62)), (1, .int u1), (2, .int u2)]) hx hb dX6_repairable_3 hl (by decide) rfl (fun ls hl => ?_)
  exact L5 fu _ _ _ _ _ _ _ _ hM hP hS (lv_sub hl [2, 3, 4, 1, 0] rfl)
theorem hinX6_X6_bestHelper : ∀ w ∈ u_ws RX6 TX6 9, w ∈ wsX6_bestHelper := by decide +kernel
set_option maxHeartbeats 4000000 in
set_option maxRecDepth 100000 in
theorem tX6_bestHelper (l : Launch) (D : va_G) (cA : ClassId) (ad : Nat → Nat) (hJ : w_J ad KC) (u1 : Int32) (σ σ' : St) (r : Int32) (hM : mX6_bestHelper u1 σ = some (r, σ')) : Ct l yX6_bestHelper wsX6_bestHelper 6 136 D cA ad KC [.ref (ad 62), .int u1] σ r σ' := by
  unfold Ct
  refine Met_of (cc := cX6_bestHelper) (maxL := 6) (ret := (some .int)) hJ (by decide +kernel) rfl (Nat.le_of_ble_eq_true rfl) ?_
  intro p e s m below meth c Z H locs ls hP hS hl
  obtain ⟨hx, hb, hml, hown, hts, hr, hlk, hK, -⟩ := Z
  have hown : s.vm.findClass RX6 = some m.cls := hown
  have hl : lv_has ls 6 [(0, .ref (ad 62)), (1, .int u1)] := hl
  have hA : ∀ q, w_A ad KC q → w_A ad KC q := fun _ h => h
  have L19 : ∀ (n : Nat) (x1 x2 x3 x4 : Int32) (σ : St) (H : Heap) (locs : List Loc) (ls : Array Slot), mX6_bestHelper_L19 n x1 x2 x3 x4 σ = some (r, σ') → w_P D cA ad KC σ H → va_S (w_A ad KC) s.heap H locs → lv_has ls 6 [(0, .ref (ad 62)), (1, .int x1), (2, .int x2), (3, .int x3), (4, .int x4)] → Wm p l e wsX6_bestHelper 6 136 s m ([.ref (ad 62), .int u1] : List Value).toArray below meth c (w_Qi D cA ad KC r σ') (w_A ad KC) H locs (F0 m 19 ls []) := by
    intro n19
    induction n19 with
    | zero =>
      intro x1 x2 x3 x4 σ H locs ls hM hP hS hl
      rw [mX6_bestHelper_L19] at hM
      cases hM
    | succ n19 ih19 =>
      intro x1 x2 x3 x4 σ H locs ls hM hP hS hl
      rw [mX6_bestHelper_L19] at hM
      refine lv_iload hx hb dX6_bestHelper_19 (lv_at hl 4 rfl) ?_
      refine lv_aload_n hx hb dX6_bestHelper_21 rfl (lv_at hl 0 rfl) ?_
      refine x_geti (own := RX6) (C := RX6) (T := TX6) (N := 9) hx hb hts hinX6_X6_bestHelper hown hK hP KC_sb rfl 8 (by decide) (hts (.fieldLink RX6 59 "StrokeBoard" "siteCount" "I") (by decide +kernel)) rfl dX6_bestHelper_22 ?_
      refine lv_icmp_ge (tgt := 55) hx hb dX6_bestHelper_25 (by decide) (fun c1 => ?_) (fun c1 => ?_)
      · have hM := (if_pos c1).symm.trans hM
        refine lv_iload_n hx hb dX6_bestHelper_55 rfl (lv_at hl 2 rfl) ?_
        exact x_iret hx hb hr hlk hP hS hM dX6_bestHelper_56
      · have hM := (if_neg c1).symm.trans hM
        refine lv_aload_n hx hb dX6_bestHelper_28 rfl (lv_at hl 0 rfl) ?_
        refine lv_iload_n hx hb dX6_bestHelper_29 rfl (lv_at hl 1 rfl) ?_
        refine lv_iload hx hb dX6_bestHelper_30 (lv_at hl 4 rfl) ?_
        obtain ⟨r4, σ3, h2, hM⟩ := bnd_i hM
        refine x_callV (As := [.int x1, .int x4]) (rest := []) hA ⟨hx, hb, hml, hown, hts⟩ (tX6_repairable l D cA ad hJ x1 x4 σ _ _ h2) (cwV 2 hts gX6_bestHelper_X6_repairable rfl rfl rfl (by decide +kernel) ⟨(Nat.le_of_ble_eq_true rfl), (Nat.le_of_ble_eq_true rfl)⟩) hK hP hS KC_sb rfl rfl hl.1 rfl (Nat.le_of_ble_eq_true rfl) ⟨Nat.zero_le _, Nat.zero_le _⟩ dX6_bestHelper_32 (fun H locs hP hS _ _ => ?_)
        refine lv_istore (lv' := [(5, .int r4), (0, .ref (ad 62)), (1, .int x1), (2, .int x2), (3, .int x3), (4, .int x4)]) hx hb dX6_bestHelper_35 hl (by decide) rfl (fun ls hl => ?_)
        refine lv_iload hx hb dX6_bestHelper_37 (lv_at hl 0 rfl) ?_
        refine lv_iload_n hx hb dX6_bestHelper_39 rfl (lv_at hl 4 rfl) ?_
        refine lv_icmp_le (tgt := 49) hx hb dX6_bestHelper_40 (by decide) (fun c5 => ?_) (fun c5 => ?_)
        · have hM := (if_pos c5).symm.trans hM
          refine lv_iinc (v := (x4 + 1)) (lv' := [(4, .int (x4 + 1)), (5, .int r4), (0, .ref (ad 62)), (1, .int x1), (2, .int x2), (3, .int x3)]) hx hb dX6_bestHelper_49 hl (k := 5) rfl rfl (by decide) rfl (fun ls hl => ?_)
          refine lv_goto (tgt := 19) hx hb dX6_bestHelper_52 (by decide) ?_
          exact ih19 _ _ _ _ _ _ _ _ hM hP hS (lv_sub hl [2, 3, 4, 5, 0] rfl)
        · have hM := (if_neg c5).symm.trans hM
          refine lv_iload hx hb dX6_bestHelper_43 (lv_at hl 5 rfl) ?_
          refine lv_istore_n (lv' := [(2, .int x4), (5, .int r4), (0, .ref (ad 62)), (1, .int x1), (3, .int x3), (4, .int x4)]) hx hb dX6_bestHelper_45 rfl hl (by decide) rfl (fun ls hl => ?_)
          refine lv_iload hx hb dX6_bestHelper_46 (lv_at hl 1 rfl) ?_
          refine lv_istore_n (lv' := [(3, .int r4), (2, .int x4), (5, .int r4), (0, .ref (ad 62)), (1, .int x1), (4, .int x4)]) hx hb dX6_bestHelper_48 rfl hl (by decide) rfl (fun ls hl => ?_)
          refine lv_iinc (v := (x4 + 1)) (lv' := [(4, .int (x4 + 1)), (3, .int r4), (2, .int x4), (5, .int r4), (0, .ref (ad 62)), (1, .int x1)]) hx hb dX6_bestHelper_49 hl (k := 5) rfl rfl (by decide) rfl (fun ls hl => ?_)
          refine lv_goto (tgt := 19) hx hb dX6_bestHelper_52 (by decide) ?_
          exact ih19 _ _ _ _ _ _ _ _ hM hP hS (lv_sub hl [4, 5, 2, 1, 0] rfl)
  unfold mX6_bestHelper at hM
  refine lv_aload_n hx hb dX6_bestHelper_0 rfl (lv_at hl 0 rfl) ?_
  refine lv_iload_n hx hb dX6_bestHelper_1 rfl (lv_at hl 1 rfl) ?_
  obtain ⟨r8, σ7, h6, hM⟩ := bnd_i hM
  refine x_callV (As := [.int u1]) (rest := []) hA ⟨hx, hb, hml, hown, hts⟩ (tX6_isSite l D cA ad hJ u1 σ _ _ h6) (cwV 1 hts gX6_bestHelper_X6_isSite rfl rfl rfl (by decide +kernel) ⟨(Nat.le_of_ble_eq_true rfl), (Nat.le_of_ble_eq_true rfl)⟩) hK hP hS KC_sb rfl rfl hl.1 rfl (Nat.le_of_ble_eq_true rfl) ⟨Nat.zero_le _, Nat.zero_le _⟩ dX6_bestHelper_2 (fun H locs hP hS _ _ => ?_)
  refine lv_if_ne (tgt := 11) hx hb dX6_bestHelper_5 (by decide) (fun c9 => ?_) (fun c9 => ?_)
  · have hM := (if_neg c9).symm.trans hM
    refine lv_ldc (own := RX6) (v := (-1000000004)) hx hb hown (hts (.constant RX6 162 (-1000000004)) (by decide +kernel)) dX6_bestHelper_11 ?_
    refine lv_istore_n (lv' := [(2, .int (-1000000004)), (0, .ref (ad 62)), (1, .int u1)]) hx hb dX6_bestHelper_13 rfl hl (by decide) rfl (fun ls hl => ?_)
    refine lv_iconst (v := 0) hx hb dX6_bestHelper_14 (by decide) ?_
    refine lv_istore_n (lv' := [(3, .int 0), (2, .int (-1000000004)), (0, .ref (ad 62)), (1, .int u1)]) hx hb dX6_bestHelper_15 rfl hl (by decide) rfl (fun ls hl => ?_)
    refine lv_iconst (v := 0) hx hb dX6_bestHelper_16 (by decide) ?_
    refine lv_istore (lv' := [(4, .int 0), (3, .int 0), (2, .int (-1000000004)), (0, .ref (ad 62)), (1, .int u1)]) hx hb dX6_bestHelper_17 hl (by decide) rfl (fun ls hl => ?_)
    exact L19 fu _ _ _ _ _ _ _ _ hM hP hS (lv_sub hl [3, 4, 2, 1, 0] rfl)
  · have hM := (if_pos c9).symm.trans hM
    refine lv_ldc (own := RX6) (v := (-1000000001)) hx hb hown (hts (.constant RX6 67 (-1000000001)) (by decide +kernel)) dX6_bestHelper_8 ?_
    exact x_iret hx hb hr hlk hP hS hM dX6_bestHelper_10
theorem hinX6_X6_isKnownBeside : ∀ w ∈ u_ws RX6 TX6 9, w ∈ wsX6_isKnownBeside := by decide +kernel
set_option maxHeartbeats 4000000 in
set_option maxRecDepth 100000 in
theorem tX6_isKnownBeside (l : Launch) (D : va_G) (cA : ClassId) (ad : Nat → Nat) (hJ : w_J ad KC) (u1 u2 : Int32) (σ σ' : St) (r : Int32) (hM : mX6_isKnownBeside u1 u2 σ = some (r, σ')) : Ct l yX6_isKnownBeside wsX6_isKnownBeside 2 43 D cA ad KC [.ref (ad 62), .int u1, .int u2] σ r σ' := by
  unfold Ct
  refine Met_of (cc := cX6_isKnownBeside) (maxL := 4) (ret := (some .boolean)) hJ (by decide +kernel) rfl (Nat.le_of_ble_eq_true rfl) ?_
  intro p e s m below meth c Z H locs ls hP hS hl
  obtain ⟨hx, hb, hml, hown, hts, hr, hlk, hK, -⟩ := Z
  have hown : s.vm.findClass RX6 = some m.cls := hown
  have hl : lv_has ls 4 [(0, .ref (ad 62)), (1, .int u1), (2, .int u2)] := hl
  have hA : ∀ q, w_A ad KC q → w_A ad KC q := fun _ h => h
  have L2 : ∀ (n : Nat) (x1 x2 x3 : Int32) (σ : St) (H : Heap) (locs : List Loc) (ls : Array Slot), mX6_isKnownBeside_L2 n x1 x2 x3 σ = some (r, σ') → w_P D cA ad KC σ H → va_S (w_A ad KC) s.heap H locs → lv_has ls 4 [(0, .ref (ad 62)), (1, .int x1), (2, .int x2), (3, .int x3)] → Wm p l e wsX6_isKnownBeside 2 43 s m ([.ref (ad 62), .int u1, .int u2] : List Value).toArray below meth c (w_Qi D cA ad KC r σ') (w_A ad KC) H locs (F0 m 2 ls []) := by
    intro n2
    induction n2 with
    | zero =>
      intro x1 x2 x3 σ H locs ls hM hP hS hl
      rw [mX6_isKnownBeside_L2] at hM
      cases hM
    | succ n2 ih2 =>
      intro x1 x2 x3 σ H locs ls hM hP hS hl
      rw [mX6_isKnownBeside_L2] at hM
      refine lv_iload_n hx hb dX6_isKnownBeside_2 rfl (lv_at hl 3 rfl) ?_
      refine lv_aload_n hx hb dX6_isKnownBeside_3 rfl (lv_at hl 0 rfl) ?_
      refine x_geti (own := RX6) (C := RX6) (T := TX6) (N := 9) hx hb hts hinX6_X6_isKnownBeside hown hK hP KC_sb rfl 8 (by decide) (hts (.fieldLink RX6 59 "StrokeBoard" "siteCount" "I") (by decide +kernel)) rfl dX6_isKnownBeside_4 ?_
      refine lv_icmp_ge (tgt := 35) hx hb dX6_isKnownBeside_7 (by decide) (fun c1 => ?_) (fun c1 => ?_)
      · have hM := (if_pos c1).symm.trans hM
        refine lv_iconst (v := 0) hx hb dX6_isKnownBeside_35 (by decide) ?_
        exact x_zret hx hb hr hlk hP hS hM dX6_isKnownBeside_36
      · have hM := (if_neg c1).symm.trans hM
        refine lv_iload_n hx hb dX6_isKnownBeside_10 rfl (lv_at hl 3 rfl) ?_
        refine lv_iload_n hx hb dX6_isKnownBeside_11 rfl (lv_at hl 1 rfl) ?_
        refine lv_icmp_eq (tgt := 29) hx hb dX6_isKnownBeside_12 (by decide) (fun c2 => ?_) (fun c2 => ?_)
        · have hM := (if_pos c2).symm.trans hM
          refine lv_iinc (v := (x3 + 1)) (lv' := [(3, .int (x3 + 1)), (0, .ref (ad 62)), (1, .int x1), (2, .int x2)]) hx hb dX6_isKnownBeside_29 hl (k := 3) rfl rfl (by decide) rfl (fun ls hl => ?_)
          refine lv_goto (tgt := 2) hx hb dX6_isKnownBeside_32 (by decide) ?_
          exact ih2 _ _ _ _ _ _ _ hM hP hS (lv_sub hl [1, 2, 3, 0] rfl)
        · have hM := (if_neg c2).symm.trans hM
          refine lv_aload_n hx hb dX6_isKnownBeside_15 rfl (lv_at hl 0 rfl) ?_
          refine x_getr (own := RX6) (C := RX6) (T := TX6) (N := 9) hx hb hts hinX6_X6_isKnownBeside hown hK hP KC_sb rfl 2 (by decide) (hts (.fieldLink RX6 28 "StrokeBoard" "knowledge" "LStrokeBoard$Knowledge;") (by decide +kernel)) rfl dX6_isKnownBeside_16 ?_
          refine lv_iload_n hx hb dX6_isKnownBeside_19 rfl (lv_at hl 3 rfl) ?_
          refine lv_iload_n hx hb dX6_isKnownBeside_20 rfl (lv_at hl 2 rfl) ?_
          obtain ⟨r5, σ4, h3, hM⟩ := bnd_i hM
          refine x_callV (As := [.int x3, .int x2]) (rest := []) hA ⟨hx, hb, hml, hown, hts⟩ (tX2_has l D cA ad hJ 0 (by omega) x3 x2 σ _ _ h3) (cwV 2 hts gX6_isKnownBeside_X2_has rfl rfl rfl (by decide +kernel) ⟨(Nat.le_of_ble_eq_true rfl), (Nat.le_of_ble_eq_true rfl)⟩) hK hP hS (KC_kno 0 (by omega)) rfl rfl hl.1 rfl (Nat.le_of_ble_eq_true rfl) ⟨Nat.zero_le _, Nat.zero_le _⟩ dX6_isKnownBeside_21 (fun H locs hP hS _ _ => ?_)
          refine lv_if_eq (tgt := 29) hx hb dX6_isKnownBeside_24 (by decide) (fun c6 => ?_) (fun c6 => ?_)
          · have hM := (if_pos c6).symm.trans hM
            refine lv_iinc (v := (x3 + 1)) (lv' := [(3, .int (x3 + 1)), (0, .ref (ad 62)), (1, .int x1), (2, .int x2)]) hx hb dX6_isKnownBeside_29 hl (k := 3) rfl rfl (by decide) rfl (fun ls hl => ?_)
            refine lv_goto (tgt := 2) hx hb dX6_isKnownBeside_32 (by decide) ?_
            exact ih2 _ _ _ _ _ _ _ hM hP hS (lv_sub hl [1, 2, 3, 0] rfl)
          · have hM := (if_neg c6).symm.trans hM
            refine lv_iconst (v := 1) hx hb dX6_isKnownBeside_27 (by decide) ?_
            exact x_zret hx hb hr hlk hP hS hM dX6_isKnownBeside_28
  unfold mX6_isKnownBeside at hM
  refine lv_iconst (v := 0) hx hb dX6_isKnownBeside_0 (by decide) ?_
  refine lv_istore_n (lv' := [(3, .int 0), (0, .ref (ad 62)), (1, .int u1), (2, .int u2)]) hx hb dX6_isKnownBeside_1 rfl hl (by decide) rfl (fun ls hl => ?_)
  exact L2 fu _ _ _ _ _ _ _ hM hP hS (lv_sub hl [1, 2, 3, 0] rfl)
theorem hinX6_X6_endangered : ∀ w ∈ u_ws RX6 TX6 9, w ∈ wsX6_endangered := by decide +kernel
set_option maxHeartbeats 4000000 in
set_option maxRecDepth 100000 in
theorem tX6_endangered (l : Launch) (D : va_G) (cA : ClassId) (ad : Nat → Nat) (hJ : w_J ad KC) (u1 : Int32) (σ σ' : St) (r : Int32) (hM : mX6_endangered u1 σ = some (r, σ')) : Ct l yX6_endangered wsX6_endangered 3 66 D cA ad KC [.ref (ad 62), .int u1] σ r σ' := by
  unfold Ct
  refine Met_of (cc := cX6_endangered) (maxL := 5) (ret := (some .int)) hJ (by decide +kernel) rfl (Nat.le_of_ble_eq_true rfl) ?_
  intro p e s m below meth c Z H locs ls hP hS hl
  obtain ⟨hx, hb, hml, hown, hts, hr, hlk, hK, -⟩ := Z
  have hown : s.vm.findClass RX6 = some m.cls := hown
  have hl : lv_has ls 5 [(0, .ref (ad 62)), (1, .int u1)] := hl
  have hA : ∀ q, w_A ad KC q → w_A ad KC q := fun _ h => h
  have L15 : ∀ (n : Nat) (x1 x2 x3 : Int32) (σ : St) (H : Heap) (locs : List Loc) (ls : Array Slot), mX6_endangered_L15 n x1 x2 x3 σ = some (r, σ') → w_P D cA ad KC σ H → va_S (w_A ad KC) s.heap H locs → lv_has ls 5 [(0, .ref (ad 62)), (1, .int x1), (2, .int x2), (3, .int x3)] → Wm p l e wsX6_endangered 3 66 s m ([.ref (ad 62), .int u1] : List Value).toArray below meth c (w_Qi D cA ad KC r σ') (w_A ad KC) H locs (F0 m 15 ls []) := by
    intro n15
    induction n15 with
    | zero =>
      intro x1 x2 x3 σ H locs ls hM hP hS hl
      rw [mX6_endangered_L15] at hM
      cases hM
    | succ n15 ih15 =>
      intro x1 x2 x3 σ H locs ls hM hP hS hl
      rw [mX6_endangered_L15] at hM
      refine lv_iload_n hx hb dX6_endangered_15 rfl (lv_at hl 3 rfl) ?_
      refine lv_aload_n hx hb dX6_endangered_16 rfl (lv_at hl 0 rfl) ?_
      refine x_getr (own := RX6) (C := RX6) (T := TX6) (N := 9) hx hb hts hinX6_X6_endangered hown hK hP KC_sb rfl 0 (by decide) (hts (.fieldLink RX6 12 "StrokeBoard" "log" "LStrokeBoard$Log;") (by decide +kernel)) rfl dX6_endangered_17 ?_
      refine lv_iload_n hx hb dX6_endangered_20 rfl (lv_at hl 1 rfl) ?_
      obtain ⟨r3, σ2, h1, hM⟩ := bnd_i hM
      refine x_callV (As := [.int x1]) (rest := [.int x3]) hA ⟨hx, hb, hml, hown, hts⟩ (tX4_madeBy l D cA ad hJ x1 σ _ _ h1) (cwV 1 hts gX6_endangered_X4_madeBy rfl rfl rfl (by decide +kernel) ⟨(Nat.le_of_ble_eq_true rfl), (Nat.le_of_ble_eq_true rfl)⟩) hK hP hS KC_log rfl rfl hl.1 rfl (Nat.le_of_ble_eq_true rfl) ⟨Nat.zero_le _, Nat.zero_le _⟩ dX6_endangered_21 (fun H locs hP hS _ _ => ?_)
      refine lv_icmp_gt (tgt := 65) hx hb dX6_endangered_24 (by decide) (fun c4 => ?_) (fun c4 => ?_)
      · have hM := (if_pos c4).symm.trans hM
        refine lv_iload_n hx hb dX6_endangered_65 rfl (lv_at hl 2 rfl) ?_
        exact x_iret hx hb hr hlk hP hS hM dX6_endangered_66
      · have hM := (if_neg c4).symm.trans hM
        refine lv_iload_n hx hb dX6_endangered_27 rfl (lv_at hl 1 rfl) ?_
        refine lv_iload_n hx hb dX6_endangered_28 rfl (lv_at hl 3 rfl) ?_
        obtain ⟨r7, σ6, h5, hM⟩ := bnd_i hM
        refine x_callS (As := [.int x1, .int x3]) (rest := []) hA ⟨hx, hb, hml, hown, hts⟩ (tX6_idOf l D cA ad hJ x1 x3 σ2 _ _ h5) (va_cwS 2 hts gX6_endangered_X6_idOf rfl rfl rfl (by decide +kernel) ⟨(Nat.le_of_ble_eq_true rfl), (Nat.le_of_ble_eq_true rfl)⟩) hK hP hS rfl hl.1 rfl (Nat.le_of_ble_eq_true rfl) ⟨Nat.zero_le _, Nat.zero_le _⟩ dX6_endangered_29 (fun H locs hP hS => ?_)
        refine lv_istore (lv' := [(4, .int r7), (0, .ref (ad 62)), (1, .int x1), (2, .int x2), (3, .int x3)]) hx hb dX6_endangered_32 hl (by decide) rfl (fun ls hl => ?_)
        refine lv_aload_n hx hb dX6_endangered_34 rfl (lv_at hl 1 rfl) ?_
        refine lv_iload_n hx hb dX6_endangered_35 rfl (lv_at hl 2 rfl) ?_
        refine lv_iload hx hb dX6_endangered_36 (lv_at hl 0 rfl) ?_
        obtain ⟨r10, σ9, h8, hM⟩ := bnd_i hM
        refine x_callV (As := [.int x1, .int r7]) (rest := []) hA ⟨hx, hb, hml, hown, hts⟩ (tX6_isKnownBeside l D cA ad hJ x1 r7 σ6 _ _ h8) (cwV 2 hts gX6_endangered_X6_isKnownBeside rfl rfl rfl (by decide +kernel) ⟨(Nat.le_of_ble_eq_true rfl), (Nat.le_of_ble_eq_true rfl)⟩) hK hP hS KC_sb rfl rfl hl.1 rfl (Nat.le_of_ble_eq_true rfl) ⟨Nat.zero_le _, Nat.zero_le _⟩ dX6_endangered_38 (fun H locs hP hS _ _ => ?_)
        refine lv_if_ne (tgt := 59) hx hb dX6_endangered_41 (by decide) (fun c11 => ?_) (fun c11 => ?_)
        · have hM := (if_neg c11).symm.trans hM
          refine lv_iinc (v := (x3 + 1)) (lv' := [(3, .int (x3 + 1)), (4, .int r7), (0, .ref (ad 62)), (1, .int x1), (2, .int x2)]) hx hb dX6_endangered_59 hl (k := 4) rfl rfl (by decide) rfl (fun ls hl => ?_)
          refine lv_goto (tgt := 15) hx hb dX6_endangered_62 (by decide) ?_
          exact ih15 _ _ _ _ _ _ _ hM hP hS (lv_sub hl [2, 3, 4, 0] rfl)
        · have hM := (if_pos c11).symm.trans hM
          refine lv_aload_n hx hb dX6_endangered_44 rfl (lv_at hl 1 rfl) ?_
          refine x_getr (own := RX6) (C := RX6) (T := TX6) (N := 9) hx hb hts hinX6_X6_endangered hown hK hP KC_sb rfl 4 (by decide) (hts (.fieldLink RX6 38 "StrokeBoard" "links" "LStrokeBoard$Links;") (by decide +kernel)) rfl dX6_endangered_45 ?_
          refine lv_iload hx hb dX6_endangered_48 (lv_at hl 0 rfl) ?_
          obtain ⟨r14, σ13, h12, hM⟩ := bnd_i hM
          refine x_callV (As := [.int r7]) (rest := []) hA ⟨hx, hb, hml, hown, hts⟩ (tX3_carry l D cA ad hJ r7 σ9 _ _ h12) (cwV 1 hts gX6_endangered_X3_carry rfl rfl rfl (by decide +kernel) ⟨(Nat.le_of_ble_eq_true rfl), (Nat.le_of_ble_eq_true rfl)⟩) hK hP hS KC_lnk rfl rfl hl.1 rfl (Nat.le_of_ble_eq_true rfl) ⟨Nat.zero_le _, Nat.zero_le _⟩ dX6_endangered_50 (fun H locs hP hS _ _ => ?_)
          refine lv_if_ne (tgt := 59) hx hb dX6_endangered_53 (by decide) (fun c15 => ?_) (fun c15 => ?_)
          · have hM := (if_neg c15).symm.trans hM
            refine lv_iinc (v := (x3 + 1)) (lv' := [(3, .int (x3 + 1)), (4, .int r7), (0, .ref (ad 62)), (1, .int x1), (2, .int x2)]) hx hb dX6_endangered_59 hl (k := 4) rfl rfl (by decide) rfl (fun ls hl => ?_)
            refine lv_goto (tgt := 15) hx hb dX6_endangered_62 (by decide) ?_
            exact ih15 _ _ _ _ _ _ _ hM hP hS (lv_sub hl [2, 3, 4, 0] rfl)
          · have hM := (if_pos c15).symm.trans hM
            refine lv_iinc (v := (x2 + 1)) (lv' := [(2, .int (x2 + 1)), (4, .int r7), (0, .ref (ad 62)), (1, .int x1), (3, .int x3)]) hx hb dX6_endangered_56 hl (k := 3) rfl rfl (by decide) rfl (fun ls hl => ?_)
            refine lv_iinc (v := (x3 + 1)) (lv' := [(3, .int (x3 + 1)), (2, .int (x2 + 1)), (4, .int r7), (0, .ref (ad 62)), (1, .int x1)]) hx hb dX6_endangered_59 hl (k := 4) rfl rfl (by decide) rfl (fun ls hl => ?_)
            refine lv_goto (tgt := 15) hx hb dX6_endangered_62 (by decide) ?_
            exact ih15 _ _ _ _ _ _ _ hM hP hS (lv_sub hl [3, 4, 1, 0] rfl)
  unfold mX6_endangered at hM
  refine lv_aload_n hx hb dX6_endangered_0 rfl (lv_at hl 0 rfl) ?_
  refine lv_iload_n hx hb dX6_endangered_1 rfl (lv_at hl 1 rfl) ?_
  obtain ⟨r18, σ17, h16, hM⟩ := bnd_i hM
  refine x_callV (As := [.int u1]) (rest := []) hA ⟨hx, hb, hml, hown, hts⟩ (tX6_isSite l D cA ad hJ u1 σ _ _ h16) (cwV 1 hts gX6_endangered_X6_isSite rfl rfl rfl (by decide +kernel) ⟨(Nat.le_of_ble_eq_true rfl), (Nat.le_of_ble_eq_true rfl)⟩) hK hP hS KC_sb rfl rfl hl.1 rfl (Nat.le_of_ble_eq_true rfl) ⟨Nat.zero_le _, Nat.zero_le _⟩ dX6_endangered_2 (fun H locs hP hS _ _ => ?_)
  refine lv_if_ne (tgt := 11) hx hb dX6_endangered_5 (by decide) (fun c19 => ?_) (fun c19 => ?_)
  · have hM := (if_neg c19).symm.trans hM
    refine lv_iconst (v := 0) hx hb dX6_endangered_11 (by decide) ?_
    refine lv_istore_n (lv' := [(2, .int 0), (0, .ref (ad 62)), (1, .int u1)]) hx hb dX6_endangered_12 rfl hl (by decide) rfl (fun ls hl => ?_)
    refine lv_iconst (v := 1) hx hb dX6_endangered_13 (by decide) ?_
    refine lv_istore_n (lv' := [(3, .int 1), (2, .int 0), (0, .ref (ad 62)), (1, .int u1)]) hx hb dX6_endangered_14 rfl hl (by decide) rfl (fun ls hl => ?_)
    exact L15 fu _ _ _ _ _ _ _ hM hP hS (lv_sub hl [2, 3, 1, 0] rfl)
  · have hM := (if_pos c19).symm.trans hM
    refine lv_ldc (own := RX6) (v := (-1000000001)) hx hb hown (hts (.constant RX6 67 (-1000000001)) (by decide +kernel)) dX6_endangered_8 ?_
    exact x_iret hx hb hr hlk hP hS hM dX6_endangered_10
