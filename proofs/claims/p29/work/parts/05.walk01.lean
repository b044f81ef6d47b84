/-! The walks, laid by wip/p29/gen.py. -/
theorem hinX4_X4_insert : ∀ w ∈ u_ws RX4 TX4 8, w ∈ wsX4_insert := by decide +kernel
set_option maxHeartbeats 4000000 in
set_option maxRecDepth 100000 in
theorem tX4_insert (l : Launch) (D : va_G) (cA : ClassId) (ad : Nat → Nat) (hJ : w_J ad KC) (u1 : Int32) (σ σ' : St) (hM : mX4_insert u1 σ = some σ') : Cv l yX4_insert wsX4_insert 2 44 D cA ad KC [.ref (ad 54), .int u1] σ σ' := by
  unfold Cv
  refine Met_of (cc := cX4_insert) (maxL := 3) (ret := none) hJ (by decide +kernel) rfl (Nat.le_of_ble_eq_true rfl) ?_
  intro p e s m below meth c Z H locs ls hP hS hl
  obtain ⟨hx, hb, hml, hown, hts, hr, hlk, hK, -⟩ := Z
  have hown : s.vm.findClass RX4 = some m.cls := hown
  have hl : lv_has ls 3 [(0, .ref (ad 54)), (1, .int u1)] := hl
  have hA : ∀ q, w_A ad KC q → w_A ad KC q := fun _ h => h
  have b51 : ∀ (x1 x2 : Int32) (σ : St) (H : Heap) (locs : List Loc) (ls : Array Slot), mX4_insert_b51 x1 x2 σ = some σ' → w_P D cA ad KC σ H → va_S (w_A ad KC) s.heap H locs → lv_has ls 3 [(0, .ref (ad 54)), (1, .int x1), (2, .int x2)] → Wm p l e wsX4_insert 2 44 s m ([.ref (ad 54), .int u1] : List Value).toArray below meth c (w_Qv D cA ad KC σ') (w_A ad KC) H locs (F0 m 51 ls []) := by
    intro x1 x2 σ H locs ls hM hP hS hl
    unfold mX4_insert_b51 at hM
    refine lv_aload_n hx hb dX4_insert_51 rfl (lv_at hl 0 rfl) ?_
    refine x_getr (own := RX4) (C := RX4) (T := TX4) (N := 8) hx hb hts hinX4_X4_insert hown hK hP KC_log rfl 5 (by decide) (hts (.fieldLink RX4 32 "StrokeBoard$Log" "order" "LStrokeBoard$Row;") (by decide +kernel)) rfl dX4_insert_52 ?_
    refine lv_iload_n hx hb dX4_insert_55 rfl (lv_at hl 2 rfl) ?_
    refine lv_iload_n hx hb dX4_insert_56 rfl (lv_at hl 1 rfl) ?_
    obtain ⟨σ2, h1, hM⟩ := bnv_i hM
    refine x_callVv (As := [.int x2, .int x1]) (rest := []) hA ⟨hx, hb, hml, hown, hts⟩ (tX5_set l D cA ad hJ 5 (by omega) x2 x1 σ _ h1) (cwV 2 hts gX4_insert_X5_set rfl rfl rfl (by decide +kernel) ⟨(Nat.le_of_ble_eq_true rfl), (Nat.le_of_ble_eq_true rfl)⟩) hK hP hS (KC_row 5 (by omega)) rfl rfl hl.1 rfl (Nat.le_of_ble_eq_true rfl) ⟨Nat.zero_le _, Nat.zero_le _⟩ dX4_insert_57 (fun H locs hP hS _ _ => ?_)
    refine lv_aload_n hx hb dX4_insert_60 rfl (lv_at hl 0 rfl) ?_
    refine lv_dup hx hb dX4_insert_61 rfl ?_
    refine x_geti (own := RX4) (C := RX4) (T := TX4) (N := 8) hx hb hts hinX4_X4_insert hown hK hP KC_log rfl 7 (by decide) (hts (.fieldLink RX4 45 "StrokeBoard$Log" "total" "I") (by decide +kernel)) rfl dX4_insert_62 ?_
    refine lv_iconst (v := 1) hx hb dX4_insert_65 (by decide) ?_
    refine lv_iadd hx hb dX4_insert_66 ?_
    refine x_puti (own := RX4) (C := RX4) (T := TX4) (N := 8) hx hb KC_ok hJ hts hinX4_X4_insert tyX4 tyX4_ok nmX4 hown hK hP hS KC_log rfl 7 (by decide) (hts (.fieldLink RX4 45 "StrokeBoard$Log" "total" "I") (by decide +kernel)) rfl rfl rfl (by decide +kernel) dX4_insert_67 (fun H locs hP hS => ?_)
    obtain ⟨σ3, eσ3, hM⟩ := lts_i hM
    rw [← eσ3] at hP
    exact x_vret hx hb hr hlk hP hS hM dX4_insert_70
  have L5 : ∀ (n : Nat) (x1 x2 : Int32) (σ : St) (H : Heap) (locs : List Loc) (ls : Array Slot), mX4_insert_L5 n x1 x2 σ = some σ' → w_P D cA ad KC σ H → va_S (w_A ad KC) s.heap H locs → lv_has ls 3 [(0, .ref (ad 54)), (1, .int x1), (2, .int x2)] → Wm p l e wsX4_insert 2 44 s m ([.ref (ad 54), .int u1] : List Value).toArray below meth c (w_Qv D cA ad KC σ') (w_A ad KC) H locs (F0 m 5 ls []) := by
    intro n5
    induction n5 with
    | zero =>
      intro x1 x2 σ H locs ls hM hP hS hl
      rw [mX4_insert_L5] at hM
      cases hM
    | succ n5 ih5 =>
      intro x1 x2 σ H locs ls hM hP hS hl
      rw [mX4_insert_L5] at hM
      refine lv_iload_n hx hb dX4_insert_5 rfl (lv_at hl 2 rfl) ?_
      refine lv_if_le (tgt := 51) hx hb dX4_insert_6 (by decide) (fun c4 => ?_) (fun c4 => ?_)
      · have hM := (if_pos c4).symm.trans hM
        exact b51 _ _ _ _ _ _ hM hP hS (lv_sub hl [0, 1, 2] rfl)
      · have hM := (if_neg c4).symm.trans hM
        refine lv_aload_n hx hb dX4_insert_9 rfl (lv_at hl 0 rfl) ?_
        refine lv_aload_n hx hb dX4_insert_10 rfl (lv_at hl 0 rfl) ?_
        refine x_getr (own := RX4) (C := RX4) (T := TX4) (N := 8) hx hb hts hinX4_X4_insert hown hK hP KC_log rfl 5 (by decide) (hts (.fieldLink RX4 32 "StrokeBoard$Log" "order" "LStrokeBoard$Row;") (by decide +kernel)) rfl dX4_insert_11 ?_
        refine lv_iload_n hx hb dX4_insert_14 rfl (lv_at hl 2 rfl) ?_
        refine lv_iconst (v := 1) hx hb dX4_insert_15 (by decide) ?_
        refine lv_isub hx hb dX4_insert_16 ?_
        obtain ⟨r7, σ6, h5, hM⟩ := bnd_i hM
        refine x_callV (As := [.int (x2 - 1)]) (rest := [.ref (ad 54)]) hA ⟨hx, hb, hml, hown, hts⟩ (tX5_get l D cA ad hJ 5 (by omega) (x2 - 1) σ _ _ h5) (cwV 1 hts gX4_insert_X5_get rfl rfl rfl (by decide +kernel) ⟨(Nat.le_of_ble_eq_true rfl), (Nat.le_of_ble_eq_true rfl)⟩) hK hP hS (KC_row 5 (by omega)) rfl rfl hl.1 rfl (Nat.le_of_ble_eq_true rfl) ⟨Nat.zero_le _, Nat.zero_le _⟩ dX4_insert_17 (fun H locs hP hS _ _ => ?_)
        refine lv_iload_n hx hb dX4_insert_20 rfl (lv_at hl 1 rfl) ?_
        obtain ⟨r10, σ9, h8, hM⟩ := bnd_i hM
        refine x_callV (As := [.int r7, .int x1]) (rest := []) hA ⟨hx, hb, hml, hown, hts⟩ (tX4_comesAfter l D cA ad hJ r7 x1 σ6 _ _ h8) (cwV 2 hts gX4_insert_X4_comesAfter rfl rfl rfl (by decide +kernel) ⟨(Nat.le_of_ble_eq_true rfl), (Nat.le_of_ble_eq_true rfl)⟩) hK hP hS KC_log rfl rfl hl.1 rfl (Nat.le_of_ble_eq_true rfl) ⟨Nat.zero_le _, Nat.zero_le _⟩ dX4_insert_21 (fun H locs hP hS _ _ => ?_)
        refine lv_if_eq (tgt := 51) hx hb dX4_insert_24 (by decide) (fun c11 => ?_) (fun c11 => ?_)
        · have hM := (if_pos c11).symm.trans hM
          exact b51 _ _ _ _ _ _ hM hP hS (lv_sub hl [0, 1, 2] rfl)
        · have hM := (if_neg c11).symm.trans hM
          refine lv_aload_n hx hb dX4_insert_27 rfl (lv_at hl 0 rfl) ?_
          refine x_getr (own := RX4) (C := RX4) (T := TX4) (N := 8) hx hb hts hinX4_X4_insert hown hK hP KC_log rfl 5 (by decide) (hts (.fieldLink RX4 32 "StrokeBoard$Log" "order" "LStrokeBoard$Row;") (by decide +kernel)) rfl dX4_insert_28 ?_
          refine lv_iload_n hx hb dX4_insert_31 rfl (lv_at hl 2 rfl) ?_
          refine lv_aload_n hx hb dX4_insert_32 rfl (lv_at hl 0 rfl) ?_
          refine x_getr (own := RX4) (C := RX4) (T := TX4) (N := 8) hx hb hts hinX4_X4_insert hown hK hP KC_log rfl 5 (by decide) (hts (.fieldLink RX4 32 "StrokeBoard$Log" "order" "LStrokeBoard$Row;") (by decide +kernel)) rfl dX4_insert_33 ?_
          refine lv_iload_n hx hb dX4_insert_36 rfl (lv_at hl 2 rfl) ?_
          refine lv_iconst (v := 1) hx hb dX4_insert_37 (by decide) ?_
          refine lv_isub hx hb dX4_insert_38 ?_
          obtain ⟨r14, σ13, h12, hM⟩ := bnd_i hM
          refine x_callV (As := [.int (x2 - 1)]) (rest := [.int x2, .ref (ad (2 * 5))]) hA ⟨hx, hb, hml, hown, hts⟩ (tX5_get l D cA ad hJ 5 (by omega) (x2 - 1) σ9 _ _ h12) (cwV 1 hts gX4_insert_X5_get rfl rfl rfl (by decide +kernel) ⟨(Nat.le_of_ble_eq_true rfl), (Nat.le_of_ble_eq_true rfl)⟩) hK hP hS (KC_row 5 (by omega)) rfl rfl hl.1 rfl (Nat.le_of_ble_eq_true rfl) ⟨Nat.zero_le _, Nat.zero_le _⟩ dX4_insert_39 (fun H locs hP hS _ _ => ?_)
          obtain ⟨σ16, h15, hM⟩ := bnv_i hM
          refine x_callVv (As := [.int x2, .int r14]) (rest := []) hA ⟨hx, hb, hml, hown, hts⟩ (tX5_set l D cA ad hJ 5 (by omega) x2 r14 σ13 _ h15) (cwV 2 hts gX4_insert_X5_set rfl rfl rfl (by decide +kernel) ⟨(Nat.le_of_ble_eq_true rfl), (Nat.le_of_ble_eq_true rfl)⟩) hK hP hS (KC_row 5 (by omega)) rfl rfl hl.1 rfl (Nat.le_of_ble_eq_true rfl) ⟨Nat.zero_le _, Nat.zero_le _⟩ dX4_insert_42 (fun H locs hP hS _ _ => ?_)
          refine lv_iinc (v := (x2 + (-1))) (lv' := [(2, .int (x2 + (-1))), (0, .ref (ad 54)), (1, .int x1)]) hx hb dX4_insert_45 hl (k := 2) rfl rfl (by decide) rfl (fun ls hl => ?_)
          refine lv_goto (tgt := 5) hx hb dX4_insert_48 (by decide) ?_
          exact ih5 _ _ _ _ _ _ hM hP hS (lv_sub hl [1, 2, 0] rfl)
  unfold mX4_insert at hM
  refine lv_aload_n hx hb dX4_insert_0 rfl (lv_at hl 0 rfl) ?_
  refine x_geti (own := RX4) (C := RX4) (T := TX4) (N := 8) hx hb hts hinX4_X4_insert hown hK hP KC_log rfl 7 (by decide) (hts (.fieldLink RX4 45 "StrokeBoard$Log" "total" "I") (by decide +kernel)) rfl dX4_insert_1 ?_
  refine lv_istore_n (lv' := [(2, .int (σ 28 0)), (0, .ref (ad 54)), (1, .int u1)]) hx hb dX4_insert_4 rfl hl (by decide) rfl (fun ls hl => ?_)
  exact L5 fu _ _ _ _ _ _ hM hP hS (lv_sub hl [1, 2, 0] rfl)
theorem hinX4_X4_addOperation : ∀ w ∈ u_ws RX4 TX4 8, w ∈ wsX4_addOperation := by decide +kernel
set_option maxHeartbeats 4000000 in
set_option maxRecDepth 100000 in
theorem tX4_addOperation (l : Launch) (D : va_G) (cA : ClassId) (ad : Nat → Nat) (hJ : w_J ad KC) (u1 u2 u3 : Int32) (σ σ' : St) (r : Int32) (hM : mX4_addOperation u1 u2 u3 σ = some (r, σ')) : Ct l yX4_addOperation wsX4_addOperation 3 66 D cA ad KC [.ref (ad 54), .int u1, .int u2, .int u3] σ r σ' := by
  unfold Ct
  refine Met_of (cc := cX4_addOperation) (maxL := 6) (ret := (some .int)) hJ (by decide +kernel) rfl (Nat.le_of_ble_eq_true rfl) ?_
  intro p e s m below meth c Z H locs ls hP hS hl
  obtain ⟨hx, hb, hml, hown, hts, hr, hlk, hK, -⟩ := Z
  have hown : s.vm.findClass RX4 = some m.cls := hown
  have hl : lv_has ls 6 [(0, .ref (ad 54)), (1, .int u1), (2, .int u2), (3, .int u3)] := hl
  have hA : ∀ q, w_A ad KC q → w_A ad KC q := fun _ h => h
  unfold mX4_addOperation at hM
  refine lv_aload_n hx hb dX4_addOperation_0 rfl (lv_at hl 0 rfl) ?_
  refine x_getr (own := RX4) (C := RX4) (T := TX4) (N := 8) hx hb hts hinX4_X4_addOperation hown hK hP KC_log rfl 0 (by decide) (hts (.fieldLink RX4 14 "StrokeBoard$Log" "made" "LStrokeBoard$Row;") (by decide +kernel)) rfl dX4_addOperation_1 ?_
  refine lv_iload_n hx hb dX4_addOperation_4 rfl (lv_at hl 1 rfl) ?_
  obtain ⟨r3, σ2, h1, hM⟩ := bnd_i hM
  refine x_callV (As := [.int u1]) (rest := []) hA ⟨hx, hb, hml, hown, hts⟩ (tX5_get l D cA ad hJ 0 (by omega) u1 σ _ _ h1) (cwV 1 hts gX4_addOperation_X5_get rfl rfl rfl (by decide +kernel) ⟨(Nat.le_of_ble_eq_true rfl), (Nat.le_of_ble_eq_true rfl)⟩) hK hP hS (KC_row 0 (by omega)) rfl rfl hl.1 rfl (Nat.le_of_ble_eq_true rfl) ⟨Nat.zero_le _, Nat.zero_le _⟩ dX4_addOperation_5 (fun H locs hP hS _ _ => ?_)
  refine lv_iconst (v := 1) hx hb dX4_addOperation_8 (by decide) ?_
  refine lv_iadd hx hb dX4_addOperation_9 ?_
  refine lv_istore (lv' := [(4, .int (r3 + 1)), (0, .ref (ad 54)), (1, .int u1), (2, .int u2), (3, .int u3)]) hx hb dX4_addOperation_10 hl (by decide) rfl (fun ls hl => ?_)
  refine lv_iload_n hx hb dX4_addOperation_12 rfl (lv_at hl 2 rfl) ?_
  refine lv_iload hx hb dX4_addOperation_13 (lv_at hl 0 rfl) ?_
  obtain ⟨r6, σ5, h4, hM⟩ := bnd_i hM
  refine x_callSN (As := [.int u1, .int (r3 + 1)]) (rest := []) hA ⟨hx, hb, hml, hown, hts⟩ (tX6_idOf l D cA ad hJ u1 (r3 + 1) σ2 _ _ h4) ⟨va_cnB 2 hts gX4_addOperation_X6_idOf_n68 rfl rfl rfl (nw_m (args := #[]) hK.2 0 rfl) (hts (.initialized RX6) (by decide +kernel)) (by decide +kernel) ⟨(Nat.le_of_ble_eq_true rfl), (Nat.le_of_ble_eq_true rfl)⟩, hts (.static yX6_idOf) (by decide +kernel), trivial⟩ hK hP hS rfl hl.1 rfl (Nat.le_of_ble_eq_true rfl) ⟨Nat.zero_le _, Nat.zero_le _⟩ dX4_addOperation_15 (fun H locs hP hS => ?_)
  refine lv_istore (lv' := [(5, .int r6), (4, .int (r3 + 1)), (0, .ref (ad 54)), (1, .int u1), (2, .int u2), (3, .int u3)]) hx hb dX4_addOperation_18 hl (by decide) rfl (fun ls hl => ?_)
  refine lv_aload_n hx hb dX4_addOperation_20 rfl (lv_at hl 2 rfl) ?_
  refine x_getr (own := RX4) (C := RX4) (T := TX4) (N := 8) hx hb hts hinX4_X4_addOperation hown hK hP KC_log rfl 0 (by decide) (hts (.fieldLink RX4 14 "StrokeBoard$Log" "made" "LStrokeBoard$Row;") (by decide +kernel)) rfl dX4_addOperation_21 ?_
  refine lv_iload_n hx hb dX4_addOperation_24 rfl (lv_at hl 3 rfl) ?_
  refine lv_iload hx hb dX4_addOperation_25 (lv_at hl 1 rfl) ?_
  obtain ⟨σ8, h7, hM⟩ := bnv_i hM
  refine x_callVv (As := [.int u1, .int (r3 + 1)]) (rest := []) hA ⟨hx, hb, hml, hown, hts⟩ (tX5_set l D cA ad hJ 0 (by omega) u1 (r3 + 1) σ5 _ h7) (cwV 2 hts gX4_addOperation_X5_set rfl rfl rfl (by decide +kernel) ⟨(Nat.le_of_ble_eq_true rfl), (Nat.le_of_ble_eq_true rfl)⟩) hK hP hS (KC_row 0 (by omega)) rfl rfl hl.1 rfl (Nat.le_of_ble_eq_true rfl) ⟨Nat.zero_le _, Nat.zero_le _⟩ dX4_addOperation_27 (fun H locs hP hS _ _ => ?_)
  refine lv_aload_n hx hb dX4_addOperation_30 rfl (lv_at hl 2 rfl) ?_
  refine x_getr (own := RX4) (C := RX4) (T := TX4) (N := 8) hx hb hts hinX4_X4_addOperation hown hK hP KC_log rfl 2 (by decide) (hts (.fieldLink RX4 23 "StrokeBoard$Log" "times" "LStrokeBoard$Row;") (by decide +kernel)) rfl dX4_addOperation_31 ?_
  refine lv_iload hx hb dX4_addOperation_34 (lv_at hl 0 rfl) ?_
  refine lv_iload_n hx hb dX4_addOperation_36 rfl (lv_at hl 4 rfl) ?_
  obtain ⟨σ10, h9, hM⟩ := bnv_i hM
  refine x_callVv (As := [.int r6, .int u2]) (rest := []) hA ⟨hx, hb, hml, hown, hts⟩ (tX5_set l D cA ad hJ 2 (by omega) r6 u2 σ8 _ h9) (cwV 2 hts gX4_addOperation_X5_set rfl rfl rfl (by decide +kernel) ⟨(Nat.le_of_ble_eq_true rfl), (Nat.le_of_ble_eq_true rfl)⟩) hK hP hS (KC_row 2 (by omega)) rfl rfl hl.1 rfl (Nat.le_of_ble_eq_true rfl) ⟨Nat.zero_le _, Nat.zero_le _⟩ dX4_addOperation_37 (fun H locs hP hS _ _ => ?_)
  refine lv_aload_n hx hb dX4_addOperation_40 rfl (lv_at hl 2 rfl) ?_
  refine x_getr (own := RX4) (C := RX4) (T := TX4) (N := 8) hx hb hts hinX4_X4_addOperation hown hK hP KC_log rfl 1 (by decide) (hts (.fieldLink RX4 20 "StrokeBoard$Log" "kinds" "LStrokeBoard$Row;") (by decide +kernel)) rfl dX4_addOperation_41 ?_
  refine lv_iload hx hb dX4_addOperation_44 (lv_at hl 0 rfl) ?_
  refine lv_iload_n hx hb dX4_addOperation_46 rfl (lv_at hl 5 rfl) ?_
  obtain ⟨σ12, h11, hM⟩ := bnv_i hM
  refine x_callVv (As := [.int r6, .int u3]) (rest := []) hA ⟨hx, hb, hml, hown, hts⟩ (tX5_set l D cA ad hJ 1 (by omega) r6 u3 σ10 _ h11) (cwV 2 hts gX4_addOperation_X5_set rfl rfl rfl (by decide +kernel) ⟨(Nat.le_of_ble_eq_true rfl), (Nat.le_of_ble_eq_true rfl)⟩) hK hP hS (KC_row 1 (by omega)) rfl rfl hl.1 rfl (Nat.le_of_ble_eq_true rfl) ⟨Nat.zero_le _, Nat.zero_le _⟩ dX4_addOperation_47 (fun H locs hP hS _ _ => ?_)
  refine lv_aload_n hx hb dX4_addOperation_50 rfl (lv_at hl 2 rfl) ?_
  refine lv_iload hx hb dX4_addOperation_51 (lv_at hl 0 rfl) ?_
  obtain ⟨σ14, h13, hM⟩ := bnv_i hM
  refine x_callVv (As := [.int r6]) (rest := []) hA ⟨hx, hb, hml, hown, hts⟩ (tX4_insert l D cA ad hJ r6 σ12 _ h13) (cwV 1 hts gX4_addOperation_X4_insert rfl rfl rfl (by decide +kernel) ⟨(Nat.le_of_ble_eq_true rfl), (Nat.le_of_ble_eq_true rfl)⟩) hK hP hS KC_log rfl rfl hl.1 rfl (Nat.le_of_ble_eq_true rfl) ⟨Nat.zero_le _, Nat.zero_le _⟩ dX4_addOperation_53 (fun H locs hP hS _ _ => ?_)
  refine lv_iload hx hb dX4_addOperation_56 (lv_at hl 0 rfl) ?_
  exact x_iret hx hb hr hlk hP hS hM dX4_addOperation_58
theorem hinX4_X4_addStroke : ∀ w ∈ u_ws RX4 TX4 8, w ∈ wsX4_addStroke := by decide +kernel
set_option maxHeartbeats 4000000 in
set_option maxRecDepth 100000 in
theorem tX4_addStroke (l : Launch) (D : va_G) (cA : ClassId) (ad : Nat → Nat) (hJ : w_J ad KC) (t : Nat) (ht : t < 2) (u1 u2 : Int32) (σ σ' : St) (r : Int32) (hM : mX4_addStroke t u1 u2 σ = some (r, σ')) : Ct l yX4_addStroke wsX4_addStroke 4 91 D cA ad KC [.ref (ad 54), .int u1, .int u2, .ref (ad (55 + t))] σ r σ' := by
  unfold Ct
  refine Met_of (cc := cX4_addStroke) (maxL := 5) (ret := (some .int)) hJ (by decide +kernel) rfl (Nat.le_of_ble_eq_true rfl) ?_
  intro p e s m below meth c Z H locs ls hP hS hl
  obtain ⟨hx, hb, hml, hown, hts, hr, hlk, hK, -⟩ := Z
  have hown : s.vm.findClass RX4 = some m.cls := hown
  have hl : lv_has ls 5 [(0, .ref (ad 54)), (1, .int u1), (2, .int u2), (3, .ref (ad (55 + t)))] := hl
  have hA : ∀ q, w_A ad KC q → w_A ad KC q := fun _ h => h
  unfold mX4_addStroke at hM
  refine lv_aload_n hx hb dX4_addStroke_0 rfl (lv_at hl 0 rfl) ?_
  refine lv_iload_n hx hb dX4_addStroke_1 rfl (lv_at hl 1 rfl) ?_
  refine lv_iload_n hx hb dX4_addStroke_2 rfl (lv_at hl 2 rfl) ?_
  refine lv_iconst (v := 0) hx hb dX4_addStroke_3 (by decide) ?_
  obtain ⟨r3, σ2, h1, hM⟩ := bnd_i hM
  refine x_callV (As := [.int u1, .int u2, .int 0]) (rest := []) hA ⟨hx, hb, hml, hown, hts⟩ (tX4_addOperation l D cA ad hJ u1 u2 0 σ _ _ h1) (cwV 3 hts gX4_addStroke_X4_addOperation rfl rfl rfl (by decide +kernel) ⟨(Nat.le_of_ble_eq_true rfl), (Nat.le_of_ble_eq_true rfl)⟩) hK hP hS KC_log rfl rfl hl.1 rfl (Nat.le_of_ble_eq_true rfl) ⟨Nat.zero_le _, Nat.zero_le _⟩ dX4_addStroke_4 (fun H locs hP hS _ _ => ?_)
  refine lv_istore (lv' := [(4, .int r3), (0, .ref (ad 54)), (1, .int u1), (2, .int u2), (3, .ref (ad (55 + t)))]) hx hb dX4_addStroke_7 hl (by decide) rfl (fun ls hl => ?_)
  refine lv_aload_n hx hb dX4_addStroke_9 rfl (lv_at hl 1 rfl) ?_
  refine x_getr (own := RX4) (C := RX4) (T := TX4) (N := 8) hx hb hts hinX4_X4_addStroke hown hK hP KC_log rfl 6 (by decide) (hts (.fieldLink RX4 38 "StrokeBoard$Log" "ink" "LStrokeBoard$Ink;") (by decide +kernel)) rfl dX4_addStroke_10 ?_
  refine lv_aload_n hx hb dX4_addStroke_13 rfl (lv_at hl 4 rfl) ?_
  refine lv_iload_n hx hb dX4_addStroke_14 rfl (lv_at hl 2 rfl) ?_
  refine lv_iload hx hb dX4_addStroke_15 (lv_at hl 0 rfl) ?_
  obtain ⟨σ5, h4, hM⟩ := bnv_i hM
  refine x_callVv (As := [.ref (ad (55 + t)), .int u1, .int r3]) (rest := []) hA ⟨hx, hb, hml, hown, hts⟩ (tX1_copyFrom l D cA ad hJ 0 (by omega) t (by omega) u1 r3 σ2 _ h4) (cwV 3 hts gX4_addStroke_X1_copyFrom rfl rfl rfl (by decide +kernel) ⟨(Nat.le_of_ble_eq_true rfl), (Nat.le_of_ble_eq_true rfl)⟩) hK hP hS (KC_ink 0 (by omega)) rfl rfl hl.1 rfl (Nat.le_of_ble_eq_true rfl) ⟨Nat.zero_le _, Nat.zero_le _⟩ dX4_addStroke_17 (fun H locs hP hS _ _ => ?_)
  refine lv_aload_n hx hb dX4_addStroke_20 rfl (lv_at hl 1 rfl) ?_
  refine x_getr (own := RX4) (C := RX4) (T := TX4) (N := 8) hx hb hts hinX4_X4_addStroke hown hK hP KC_log rfl 4 (by decide) (hts (.fieldLink RX4 29 "StrokeBoard$Log" "layers" "LStrokeBoard$Row;") (by decide +kernel)) rfl dX4_addStroke_21 ?_
  refine lv_iload hx hb dX4_addStroke_24 (lv_at hl 0 rfl) ?_
  refine lv_aload_n hx hb dX4_addStroke_26 rfl (lv_at hl 1 rfl) ?_
  refine x_getr (own := RX4) (C := RX4) (T := TX4) (N := 8) hx hb hts hinX4_X4_addStroke hown hK hP KC_log rfl 6 (by decide) (hts (.fieldLink RX4 38 "StrokeBoard$Log" "ink" "LStrokeBoard$Ink;") (by decide +kernel)) rfl dX4_addStroke_27 ?_
  refine lv_iload hx hb dX4_addStroke_30 (lv_at hl 0 rfl) ?_
  obtain ⟨r8, σ7, h6, hM⟩ := bnd_i hM
  refine x_callV (As := [.int r3]) (rest := [.int r3, .ref (ad (2 * 4))]) hA ⟨hx, hb, hml, hown, hts⟩ (tX1_layerOf l D cA ad hJ 0 (by omega) r3 σ5 _ _ h6) (cwV 1 hts gX4_addStroke_X1_layerOf rfl rfl rfl (by decide +kernel) ⟨(Nat.le_of_ble_eq_true rfl), (Nat.le_of_ble_eq_true rfl)⟩) hK hP hS (KC_ink 0 (by omega)) rfl rfl hl.1 rfl (Nat.le_of_ble_eq_true rfl) ⟨Nat.zero_le _, Nat.zero_le _⟩ dX4_addStroke_32 (fun H locs hP hS _ _ => ?_)
  obtain ⟨σ10, h9, hM⟩ := bnv_i hM
  refine x_callVv (As := [.int r3, .int r8]) (rest := []) hA ⟨hx, hb, hml, hown, hts⟩ (tX5_set l D cA ad hJ 4 (by omega) r3 r8 σ7 _ h9) (cwV 2 hts gX4_addStroke_X5_set rfl rfl rfl (by decide +kernel) ⟨(Nat.le_of_ble_eq_true rfl), (Nat.le_of_ble_eq_true rfl)⟩) hK hP hS (KC_row 4 (by omega)) rfl rfl hl.1 rfl (Nat.le_of_ble_eq_true rfl) ⟨Nat.zero_le _, Nat.zero_le _⟩ dX4_addStroke_35 (fun H locs hP hS _ _ => ?_)
  refine lv_iload hx hb dX4_addStroke_38 (lv_at hl 0 rfl) ?_
  exact x_iret hx hb hr hlk hP hS hM dX4_addStroke_40
theorem hinX4_X4_addChange : ∀ w ∈ u_ws RX4 TX4 8, w ∈ wsX4_addChange := by decide +kernel
set_option maxHeartbeats 4000000 in
set_option maxRecDepth 100000 in
theorem tX4_addChange (l : Launch) (D : va_G) (cA : ClassId) (ad : Nat → Nat) (hJ : w_J ad KC) (u1 u2 u3 u4 u5 : Int32) (σ σ' : St) (r : Int32) (hM : mX4_addChange u1 u2 u3 u4 u5 σ = some (r, σ')) : Ct l yX4_addChange wsX4_addChange 4 91 D cA ad KC [.ref (ad 54), .int u1, .int u2, .int u3, .int u4, .int u5] σ r σ' := by
  unfold Ct
  refine Met_of (cc := cX4_addChange) (maxL := 7) (ret := (some .int)) hJ (by decide +kernel) rfl (Nat.le_of_ble_eq_true rfl) ?_
  intro p e s m below meth c Z H locs ls hP hS hl
  obtain ⟨hx, hb, hml, hown, hts, hr, hlk, hK, -⟩ := Z
  have hown : s.vm.findClass RX4 = some m.cls := hown
  have hl : lv_has ls 7 [(0, .ref (ad 54)), (1, .int u1), (2, .int u2), (3, .int u3), (4, .int u4), (5, .int u5)] := hl
  have hA : ∀ q, w_A ad KC q → w_A ad KC q := fun _ h => h
  unfold mX4_addChange at hM
  refine lv_aload_n hx hb dX4_addChange_0 rfl (lv_at hl 0 rfl) ?_
  refine lv_iload_n hx hb dX4_addChange_1 rfl (lv_at hl 1 rfl) ?_
  refine lv_iload_n hx hb dX4_addChange_2 rfl (lv_at hl 2 rfl) ?_
  refine lv_iload_n hx hb dX4_addChange_3 rfl (lv_at hl 3 rfl) ?_
  obtain ⟨r3, σ2, h1, hM⟩ := bnd_i hM
  refine x_callV (As := [.int u1, .int u2, .int u3]) (rest := []) hA ⟨hx, hb, hml, hown, hts⟩ (tX4_addOperation l D cA ad hJ u1 u2 u3 σ _ _ h1) (cwV 3 hts gX4_addChange_X4_addOperation rfl rfl rfl (by decide +kernel) ⟨(Nat.le_of_ble_eq_true rfl), (Nat.le_of_ble_eq_true rfl)⟩) hK hP hS KC_log rfl rfl hl.1 rfl (Nat.le_of_ble_eq_true rfl) ⟨Nat.zero_le _, Nat.zero_le _⟩ dX4_addChange_4 (fun H locs hP hS _ _ => ?_)
  refine lv_istore (lv' := [(6, .int r3), (0, .ref (ad 54)), (1, .int u1), (2, .int u2), (3, .int u3), (4, .int u4), (5, .int u5)]) hx hb dX4_addChange_7 hl (by decide) rfl (fun ls hl => ?_)
  refine lv_aload_n hx hb dX4_addChange_9 rfl (lv_at hl 1 rfl) ?_
  refine x_getr (own := RX4) (C := RX4) (T := TX4) (N := 8) hx hb hts hinX4_X4_addChange hown hK hP KC_log rfl 3 (by decide) (hts (.fieldLink RX4 26 "StrokeBoard$Log" "targets" "LStrokeBoard$Row;") (by decide +kernel)) rfl dX4_addChange_10 ?_
  refine lv_iload hx hb dX4_addChange_13 (lv_at hl 0 rfl) ?_
  refine lv_iload hx hb dX4_addChange_15 (lv_at hl 5 rfl) ?_
  obtain ⟨σ5, h4, hM⟩ := bnv_i hM
  refine x_callVv (As := [.int r3, .int u4]) (rest := []) hA ⟨hx, hb, hml, hown, hts⟩ (tX5_set l D cA ad hJ 3 (by omega) r3 u4 σ2 _ h4) (cwV 2 hts gX4_addChange_X5_set rfl rfl rfl (by decide +kernel) ⟨(Nat.le_of_ble_eq_true rfl), (Nat.le_of_ble_eq_true rfl)⟩) hK hP hS (KC_row 3 (by omega)) rfl rfl hl.1 rfl (Nat.le_of_ble_eq_true rfl) ⟨Nat.zero_le _, Nat.zero_le _⟩ dX4_addChange_17 (fun H locs hP hS _ _ => ?_)
  refine lv_aload_n hx hb dX4_addChange_20 rfl (lv_at hl 1 rfl) ?_
  refine x_getr (own := RX4) (C := RX4) (T := TX4) (N := 8) hx hb hts hinX4_X4_addChange hown hK hP KC_log rfl 4 (by decide) (hts (.fieldLink RX4 29 "StrokeBoard$Log" "layers" "LStrokeBoard$Row;") (by decide +kernel)) rfl dX4_addChange_21 ?_
  refine lv_iload hx hb dX4_addChange_24 (lv_at hl 0 rfl) ?_
  refine lv_iload hx hb dX4_addChange_26 (lv_at hl 6 rfl) ?_
  obtain ⟨σ7, h6, hM⟩ := bnv_i hM
  refine x_callVv (As := [.int r3, .int u5]) (rest := []) hA ⟨hx, hb, hml, hown, hts⟩ (tX5_set l D cA ad hJ 4 (by omega) r3 u5 σ5 _ h6) (cwV 2 hts gX4_addChange_X5_set rfl rfl rfl (by decide +kernel) ⟨(Nat.le_of_ble_eq_true rfl), (Nat.le_of_ble_eq_true rfl)⟩) hK hP hS (KC_row 4 (by omega)) rfl rfl hl.1 rfl (Nat.le_of_ble_eq_true rfl) ⟨Nat.zero_le _, Nat.zero_le _⟩ dX4_addChange_28 (fun H locs hP hS _ _ => ?_)
  refine lv_iload hx hb dX4_addChange_31 (lv_at hl 0 rfl) ?_
  exact x_iret hx hb hr hlk hP hS hM dX4_addChange_33
theorem hinX4_X4_madeBy : ∀ w ∈ u_ws RX4 TX4 8, w ∈ wsX4_madeBy := by decide +kernel
set_option maxHeartbeats 4000000 in
set_option maxRecDepth 100000 in
theorem tX4_madeBy (l : Launch) (D : va_G) (cA : ClassId) (ad : Nat → Nat) (hJ : w_J ad KC) (u1 : Int32) (σ σ' : St) (r : Int32) (hM : mX4_madeBy u1 σ = some (r, σ')) : Ct l yX4_madeBy wsX4_madeBy 1 21 D cA ad KC [.ref (ad 54), .int u1] σ r σ' := by
  unfold Ct
  refine Met_of (cc := cX4_madeBy) (maxL := 2) (ret := (some .int)) hJ (by decide +kernel) rfl (Nat.le_of_ble_eq_true rfl) ?_
  intro p e s m below meth c Z H locs ls hP hS hl
  obtain ⟨hx, hb, hml, hown, hts, hr, hlk, hK, -⟩ := Z
  have hown : s.vm.findClass RX4 = some m.cls := hown
  have hl : lv_has ls 2 [(0, .ref (ad 54)), (1, .int u1)] := hl
  have hA : ∀ q, w_A ad KC q → w_A ad KC q := fun _ h => h
  unfold mX4_madeBy at hM
  refine lv_aload_n hx hb dX4_madeBy_0 rfl (lv_at hl 0 rfl) ?_
  refine x_getr (own := RX4) (C := RX4) (T := TX4) (N := 8) hx hb hts hinX4_X4_madeBy hown hK hP KC_log rfl 0 (by decide) (hts (.fieldLink RX4 14 "StrokeBoard$Log" "made" "LStrokeBoard$Row;") (by decide +kernel)) rfl dX4_madeBy_1 ?_
  refine lv_iload_n hx hb dX4_madeBy_4 rfl (lv_at hl 1 rfl) ?_
  obtain ⟨r3, σ2, h1, hM⟩ := bnd_i hM
  refine x_callV (As := [.int u1]) (rest := []) hA ⟨hx, hb, hml, hown, hts⟩ (tX5_get l D cA ad hJ 0 (by omega) u1 σ _ _ h1) (cwV 1 hts gX4_madeBy_X5_get rfl rfl rfl (by decide +kernel) ⟨(Nat.le_of_ble_eq_true rfl), (Nat.le_of_ble_eq_true rfl)⟩) hK hP hS (KC_row 0 (by omega)) rfl rfl hl.1 rfl (Nat.le_of_ble_eq_true rfl) ⟨Nat.zero_le _, Nat.zero_le _⟩ dX4_madeBy_5 (fun H locs hP hS _ _ => ?_)
  exact x_iret hx hb hr hlk hP hS hM dX4_madeBy_8
theorem hinX4_X4_timeOf : ∀ w ∈ u_ws RX4 TX4 8, w ∈ wsX4_timeOf := by decide +kernel
set_option maxHeartbeats 4000000 in
set_option maxRecDepth 100000 in
theorem tX4_timeOf (l : Launch) (D : va_G) (cA : ClassId) (ad : Nat → Nat) (hJ : w_J ad KC) (u1 : Int32) (σ σ' : St) (r : Int32) (hM : mX4_timeOf u1 σ = some (r, σ')) : Ct l yX4_timeOf wsX4_timeOf 1 21 D cA ad KC [.ref (ad 54), .int u1] σ r σ' := by
  unfold Ct
  refine Met_of (cc := cX4_timeOf) (maxL := 2) (ret := (some .int)) hJ (by decide +kernel) rfl (Nat.le_of_ble_eq_true rfl) ?_
  intro p e s m below meth c Z H locs ls hP hS hl
  obtain ⟨hx, hb, hml, hown, hts, hr, hlk, hK, -⟩ := Z
  have hown : s.vm.findClass RX4 = some m.cls := hown
  have hl : lv_has ls 2 [(0, .ref (ad 54)), (1, .int u1)] := hl
  have hA : ∀ q, w_A ad KC q → w_A ad KC q := fun _ h => h
  unfold mX4_timeOf at hM
  refine lv_aload_n hx hb dX4_timeOf_0 rfl (lv_at hl 0 rfl) ?_
  refine x_getr (own := RX4) (C := RX4) (T := TX4) (N := 8) hx hb hts hinX4_X4_timeOf hown hK hP KC_log rfl 2 (by decide) (hts (.fieldLink RX4 23 "StrokeBoard$Log" "times" "LStrokeBoard$Row;") (by decide +kernel)) rfl dX4_timeOf_1 ?_
  refine lv_iload_n hx hb dX4_timeOf_4 rfl (lv_at hl 1 rfl) ?_
  obtain ⟨r3, σ2, h1, hM⟩ := bnd_i hM
  refine x_callV (As := [.int u1]) (rest := []) hA ⟨hx, hb, hml, hown, hts⟩ (tX5_get l D cA ad hJ 2 (by omega) u1 σ _ _ h1) (cwV 1 hts gX4_timeOf_X5_get rfl rfl rfl (by decide +kernel) ⟨(Nat.le_of_ble_eq_true rfl), (Nat.le_of_ble_eq_true rfl)⟩) hK hP hS (KC_row 2 (by omega)) rfl rfl hl.1 rfl (Nat.le_of_ble_eq_true rfl) ⟨Nat.zero_le _, Nat.zero_le _⟩ dX4_timeOf_5 (fun H locs hP hS _ _ => ?_)
  exact x_iret hx hb hr hlk hP hS hM dX4_timeOf_8
theorem hinX4_X4_sizeOf : ∀ w ∈ u_ws RX4 TX4 8, w ∈ wsX4_sizeOf := by decide +kernel
set_option maxHeartbeats 4000000 in
set_option maxRecDepth 100000 in
theorem tX4_sizeOf (l : Launch) (D : va_G) (cA : ClassId) (ad : Nat → Nat) (hJ : w_J ad KC) (u1 : Int32) (σ σ' : St) (r : Int32) (hM : mX4_sizeOf u1 σ = some (r, σ')) : Ct l yX4_sizeOf wsX4_sizeOf 3 67 D cA ad KC [.ref (ad 54), .int u1] σ r σ' := by
  unfold Ct
  refine Met_of (cc := cX4_sizeOf) (maxL := 2) (ret := (some .int)) hJ (by decide +kernel) rfl (Nat.le_of_ble_eq_true rfl) ?_
  intro p e s m below meth c Z H locs ls hP hS hl
  obtain ⟨hx, hb, hml, hown, hts, hr, hlk, hK, -⟩ := Z
  have hown : s.vm.findClass RX4 = some m.cls := hown
  have hl : lv_has ls 2 [(0, .ref (ad 54)), (1, .int u1)] := hl
  have hA : ∀ q, w_A ad KC q → w_A ad KC q := fun _ h => h
  unfold mX4_sizeOf at hM
  refine lv_aload_n hx hb dX4_sizeOf_0 rfl (lv_at hl 0 rfl) ?_
  refine x_getr (own := RX4) (C := RX4) (T := TX4) (N := 8) hx hb hts hinX4_X4_sizeOf hown hK hP KC_log rfl 1 (by decide) (hts (.fieldLink RX4 20 "StrokeBoard$Log" "kinds" "LStrokeBoard$Row;") (by decide +kernel)) rfl dX4_sizeOf_1 ?_
  refine lv_iload_n hx hb dX4_sizeOf_4 rfl (lv_at hl 1 rfl) ?_
  obtain ⟨r3, σ2, h1, hM⟩ := bnd_i hM
  refine x_callV (As := [.int u1]) (rest := []) hA ⟨hx, hb, hml, hown, hts⟩ (tX5_get l D cA ad hJ 1 (by omega) u1 σ _ _ h1) (cwV 1 hts gX4_sizeOf_X5_get rfl rfl rfl (by decide +kernel) ⟨(Nat.le_of_ble_eq_true rfl), (Nat.le_of_ble_eq_true rfl)⟩) hK hP hS (KC_row 1 (by omega)) rfl rfl hl.1 rfl (Nat.le_of_ble_eq_true rfl) ⟨Nat.zero_le _, Nat.zero_le _⟩ dX4_sizeOf_5 (fun H locs hP hS _ _ => ?_)
  by_cases c4 : r3 = 0
  · have hM := (if_pos c4).symm.trans hM
    refine lv_lookup (tgt := 36) (off := 28) hx hb dX4_sizeOf_8 (by decide) (by rw [c4]; decide) (by decide) ?_
    refine lv_aload_n hx hb dX4_sizeOf_36 rfl (lv_at hl 0 rfl) ?_
    refine x_getr (own := RX4) (C := RX4) (T := TX4) (N := 8) hx hb hts hinX4_X4_sizeOf hown hK hP KC_log rfl 6 (by decide) (hts (.fieldLink RX4 38 "StrokeBoard$Log" "ink" "LStrokeBoard$Ink;") (by decide +kernel)) rfl dX4_sizeOf_37 ?_
    refine lv_iload_n hx hb dX4_sizeOf_40 rfl (lv_at hl 1 rfl) ?_
    obtain ⟨r7, σ6, h5, hM⟩ := bnd_i hM
    refine x_callV (As := [.int u1]) (rest := []) hA ⟨hx, hb, hml, hown, hts⟩ (tX1_sizeOf l D cA ad hJ 0 (by omega) u1 σ2 _ _ h5) (cwV 1 hts gX4_sizeOf_X1_sizeOf rfl rfl rfl (by decide +kernel) ⟨(Nat.le_of_ble_eq_true rfl), (Nat.le_of_ble_eq_true rfl)⟩) hK hP hS (KC_ink 0 (by omega)) rfl rfl hl.1 rfl (Nat.le_of_ble_eq_true rfl) ⟨Nat.zero_le _, Nat.zero_le _⟩ dX4_sizeOf_41 (fun H locs hP hS _ _ => ?_)
    exact x_iret hx hb hr hlk hP hS hM dX4_sizeOf_44
  · have hM := (if_neg c4).symm.trans hM
    by_cases c8 : r3 = 3
    · have hM := (if_pos c8).symm.trans hM
      refine lv_lookup (tgt := 45) (off := 37) hx hb dX4_sizeOf_8 (by decide) (by rw [c8]; decide) (by decide) ?_
      refine lv_iconst (v := 4) hx hb dX4_sizeOf_45 (by decide) ?_
      exact x_iret hx hb hr hlk hP hS hM dX4_sizeOf_46
    · have hM := (if_neg c8).symm.trans hM
      refine lv_lookup (tgt := 47) (off := 39) hx hb dX4_sizeOf_8 (by decide) (by
        have gc4 : ¬ (0 = Int32.toInt r3) := fun h7 => c4 (Int32.toInt_inj.mp (h7.symm.trans (by decide)))
        have gc8 : ¬ (3 = Int32.toInt r3) := fun h7 => c8 (Int32.toInt_inj.mp (h7.symm.trans (by decide)))
        simp [Op.lookupswitch.offset, gc4, gc8]) (by decide) ?_
      refine lv_iconst (v := 3) hx hb dX4_sizeOf_47 (by decide) ?_
      exact x_iret hx hb hr hlk hP hS hM dX4_sizeOf_48
theorem hinX6_X6_reset : ∀ w ∈ u_ws RX6 TX6 9, w ∈ wsX6_reset := by decide +kernel
set_option maxHeartbeats 4000000 in
set_option maxRecDepth 100000 in
theorem tX6_reset (l : Launch) (D : va_G) (cA : ClassId) (ad : Nat → Nat) (hJ : w_J ad KC) (u1 : Int32) (σ σ' : St) (r : Int32) (hM : mX6_reset u1 σ = some (r, σ')) : Ct l yX6_reset wsX6_reset 2 42 D cA ad KC [.ref (ad 62), .int u1] σ r σ' := by
  unfold Ct
  refine Met_of (cc := cX6_reset) (maxL := 3) (ret := (some .int)) hJ (by decide +kernel) rfl (Nat.le_of_ble_eq_true rfl) ?_
  intro p e s m below meth c Z H locs ls hP hS hl
  obtain ⟨hx, hb, hml, hown, hts, hr, hlk, hK, -⟩ := Z
  have hown : s.vm.findClass RX6 = some m.cls := hown
  have hl : lv_has ls 3 [(0, .ref (ad 62)), (1, .int u1)] := hl
  have hA : ∀ q, w_A ad KC q → w_A ad KC q := fun _ h => h
  unfold mX6_reset at hM
  refine lv_iload_n hx hb dX6_reset_0 rfl (lv_at hl 1 rfl) ?_
  refine lv_iconst (v := 1) hx hb dX6_reset_1 (by decide) ?_
  refine lv_iconst (v := 5) hx hb dX6_reset_2 (by decide) ?_
  obtain ⟨r3, σ2, h1, hM⟩ := bnd_i hM
  refine x_callS (As := [.int u1, .int 1, .int 5]) (rest := []) hA ⟨hx, hb, hml, hown, hts⟩ (tX6_isWithin l D cA ad hJ u1 1 5 σ _ _ h1) (va_cwS 3 hts gX6_reset_X6_isWithin rfl rfl rfl (by decide +kernel) ⟨(Nat.le_of_ble_eq_true rfl), (Nat.le_of_ble_eq_true rfl)⟩) hK hP hS rfl hl.1 rfl (Nat.le_of_ble_eq_true rfl) ⟨Nat.zero_le _, Nat.zero_le _⟩ dX6_reset_3 (fun H locs hP hS => ?_)
  refine lv_if_ne (tgt := 12) hx hb dX6_reset_6 (by decide) (fun c4 => ?_) (fun c4 => ?_)
  · have hM := (if_neg c4).symm.trans hM
    refine lv_aload_n hx hb dX6_reset_12 rfl (lv_at hl 0 rfl) ?_
    refine x_geti (own := RX6) (C := RX6) (T := TX6) (N := 9) hx hb hts hinX6_X6_reset hown hK hP KC_sb rfl 8 (by decide) (hts (.fieldLink RX6 59 "StrokeBoard" "siteCount" "I") (by decide +kernel)) rfl dX6_reset_13 ?_
    refine lv_istore_n (lv' := [(2, .int (σ2 27 0)), (0, .ref (ad 62)), (1, .int u1)]) hx hb dX6_reset_16 rfl hl (by decide) rfl (fun ls hl => ?_)
    refine lv_aload_n hx hb dX6_reset_17 rfl (lv_at hl 1 rfl) ?_
    refine x_getr (own := RX6) (C := RX6) (T := TX6) (N := 9) hx hb hts hinX6_X6_reset hown hK hP KC_sb rfl 0 (by decide) (hts (.fieldLink RX6 12 "StrokeBoard" "log" "LStrokeBoard$Log;") (by decide +kernel)) rfl dX6_reset_18 ?_
    obtain ⟨σ6, h5, hM⟩ := bnv_i hM
    refine x_callVv (As := []) (rest := []) hA ⟨hx, hb, hml, hown, hts⟩ (tX4_clear l D cA ad hJ σ2 _ h5) (cwV 0 hts gX6_reset_X4_clear rfl rfl rfl (by decide +kernel) ⟨(Nat.le_of_ble_eq_true rfl), (Nat.le_of_ble_eq_true rfl)⟩) hK hP hS KC_log rfl rfl hl.1 rfl (Nat.le_of_ble_eq_true rfl) ⟨Nat.zero_le _, Nat.zero_le _⟩ dX6_reset_21 (fun H locs hP hS _ _ => ?_)
    refine lv_aload_n hx hb dX6_reset_24 rfl (lv_at hl 1 rfl) ?_
    refine x_getr (own := RX6) (C := RX6) (T := TX6) (N := 9) hx hb hts hinX6_X6_reset hown hK hP KC_sb rfl 1 (by decide) (hts (.fieldLink RX6 21 "StrokeBoard" "pens" "LStrokeBoard$Ink;") (by decide +kernel)) rfl dX6_reset_25 ?_
    obtain ⟨σ8, h7, hM⟩ := bnv_i hM
    refine x_callVv (As := []) (rest := []) hA ⟨hx, hb, hml, hown, hts⟩ (tX1_clear l D cA ad hJ 1 (by omega) σ6 _ h7) (cwV 0 hts gX6_reset_X1_clear rfl rfl rfl (by decide +kernel) ⟨(Nat.le_of_ble_eq_true rfl), (Nat.le_of_ble_eq_true rfl)⟩) hK hP hS (KC_ink 1 (by omega)) rfl rfl hl.1 rfl (Nat.le_of_ble_eq_true rfl) ⟨Nat.zero_le _, Nat.zero_le _⟩ dX6_reset_28 (fun H locs hP hS _ _ => ?_)
    refine lv_aload_n hx hb dX6_reset_31 rfl (lv_at hl 1 rfl) ?_
    refine x_getr (own := RX6) (C := RX6) (T := TX6) (N := 9) hx hb hts hinX6_X6_reset hown hK hP KC_sb rfl 2 (by decide) (hts (.fieldLink RX6 28 "StrokeBoard" "knowledge" "LStrokeBoard$Knowledge;") (by decide +kernel)) rfl dX6_reset_32 ?_
    obtain ⟨σ10, h9, hM⟩ := bnv_i hM
    refine x_callVv (As := []) (rest := []) hA ⟨hx, hb, hml, hown, hts⟩ (tX2_clear l D cA ad hJ 0 (by omega) σ8 _ h9) (cwV 0 hts gX6_reset_X2_clear rfl rfl rfl (by decide +kernel) ⟨(Nat.le_of_ble_eq_true rfl), (Nat.le_of_ble_eq_true rfl)⟩) hK hP hS (KC_kno 0 (by omega)) rfl rfl hl.1 rfl (Nat.le_of_ble_eq_true rfl) ⟨Nat.zero_le _, Nat.zero_le _⟩ dX6_reset_35 (fun H locs hP hS _ _ => ?_)
    refine lv_aload_n hx hb dX6_reset_38 rfl (lv_at hl 1 rfl) ?_
    refine x_getr (own := RX6) (C := RX6) (T := TX6) (N := 9) hx hb hts hinX6_X6_reset hown hK hP KC_sb rfl 4 (by decide) (hts (.fieldLink RX6 38 "StrokeBoard" "links" "LStrokeBoard$Links;") (by decide +kernel)) rfl dX6_reset_39 ?_
    obtain ⟨σ12, h11, hM⟩ := bnv_i hM
    refine x_callVv (As := []) (rest := []) hA ⟨hx, hb, hml, hown, hts⟩ (tX3_clear l D cA ad hJ σ10 _ h11) (cwV 0 hts gX6_reset_X3_clear rfl rfl rfl (by decide +kernel) ⟨(Nat.le_of_ble_eq_true rfl), (Nat.le_of_ble_eq_true rfl)⟩) hK hP hS KC_lnk rfl rfl hl.1 rfl (Nat.le_of_ble_eq_true rfl) ⟨Nat.zero_le _, Nat.zero_le _⟩ dX6_reset_42 (fun H locs hP hS _ _ => ?_)
    refine lv_aload_n hx hb dX6_reset_45 rfl (lv_at hl 1 rfl) ?_
    refine x_getr (own := RX6) (C := RX6) (T := TX6) (N := 9) hx hb hts hinX6_X6_reset hown hK hP KC_sb rfl 7 (by decide) (hts (.fieldLink RX6 55 "StrokeBoard" "clocks" "LStrokeBoard$Row;") (by decide +kernel)) rfl dX6_reset_46 ?_
    refine lv_iconst (v := 0) hx hb dX6_reset_49 (by decide) ?_
    obtain ⟨σ14, h13, hM⟩ := bnv_i hM
    refine x_callVv (As := [.int 0]) (rest := []) hA ⟨hx, hb, hml, hown, hts⟩ (tX5_fill l D cA ad hJ 26 (by omega) 0 σ12 _ h13) (cwV 1 hts gX6_reset_X5_fill rfl rfl rfl (by decide +kernel) ⟨(Nat.le_of_ble_eq_true rfl), (Nat.le_of_ble_eq_true rfl)⟩) hK hP hS (KC_row 26 (by omega)) rfl rfl hl.1 rfl (Nat.le_of_ble_eq_true rfl) ⟨Nat.zero_le _, Nat.zero_le _⟩ dX6_reset_50 (fun H locs hP hS _ _ => ?_)
    refine lv_aload_n hx hb dX6_reset_53 rfl (lv_at hl 1 rfl) ?_
    refine lv_iload_n hx hb dX6_reset_54 rfl (lv_at hl 2 rfl) ?_
    refine x_puti (own := RX6) (C := RX6) (T := TX6) (N := 9) hx hb KC_ok hJ hts hinX6_X6_reset tyX6 tyX6_ok nmX6 hown hK hP hS KC_sb rfl 8 (by decide) (hts (.fieldLink RX6 59 "StrokeBoard" "siteCount" "I") (by decide +kernel)) rfl rfl rfl (by decide +kernel) dX6_reset_55 (fun H locs hP hS => ?_)
    obtain ⟨σ15, eσ15, hM⟩ := lts_i hM
    rw [← eσ15] at hP
    refine lv_iload_n hx hb dX6_reset_58 rfl (lv_at hl 0 rfl) ?_
    exact x_iret hx hb hr hlk hP hS hM dX6_reset_59
  · have hM := (if_pos c4).symm.trans hM
    refine lv_ldc (own := RX6) (v := (-1000000001)) hx hb hown (hts (.constant RX6 67 (-1000000001)) (by decide +kernel)) dX6_reset_9 ?_
    exact x_iret hx hb hr hlk hP hS hM dX6_reset_11
theorem hinX6_X6_sites : ∀ w ∈ u_ws RX6 TX6 9, w ∈ wsX6_sites := by decide +kernel
set_option maxHeartbeats 4000000 in
set_option maxRecDepth 100000 in
theorem tX6_sites (l : Launch) (D : va_G) (cA : ClassId) (ad : Nat → Nat) (hJ : w_J ad KC) (σ σ' : St) (r : Int32) (hM : mX6_sites σ = some (r, σ')) : Ct l yX6_sites wsX6_sites 0 0 D cA ad KC [.ref (ad 62)] σ r σ' := by
  unfold Ct
  refine Met_of (cc := cX6_sites) (maxL := 1) (ret := (some .int)) hJ (by decide +kernel) rfl (Nat.le_of_ble_eq_true rfl) ?_
  intro p e s m below meth c Z H locs ls hP hS hl
  obtain ⟨hx, hb, hml, hown, hts, hr, hlk, hK, -⟩ := Z
  have hown : s.vm.findClass RX6 = some m.cls := hown
  have hl : lv_has ls 1 [(0, .ref (ad 62))] := hl
  have hA : ∀ q, w_A ad KC q → w_A ad KC q := fun _ h => h
  unfold mX6_sites at hM
  refine lv_aload_n hx hb dX6_sites_0 rfl (lv_at hl 0 rfl) ?_
  refine x_geti (own := RX6) (C := RX6) (T := TX6) (N := 9) hx hb hts hinX6_X6_sites hown hK hP KC_sb rfl 8 (by decide) (hts (.fieldLink RX6 59 "StrokeBoard" "siteCount" "I") (by decide +kernel)) rfl dX6_sites_1 ?_
  exact x_iret hx hb hr hlk hP hS hM dX6_sites_4
theorem hinX6_X6_isSite : ∀ w ∈ u_ws RX6 TX6 9, w ∈ wsX6_isSite := by decide +kernel
set_option maxHeartbeats 4000000 in
set_option maxRecDepth 100000 in
theorem tX6_isSite (l : Launch) (D : va_G) (cA : ClassId) (ad : Nat → Nat) (hJ : w_J ad KC) (u1 : Int32) (σ σ' : St) (r : Int32) (hM : mX6_isSite u1 σ = some (r, σ')) : Ct l yX6_isSite wsX6_isSite 1 22 D cA ad KC [.ref (ad 62), .int u1] σ r σ' := by
  unfold Ct
  refine Met_of (cc := cX6_isSite) (maxL := 2) (ret := (some .boolean)) hJ (by decide +kernel) rfl (Nat.le_of_ble_eq_true rfl) ?_
  intro p e s m below meth c Z H locs ls hP hS hl
  obtain ⟨hx, hb, hml, hown, hts, hr, hlk, hK, -⟩ := Z
  have hown : s.vm.findClass RX6 = some m.cls := hown
  have hl : lv_has ls 2 [(0, .ref (ad 62)), (1, .int u1)] := hl
  have hA : ∀ q, w_A ad KC q → w_A ad KC q := fun _ h => h
  unfold mX6_isSite at hM
  refine lv_iload_n hx hb dX6_isSite_0 rfl (lv_at hl 1 rfl) ?_
  refine lv_iconst (v := 0) hx hb dX6_isSite_1 (by decide) ?_
  refine lv_aload_n hx hb dX6_isSite_2 rfl (lv_at hl 0 rfl) ?_
  refine x_geti (own := RX6) (C := RX6) (T := TX6) (N := 9) hx hb hts hinX6_X6_isSite hown hK hP KC_sb rfl 8 (by decide) (hts (.fieldLink RX6 59 "StrokeBoard" "siteCount" "I") (by decide +kernel)) rfl dX6_isSite_3 ?_
  refine lv_iconst (v := 1) hx hb dX6_isSite_6 (by decide) ?_
  refine lv_isub hx hb dX6_isSite_7 ?_
  obtain ⟨r3, σ2, h1, hM⟩ := bnd_i hM
  refine x_callS (As := [.int u1, .int 0, .int ((σ 27 0) - 1)]) (rest := []) hA ⟨hx, hb, hml, hown, hts⟩ (tX6_isWithin l D cA ad hJ u1 0 ((σ 27 0) - 1) σ _ _ h1) (va_cwS 3 hts gX6_isSite_X6_isWithin rfl rfl rfl (by decide +kernel) ⟨(Nat.le_of_ble_eq_true rfl), (Nat.le_of_ble_eq_true rfl)⟩) hK hP hS rfl hl.1 rfl (Nat.le_of_ble_eq_true rfl) ⟨Nat.zero_le _, Nat.zero_le _⟩ dX6_isSite_8 (fun H locs hP hS => ?_)
  exact x_zret hx hb hr hlk hP hS hM dX6_isSite_11
theorem hinX6_X6_siteInfo : ∀ w ∈ u_ws RX6 TX6 9, w ∈ wsX6_siteInfo := by decide +kernel
set_option maxHeartbeats 4000000 in
set_option maxRecDepth 100000 in
theorem tX6_siteInfo (l : Launch) (D : va_G) (cA : ClassId) (ad : Nat → Nat) (hJ : w_J ad KC) (u1 u2 : Int32) (σ σ' : St) (r : Int32) (hM : mX6_siteInfo u1 u2 σ = some (r, σ')) : Ct l yX6_siteInfo wsX6_siteInfo 4 96 D cA ad KC [.ref (ad 62), .int u1, .int u2] σ r σ' := by
  unfold Ct
  refine Met_of (cc := cX6_siteInfo) (maxL := 3) (ret := (some .int)) hJ (by decide +kernel) rfl (Nat.le_of_ble_eq_true rfl) ?_
  intro p e s m below meth c Z H locs ls hP hS hl
  obtain ⟨hx, hb, hml, hown, hts, hr, hlk, hK, -⟩ := Z
  have hown : s.vm.findClass RX6 = some m.cls := hown
  have hl : lv_has ls 3 [(0, .ref (ad 62)), (1, .int u1), (2, .int u2)] := hl
  have hA : ∀ q, w_A ad KC q → w_A ad KC q := fun _ h => h
  unfold mX6_siteInfo at hM
  refine lv_aload_n hx hb dX6_siteInfo_0 rfl (lv_at hl 0 rfl) ?_
  refine lv_iload_n hx hb dX6_siteInfo_1 rfl (lv_at hl 1 rfl) ?_
  obtain ⟨r3, σ2, h1, hM⟩ := bnd_i hM
  refine x_callV (As := [.int u1]) (rest := []) hA ⟨hx, hb, hml, hown, hts⟩ (tX6_isSite l D cA ad hJ u1 σ _ _ h1) (cwV 1 hts gX6_siteInfo_X6_isSite rfl rfl rfl (by decide +kernel) ⟨(Nat.le_of_ble_eq_true rfl), (Nat.le_of_ble_eq_true rfl)⟩) hK hP hS KC_sb rfl rfl hl.1 rfl (Nat.le_of_ble_eq_true rfl) ⟨Nat.zero_le _, Nat.zero_le _⟩ dX6_siteInfo_2 (fun H locs hP hS _ _ => ?_)
  refine lv_if_ne (tgt := 11) hx hb dX6_siteInfo_5 (by decide) (fun c4 => ?_) (fun c4 => ?_)
  · have hM := (if_neg c4).symm.trans hM
    refine lv_iload_n hx hb dX6_siteInfo_11 rfl (lv_at hl 2 rfl) ?_
    by_cases c5 : u2 = 0
    · have hM := (if_pos c5).symm.trans hM
      refine lv_tableIn (tgt := 48) (off := 36) hx hb dX6_siteInfo_12 (by rw [c5]; decide) (by rw [c5]; decide) (by rw [c5]; rfl) (by decide) ?_
      refine lv_aload_n hx hb dX6_siteInfo_48 rfl (lv_at hl 0 rfl) ?_
      refine x_getr (own := RX6) (C := RX6) (T := TX6) (N := 9) hx hb hts hinX6_X6_siteInfo hown hK hP KC_sb rfl 7 (by decide) (hts (.fieldLink RX6 55 "StrokeBoard" "clocks" "LStrokeBoard$Row;") (by decide +kernel)) rfl dX6_siteInfo_49 ?_
      refine lv_iload_n hx hb dX6_siteInfo_52 rfl (lv_at hl 1 rfl) ?_
      obtain ⟨r8, σ7, h6, hM⟩ := bnd_i hM
      refine x_callV (As := [.int u1]) (rest := []) hA ⟨hx, hb, hml, hown, hts⟩ (tX5_get l D cA ad hJ 26 (by omega) u1 σ2 _ _ h6) (cwV 1 hts gX6_siteInfo_X5_get rfl rfl rfl (by decide +kernel) ⟨(Nat.le_of_ble_eq_true rfl), (Nat.le_of_ble_eq_true rfl)⟩) hK hP hS (KC_row 26 (by omega)) rfl rfl hl.1 rfl (Nat.le_of_ble_eq_true rfl) ⟨Nat.zero_le _, Nat.zero_le _⟩ dX6_siteInfo_53 (fun H locs hP hS _ _ => ?_)
      exact x_iret hx hb hr hlk hP hS hM dX6_siteInfo_56
    · have hM := (if_neg c5).symm.trans hM
      by_cases c9 : u2 = 1
      · have hM := (if_pos c9).symm.trans hM
        refine lv_tableIn (tgt := 57) (off := 45) hx hb dX6_siteInfo_12 (by rw [c9]; decide) (by rw [c9]; decide) (by rw [c9]; rfl) (by decide) ?_
        refine lv_aload_n hx hb dX6_siteInfo_57 rfl (lv_at hl 0 rfl) ?_
        refine x_getr (own := RX6) (C := RX6) (T := TX6) (N := 9) hx hb hts hinX6_X6_siteInfo hown hK hP KC_sb rfl 2 (by decide) (hts (.fieldLink RX6 28 "StrokeBoard" "knowledge" "LStrokeBoard$Knowledge;") (by decide +kernel)) rfl dX6_siteInfo_58 ?_
        refine lv_iload_n hx hb dX6_siteInfo_61 rfl (lv_at hl 1 rfl) ?_
        obtain ⟨r12, σ11, h10, hM⟩ := bnd_i hM
        refine x_callV (As := [.int u1]) (rest := []) hA ⟨hx, hb, hml, hown, hts⟩ (tX2_countOf l D cA ad hJ 0 (by omega) u1 σ2 _ _ h10) (cwV 1 hts gX6_siteInfo_X2_countOf rfl rfl rfl (by decide +kernel) ⟨(Nat.le_of_ble_eq_true rfl), (Nat.le_of_ble_eq_true rfl)⟩) hK hP hS (KC_kno 0 (by omega)) rfl rfl hl.1 rfl (Nat.le_of_ble_eq_true rfl) ⟨Nat.zero_le _, Nat.zero_le _⟩ dX6_siteInfo_62 (fun H locs hP hS _ _ => ?_)
        exact x_iret hx hb hr hlk hP hS hM dX6_siteInfo_65
      · have hM := (if_neg c9).symm.trans hM
        by_cases c13 : u2 = 2
        · have hM := (if_pos c13).symm.trans hM
          refine lv_tableIn (tgt := 66) (off := 54) hx hb dX6_siteInfo_12 (by rw [c13]; decide) (by rw [c13]; decide) (by rw [c13]; rfl) (by decide) ?_
          refine lv_aload_n hx hb dX6_siteInfo_66 rfl (lv_at hl 0 rfl) ?_
          refine x_getr (own := RX6) (C := RX6) (T := TX6) (N := 9) hx hb hts hinX6_X6_siteInfo hown hK hP KC_sb rfl 0 (by decide) (hts (.fieldLink RX6 12 "StrokeBoard" "log" "LStrokeBoard$Log;") (by decide +kernel)) rfl dX6_siteInfo_67 ?_
          refine lv_iload_n hx hb dX6_siteInfo_70 rfl (lv_at hl 1 rfl) ?_
          obtain ⟨r16, σ15, h14, hM⟩ := bnd_i hM
          refine x_callV (As := [.int u1]) (rest := []) hA ⟨hx, hb, hml, hown, hts⟩ (tX4_madeBy l D cA ad hJ u1 σ2 _ _ h14) (cwV 1 hts gX6_siteInfo_X4_madeBy rfl rfl rfl (by decide +kernel) ⟨(Nat.le_of_ble_eq_true rfl), (Nat.le_of_ble_eq_true rfl)⟩) hK hP hS KC_log rfl rfl hl.1 rfl (Nat.le_of_ble_eq_true rfl) ⟨Nat.zero_le _, Nat.zero_le _⟩ dX6_siteInfo_71 (fun H locs hP hS _ _ => ?_)
          exact x_iret hx hb hr hlk hP hS hM dX6_siteInfo_74
        · have hM := (if_neg c13).symm.trans hM
          by_cases c17 : u2 = 3
          · have hM := (if_pos c17).symm.trans hM
            refine lv_tableIn (tgt := 75) (off := 63) hx hb dX6_siteInfo_12 (by rw [c17]; decide) (by rw [c17]; decide) (by rw [c17]; rfl) (by decide) ?_
            refine lv_aload_n hx hb dX6_siteInfo_75 rfl (lv_at hl 0 rfl) ?_
            refine x_getr (own := RX6) (C := RX6) (T := TX6) (N := 9) hx hb hts hinX6_X6_siteInfo hown hK hP KC_sb rfl 5 (by decide) (hts (.fieldLink RX6 45 "StrokeBoard" "board" "LStrokeBoard$Board;") (by decide +kernel)) rfl dX6_siteInfo_76 ?_
            refine lv_aload_n hx hb dX6_siteInfo_79 rfl (lv_at hl 0 rfl) ?_
            refine x_getr (own := RX6) (C := RX6) (T := TX6) (N := 9) hx hb hts hinX6_X6_siteInfo hown hK hP KC_sb rfl 0 (by decide) (hts (.fieldLink RX6 12 "StrokeBoard" "log" "LStrokeBoard$Log;") (by decide +kernel)) rfl dX6_siteInfo_80 ?_
            refine lv_aload_n hx hb dX6_siteInfo_83 rfl (lv_at hl 0 rfl) ?_
            refine x_getr (own := RX6) (C := RX6) (T := TX6) (N := 9) hx hb hts hinX6_X6_siteInfo hown hK hP KC_sb rfl 2 (by decide) (hts (.fieldLink RX6 28 "StrokeBoard" "knowledge" "LStrokeBoard$Knowledge;") (by decide +kernel)) rfl dX6_siteInfo_84 ?_
            refine lv_iload_n hx hb dX6_siteInfo_87 rfl (lv_at hl 1 rfl) ?_
            obtain ⟨σ19, h18, hM⟩ := bnv_i hM
            refine x_callVv (As := [.ref (ad 54), .ref (ad (57 + 0)), .int u1]) (rest := []) hA ⟨hx, hb, hml, hown, hts⟩ (tX0_show l D cA ad hJ 0 (by omega) 0 (by omega) u1 σ2 _ h18) (cwV 3 hts gX6_siteInfo_X0_show rfl rfl rfl (by decide +kernel) ⟨(Nat.le_of_ble_eq_true rfl), (Nat.le_of_ble_eq_true rfl)⟩) hK hP hS (KC_brd 0 (by omega)) rfl rfl hl.1 rfl (Nat.le_of_ble_eq_true rfl) ⟨Nat.zero_le _, Nat.zero_le _⟩ dX6_siteInfo_88 (fun H locs hP hS _ _ => ?_)
            refine lv_aload_n hx hb dX6_siteInfo_91 rfl (lv_at hl 0 rfl) ?_
            refine x_getr (own := RX6) (C := RX6) (T := TX6) (N := 9) hx hb hts hinX6_X6_siteInfo hown hK hP KC_sb rfl 5 (by decide) (hts (.fieldLink RX6 45 "StrokeBoard" "board" "LStrokeBoard$Board;") (by decide +kernel)) rfl dX6_siteInfo_92 ?_
            obtain ⟨r22, σ21, h20, hM⟩ := bnd_i hM
            refine x_callV (As := []) (rest := []) hA ⟨hx, hb, hml, hown, hts⟩ (tX0_strokeCount l D cA ad hJ 0 (by omega) σ19 _ _ h20) (cwV 0 hts gX6_siteInfo_X0_strokeCount rfl rfl rfl (by decide +kernel) ⟨(Nat.le_of_ble_eq_true rfl), (Nat.le_of_ble_eq_true rfl)⟩) hK hP hS (KC_brd 0 (by omega)) rfl rfl hl.1 rfl (Nat.le_of_ble_eq_true rfl) ⟨Nat.zero_le _, Nat.zero_le _⟩ dX6_siteInfo_95 (fun H locs hP hS _ _ => ?_)
            exact x_iret hx hb hr hlk hP hS hM dX6_siteInfo_98
          · have hM := (if_neg c17).symm.trans hM
            by_cases c23 : u2 = 4
            · have hM := (if_pos c23).symm.trans hM
              refine lv_tableIn (tgt := 99) (off := 87) hx hb dX6_siteInfo_12 (by rw [c23]; decide) (by rw [c23]; decide) (by rw [c23]; rfl) (by decide) ?_
              refine lv_aload_n hx hb dX6_siteInfo_99 rfl (lv_at hl 0 rfl) ?_
              refine x_getr (own := RX6) (C := RX6) (T := TX6) (N := 9) hx hb hts hinX6_X6_siteInfo hown hK hP KC_sb rfl 1 (by decide) (hts (.fieldLink RX6 21 "StrokeBoard" "pens" "LStrokeBoard$Ink;") (by decide +kernel)) rfl dX6_siteInfo_100 ?_
              refine lv_iload_n hx hb dX6_siteInfo_103 rfl (lv_at hl 1 rfl) ?_
              obtain ⟨r26, σ25, h24, hM⟩ := bnd_i hM
              refine x_callV (As := [.int u1]) (rest := []) hA ⟨hx, hb, hml, hown, hts⟩ (tX1_pointCount l D cA ad hJ 1 (by omega) u1 σ2 _ _ h24) (cwV 1 hts gX6_siteInfo_X1_pointCount rfl rfl rfl (by decide +kernel) ⟨(Nat.le_of_ble_eq_true rfl), (Nat.le_of_ble_eq_true rfl)⟩) hK hP hS (KC_ink 1 (by omega)) rfl rfl hl.1 rfl (Nat.le_of_ble_eq_true rfl) ⟨Nat.zero_le _, Nat.zero_le _⟩ dX6_siteInfo_104 (fun H locs hP hS _ _ => ?_)
              exact x_iret hx hb hr hlk hP hS hM dX6_siteInfo_107
            · have hM := (if_neg c23).symm.trans hM
              refine lv_tableOut (tgt := 108) hx hb dX6_siteInfo_12 (by
                rcases Int.lt_or_le (Int32.toInt u2) 0 with h9 | h9
                · exact Or.inl h9
                · rcases Int.lt_or_le 4 (Int32.toInt u2) with h8 | h8
                  · exact Or.inr h8
                  · exfalso
                    rcases (show Int32.toInt u2 = 0 ∨ Int32.toInt u2 = 1 ∨ Int32.toInt u2 = 2 ∨ Int32.toInt u2 = 3 ∨ Int32.toInt u2 = 4 by omega) with h7 | h7 | h7 | h7 | h7
                    · exact c5 (Int32.toInt_inj.mp (h7.trans (by decide)))
                    · exact c9 (Int32.toInt_inj.mp (h7.trans (by decide)))
                    · exact c13 (Int32.toInt_inj.mp (h7.trans (by decide)))
                    · exact c17 (Int32.toInt_inj.mp (h7.trans (by decide)))
                    · exact c23 (Int32.toInt_inj.mp (h7.trans (by decide)))) (by decide) ?_
              refine lv_ldc (own := RX6) (v := (-1000000001)) hx hb hown (hts (.constant RX6 67 (-1000000001)) (by decide +kernel)) dX6_siteInfo_108 ?_
              exact x_iret hx hb hr hlk hP hS hM dX6_siteInfo_110
  · have hM := (if_pos c4).symm.trans hM
    refine lv_ldc (own := RX6) (v := (-1000000001)) hx hb hown (hts (.constant RX6 67 (-1000000001)) (by decide +kernel)) dX6_siteInfo_8 ?_
    exact x_iret hx hb hr hlk hP hS hM dX6_siteInfo_10
theorem hinX6_X6_penDown : ∀ w ∈ u_ws RX6 TX6 9, w ∈ wsX6_penDown := by decide +kernel
set_option maxHeartbeats 4000000 in
set_option maxRecDepth 100000 in
theorem tX6_penDown (l : Launch) (D : va_G) (cA : ClassId) (ad : Nat → Nat) (hJ : w_J ad KC) (u1 u2 u3 u4 u5 : Int32) (σ σ' : St) (r : Int32) (hM : mX6_penDown u1 u2 u3 u4 u5 σ = some (r, σ')) : Ct l yX6_penDown wsX6_penDown 3 66 D cA ad KC [.ref (ad 62), .int u1, .int u2, .int u3, .int u4, .int u5] σ r σ' := by
  unfold Ct
  refine Met_of (cc := cX6_penDown) (maxL := 6) (ret := (some .int)) hJ (by decide +kernel) rfl (Nat.le_of_ble_eq_true rfl) ?_
  intro p e s m below meth c Z H locs ls hP hS hl
  obtain ⟨hx, hb, hml, hown, hts, hr, hlk, hK, -⟩ := Z
  have hown : s.vm.findClass RX6 = some m.cls := hown
  have hl : lv_has ls 6 [(0, .ref (ad 62)), (1, .int u1), (2, .int u2), (3, .int u3), (4, .int u4), (5, .int u5)] := hl
  have hA : ∀ q, w_A ad KC q → w_A ad KC q := fun _ h => h
  unfold mX6_penDown at hM
  refine lv_aload_n hx hb dX6_penDown_0 rfl (lv_at hl 0 rfl) ?_
  refine lv_iload_n hx hb dX6_penDown_1 rfl (lv_at hl 1 rfl) ?_
  obtain ⟨r3, σ2, h1, hM⟩ := bnd_i hM
  refine x_callV (As := [.int u1]) (rest := []) hA ⟨hx, hb, hml, hown, hts⟩ (tX6_isSite l D cA ad hJ u1 σ _ _ h1) (cwV 1 hts gX6_penDown_X6_isSite rfl rfl rfl (by decide +kernel) ⟨(Nat.le_of_ble_eq_true rfl), (Nat.le_of_ble_eq_true rfl)⟩) hK hP hS KC_sb rfl rfl hl.1 rfl (Nat.le_of_ble_eq_true rfl) ⟨Nat.zero_le _, Nat.zero_le _⟩ dX6_penDown_2 (fun H locs hP hS _ _ => ?_)
  refine lv_if_eq (tgt := 49) hx hb dX6_penDown_5 (by decide) (fun c4 => ?_) (fun c4 => ?_)
  · have hM := (if_pos c4).symm.trans hM
    refine lv_ldc (own := RX6) (v := (-1000000001)) hx hb hown (hts (.constant RX6 67 (-1000000001)) (by decide +kernel)) dX6_penDown_49 ?_
    exact x_iret hx hb hr hlk hP hS hM dX6_penDown_51
  · have hM := (if_neg c4).symm.trans hM
    refine lv_iload_n hx hb dX6_penDown_8 rfl (lv_at hl 2 rfl) ?_
    refine lv_iconst (v := 0) hx hb dX6_penDown_9 (by decide) ?_
    refine lv_bipush (v := 63) hx hb dX6_penDown_10 (by decide) ?_
    obtain ⟨r7, σ6, h5, hM⟩ := bnd_i hM
    refine x_callS (As := [.int u2, .int 0, .int 63]) (rest := []) hA ⟨hx, hb, hml, hown, hts⟩ (tX6_isWithin l D cA ad hJ u2 0 63 σ2 _ _ h5) (va_cwS 3 hts gX6_penDown_X6_isWithin rfl rfl rfl (by decide +kernel) ⟨(Nat.le_of_ble_eq_true rfl), (Nat.le_of_ble_eq_true rfl)⟩) hK hP hS rfl hl.1 rfl (Nat.le_of_ble_eq_true rfl) ⟨Nat.zero_le _, Nat.zero_le _⟩ dX6_penDown_12 (fun H locs hP hS => ?_)
    refine lv_if_eq (tgt := 49) hx hb dX6_penDown_15 (by decide) (fun c8 => ?_) (fun c8 => ?_)
    · have hM := (if_pos c8).symm.trans hM
      refine lv_ldc (own := RX6) (v := (-1000000001)) hx hb hown (hts (.constant RX6 67 (-1000000001)) (by decide +kernel)) dX6_penDown_49 ?_
      exact x_iret hx hb hr hlk hP hS hM dX6_penDown_51
    · have hM := (if_neg c8).symm.trans hM
      refine lv_iload_n hx hb dX6_penDown_18 rfl (lv_at hl 3 rfl) ?_
      refine lv_iconst (v := 0) hx hb dX6_penDown_19 (by decide) ?_
      refine lv_bipush (v := 63) hx hb dX6_penDown_20 (by decide) ?_
      obtain ⟨r11, σ10, h9, hM⟩ := bnd_i hM
      refine x_callS (As := [.int u3, .int 0, .int 63]) (rest := []) hA ⟨hx, hb, hml, hown, hts⟩ (tX6_isWithin l D cA ad hJ u3 0 63 σ6 _ _ h9) (va_cwS 3 hts gX6_penDown_X6_isWithin rfl rfl rfl (by decide +kernel) ⟨(Nat.le_of_ble_eq_true rfl), (Nat.le_of_ble_eq_true rfl)⟩) hK hP hS rfl hl.1 rfl (Nat.le_of_ble_eq_true rfl) ⟨Nat.zero_le _, Nat.zero_le _⟩ dX6_penDown_22 (fun H locs hP hS => ?_)
      refine lv_if_eq (tgt := 49) hx hb dX6_penDown_25 (by decide) (fun c12 => ?_) (fun c12 => ?_)
      · have hM := (if_pos c12).symm.trans hM
        refine lv_ldc (own := RX6) (v := (-1000000001)) hx hb hown (hts (.constant RX6 67 (-1000000001)) (by decide +kernel)) dX6_penDown_49 ?_
        exact x_iret hx hb hr hlk hP hS hM dX6_penDown_51
      · have hM := (if_neg c12).symm.trans hM
        refine lv_iload hx hb dX6_penDown_28 (lv_at hl 4 rfl) ?_
        refine lv_iconst (v := 0) hx hb dX6_penDown_30 (by decide) ?_
        refine lv_bipush (v := 7) hx hb dX6_penDown_31 (by decide) ?_
        obtain ⟨r15, σ14, h13, hM⟩ := bnd_i hM
        refine x_callS (As := [.int u4, .int 0, .int 7]) (rest := []) hA ⟨hx, hb, hml, hown, hts⟩ (tX6_isWithin l D cA ad hJ u4 0 7 σ10 _ _ h13) (va_cwS 3 hts gX6_penDown_X6_isWithin rfl rfl rfl (by decide +kernel) ⟨(Nat.le_of_ble_eq_true rfl), (Nat.le_of_ble_eq_true rfl)⟩) hK hP hS rfl hl.1 rfl (Nat.le_of_ble_eq_true rfl) ⟨Nat.zero_le _, Nat.zero_le _⟩ dX6_penDown_33 (fun H locs hP hS => ?_)
        refine lv_if_eq (tgt := 49) hx hb dX6_penDown_36 (by decide) (fun c16 => ?_) (fun c16 => ?_)
        · have hM := (if_pos c16).symm.trans hM
          refine lv_ldc (own := RX6) (v := (-1000000001)) hx hb hown (hts (.constant RX6 67 (-1000000001)) (by decide +kernel)) dX6_penDown_49 ?_
          exact x_iret hx hb hr hlk hP hS hM dX6_penDown_51
        · have hM := (if_neg c16).symm.trans hM
          refine lv_iload hx hb dX6_penDown_39 (lv_at hl 5 rfl) ?_
          refine lv_iconst (v := 0) hx hb dX6_penDown_41 (by decide) ?_
          refine lv_iconst (v := 3) hx hb dX6_penDown_42 (by decide) ?_
          obtain ⟨r19, σ18, h17, hM⟩ := bnd_i hM
          refine x_callS (As := [.int u5, .int 0, .int 3]) (rest := []) hA ⟨hx, hb, hml, hown, hts⟩ (tX6_isWithin l D cA ad hJ u5 0 3 σ14 _ _ h17) (va_cwS 3 hts gX6_penDown_X6_isWithin rfl rfl rfl (by decide +kernel) ⟨(Nat.le_of_ble_eq_true rfl), (Nat.le_of_ble_eq_true rfl)⟩) hK hP hS rfl hl.1 rfl (Nat.le_of_ble_eq_true rfl) ⟨Nat.zero_le _, Nat.zero_le _⟩ dX6_penDown_43 (fun H locs hP hS => ?_)
          refine lv_if_ne (tgt := 52) hx hb dX6_penDown_46 (by decide) (fun c20 => ?_) (fun c20 => ?_)
          · have hM := (if_neg c20).symm.trans hM
            refine lv_aload_n hx hb dX6_penDown_52 rfl (lv_at hl 0 rfl) ?_
            refine x_getr (own := RX6) (C := RX6) (T := TX6) (N := 9) hx hb hts hinX6_X6_penDown hown hK hP KC_sb rfl 1 (by decide) (hts (.fieldLink RX6 21 "StrokeBoard" "pens" "LStrokeBoard$Ink;") (by decide +kernel)) rfl dX6_penDown_53 ?_
            refine lv_iload_n hx hb dX6_penDown_56 rfl (lv_at hl 1 rfl) ?_
            refine lv_iload hx hb dX6_penDown_57 (lv_at hl 4 rfl) ?_
            refine lv_iload hx hb dX6_penDown_59 (lv_at hl 5 rfl) ?_
            obtain ⟨σ22, h21, hM⟩ := bnv_i hM
            refine x_callVv (As := [.int u1, .int u4, .int u5]) (rest := []) hA ⟨hx, hb, hml, hown, hts⟩ (tX1_start l D cA ad hJ 1 (by omega) u1 u4 u5 σ18 _ h21) (cwV 3 hts gX6_penDown_X1_start rfl rfl rfl (by decide +kernel) ⟨(Nat.le_of_ble_eq_true rfl), (Nat.le_of_ble_eq_true rfl)⟩) hK hP hS (KC_ink 1 (by omega)) rfl rfl hl.1 rfl (Nat.le_of_ble_eq_true rfl) ⟨Nat.zero_le _, Nat.zero_le _⟩ dX6_penDown_61 (fun H locs hP hS _ _ => ?_)
            refine lv_aload_n hx hb dX6_penDown_64 rfl (lv_at hl 0 rfl) ?_
            refine x_getr (own := RX6) (C := RX6) (T := TX6) (N := 9) hx hb hts hinX6_X6_penDown hown hK hP KC_sb rfl 1 (by decide) (hts (.fieldLink RX6 21 "StrokeBoard" "pens" "LStrokeBoard$Ink;") (by decide +kernel)) rfl dX6_penDown_65 ?_
            refine lv_iload_n hx hb dX6_penDown_68 rfl (lv_at hl 1 rfl) ?_
            refine lv_iload_n hx hb dX6_penDown_69 rfl (lv_at hl 2 rfl) ?_
            refine lv_iload_n hx hb dX6_penDown_70 rfl (lv_at hl 3 rfl) ?_
            obtain ⟨σ24, h23, hM⟩ := bnv_i hM
            refine x_callVv (As := [.int u1, .int u2, .int u3]) (rest := []) hA ⟨hx, hb, hml, hown, hts⟩ (tX1_addPoint l D cA ad hJ 1 (by omega) u1 u2 u3 σ22 _ h23) (cwV 3 hts gX6_penDown_X1_addPoint rfl rfl rfl (by decide +kernel) ⟨(Nat.le_of_ble_eq_true rfl), (Nat.le_of_ble_eq_true rfl)⟩) hK hP hS (KC_ink 1 (by omega)) rfl rfl hl.1 rfl (Nat.le_of_ble_eq_true rfl) ⟨Nat.zero_le _, Nat.zero_le _⟩ dX6_penDown_71 (fun H locs hP hS _ _ => ?_)
            refine lv_aload_n hx hb dX6_penDown_74 rfl (lv_at hl 0 rfl) ?_
            refine x_getr (own := RX6) (C := RX6) (T := TX6) (N := 9) hx hb hts hinX6_X6_penDown hown hK hP KC_sb rfl 1 (by decide) (hts (.fieldLink RX6 21 "StrokeBoard" "pens" "LStrokeBoard$Ink;") (by decide +kernel)) rfl dX6_penDown_75 ?_
            refine lv_iload_n hx hb dX6_penDown_78 rfl (lv_at hl 1 rfl) ?_
            obtain ⟨r27, σ26, h25, hM⟩ := bnd_i hM
            refine x_callV (As := [.int u1]) (rest := []) hA ⟨hx, hb, hml, hown, hts⟩ (tX1_pointCount l D cA ad hJ 1 (by omega) u1 σ24 _ _ h25) (cwV 1 hts gX6_penDown_X1_pointCount rfl rfl rfl (by decide +kernel) ⟨(Nat.le_of_ble_eq_true rfl), (Nat.le_of_ble_eq_true rfl)⟩) hK hP hS (KC_ink 1 (by omega)) rfl rfl hl.1 rfl (Nat.le_of_ble_eq_true rfl) ⟨Nat.zero_le _, Nat.zero_le _⟩ dX6_penDown_79 (fun H locs hP hS _ _ => ?_)
            exact x_iret hx hb hr hlk hP hS hM dX6_penDown_82
          · have hM := (if_pos c20).symm.trans hM
            refine lv_ldc (own := RX6) (v := (-1000000001)) hx hb hown (hts (.constant RX6 67 (-1000000001)) (by decide +kernel)) dX6_penDown_49 ?_
            exact x_iret hx hb hr hlk hP hS hM dX6_penDown_51
theorem hinX6_X6_penMove : ∀ w ∈ u_ws RX6 TX6 9, w ∈ wsX6_penMove := by decide +kernel
set_option maxHeartbeats 4000000 in
set_option maxRecDepth 100000 in
theorem tX6_penMove (l : Launch) (D : va_G) (cA : ClassId) (ad : Nat → Nat) (hJ : w_J ad KC) (u1 u2 u3 : Int32) (σ σ' : St) (r : Int32) (hM : mX6_penMove u1 u2 u3 σ = some (r, σ')) : Ct l yX6_penMove wsX6_penMove 2 46 D cA ad KC [.ref (ad 62), .int u1, .int u2, .int u3] σ r σ' := by
  unfold Ct
  refine Met_of (cc := cX6_penMove) (maxL := 5) (ret := (some .int)) hJ (by decide +kernel) rfl (Nat.le_of_ble_eq_true rfl) ?_
  intro p e s m below meth c Z H locs ls hP hS hl
  obtain ⟨hx, hb, hml, hown, hts, hr, hlk, hK, -⟩ := Z
  have hown : s.vm.findClass RX6 = some m.cls := hown
  have hl : lv_has ls 5 [(0, .ref (ad 62)), (1, .int u1), (2, .int u2), (3, .int u3)] := hl
  have hA : ∀ q, w_A ad KC q → w_A ad KC q := fun _ h => h
  unfold mX6_penMove at hM
  refine lv_aload_n hx hb dX6_penMove_0 rfl (lv_at hl 0 rfl) ?_
  refine lv_iload_n hx hb dX6_penMove_1 rfl (lv_at hl 1 rfl) ?_
  obtain ⟨r3, σ2, h1, hM⟩ := bnd_i hM
  refine x_callV (As := [.int u1]) (rest := []) hA ⟨hx, hb, hml, hown, hts⟩ (tX6_isSite l D cA ad hJ u1 σ _ _ h1) (cwV 1 hts gX6_penMove_X6_isSite rfl rfl rfl (by decide +kernel) ⟨(Nat.le_of_ble_eq_true rfl), (Nat.le_of_ble_eq_true rfl)⟩) hK hP hS KC_sb rfl rfl hl.1 rfl (Nat.le_of_ble_eq_true rfl) ⟨Nat.zero_le _, Nat.zero_le _⟩ dX6_penMove_2 (fun H locs hP hS _ _ => ?_)
  refine lv_if_eq (tgt := 30) hx hb dX6_penMove_5 (by decide) (fun c4 => ?_) (fun c4 => ?_)
  · have hM := (if_pos c4).symm.trans hM
    refine lv_ldc (own := RX6) (v := (-1000000001)) hx hb hown (hts (.constant RX6 67 (-1000000001)) (by decide +kernel)) dX6_penMove_30 ?_
    exact x_iret hx hb hr hlk hP hS hM dX6_penMove_32
  · have hM := (if_neg c4).symm.trans hM
    refine lv_iload_n hx hb dX6_penMove_8 rfl (lv_at hl 2 rfl) ?_
    refine lv_bipush (v := (-8)) hx hb dX6_penMove_9 (by decide) ?_
    refine lv_bipush (v := 8) hx hb dX6_penMove_11 (by decide) ?_
    obtain ⟨r7, σ6, h5, hM⟩ := bnd_i hM
    refine x_callS (As := [.int u2, .int (-8), .int 8]) (rest := []) hA ⟨hx, hb, hml, hown, hts⟩ (tX6_isWithin l D cA ad hJ u2 (-8) 8 σ2 _ _ h5) (va_cwS 3 hts gX6_penMove_X6_isWithin rfl rfl rfl (by decide +kernel) ⟨(Nat.le_of_ble_eq_true rfl), (Nat.le_of_ble_eq_true rfl)⟩) hK hP hS rfl hl.1 rfl (Nat.le_of_ble_eq_true rfl) ⟨Nat.zero_le _, Nat.zero_le _⟩ dX6_penMove_13 (fun H locs hP hS => ?_)
    refine lv_if_eq (tgt := 30) hx hb dX6_penMove_16 (by decide) (fun c8 => ?_) (fun c8 => ?_)
    · have hM := (if_pos c8).symm.trans hM
      refine lv_ldc (own := RX6) (v := (-1000000001)) hx hb hown (hts (.constant RX6 67 (-1000000001)) (by decide +kernel)) dX6_penMove_30 ?_
      exact x_iret hx hb hr hlk hP hS hM dX6_penMove_32
    · have hM := (if_neg c8).symm.trans hM
      refine lv_iload_n hx hb dX6_penMove_19 rfl (lv_at hl 3 rfl) ?_
      refine lv_bipush (v := (-8)) hx hb dX6_penMove_20 (by decide) ?_
      refine lv_bipush (v := 8) hx hb dX6_penMove_22 (by decide) ?_
      obtain ⟨r11, σ10, h9, hM⟩ := bnd_i hM
      refine x_callS (As := [.int u3, .int (-8), .int 8]) (rest := []) hA ⟨hx, hb, hml, hown, hts⟩ (tX6_isWithin l D cA ad hJ u3 (-8) 8 σ6 _ _ h9) (va_cwS 3 hts gX6_penMove_X6_isWithin rfl rfl rfl (by decide +kernel) ⟨(Nat.le_of_ble_eq_true rfl), (Nat.le_of_ble_eq_true rfl)⟩) hK hP hS rfl hl.1 rfl (Nat.le_of_ble_eq_true rfl) ⟨Nat.zero_le _, Nat.zero_le _⟩ dX6_penMove_24 (fun H locs hP hS => ?_)
      refine lv_if_ne (tgt := 33) hx hb dX6_penMove_27 (by decide) (fun c12 => ?_) (fun c12 => ?_)
      · have hM := (if_neg c12).symm.trans hM
        refine lv_aload_n hx hb dX6_penMove_33 rfl (lv_at hl 0 rfl) ?_
        refine x_getr (own := RX6) (C := RX6) (T := TX6) (N := 9) hx hb hts hinX6_X6_penMove hown hK hP KC_sb rfl 1 (by decide) (hts (.fieldLink RX6 21 "StrokeBoard" "pens" "LStrokeBoard$Ink;") (by decide +kernel)) rfl dX6_penMove_34 ?_
        refine lv_iload_n hx hb dX6_penMove_37 rfl (lv_at hl 1 rfl) ?_
        obtain ⟨r15, σ14, h13, hM⟩ := bnd_i hM
        refine x_callV (As := [.int u1]) (rest := []) hA ⟨hx, hb, hml, hown, hts⟩ (tX1_pointCount l D cA ad hJ 1 (by omega) u1 σ10 _ _ h13) (cwV 1 hts gX6_penMove_X1_pointCount rfl rfl rfl (by decide +kernel) ⟨(Nat.le_of_ble_eq_true rfl), (Nat.le_of_ble_eq_true rfl)⟩) hK hP hS (KC_ink 1 (by omega)) rfl rfl hl.1 rfl (Nat.le_of_ble_eq_true rfl) ⟨Nat.zero_le _, Nat.zero_le _⟩ dX6_penMove_38 (fun H locs hP hS _ _ => ?_)
        refine lv_istore (lv' := [(4, .int r15), (0, .ref (ad 62)), (1, .int u1), (2, .int u2), (3, .int u3)]) hx hb dX6_penMove_41 hl (by decide) rfl (fun ls hl => ?_)
        refine lv_iload hx hb dX6_penMove_43 (lv_at hl 0 rfl) ?_
        refine lv_if_ne (tgt := 51) hx hb dX6_penMove_45 (by decide) (fun c16 => ?_) (fun c16 => ?_)
        · have hM := (if_neg c16).symm.trans hM
          refine lv_iload hx hb dX6_penMove_51 (lv_at hl 0 rfl) ?_
          refine lv_bipush (v := 8) hx hb dX6_penMove_53 (by decide) ?_
          refine lv_icmp_lt (tgt := 61) hx hb dX6_penMove_55 (by decide) (fun c17 => ?_) (fun c17 => ?_)
          · have hM := (if_pos c17).symm.trans hM
            refine lv_aload_n hx hb dX6_penMove_61 rfl (lv_at hl 1 rfl) ?_
            refine x_getr (own := RX6) (C := RX6) (T := TX6) (N := 9) hx hb hts hinX6_X6_penMove hown hK hP KC_sb rfl 1 (by decide) (hts (.fieldLink RX6 21 "StrokeBoard" "pens" "LStrokeBoard$Ink;") (by decide +kernel)) rfl dX6_penMove_62 ?_
            refine lv_iload_n hx hb dX6_penMove_65 rfl (lv_at hl 2 rfl) ?_
            refine lv_aload_n hx hb dX6_penMove_66 rfl (lv_at hl 1 rfl) ?_
            refine x_getr (own := RX6) (C := RX6) (T := TX6) (N := 9) hx hb hts hinX6_X6_penMove hown hK hP KC_sb rfl 1 (by decide) (hts (.fieldLink RX6 21 "StrokeBoard" "pens" "LStrokeBoard$Ink;") (by decide +kernel)) rfl dX6_penMove_67 ?_
            refine lv_iload_n hx hb dX6_penMove_70 rfl (lv_at hl 2 rfl) ?_
            refine lv_iload hx hb dX6_penMove_71 (lv_at hl 0 rfl) ?_
            refine lv_iconst (v := 1) hx hb dX6_penMove_73 (by decide) ?_
            refine lv_isub hx hb dX6_penMove_74 ?_
            obtain ⟨r20, σ19, h18, hM⟩ := bnd_i hM
            refine x_callV (As := [.int u1, .int (r15 - 1)]) (rest := [.int u1, .ref (ad (55 + 1))]) hA ⟨hx, hb, hml, hown, hts⟩ (tX1_xOf l D cA ad hJ 1 (by omega) u1 (r15 - 1) σ14 _ _ h18) (cwV 2 hts gX6_penMove_X1_xOf rfl rfl rfl (by decide +kernel) ⟨(Nat.le_of_ble_eq_true rfl), (Nat.le_of_ble_eq_true rfl)⟩) hK hP hS (KC_ink 1 (by omega)) rfl rfl hl.1 rfl (Nat.le_of_ble_eq_true rfl) ⟨Nat.zero_le _, Nat.zero_le _⟩ dX6_penMove_75 (fun H locs hP hS _ _ => ?_)
            refine lv_iload_n hx hb dX6_penMove_78 rfl (lv_at hl 3 rfl) ?_
            refine lv_iadd hx hb dX6_penMove_79 ?_
            refine lv_aload_n hx hb dX6_penMove_80 rfl (lv_at hl 1 rfl) ?_
            refine x_getr (own := RX6) (C := RX6) (T := TX6) (N := 9) hx hb hts hinX6_X6_penMove hown hK hP KC_sb rfl 1 (by decide) (hts (.fieldLink RX6 21 "StrokeBoard" "pens" "LStrokeBoard$Ink;") (by decide +kernel)) rfl dX6_penMove_81 ?_
            refine lv_iload_n hx hb dX6_penMove_84 rfl (lv_at hl 2 rfl) ?_
            refine lv_iload hx hb dX6_penMove_85 (lv_at hl 0 rfl) ?_
            refine lv_iconst (v := 1) hx hb dX6_penMove_87 (by decide) ?_
            refine lv_isub hx hb dX6_penMove_88 ?_
            obtain ⟨r23, σ22, h21, hM⟩ := bnd_i hM
            refine x_callV (As := [.int u1, .int (r15 - 1)]) (rest := [.int (r20 + u2), .int u1, .ref (ad (55 + 1))]) hA ⟨hx, hb, hml, hown, hts⟩ (tX1_yOf l D cA ad hJ 1 (by omega) u1 (r15 - 1) σ19 _ _ h21) (cwV 2 hts gX6_penMove_X1_yOf rfl rfl rfl (by decide +kernel) ⟨(Nat.le_of_ble_eq_true rfl), (Nat.le_of_ble_eq_true rfl)⟩) hK hP hS (KC_ink 1 (by omega)) rfl rfl hl.1 rfl (Nat.le_of_ble_eq_true rfl) ⟨Nat.zero_le _, Nat.zero_le _⟩ dX6_penMove_89 (fun H locs hP hS _ _ => ?_)
            refine lv_iload_n hx hb dX6_penMove_92 rfl (lv_at hl 4 rfl) ?_
            refine lv_iadd hx hb dX6_penMove_93 ?_
            obtain ⟨σ25, h24, hM⟩ := bnv_i hM
            refine x_callVv (As := [.int u1, .int (r20 + u2), .int (r23 + u3)]) (rest := []) hA ⟨hx, hb, hml, hown, hts⟩ (tX1_addPoint l D cA ad hJ 1 (by omega) u1 (r20 + u2) (r23 + u3) σ22 _ h24) (cwV 3 hts gX6_penMove_X1_addPoint rfl rfl rfl (by decide +kernel) ⟨(Nat.le_of_ble_eq_true rfl), (Nat.le_of_ble_eq_true rfl)⟩) hK hP hS (KC_ink 1 (by omega)) rfl rfl hl.1 rfl (Nat.le_of_ble_eq_true rfl) ⟨Nat.zero_le _, Nat.zero_le _⟩ dX6_penMove_94 (fun H locs hP hS _ _ => ?_)
            refine lv_aload_n hx hb dX6_penMove_97 rfl (lv_at hl 1 rfl) ?_
            refine x_getr (own := RX6) (C := RX6) (T := TX6) (N := 9) hx hb hts hinX6_X6_penMove hown hK hP KC_sb rfl 1 (by decide) (hts (.fieldLink RX6 21 "StrokeBoard" "pens" "LStrokeBoard$Ink;") (by decide +kernel)) rfl dX6_penMove_98 ?_
            refine lv_iload_n hx hb dX6_penMove_101 rfl (lv_at hl 2 rfl) ?_
            obtain ⟨r28, σ27, h26, hM⟩ := bnd_i hM
            refine x_callV (As := [.int u1]) (rest := []) hA ⟨hx, hb, hml, hown, hts⟩ (tX1_pointCount l D cA ad hJ 1 (by omega) u1 σ25 _ _ h26) (cwV 1 hts gX6_penMove_X1_pointCount rfl rfl rfl (by decide +kernel) ⟨(Nat.le_of_ble_eq_true rfl), (Nat.le_of_ble_eq_true rfl)⟩) hK hP hS (KC_ink 1 (by omega)) rfl rfl hl.1 rfl (Nat.le_of_ble_eq_true rfl) ⟨Nat.zero_le _, Nat.zero_le _⟩ dX6_penMove_102 (fun H locs hP hS _ _ => ?_)
            exact x_iret hx hb hr hlk hP hS hM dX6_penMove_105
          · have hM := (if_neg c17).symm.trans hM
            refine lv_ldc (own := RX6) (v := (-1000000003)) hx hb hown (hts (.constant RX6 77 (-1000000003)) (by decide +kernel)) dX6_penMove_58 ?_
            exact x_iret hx hb hr hlk hP hS hM dX6_penMove_60
        · have hM := (if_pos c16).symm.trans hM
          refine lv_ldc (own := RX6) (v := (-1000000002)) hx hb hown (hts (.constant RX6 110 (-1000000002)) (by decide +kernel)) dX6_penMove_48 ?_
          exact x_iret hx hb hr hlk hP hS hM dX6_penMove_50
      · have hM := (if_pos c12).symm.trans hM
        refine lv_ldc (own := RX6) (v := (-1000000001)) hx hb hown (hts (.constant RX6 67 (-1000000001)) (by decide +kernel)) dX6_penMove_30 ?_
        exact x_iret hx hb hr hlk hP hS hM dX6_penMove_32
theorem hinX6_X6_hasMadeAll : ∀ w ∈ u_ws RX6 TX6 9, w ∈ wsX6_hasMadeAll := by decide +kernel
set_option maxHeartbeats 4000000 in
set_option maxRecDepth 100000 in
theorem tX6_hasMadeAll (l : Launch) (D : va_G) (cA : ClassId) (ad : Nat → Nat) (hJ : w_J ad KC) (u1 : Int32) (σ σ' : St) (r : Int32) (hM : mX6_hasMadeAll u1 σ = some (r, σ')) : Ct l yX6_hasMadeAll wsX6_hasMadeAll 2 42 D cA ad KC [.ref (ad 62), .int u1] σ r σ' := by
  unfold Ct
  refine Met_of (cc := cX6_hasMadeAll) (maxL := 2) (ret := (some .boolean)) hJ (by decide +kernel) rfl (Nat.le_of_ble_eq_true rfl) ?_
  intro p e s m below meth c Z H locs ls hP hS hl
  obtain ⟨hx, hb, hml, hown, hts, hr, hlk, hK, -⟩ := Z
  have hown : s.vm.findClass RX6 = some m.cls := hown
  have hl : lv_has ls 2 [(0, .ref (ad 62)), (1, .int u1)] := hl
  have hA : ∀ q, w_A ad KC q → w_A ad KC q := fun _ h => h
  unfold mX6_hasMadeAll at hM
  refine lv_aload_n hx hb dX6_hasMadeAll_0 rfl (lv_at hl 0 rfl) ?_
  refine x_getr (own := RX6) (C := RX6) (T := TX6) (N := 9) hx hb hts hinX6_X6_hasMadeAll hown hK hP KC_sb rfl 0 (by decide) (hts (.fieldLink RX6 12 "StrokeBoard" "log" "LStrokeBoard$Log;") (by decide +kernel)) rfl dX6_hasMadeAll_1 ?_
  refine lv_iload_n hx hb dX6_hasMadeAll_4 rfl (lv_at hl 1 rfl) ?_
  obtain ⟨r3, σ2, h1, hM⟩ := bnd_i hM
  refine x_callV (As := [.int u1]) (rest := []) hA ⟨hx, hb, hml, hown, hts⟩ (tX4_madeBy l D cA ad hJ u1 σ _ _ h1) (cwV 1 hts gX6_hasMadeAll_X4_madeBy rfl rfl rfl (by decide +kernel) ⟨(Nat.le_of_ble_eq_true rfl), (Nat.le_of_ble_eq_true rfl)⟩) hK hP hS KC_log rfl rfl hl.1 rfl (Nat.le_of_ble_eq_true rfl) ⟨Nat.zero_le _, Nat.zero_le _⟩ dX6_hasMadeAll_5 (fun H locs hP hS _ _ => ?_)
  refine lv_bipush (v := 20) hx hb dX6_hasMadeAll_8 (by decide) ?_
  refine lv_icmp_lt (tgt := 17) hx hb dX6_hasMadeAll_10 (by decide) (fun c4 => ?_) (fun c4 => ?_)
  · have hM := (if_pos c4).symm.trans hM
    refine lv_iconst (v := 0) hx hb dX6_hasMadeAll_17 (by decide) ?_
    exact x_zret hx hb hr hlk hP hS hM dX6_hasMadeAll_18
  · have hM := (if_neg c4).symm.trans hM
    refine lv_iconst (v := 1) hx hb dX6_hasMadeAll_13 (by decide) ?_
    refine lv_goto (tgt := 18) hx hb dX6_hasMadeAll_14 (by decide) ?_
    exact x_zret hx hb hr hlk hP hS hM dX6_hasMadeAll_18
theorem hinX6_X6_tick : ∀ w ∈ u_ws RX6 TX6 9, w ∈ wsX6_tick := by decide +kernel
set_option maxHeartbeats 4000000 in
set_option maxRecDepth 100000 in
theorem tX6_tick (l : Launch) (D : va_G) (cA : ClassId) (ad : Nat → Nat) (hJ : w_J ad KC) (u1 : Int32) (σ σ' : St) (r : Int32) (hM : mX6_tick u1 σ = some (r, σ')) : Ct l yX6_tick wsX6_tick 1 22 D cA ad KC [.ref (ad 62), .int u1] σ r σ' := by
  unfold Ct
  refine Met_of (cc := cX6_tick) (maxL := 2) (ret := (some .int)) hJ (by decide +kernel) rfl (Nat.le_of_ble_eq_true rfl) ?_
  intro p e s m below meth c Z H locs ls hP hS hl
  obtain ⟨hx, hb, hml, hown, hts, hr, hlk, hK, -⟩ := Z
  have hown : s.vm.findClass RX6 = some m.cls := hown
  have hl : lv_has ls 2 [(0, .ref (ad 62)), (1, .int u1)] := hl
  have hA : ∀ q, w_A ad KC q → w_A ad KC q := fun _ h => h
  unfold mX6_tick at hM
  refine lv_aload_n hx hb dX6_tick_0 rfl (lv_at hl 0 rfl) ?_
  refine x_getr (own := RX6) (C := RX6) (T := TX6) (N := 9) hx hb hts hinX6_X6_tick hown hK hP KC_sb rfl 7 (by decide) (hts (.fieldLink RX6 55 "StrokeBoard" "clocks" "LStrokeBoard$Row;") (by decide +kernel)) rfl dX6_tick_1 ?_
  refine lv_iload_n hx hb dX6_tick_4 rfl (lv_at hl 1 rfl) ?_
  refine lv_aload_n hx hb dX6_tick_5 rfl (lv_at hl 0 rfl) ?_
  refine x_getr (own := RX6) (C := RX6) (T := TX6) (N := 9) hx hb hts hinX6_X6_tick hown hK hP KC_sb rfl 7 (by decide) (hts (.fieldLink RX6 55 "StrokeBoard" "clocks" "LStrokeBoard$Row;") (by decide +kernel)) rfl dX6_tick_6 ?_
  refine lv_iload_n hx hb dX6_tick_9 rfl (lv_at hl 1 rfl) ?_
  obtain ⟨r3, σ2, h1, hM⟩ := bnd_i hM
  refine x_callV (As := [.int u1]) (rest := [.int u1, .ref (ad (2 * 26))]) hA ⟨hx, hb, hml, hown, hts⟩ (tX5_get l D cA ad hJ 26 (by omega) u1 σ _ _ h1) (cwV 1 hts gX6_tick_X5_get rfl rfl rfl (by decide +kernel) ⟨(Nat.le_of_ble_eq_true rfl), (Nat.le_of_ble_eq_true rfl)⟩) hK hP hS (KC_row 26 (by omega)) rfl rfl hl.1 rfl (Nat.le_of_ble_eq_true rfl) ⟨Nat.zero_le _, Nat.zero_le _⟩ dX6_tick_10 (fun H locs hP hS _ _ => ?_)
  refine lv_iconst (v := 1) hx hb dX6_tick_13 (by decide) ?_
  refine lv_iadd hx hb dX6_tick_14 ?_
  obtain ⟨σ5, h4, hM⟩ := bnv_i hM
  refine x_callVv (As := [.int u1, .int (r3 + 1)]) (rest := []) hA ⟨hx, hb, hml, hown, hts⟩ (tX5_set l D cA ad hJ 26 (by omega) u1 (r3 + 1) σ2 _ h4) (cwV 2 hts gX6_tick_X5_set rfl rfl rfl (by decide +kernel) ⟨(Nat.le_of_ble_eq_true rfl), (Nat.le_of_ble_eq_true rfl)⟩) hK hP hS (KC_row 26 (by omega)) rfl rfl hl.1 rfl (Nat.le_of_ble_eq_true rfl) ⟨Nat.zero_le _, Nat.zero_le _⟩ dX6_tick_15 (fun H locs hP hS _ _ => ?_)
  refine lv_aload_n hx hb dX6_tick_18 rfl (lv_at hl 0 rfl) ?_
  refine x_getr (own := RX6) (C := RX6) (T := TX6) (N := 9) hx hb hts hinX6_X6_tick hown hK hP KC_sb rfl 7 (by decide) (hts (.fieldLink RX6 55 "StrokeBoard" "clocks" "LStrokeBoard$Row;") (by decide +kernel)) rfl dX6_tick_19 ?_
  refine lv_iload_n hx hb dX6_tick_22 rfl (lv_at hl 1 rfl) ?_
  obtain ⟨r8, σ7, h6, hM⟩ := bnd_i hM
  refine x_callV (As := [.int u1]) (rest := []) hA ⟨hx, hb, hml, hown, hts⟩ (tX5_get l D cA ad hJ 26 (by omega) u1 σ5 _ _ h6) (cwV 1 hts gX6_tick_X5_get rfl rfl rfl (by decide +kernel) ⟨(Nat.le_of_ble_eq_true rfl), (Nat.le_of_ble_eq_true rfl)⟩) hK hP hS (KC_row 26 (by omega)) rfl rfl hl.1 rfl (Nat.le_of_ble_eq_true rfl) ⟨Nat.zero_le _, Nat.zero_le _⟩ dX6_tick_23 (fun H locs hP hS _ _ => ?_)
  exact x_iret hx hb hr hlk hP hS hM dX6_tick_26
theorem hinX6_X6_publish : ∀ w ∈ u_ws RX6 TX6 9, w ∈ wsX6_publish := by decide +kernel
set_option maxHeartbeats 4000000 in
set_option maxRecDepth 100000 in
theorem tX6_publish (l : Launch) (D : va_G) (cA : ClassId) (ad : Nat → Nat) (hJ : w_J ad KC) (u1 u2 : Int32) (σ σ' : St) (hM : mX6_publish u1 u2 σ = some σ') : Cv l yX6_publish wsX6_publish 2 47 D cA ad KC [.ref (ad 62), .int u1, .int u2] σ σ' := by
  unfold Cv
  refine Met_of (cc := cX6_publish) (maxL := 4) (ret := none) hJ (by decide +kernel) rfl (Nat.le_of_ble_eq_true rfl) ?_
  intro p e s m below meth c Z H locs ls hP hS hl
  obtain ⟨hx, hb, hml, hown, hts, hr, hlk, hK, -⟩ := Z
  have hown : s.vm.findClass RX6 = some m.cls := hown
  have hl : lv_has ls 4 [(0, .ref (ad 62)), (1, .int u1), (2, .int u2)] := hl
  have hA : ∀ q, w_A ad KC q → w_A ad KC q := fun _ h => h
  have L11 : ∀ (n : Nat) (x1 x2 x3 : Int32) (σ : St) (H : Heap) (locs : List Loc) (ls : Array Slot), mX6_publish_L11 n x1 x2 x3 σ = some σ' → w_P D cA ad KC σ H → va_S (w_A ad KC) s.heap H locs → lv_has ls 4 [(0, .ref (ad 62)), (1, .int x1), (2, .int x2), (3, .int x3)] → Wm p l e wsX6_publish 2 47 s m ([.ref (ad 62), .int u1, .int u2] : List Value).toArray below meth c (w_Qv D cA ad KC σ') (w_A ad KC) H locs (F0 m 11 ls []) := by
    intro n11
    induction n11 with
    | zero =>
      intro x1 x2 x3 σ H locs ls hM hP hS hl
      rw [mX6_publish_L11] at hM
      cases hM
    | succ n11 ih11 =>
      intro x1 x2 x3 σ H locs ls hM hP hS hl
      rw [mX6_publish_L11] at hM
      refine lv_iload_n hx hb dX6_publish_11 rfl (lv_at hl 3 rfl) ?_
      refine lv_aload_n hx hb dX6_publish_12 rfl (lv_at hl 0 rfl) ?_
      refine x_geti (own := RX6) (C := RX6) (T := TX6) (N := 9) hx hb hts hinX6_X6_publish hown hK hP KC_sb rfl 8 (by decide) (hts (.fieldLink RX6 59 "StrokeBoard" "siteCount" "I") (by decide +kernel)) rfl dX6_publish_13 ?_
      refine lv_icmp_ge (tgt := 40) hx hb dX6_publish_16 (by decide) (fun c1 => ?_) (fun c1 => ?_)
      · have hM := (if_pos c1).symm.trans hM
        exact x_vret hx hb hr hlk hP hS hM dX6_publish_40
      · have hM := (if_neg c1).symm.trans hM
        refine lv_iload_n hx hb dX6_publish_19 rfl (lv_at hl 3 rfl) ?_
        refine lv_iload_n hx hb dX6_publish_20 rfl (lv_at hl 1 rfl) ?_
        refine lv_icmp_eq (tgt := 34) hx hb dX6_publish_21 (by decide) (fun c2 => ?_) (fun c2 => ?_)
        · have hM := (if_pos c2).symm.trans hM
          refine lv_iinc (v := (x3 + 1)) (lv' := [(3, .int (x3 + 1)), (0, .ref (ad 62)), (1, .int x1), (2, .int x2)]) hx hb dX6_publish_34 hl (k := 3) rfl rfl (by decide) rfl (fun ls hl => ?_)
          refine lv_goto (tgt := 11) hx hb dX6_publish_37 (by decide) ?_
          exact ih11 _ _ _ _ _ _ _ hM hP hS (lv_sub hl [1, 2, 3, 0] rfl)
        · have hM := (if_neg c2).symm.trans hM
          refine lv_aload_n hx hb dX6_publish_24 rfl (lv_at hl 0 rfl) ?_
          refine x_getr (own := RX6) (C := RX6) (T := TX6) (N := 9) hx hb hts hinX6_X6_publish hown hK hP KC_sb rfl 4 (by decide) (hts (.fieldLink RX6 38 "StrokeBoard" "links" "LStrokeBoard$Links;") (by decide +kernel)) rfl dX6_publish_25 ?_
          refine lv_iload_n hx hb dX6_publish_28 rfl (lv_at hl 1 rfl) ?_
          refine lv_iload_n hx hb dX6_publish_29 rfl (lv_at hl 3 rfl) ?_
          refine lv_iload_n hx hb dX6_publish_30 rfl (lv_at hl 2 rfl) ?_
          obtain ⟨σ4, h3, hM⟩ := bnv_i hM
          refine x_callVv (As := [.int x1, .int x3, .int x2]) (rest := []) hA ⟨hx, hb, hml, hown, hts⟩ (tX3_send l D cA ad hJ x1 x3 x2 σ _ h3) (cwV 3 hts gX6_publish_X3_send rfl rfl rfl (by decide +kernel) ⟨(Nat.le_of_ble_eq_true rfl), (Nat.le_of_ble_eq_true rfl)⟩) hK hP hS KC_lnk rfl rfl hl.1 rfl (Nat.le_of_ble_eq_true rfl) ⟨Nat.zero_le _, Nat.zero_le _⟩ dX6_publish_31 (fun H locs hP hS _ _ => ?_)
          refine lv_iinc (v := (x3 + 1)) (lv' := [(3, .int (x3 + 1)), (0, .ref (ad 62)), (1, .int x1), (2, .int x2)]) hx hb dX6_publish_34 hl (k := 3) rfl rfl (by decide) rfl (fun ls hl => ?_)
          refine lv_goto (tgt := 11) hx hb dX6_publish_37 (by decide) ?_
          exact ih11 _ _ _ _ _ _ _ hM hP hS (lv_sub hl [1, 2, 3, 0] rfl)
  unfold mX6_publish at hM
  refine lv_aload_n hx hb dX6_publish_0 rfl (lv_at hl 0 rfl) ?_
  refine x_getr (own := RX6) (C := RX6) (T := TX6) (N := 9) hx hb hts hinX6_X6_publish hown hK hP KC_sb rfl 2 (by decide) (hts (.fieldLink RX6 28 "StrokeBoard" "knowledge" "LStrokeBoard$Knowledge;") (by decide +kernel)) rfl dX6_publish_1 ?_
  refine lv_iload_n hx hb dX6_publish_4 rfl (lv_at hl 1 rfl) ?_
  refine lv_iload_n hx hb dX6_publish_5 rfl (lv_at hl 2 rfl) ?_
  obtain ⟨σ6, h5, hM⟩ := bnv_i hM
  refine x_callVv (As := [.int u1, .int u2]) (rest := []) hA ⟨hx, hb, hml, hown, hts⟩ (tX2_learn l D cA ad hJ 0 (by omega) u1 u2 σ _ h5) (cwV 2 hts gX6_publish_X2_learn rfl rfl rfl (by decide +kernel) ⟨(Nat.le_of_ble_eq_true rfl), (Nat.le_of_ble_eq_true rfl)⟩) hK hP hS (KC_kno 0 (by omega)) rfl rfl hl.1 rfl (Nat.le_of_ble_eq_true rfl) ⟨Nat.zero_le _, Nat.zero_le _⟩ dX6_publish_6 (fun H locs hP hS _ _ => ?_)
  refine lv_iconst (v := 0) hx hb dX6_publish_9 (by decide) ?_
  refine lv_istore_n (lv' := [(3, .int 0), (0, .ref (ad 62)), (1, .int u1), (2, .int u2)]) hx hb dX6_publish_10 rfl hl (by decide) rfl (fun ls hl => ?_)
  exact L11 fu _ _ _ _ _ _ _ hM hP hS (lv_sub hl [1, 2, 3, 0] rfl)
theorem hinX6_X6_penUp : ∀ w ∈ u_ws RX6 TX6 9, w ∈ wsX6_penUp := by decide +kernel
set_option maxHeartbeats 4000000 in
set_option maxRecDepth 100000 in
theorem tX6_penUp (l : Launch) (D : va_G) (cA : ClassId) (ad : Nat → Nat) (hJ : w_J ad KC) (u1 : Int32) (σ σ' : St) (r : Int32) (hM : mX6_penUp u1 σ = some (r, σ')) : Ct l yX6_penUp wsX6_penUp 5 115 D cA ad KC [.ref (ad 62), .int u1] σ r σ' := by
  unfold Ct
  refine Met_of (cc := cX6_penUp) (maxL := 3) (ret := (some .int)) hJ (by decide +kernel) rfl (Nat.le_of_ble_eq_true rfl) ?_
  intro p e s m below meth c Z H locs ls hP hS hl
  obtain ⟨hx, hb, hml, hown, hts, hr, hlk, hK, -⟩ := Z
  have hown : s.vm.findClass RX6 = some m.cls := hown
  have hl : lv_has ls 3 [(0, .ref (ad 62)), (1, .int u1)] := hl
  have hA : ∀ q, w_A ad KC q → w_A ad KC q := fun _ h => h
  unfold mX6_penUp at hM
  refine lv_aload_n hx hb dX6_penUp_0 rfl (lv_at hl 0 rfl) ?_
  refine lv_iload_n hx hb dX6_penUp_1 rfl (lv_at hl 1 rfl) ?_
  obtain ⟨r3, σ2, h1, hM⟩ := bnd_i hM
  refine x_callV (As := [.int u1]) (rest := []) hA ⟨hx, hb, hml, hown, hts⟩ (tX6_isSite l D cA ad hJ u1 σ _ _ h1) (cwV 1 hts gX6_penUp_X6_isSite rfl rfl rfl (by decide +kernel) ⟨(Nat.le_of_ble_eq_true rfl), (Nat.le_of_ble_eq_true rfl)⟩) hK hP hS KC_sb rfl rfl hl.1 rfl (Nat.le_of_ble_eq_true rfl) ⟨Nat.zero_le _, Nat.zero_le _⟩ dX6_penUp_2 (fun H locs hP hS _ _ => ?_)
  refine lv_if_ne (tgt := 11) hx hb dX6_penUp_5 (by decide) (fun c4 => ?_) (fun c4 => ?_)
  · have hM := (if_neg c4).symm.trans hM
    refine lv_aload_n hx hb dX6_penUp_11 rfl (lv_at hl 0 rfl) ?_
    refine x_getr (own := RX6) (C := RX6) (T := TX6) (N := 9) hx hb hts hinX6_X6_penUp hown hK hP KC_sb rfl 1 (by decide) (hts (.fieldLink RX6 21 "StrokeBoard" "pens" "LStrokeBoard$Ink;") (by decide +kernel)) rfl dX6_penUp_12 ?_
    refine lv_iload_n hx hb dX6_penUp_15 rfl (lv_at hl 1 rfl) ?_
    obtain ⟨r7, σ6, h5, hM⟩ := bnd_i hM
    refine x_callV (As := [.int u1]) (rest := []) hA ⟨hx, hb, hml, hown, hts⟩ (tX1_pointCount l D cA ad hJ 1 (by omega) u1 σ2 _ _ h5) (cwV 1 hts gX6_penUp_X1_pointCount rfl rfl rfl (by decide +kernel) ⟨(Nat.le_of_ble_eq_true rfl), (Nat.le_of_ble_eq_true rfl)⟩) hK hP hS (KC_ink 1 (by omega)) rfl rfl hl.1 rfl (Nat.le_of_ble_eq_true rfl) ⟨Nat.zero_le _, Nat.zero_le _⟩ dX6_penUp_16 (fun H locs hP hS _ _ => ?_)
    refine lv_if_ne (tgt := 25) hx hb dX6_penUp_19 (by decide) (fun c8 => ?_) (fun c8 => ?_)
    · have hM := (if_neg c8).symm.trans hM
      refine lv_aload_n hx hb dX6_penUp_25 rfl (lv_at hl 0 rfl) ?_
      refine lv_iload_n hx hb dX6_penUp_26 rfl (lv_at hl 1 rfl) ?_
      obtain ⟨r11, σ10, h9, hM⟩ := bnd_i hM
      refine x_callV (As := [.int u1]) (rest := []) hA ⟨hx, hb, hml, hown, hts⟩ (tX6_hasMadeAll l D cA ad hJ u1 σ6 _ _ h9) (cwV 1 hts gX6_penUp_X6_hasMadeAll rfl rfl rfl (by decide +kernel) ⟨(Nat.le_of_ble_eq_true rfl), (Nat.le_of_ble_eq_true rfl)⟩) hK hP hS KC_sb rfl rfl hl.1 rfl (Nat.le_of_ble_eq_true rfl) ⟨Nat.zero_le _, Nat.zero_le _⟩ dX6_penUp_27 (fun H locs hP hS _ _ => ?_)
      refine lv_if_eq (tgt := 36) hx hb dX6_penUp_30 (by decide) (fun c12 => ?_) (fun c12 => ?_)
      · have hM := (if_pos c12).symm.trans hM
        refine lv_aload_n hx hb dX6_penUp_36 rfl (lv_at hl 0 rfl) ?_
        refine x_getr (own := RX6) (C := RX6) (T := TX6) (N := 9) hx hb hts hinX6_X6_penUp hown hK hP KC_sb rfl 0 (by decide) (hts (.fieldLink RX6 12 "StrokeBoard" "log" "LStrokeBoard$Log;") (by decide +kernel)) rfl dX6_penUp_37 ?_
        refine lv_iload_n hx hb dX6_penUp_40 rfl (lv_at hl 1 rfl) ?_
        refine lv_aload_n hx hb dX6_penUp_41 rfl (lv_at hl 0 rfl) ?_
        refine lv_iload_n hx hb dX6_penUp_42 rfl (lv_at hl 1 rfl) ?_
        obtain ⟨r15, σ14, h13, hM⟩ := bnd_i hM
        refine x_callV (As := [.int u1]) (rest := [.int u1, .ref (ad 54)]) hA ⟨hx, hb, hml, hown, hts⟩ (tX6_tick l D cA ad hJ u1 σ10 _ _ h13) (cwV 1 hts gX6_penUp_X6_tick rfl rfl rfl (by decide +kernel) ⟨(Nat.le_of_ble_eq_true rfl), (Nat.le_of_ble_eq_true rfl)⟩) hK hP hS KC_sb rfl rfl hl.1 rfl (Nat.le_of_ble_eq_true rfl) ⟨Nat.zero_le _, Nat.zero_le _⟩ dX6_penUp_43 (fun H locs hP hS _ _ => ?_)
        refine lv_aload_n hx hb dX6_penUp_46 rfl (lv_at hl 0 rfl) ?_
        refine x_getr (own := RX6) (C := RX6) (T := TX6) (N := 9) hx hb hts hinX6_X6_penUp hown hK hP KC_sb rfl 1 (by decide) (hts (.fieldLink RX6 21 "StrokeBoard" "pens" "LStrokeBoard$Ink;") (by decide +kernel)) rfl dX6_penUp_47 ?_
        obtain ⟨r18, σ17, h16, hM⟩ := bnd_i hM
        refine x_callV (As := [.int u1, .int r15, .ref (ad (55 + 1))]) (rest := []) hA ⟨hx, hb, hml, hown, hts⟩ (tX4_addStroke l D cA ad hJ 1 (by omega) u1 r15 σ14 _ _ h16) (cwV 3 hts gX6_penUp_X4_addStroke rfl rfl rfl (by decide +kernel) ⟨(Nat.le_of_ble_eq_true rfl), (Nat.le_of_ble_eq_true rfl)⟩) hK hP hS KC_log rfl rfl hl.1 rfl (Nat.le_of_ble_eq_true rfl) ⟨Nat.zero_le _, Nat.zero_le _⟩ dX6_penUp_50 (fun H locs hP hS _ _ => ?_)
        refine lv_istore_n (lv' := [(2, .int r18), (0, .ref (ad 62)), (1, .int u1)]) hx hb dX6_penUp_53 rfl hl (by decide) rfl (fun ls hl => ?_)
        refine lv_aload_n hx hb dX6_penUp_54 rfl (lv_at hl 1 rfl) ?_
        refine x_getr (own := RX6) (C := RX6) (T := TX6) (N := 9) hx hb hts hinX6_X6_penUp hown hK hP KC_sb rfl 1 (by decide) (hts (.fieldLink RX6 21 "StrokeBoard" "pens" "LStrokeBoard$Ink;") (by decide +kernel)) rfl dX6_penUp_55 ?_
        refine lv_iload_n hx hb dX6_penUp_58 rfl (lv_at hl 2 rfl) ?_
        obtain ⟨σ20, h19, hM⟩ := bnv_i hM
        refine x_callVv (As := [.int u1]) (rest := []) hA ⟨hx, hb, hml, hown, hts⟩ (tX1_empty l D cA ad hJ 1 (by omega) u1 σ17 _ h19) (cwV 1 hts gX6_penUp_X1_empty rfl rfl rfl (by decide +kernel) ⟨(Nat.le_of_ble_eq_true rfl), (Nat.le_of_ble_eq_true rfl)⟩) hK hP hS (KC_ink 1 (by omega)) rfl rfl hl.1 rfl (Nat.le_of_ble_eq_true rfl) ⟨Nat.zero_le _, Nat.zero_le _⟩ dX6_penUp_59 (fun H locs hP hS _ _ => ?_)
        refine lv_aload_n hx hb dX6_penUp_62 rfl (lv_at hl 1 rfl) ?_
        refine lv_iload_n hx hb dX6_penUp_63 rfl (lv_at hl 2 rfl) ?_
        refine lv_iload_n hx hb dX6_penUp_64 rfl (lv_at hl 0 rfl) ?_
        obtain ⟨σ22, h21, hM⟩ := bnv_i hM
        refine x_callVv (As := [.int u1, .int r18]) (rest := []) hA ⟨hx, hb, hml, hown, hts⟩ (tX6_publish l D cA ad hJ u1 r18 σ20 _ h21) (cwV 2 hts gX6_penUp_X6_publish rfl rfl rfl (by decide +kernel) ⟨(Nat.le_of_ble_eq_true rfl), (Nat.le_of_ble_eq_true rfl)⟩) hK hP hS KC_sb rfl rfl hl.1 rfl (Nat.le_of_ble_eq_true rfl) ⟨Nat.zero_le _, Nat.zero_le _⟩ dX6_penUp_65 (fun H locs hP hS _ _ => ?_)
        refine lv_iload_n hx hb dX6_penUp_68 rfl (lv_at hl 0 rfl) ?_
        obtain ⟨r25, σ24, h23, hM⟩ := bnd_i hM
        refine x_callS (As := [.int r18]) (rest := []) hA ⟨hx, hb, hml, hown, hts⟩ (tX6_numberOf l D cA ad hJ r18 σ22 _ _ h23) (va_cwS 1 hts gX6_penUp_X6_numberOf rfl rfl rfl (by decide +kernel) ⟨(Nat.le_of_ble_eq_true rfl), (Nat.le_of_ble_eq_true rfl)⟩) hK hP hS rfl hl.1 rfl (Nat.le_of_ble_eq_true rfl) ⟨Nat.zero_le _, Nat.zero_le _⟩ dX6_penUp_69 (fun H locs hP hS => ?_)
        exact x_iret hx hb hr hlk hP hS hM dX6_penUp_72
      · have hM := (if_neg c12).symm.trans hM
        refine lv_ldc (own := RX6) (v := (-1000000003)) hx hb hown (hts (.constant RX6 77 (-1000000003)) (by decide +kernel)) dX6_penUp_33 ?_
        exact x_iret hx hb hr hlk hP hS hM dX6_penUp_35
    · have hM := (if_pos c8).symm.trans hM
      refine lv_ldc (own := RX6) (v := (-1000000002)) hx hb hown (hts (.constant RX6 110 (-1000000002)) (by decide +kernel)) dX6_penUp_22 ?_
      exact x_iret hx hb hr hlk hP hS hM dX6_penUp_24
  · have hM := (if_pos c4).symm.trans hM
    refine lv_ldc (own := RX6) (v := (-1000000001)) hx hb hown (hts (.constant RX6 67 (-1000000001)) (by decide +kernel)) dX6_penUp_8 ?_
    exact x_iret hx hb hr hlk hP hS hM dX6_penUp_10
theorem hinX6_X6_lastVisibleOwn : ∀ w ∈ u_ws RX6 TX6 9, w ∈ wsX6_lastVisibleOwn := by decide +kernel
set_option maxHeartbeats 4000000 in
set_option maxRecDepth 100000 in
theorem tX6_lastVisibleOwn (l : Launch) (D : va_G) (cA : ClassId) (ad : Nat → Nat) (hJ : w_J ad KC) (u1 : Int32) (σ σ' : St) (r : Int32) (hM : mX6_lastVisibleOwn u1 σ = some (r, σ')) : Ct l yX6_lastVisibleOwn wsX6_lastVisibleOwn 4 96 D cA ad KC [.ref (ad 62), .int u1] σ r σ' := by
  unfold Ct
  refine Met_of (cc := cX6_lastVisibleOwn) (maxL := 4) (ret := (some .int)) hJ (by decide +kernel) rfl (Nat.le_of_ble_eq_true rfl) ?_
  intro p e s m below meth c Z H locs ls hP hS hl
  obtain ⟨hx, hb, hml, hown, hts, hr, hlk, hK, -⟩ := Z
  have hown : s.vm.findClass RX6 = some m.cls := hown
  have hl : lv_has ls 4 [(0, .ref (ad 62)), (1, .int u1)] := hl
  have hA : ∀ q, w_A ad KC q → w_A ad KC q := fun _ h => h
  have L25 : ∀ (n : Nat) (x1 x2 : Int32) (σ : St) (H : Heap) (locs : List Loc) (ls : Array Slot), mX6_lastVisibleOwn_L25 n x1 x2 σ = some (r, σ') → w_P D cA ad KC σ H → va_S (w_A ad KC) s.heap H locs → lv_has ls 4 [(0, .ref (ad 62)), (1, .int x1), (2, .int x2)] → Wm p l e wsX6_lastVisibleOwn 4 96 s m ([.ref (ad 62), .int u1] : List Value).toArray below meth c (w_Qi D cA ad KC r σ') (w_A ad KC) H locs (F0 m 25 ls []) := by
    intro n25
    induction n25 with
    | zero =>
      intro x1 x2 σ H locs ls hM hP hS hl
      rw [mX6_lastVisibleOwn_L25] at hM
      cases hM
    | succ n25 ih25 =>
      intro x1 x2 σ H locs ls hM hP hS hl
      rw [mX6_lastVisibleOwn_L25] at hM
      refine lv_iload_n hx hb dX6_lastVisibleOwn_25 rfl (lv_at hl 2 rfl) ?_
      refine lv_iconst (v := 1) hx hb dX6_lastVisibleOwn_26 (by decide) ?_
      refine lv_icmp_lt (tgt := 66) hx hb dX6_lastVisibleOwn_27 (by decide) (fun c1 => ?_) (fun c1 => ?_)
      · have hM := (if_pos c1).symm.trans hM
        refine lv_iconst (v := (-1)) hx hb dX6_lastVisibleOwn_66 (by decide) ?_
        exact x_iret hx hb hr hlk hP hS hM dX6_lastVisibleOwn_67
      · have hM := (if_neg c1).symm.trans hM
        refine lv_iload_n hx hb dX6_lastVisibleOwn_30 rfl (lv_at hl 1 rfl) ?_
        refine lv_iload_n hx hb dX6_lastVisibleOwn_31 rfl (lv_at hl 2 rfl) ?_
        obtain ⟨r4, σ3, h2, hM⟩ := bnd_i hM
        refine x_callS (As := [.int x1, .int x2]) (rest := []) hA ⟨hx, hb, hml, hown, hts⟩ (tX6_idOf l D cA ad hJ x1 x2 σ _ _ h2) (va_cwS 2 hts gX6_lastVisibleOwn_X6_idOf rfl rfl rfl (by decide +kernel) ⟨(Nat.le_of_ble_eq_true rfl), (Nat.le_of_ble_eq_true rfl)⟩) hK hP hS rfl hl.1 rfl (Nat.le_of_ble_eq_true rfl) ⟨Nat.zero_le _, Nat.zero_le _⟩ dX6_lastVisibleOwn_32 (fun H locs hP hS => ?_)
        refine lv_istore_n (lv' := [(3, .int r4), (0, .ref (ad 62)), (1, .int x1), (2, .int x2)]) hx hb dX6_lastVisibleOwn_35 rfl hl (by decide) rfl (fun ls hl => ?_)
        refine lv_aload_n hx hb dX6_lastVisibleOwn_36 rfl (lv_at hl 1 rfl) ?_
        refine x_getr (own := RX6) (C := RX6) (T := TX6) (N := 9) hx hb hts hinX6_X6_lastVisibleOwn hown hK hP KC_sb rfl 0 (by decide) (hts (.fieldLink RX6 12 "StrokeBoard" "log" "LStrokeBoard$Log;") (by decide +kernel)) rfl dX6_lastVisibleOwn_37 ?_
        refine lv_iload_n hx hb dX6_lastVisibleOwn_40 rfl (lv_at hl 0 rfl) ?_
        obtain ⟨r7, σ6, h5, hM⟩ := bnd_i hM
        refine x_callV (As := [.int r4]) (rest := []) hA ⟨hx, hb, hml, hown, hts⟩ (tX4_isStroke l D cA ad hJ r4 σ3 _ _ h5) (cwV 1 hts gX6_lastVisibleOwn_X4_isStroke rfl rfl rfl (by decide +kernel) ⟨(Nat.le_of_ble_eq_true rfl), (Nat.le_of_ble_eq_true rfl)⟩) hK hP hS KC_log rfl rfl hl.1 rfl (Nat.le_of_ble_eq_true rfl) ⟨Nat.zero_le _, Nat.zero_le _⟩ dX6_lastVisibleOwn_41 (fun H locs hP hS _ _ => ?_)
        refine lv_if_eq (tgt := 60) hx hb dX6_lastVisibleOwn_44 (by decide) (fun c8 => ?_) (fun c8 => ?_)
        · have hM := (if_pos c8).symm.trans hM
          refine lv_iinc (v := (x2 + (-1))) (lv' := [(2, .int (x2 + (-1))), (3, .int r4), (0, .ref (ad 62)), (1, .int x1)]) hx hb dX6_lastVisibleOwn_60 hl (k := 3) rfl rfl (by decide) rfl (fun ls hl => ?_)
          refine lv_goto (tgt := 25) hx hb dX6_lastVisibleOwn_63 (by decide) ?_
          exact ih25 _ _ _ _ _ _ hM hP hS (lv_sub hl [2, 3, 0] rfl)
        · have hM := (if_neg c8).symm.trans hM
          refine lv_aload_n hx hb dX6_lastVisibleOwn_47 rfl (lv_at hl 1 rfl) ?_
          refine x_getr (own := RX6) (C := RX6) (T := TX6) (N := 9) hx hb hts hinX6_X6_lastVisibleOwn hown hK hP KC_sb rfl 5 (by decide) (hts (.fieldLink RX6 45 "StrokeBoard" "board" "LStrokeBoard$Board;") (by decide +kernel)) rfl dX6_lastVisibleOwn_48 ?_
          refine lv_iload_n hx hb dX6_lastVisibleOwn_51 rfl (lv_at hl 0 rfl) ?_
          obtain ⟨r11, σ10, h9, hM⟩ := bnd_i hM
          refine x_callV (As := [.int r4]) (rest := []) hA ⟨hx, hb, hml, hown, hts⟩ (tX0_isUndone l D cA ad hJ 0 (by omega) r4 σ6 _ _ h9) (cwV 1 hts gX6_lastVisibleOwn_X0_isUndone rfl rfl rfl (by decide +kernel) ⟨(Nat.le_of_ble_eq_true rfl), (Nat.le_of_ble_eq_true rfl)⟩) hK hP hS (KC_brd 0 (by omega)) rfl rfl hl.1 rfl (Nat.le_of_ble_eq_true rfl) ⟨Nat.zero_le _, Nat.zero_le _⟩ dX6_lastVisibleOwn_52 (fun H locs hP hS _ _ => ?_)
          refine lv_if_ne (tgt := 60) hx hb dX6_lastVisibleOwn_55 (by decide) (fun c12 => ?_) (fun c12 => ?_)
          · have hM := (if_neg c12).symm.trans hM
            refine lv_iinc (v := (x2 + (-1))) (lv' := [(2, .int (x2 + (-1))), (3, .int r4), (0, .ref (ad 62)), (1, .int x1)]) hx hb dX6_lastVisibleOwn_60 hl (k := 3) rfl rfl (by decide) rfl (fun ls hl => ?_)
            refine lv_goto (tgt := 25) hx hb dX6_lastVisibleOwn_63 (by decide) ?_
            exact ih25 _ _ _ _ _ _ hM hP hS (lv_sub hl [2, 3, 0] rfl)
          · have hM := (if_pos c12).symm.trans hM
            refine lv_iload_n hx hb dX6_lastVisibleOwn_58 rfl (lv_at hl 0 rfl) ?_
            exact x_iret hx hb hr hlk hP hS hM dX6_lastVisibleOwn_59
  unfold mX6_lastVisibleOwn at hM
  refine lv_aload_n hx hb dX6_lastVisibleOwn_0 rfl (lv_at hl 0 rfl) ?_
  refine x_getr (own := RX6) (C := RX6) (T := TX6) (N := 9) hx hb hts hinX6_X6_lastVisibleOwn hown hK hP KC_sb rfl 5 (by decide) (hts (.fieldLink RX6 45 "StrokeBoard" "board" "LStrokeBoard$Board;") (by decide +kernel)) rfl dX6_lastVisibleOwn_1 ?_
  refine lv_aload_n hx hb dX6_lastVisibleOwn_4 rfl (lv_at hl 0 rfl) ?_
  refine x_getr (own := RX6) (C := RX6) (T := TX6) (N := 9) hx hb hts hinX6_X6_lastVisibleOwn hown hK hP KC_sb rfl 0 (by decide) (hts (.fieldLink RX6 12 "StrokeBoard" "log" "LStrokeBoard$Log;") (by decide +kernel)) rfl dX6_lastVisibleOwn_5 ?_
  refine lv_aload_n hx hb dX6_lastVisibleOwn_8 rfl (lv_at hl 0 rfl) ?_
  refine x_getr (own := RX6) (C := RX6) (T := TX6) (N := 9) hx hb hts hinX6_X6_lastVisibleOwn hown hK hP KC_sb rfl 2 (by decide) (hts (.fieldLink RX6 28 "StrokeBoard" "knowledge" "LStrokeBoard$Knowledge;") (by decide +kernel)) rfl dX6_lastVisibleOwn_9 ?_
  refine lv_iload_n hx hb dX6_lastVisibleOwn_12 rfl (lv_at hl 1 rfl) ?_
  obtain ⟨σ14, h13, hM⟩ := bnv_i hM
  refine x_callVv (As := [.ref (ad 54), .ref (ad (57 + 0)), .int u1]) (rest := []) hA ⟨hx, hb, hml, hown, hts⟩ (tX0_show l D cA ad hJ 0 (by omega) 0 (by omega) u1 σ _ h13) (cwV 3 hts gX6_lastVisibleOwn_X0_show rfl rfl rfl (by decide +kernel) ⟨(Nat.le_of_ble_eq_true rfl), (Nat.le_of_ble_eq_true rfl)⟩) hK hP hS (KC_brd 0 (by omega)) rfl rfl hl.1 rfl (Nat.le_of_ble_eq_true rfl) ⟨Nat.zero_le _, Nat.zero_le _⟩ dX6_lastVisibleOwn_13 (fun H locs hP hS _ _ => ?_)
  refine lv_aload_n hx hb dX6_lastVisibleOwn_16 rfl (lv_at hl 0 rfl) ?_
  refine x_getr (own := RX6) (C := RX6) (T := TX6) (N := 9) hx hb hts hinX6_X6_lastVisibleOwn hown hK hP KC_sb rfl 0 (by decide) (hts (.fieldLink RX6 12 "StrokeBoard" "log" "LStrokeBoard$Log;") (by decide +kernel)) rfl dX6_lastVisibleOwn_17 ?_
  refine lv_iload_n hx hb dX6_lastVisibleOwn_20 rfl (lv_at hl 1 rfl) ?_
  obtain ⟨r17, σ16, h15, hM⟩ := bnd_i hM
  refine x_callV (As := [.int u1]) (rest := []) hA ⟨hx, hb, hml, hown, hts⟩ (tX4_madeBy l D cA ad hJ u1 σ14 _ _ h15) (cwV 1 hts gX6_lastVisibleOwn_X4_madeBy rfl rfl rfl (by decide +kernel) ⟨(Nat.le_of_ble_eq_true rfl), (Nat.le_of_ble_eq_true rfl)⟩) hK hP hS KC_log rfl rfl hl.1 rfl (Nat.le_of_ble_eq_true rfl) ⟨Nat.zero_le _, Nat.zero_le _⟩ dX6_lastVisibleOwn_21 (fun H locs hP hS _ _ => ?_)
  refine lv_istore_n (lv' := [(2, .int r17), (0, .ref (ad 62)), (1, .int u1)]) hx hb dX6_lastVisibleOwn_24 rfl hl (by decide) rfl (fun ls hl => ?_)
  exact L25 fu _ _ _ _ _ _ hM hP hS (lv_sub hl [1, 2, 0] rfl)
theorem hinX6_X6_changeOwn : ∀ w ∈ u_ws RX6 TX6 9, w ∈ wsX6_changeOwn := by decide +kernel
set_option maxHeartbeats 4000000 in
set_option maxRecDepth 100000 in
theorem tX6_changeOwn (l : Launch) (D : va_G) (cA : ClassId) (ad : Nat → Nat) (hJ : w_J ad KC) (u1 u2 u3 : Int32) (σ σ' : St) (r : Int32) (hM : mX6_changeOwn u1 u2 u3 σ = some (r, σ')) : Ct l yX6_changeOwn wsX6_changeOwn 5 117 D cA ad KC [.ref (ad 62), .int u1, .int u2, .int u3] σ r σ' := by
  unfold Ct
  refine Met_of (cc := cX6_changeOwn) (maxL := 4) (ret := (some .int)) hJ (by decide +kernel) rfl (Nat.le_of_ble_eq_true rfl) ?_
  intro p e s m below meth c Z H locs ls hP hS hl
  obtain ⟨hx, hb, hml, hown, hts, hr, hlk, hK, -⟩ := Z
  have hown : s.vm.findClass RX6 = some m.cls := hown
  have hl : lv_has ls 4 [(0, .ref (ad 62)), (1, .int u1), (2, .int u2), (3, .int u3)] := hl
  have hA : ∀ q, w_A ad KC q → w_A ad KC q := fun _ h => h
  unfold mX6_changeOwn at hM
  refine lv_iload_n hx hb dX6_changeOwn_0 rfl (lv_at hl 3 rfl) ?_
  refine lv_iconst (v := (-1)) hx hb dX6_changeOwn_1 (by decide) ?_
  refine lv_icmp_ne (tgt := 8) hx hb dX6_changeOwn_2 (by decide) (fun c1 => ?_) (fun c1 => ?_)
  · have hM := (if_neg c1).symm.trans hM
    refine lv_aload_n hx hb dX6_changeOwn_8 rfl (lv_at hl 0 rfl) ?_
    refine lv_iload_n hx hb dX6_changeOwn_9 rfl (lv_at hl 1 rfl) ?_
    obtain ⟨r4, σ3, h2, hM⟩ := bnd_i hM
    refine x_callV (As := [.int u1]) (rest := []) hA ⟨hx, hb, hml, hown, hts⟩ (tX6_hasMadeAll l D cA ad hJ u1 σ _ _ h2) (cwV 1 hts gX6_changeOwn_X6_hasMadeAll rfl rfl rfl (by decide +kernel) ⟨(Nat.le_of_ble_eq_true rfl), (Nat.le_of_ble_eq_true rfl)⟩) hK hP hS KC_sb rfl rfl hl.1 rfl (Nat.le_of_ble_eq_true rfl) ⟨Nat.zero_le _, Nat.zero_le _⟩ dX6_changeOwn_10 (fun H locs hP hS _ _ => ?_)
    refine lv_if_eq (tgt := 19) hx hb dX6_changeOwn_13 (by decide) (fun c5 => ?_) (fun c5 => ?_)
    · have hM := (if_pos c5).symm.trans hM
      refine lv_aload_n hx hb dX6_changeOwn_19 rfl (lv_at hl 0 rfl) ?_
      refine lv_iload_n hx hb dX6_changeOwn_20 rfl (lv_at hl 1 rfl) ?_
      refine lv_aload_n hx hb dX6_changeOwn_21 rfl (lv_at hl 0 rfl) ?_
      refine x_getr (own := RX6) (C := RX6) (T := TX6) (N := 9) hx hb hts hinX6_X6_changeOwn hown hK hP KC_sb rfl 0 (by decide) (hts (.fieldLink RX6 12 "StrokeBoard" "log" "LStrokeBoard$Log;") (by decide +kernel)) rfl dX6_changeOwn_22 ?_
      refine lv_iload_n hx hb dX6_changeOwn_25 rfl (lv_at hl 1 rfl) ?_
      refine lv_aload_n hx hb dX6_changeOwn_26 rfl (lv_at hl 0 rfl) ?_
      refine lv_iload_n hx hb dX6_changeOwn_27 rfl (lv_at hl 1 rfl) ?_
      obtain ⟨r8, σ7, h6, hM⟩ := bnd_i hM
      refine x_callV (As := [.int u1]) (rest := [.int u1, .ref (ad 54), .int u1, .ref (ad 62)]) hA ⟨hx, hb, hml, hown, hts⟩ (tX6_tick l D cA ad hJ u1 σ3 _ _ h6) (cwV 1 hts gX6_changeOwn_X6_tick rfl rfl rfl (by decide +kernel) ⟨(Nat.le_of_ble_eq_true rfl), (Nat.le_of_ble_eq_true rfl)⟩) hK hP hS KC_sb rfl rfl hl.1 rfl (Nat.le_of_ble_eq_true rfl) ⟨Nat.zero_le _, Nat.zero_le _⟩ dX6_changeOwn_28 (fun H locs hP hS _ _ => ?_)
      refine lv_iload_n hx hb dX6_changeOwn_31 rfl (lv_at hl 2 rfl) ?_
      refine lv_iload_n hx hb dX6_changeOwn_32 rfl (lv_at hl 3 rfl) ?_
      refine lv_iconst (v := (-1)) hx hb dX6_changeOwn_33 (by decide) ?_
      obtain ⟨r11, σ10, h9, hM⟩ := bnd_i hM
      refine x_callV (As := [.int u1, .int r8, .int u2, .int u3, .int (-1)]) (rest := [.int u1, .ref (ad 62)]) hA ⟨hx, hb, hml, hown, hts⟩ (tX4_addChange l D cA ad hJ u1 r8 u2 u3 (-1) σ7 _ _ h9) (cwV 5 hts gX6_changeOwn_X4_addChange rfl rfl rfl (by decide +kernel) ⟨(Nat.le_of_ble_eq_true rfl), (Nat.le_of_ble_eq_true rfl)⟩) hK hP hS KC_log rfl rfl hl.1 rfl (Nat.le_of_ble_eq_true rfl) ⟨Nat.zero_le _, Nat.zero_le _⟩ dX6_changeOwn_34 (fun H locs hP hS _ _ => ?_)
      obtain ⟨σ13, h12, hM⟩ := bnv_i hM
      refine x_callVv (As := [.int u1, .int r11]) (rest := []) hA ⟨hx, hb, hml, hown, hts⟩ (tX6_publish l D cA ad hJ u1 r11 σ10 _ h12) (cwV 2 hts gX6_changeOwn_X6_publish rfl rfl rfl (by decide +kernel) ⟨(Nat.le_of_ble_eq_true rfl), (Nat.le_of_ble_eq_true rfl)⟩) hK hP hS KC_sb rfl rfl hl.1 rfl (Nat.le_of_ble_eq_true rfl) ⟨Nat.zero_le _, Nat.zero_le _⟩ dX6_changeOwn_37 (fun H locs hP hS _ _ => ?_)
      refine lv_iload_n hx hb dX6_changeOwn_40 rfl (lv_at hl 3 rfl) ?_
      obtain ⟨r16, σ15, h14, hM⟩ := bnd_i hM
      refine x_callS (As := [.int u3]) (rest := []) hA ⟨hx, hb, hml, hown, hts⟩ (tX6_numberOf l D cA ad hJ u3 σ13 _ _ h14) (va_cwS 1 hts gX6_changeOwn_X6_numberOf rfl rfl rfl (by decide +kernel) ⟨(Nat.le_of_ble_eq_true rfl), (Nat.le_of_ble_eq_true rfl)⟩) hK hP hS rfl hl.1 rfl (Nat.le_of_ble_eq_true rfl) ⟨Nat.zero_le _, Nat.zero_le _⟩ dX6_changeOwn_41 (fun H locs hP hS => ?_)
      exact x_iret hx hb hr hlk hP hS hM dX6_changeOwn_44
    · have hM := (if_neg c5).symm.trans hM
      refine lv_ldc (own := RX6) (v := (-1000000003)) hx hb hown (hts (.constant RX6 77 (-1000000003)) (by decide +kernel)) dX6_changeOwn_16 ?_
      exact x_iret hx hb hr hlk hP hS hM dX6_changeOwn_18
  · have hM := (if_pos c1).symm.trans hM
    refine lv_ldc (own := RX6) (v := (-1000000002)) hx hb hown (hts (.constant RX6 110 (-1000000002)) (by decide +kernel)) dX6_changeOwn_5 ?_
    exact x_iret hx hb hr hlk hP hS hM dX6_changeOwn_7
set_option maxHeartbeats 4000000 in
set_option maxRecDepth 100000 in
theorem tX6_undo (l : Launch) (D : va_G) (cA : ClassId) (ad : Nat → Nat) (hJ : w_J ad KC) (u1 : Int32) (σ σ' : St) (r : Int32) (hM : mX6_undo u1 σ = some (r, σ')) : Ct l yX6_undo wsX6_undo 6 140 D cA ad KC [.ref (ad 62), .int u1] σ r σ' := by
  unfold Ct
  refine Met_of (cc := cX6_undo) (maxL := 2) (ret := (some .int)) hJ (by decide +kernel) rfl (Nat.le_of_ble_eq_true rfl) ?_
  intro p e s m below meth c Z H locs ls hP hS hl
  obtain ⟨hx, hb, hml, hown, hts, hr, hlk, hK, -⟩ := Z
  have hown : s.vm.findClass RX6 = some m.cls := hown
  have hl : lv_has ls 2 [(0, .ref (ad 62)), (1, .int u1)] := hl
  have hA : ∀ q, w_A ad KC q → w_A ad KC q := fun _ h => h
  unfold mX6_undo at hM
  refine lv_aload_n hx hb dX6_undo_0 rfl (lv_at hl 0 rfl) ?_
  refine lv_iload_n hx hb dX6_undo_1 rfl (lv_at hl 1 rfl) ?_
  obtain ⟨r3, σ2, h1, hM⟩ := bnd_i hM
  refine x_callV (As := [.int u1]) (rest := []) hA ⟨hx, hb, hml, hown, hts⟩ (tX6_isSite l D cA ad hJ u1 σ _ _ h1) (cwV 1 hts gX6_undo_X6_isSite rfl rfl rfl (by decide +kernel) ⟨(Nat.le_of_ble_eq_true rfl), (Nat.le_of_ble_eq_true rfl)⟩) hK hP hS KC_sb rfl rfl hl.1 rfl (Nat.le_of_ble_eq_true rfl) ⟨Nat.zero_le _, Nat.zero_le _⟩ dX6_undo_2 (fun H locs hP hS _ _ => ?_)
  refine lv_if_ne (tgt := 11) hx hb dX6_undo_5 (by decide) (fun c4 => ?_) (fun c4 => ?_)
  · have hM := (if_neg c4).symm.trans hM
    refine lv_aload_n hx hb dX6_undo_11 rfl (lv_at hl 0 rfl) ?_
    refine lv_iload_n hx hb dX6_undo_12 rfl (lv_at hl 1 rfl) ?_
    refine lv_iconst (v := 1) hx hb dX6_undo_13 (by decide) ?_
    refine lv_aload_n hx hb dX6_undo_14 rfl (lv_at hl 0 rfl) ?_
    refine lv_iload_n hx hb dX6_undo_15 rfl (lv_at hl 1 rfl) ?_
    obtain ⟨r7, σ6, h5, hM⟩ := bnd_i hM
    refine x_callV (As := [.int u1]) (rest := [.int 1, .int u1, .ref (ad 62)]) hA ⟨hx, hb, hml, hown, hts⟩ (tX6_lastVisibleOwn l D cA ad hJ u1 σ2 _ _ h5) (cwV 1 hts gX6_undo_X6_lastVisibleOwn rfl rfl rfl (by decide +kernel) ⟨(Nat.le_of_ble_eq_true rfl), (Nat.le_of_ble_eq_true rfl)⟩) hK hP hS KC_sb rfl rfl hl.1 rfl (Nat.le_of_ble_eq_true rfl) ⟨Nat.zero_le _, Nat.zero_le _⟩ dX6_undo_16 (fun H locs hP hS _ _ => ?_)
    obtain ⟨r10, σ9, h8, hM⟩ := bnd_i hM
    refine x_callV (As := [.int u1, .int 1, .int r7]) (rest := []) hA ⟨hx, hb, hml, hown, hts⟩ (tX6_changeOwn l D cA ad hJ u1 1 r7 σ6 _ _ h8) (cwV 3 hts gX6_undo_X6_changeOwn rfl rfl rfl (by decide +kernel) ⟨(Nat.le_of_ble_eq_true rfl), (Nat.le_of_ble_eq_true rfl)⟩) hK hP hS KC_sb rfl rfl hl.1 rfl (Nat.le_of_ble_eq_true rfl) ⟨Nat.zero_le _, Nat.zero_le _⟩ dX6_undo_19 (fun H locs hP hS _ _ => ?_)
    exact x_iret hx hb hr hlk hP hS hM dX6_undo_22
  · have hM := (if_pos c4).symm.trans hM
    refine lv_ldc (own := RX6) (v := (-1000000001)) hx hb hown (hts (.constant RX6 67 (-1000000001)) (by decide +kernel)) dX6_undo_8 ?_
    exact x_iret hx hb hr hlk hP hS hM dX6_undo_10
theorem hinX6_X6_lastUndoneOwn : ∀ w ∈ u_ws RX6 TX6 9, w ∈ wsX6_lastUndoneOwn := by decide +kernel
set_option maxHeartbeats 4000000 in
set_option maxRecDepth 100000 in
theorem tX6_lastUndoneOwn (l : Launch) (D : va_G) (cA : ClassId) (ad : Nat → Nat) (hJ : w_J ad KC) (u1 : Int32) (σ σ' : St) (r : Int32) (hM : mX6_lastUndoneOwn u1 σ = some (r, σ')) : Ct l yX6_lastUndoneOwn wsX6_lastUndoneOwn 4 96 D cA ad KC [.ref (ad 62), .int u1] σ r σ' := by
  unfold Ct
  refine Met_of (cc := cX6_lastUndoneOwn) (maxL := 4) (ret := (some .int)) hJ (by decide +kernel) rfl (Nat.le_of_ble_eq_true rfl) ?_
  intro p e s m below meth c Z H locs ls hP hS hl
  obtain ⟨hx, hb, hml, hown, hts, hr, hlk, hK, -⟩ := Z
  have hown : s.vm.findClass RX6 = some m.cls := hown
  have hl : lv_has ls 4 [(0, .ref (ad 62)), (1, .int u1)] := hl
  have hA : ∀ q, w_A ad KC q → w_A ad KC q := fun _ h => h
  have b66 : ∀ (x3 : Int32) (σ : St) (H : Heap) (locs : List Loc) (ls : Array Slot), mX6_lastUndoneOwn_b66 x3 σ = some (r, σ') → w_P D cA ad KC σ H → va_S (w_A ad KC) s.heap H locs → lv_has ls 4 [(0, .ref (ad 62)), (3, .int x3)] → Wm p l e wsX6_lastUndoneOwn 4 96 s m ([.ref (ad 62), .int u1] : List Value).toArray below meth c (w_Qi D cA ad KC r σ') (w_A ad KC) H locs (F0 m 66 ls []) := by
    intro x3 σ H locs ls hM hP hS hl
    unfold mX6_lastUndoneOwn_b66 at hM
    refine lv_aload_n hx hb dX6_lastUndoneOwn_66 rfl (lv_at hl 0 rfl) ?_
    refine x_getr (own := RX6) (C := RX6) (T := TX6) (N := 9) hx hb hts hinX6_X6_lastUndoneOwn hown hK hP KC_sb rfl 0 (by decide) (hts (.fieldLink RX6 12 "StrokeBoard" "log" "LStrokeBoard$Log;") (by decide +kernel)) rfl dX6_lastUndoneOwn_67 ?_
    refine lv_iload_n hx hb dX6_lastUndoneOwn_70 rfl (lv_at hl 1 rfl) ?_
    obtain ⟨r3, σ2, h1, hM⟩ := bnd_i hM
    refine x_callV (As := [.int x3]) (rest := []) hA ⟨hx, hb, hml, hown, hts⟩ (tX4_targetOf l D cA ad hJ x3 σ _ _ h1) (cwV 1 hts gX6_lastUndoneOwn_X4_targetOf rfl rfl rfl (by decide +kernel) ⟨(Nat.le_of_ble_eq_true rfl), (Nat.le_of_ble_eq_true rfl)⟩) hK hP hS KC_log rfl rfl hl.1 rfl (Nat.le_of_ble_eq_true rfl) ⟨Nat.zero_le _, Nat.zero_le _⟩ dX6_lastUndoneOwn_71 (fun H locs hP hS _ _ => ?_)
    exact x_iret hx hb hr hlk hP hS hM dX6_lastUndoneOwn_74
  have L25 : ∀ (n : Nat) (x1 x2 : Int32) (σ : St) (H : Heap) (locs : List Loc) (ls : Array Slot), mX6_lastUndoneOwn_L25 n x1 x2 σ = some (r, σ') → w_P D cA ad KC σ H → va_S (w_A ad KC) s.heap H locs → lv_has ls 4 [(0, .ref (ad 62)), (1, .int x1), (2, .int x2)] → Wm p l e wsX6_lastUndoneOwn 4 96 s m ([.ref (ad 62), .int u1] : List Value).toArray below meth c (w_Qi D cA ad KC r σ') (w_A ad KC) H locs (F0 m 25 ls []) := by
    intro n25
    induction n25 with
    | zero =>
      intro x1 x2 σ H locs ls hM hP hS hl
      rw [mX6_lastUndoneOwn_L25] at hM
      cases hM
    | succ n25 ih25 =>
      intro x1 x2 σ H locs ls hM hP hS hl
      rw [mX6_lastUndoneOwn_L25] at hM
      refine lv_iload_n hx hb dX6_lastUndoneOwn_25 rfl (lv_at hl 2 rfl) ?_
      refine lv_iconst (v := 1) hx hb dX6_lastUndoneOwn_26 (by decide) ?_
      refine lv_icmp_lt (tgt := 81) hx hb dX6_lastUndoneOwn_27 (by decide) (fun c4 => ?_) (fun c4 => ?_)
      · have hM := (if_pos c4).symm.trans hM
        refine lv_iconst (v := (-1)) hx hb dX6_lastUndoneOwn_81 (by decide) ?_
        exact x_iret hx hb hr hlk hP hS hM dX6_lastUndoneOwn_82
      · have hM := (if_neg c4).symm.trans hM
        refine lv_iload_n hx hb dX6_lastUndoneOwn_30 rfl (lv_at hl 1 rfl) ?_
        refine lv_iload_n hx hb dX6_lastUndoneOwn_31 rfl (lv_at hl 2 rfl) ?_
        obtain ⟨r7, σ6, h5, hM⟩ := bnd_i hM
        refine x_callS (As := [.int x1, .int x2]) (rest := []) hA ⟨hx, hb, hml, hown, hts⟩ (tX6_idOf l D cA ad hJ x1 x2 σ _ _ h5) (va_cwS 2 hts gX6_lastUndoneOwn_X6_idOf rfl rfl rfl (by decide +kernel) ⟨(Nat.le_of_ble_eq_true rfl), (Nat.le_of_ble_eq_true rfl)⟩) hK hP hS rfl hl.1 rfl (Nat.le_of_ble_eq_true rfl) ⟨Nat.zero_le _, Nat.zero_le _⟩ dX6_lastUndoneOwn_32 (fun H locs hP hS => ?_)
        refine lv_istore_n (lv' := [(3, .int r7), (0, .ref (ad 62)), (1, .int x1), (2, .int x2)]) hx hb dX6_lastUndoneOwn_35 rfl hl (by decide) rfl (fun ls hl => ?_)
        refine lv_aload_n hx hb dX6_lastUndoneOwn_36 rfl (lv_at hl 1 rfl) ?_
        refine x_getr (own := RX6) (C := RX6) (T := TX6) (N := 9) hx hb hts hinX6_X6_lastUndoneOwn hown hK hP KC_sb rfl 0 (by decide) (hts (.fieldLink RX6 12 "StrokeBoard" "log" "LStrokeBoard$Log;") (by decide +kernel)) rfl dX6_lastUndoneOwn_37 ?_
        refine lv_iload_n hx hb dX6_lastUndoneOwn_40 rfl (lv_at hl 0 rfl) ?_
        obtain ⟨r10, σ9, h8, hM⟩ := bnd_i hM
        refine x_callV (As := [.int r7]) (rest := []) hA ⟨hx, hb, hml, hown, hts⟩ (tX4_kindOf l D cA ad hJ r7 σ6 _ _ h8) (cwV 1 hts gX6_lastUndoneOwn_X4_kindOf rfl rfl rfl (by decide +kernel) ⟨(Nat.le_of_ble_eq_true rfl), (Nat.le_of_ble_eq_true rfl)⟩) hK hP hS KC_log rfl rfl hl.1 rfl (Nat.le_of_ble_eq_true rfl) ⟨Nat.zero_le _, Nat.zero_le _⟩ dX6_lastUndoneOwn_41 (fun H locs hP hS _ _ => ?_)
        refine lv_iconst (v := 1) hx hb dX6_lastUndoneOwn_44 (by decide) ?_
        refine lv_icmp_ne (tgt := 75) hx hb dX6_lastUndoneOwn_45 (by decide) (fun c11 => ?_) (fun c11 => ?_)
        · have hM := (if_neg c11).symm.trans hM
          refine lv_iinc (v := (x2 + (-1))) (lv' := [(2, .int (x2 + (-1))), (3, .int r7), (0, .ref (ad 62)), (1, .int x1)]) hx hb dX6_lastUndoneOwn_75 hl (k := 3) rfl rfl (by decide) rfl (fun ls hl => ?_)
          refine lv_goto (tgt := 25) hx hb dX6_lastUndoneOwn_78 (by decide) ?_
          exact ih25 _ _ _ _ _ _ hM hP hS (lv_sub hl [2, 3, 0] rfl)
        · have hM := (if_pos c11).symm.trans hM
          refine lv_aload_n hx hb dX6_lastUndoneOwn_48 rfl (lv_at hl 1 rfl) ?_
          refine x_getr (own := RX6) (C := RX6) (T := TX6) (N := 9) hx hb hts hinX6_X6_lastUndoneOwn hown hK hP KC_sb rfl 5 (by decide) (hts (.fieldLink RX6 45 "StrokeBoard" "board" "LStrokeBoard$Board;") (by decide +kernel)) rfl dX6_lastUndoneOwn_49 ?_
          refine lv_aload_n hx hb dX6_lastUndoneOwn_52 rfl (lv_at hl 1 rfl) ?_
          refine x_getr (own := RX6) (C := RX6) (T := TX6) (N := 9) hx hb hts hinX6_X6_lastUndoneOwn hown hK hP KC_sb rfl 0 (by decide) (hts (.fieldLink RX6 12 "StrokeBoard" "log" "LStrokeBoard$Log;") (by decide +kernel)) rfl dX6_lastUndoneOwn_53 ?_
          refine lv_iload_n hx hb dX6_lastUndoneOwn_56 rfl (lv_at hl 0 rfl) ?_
          obtain ⟨r14, σ13, h12, hM⟩ := bnd_i hM
          refine x_callV (As := [.int r7]) (rest := [.ref (ad (60 + 0))]) hA ⟨hx, hb, hml, hown, hts⟩ (tX4_targetOf l D cA ad hJ r7 σ9 _ _ h12) (cwV 1 hts gX6_lastUndoneOwn_X4_targetOf rfl rfl rfl (by decide +kernel) ⟨(Nat.le_of_ble_eq_true rfl), (Nat.le_of_ble_eq_true rfl)⟩) hK hP hS KC_log rfl rfl hl.1 rfl (Nat.le_of_ble_eq_true rfl) ⟨Nat.zero_le _, Nat.zero_le _⟩ dX6_lastUndoneOwn_57 (fun H locs hP hS _ _ => ?_)
          obtain ⟨r17, σ16, h15, hM⟩ := bnd_i hM
          refine x_callV (As := [.int r14]) (rest := []) hA ⟨hx, hb, hml, hown, hts⟩ (tX0_isUndone l D cA ad hJ 0 (by omega) r14 σ13 _ _ h15) (cwV 1 hts gX6_lastUndoneOwn_X0_isUndone rfl rfl rfl (by decide +kernel) ⟨(Nat.le_of_ble_eq_true rfl), (Nat.le_of_ble_eq_true rfl)⟩) hK hP hS (KC_brd 0 (by omega)) rfl rfl hl.1 rfl (Nat.le_of_ble_eq_true rfl) ⟨Nat.zero_le _, Nat.zero_le _⟩ dX6_lastUndoneOwn_60 (fun H locs hP hS _ _ => ?_)
          refine lv_if_eq (tgt := 75) hx hb dX6_lastUndoneOwn_63 (by decide) (fun c18 => ?_) (fun c18 => ?_)
          · have hM := (if_pos c18).symm.trans hM
            refine lv_iinc (v := (x2 + (-1))) (lv' := [(2, .int (x2 + (-1))), (3, .int r7), (0, .ref (ad 62)), (1, .int x1)]) hx hb dX6_lastUndoneOwn_75 hl (k := 3) rfl rfl (by decide) rfl (fun ls hl => ?_)
            refine lv_goto (tgt := 25) hx hb dX6_lastUndoneOwn_78 (by decide) ?_
            exact ih25 _ _ _ _ _ _ hM hP hS (lv_sub hl [2, 3, 0] rfl)
          · have hM := (if_neg c18).symm.trans hM
            exact b66 _ _ _ _ _ hM hP hS (lv_sub hl [1, 0] rfl)
  unfold mX6_lastUndoneOwn at hM
  refine lv_aload_n hx hb dX6_lastUndoneOwn_0 rfl (lv_at hl 0 rfl) ?_
  refine x_getr (own := RX6) (C := RX6) (T := TX6) (N := 9) hx hb hts hinX6_X6_lastUndoneOwn hown hK hP KC_sb rfl 5 (by decide) (hts (.fieldLink RX6 45 "StrokeBoard" "board" "LStrokeBoard$Board;") (by decide +kernel)) rfl dX6_lastUndoneOwn_1 ?_
  refine lv_aload_n hx hb dX6_lastUndoneOwn_4 rfl (lv_at hl 0 rfl) ?_
  refine x_getr (own := RX6) (C := RX6) (T := TX6) (N := 9) hx hb hts hinX6_X6_lastUndoneOwn hown hK hP KC_sb rfl 0 (by decide) (hts (.fieldLink RX6 12 "StrokeBoard" "log" "LStrokeBoard$Log;") (by decide +kernel)) rfl dX6_lastUndoneOwn_5 ?_
  refine lv_aload_n hx hb dX6_lastUndoneOwn_8 rfl (lv_at hl 0 rfl) ?_
  refine x_getr (own := RX6) (C := RX6) (T := TX6) (N := 9) hx hb hts hinX6_X6_lastUndoneOwn hown hK hP KC_sb rfl 2 (by decide) (hts (.fieldLink RX6 28 "StrokeBoard" "knowledge" "LStrokeBoard$Knowledge;") (by decide +kernel)) rfl dX6_lastUndoneOwn_9 ?_
  refine lv_iload_n hx hb dX6_lastUndoneOwn_12 rfl (lv_at hl 1 rfl) ?_
  obtain ⟨σ20, h19, hM⟩ := bnv_i hM
  refine x_callVv (As := [.ref (ad 54), .ref (ad (57 + 0)), .int u1]) (rest := []) hA ⟨hx, hb, hml, hown, hts⟩ (tX0_show l D cA ad hJ 0 (by omega) 0 (by omega) u1 σ _ h19) (cwV 3 hts gX6_lastUndoneOwn_X0_show rfl rfl rfl (by decide +kernel) ⟨(Nat.le_of_ble_eq_true rfl), (Nat.le_of_ble_eq_true rfl)⟩) hK hP hS (KC_brd 0 (by omega)) rfl rfl hl.1 rfl (Nat.le_of_ble_eq_true rfl) ⟨Nat.zero_le _, Nat.zero_le _⟩ dX6_lastUndoneOwn_13 (fun H locs hP hS _ _ => ?_)
  refine lv_aload_n hx hb dX6_lastUndoneOwn_16 rfl (lv_at hl 0 rfl) ?_
  refine x_getr (own := RX6) (C := RX6) (T := TX6) (N := 9) hx hb hts hinX6_X6_lastUndoneOwn hown hK hP KC_sb rfl 0 (by decide) (hts (.fieldLink RX6 12 "StrokeBoard" "log" "LStrokeBoard$Log;") (by decide +kernel)) rfl dX6_lastUndoneOwn_17 ?_
  refine lv_iload_n hx hb dX6_lastUndoneOwn_20 rfl (lv_at hl 1 rfl) ?_
  obtain ⟨r23, σ22, h21, hM⟩ := bnd_i hM
  refine x_callV (As := [.int u1]) (rest := []) hA ⟨hx, hb, hml, hown, hts⟩ (tX4_madeBy l D cA ad hJ u1 σ20 _ _ h21) (cwV 1 hts gX6_lastUndoneOwn_X4_madeBy rfl rfl rfl (by decide +kernel) ⟨(Nat.le_of_ble_eq_true rfl), (Nat.le_of_ble_eq_true rfl)⟩) hK hP hS KC_log rfl rfl hl.1 rfl (Nat.le_of_ble_eq_true rfl) ⟨Nat.zero_le _, Nat.zero_le _⟩ dX6_lastUndoneOwn_21 (fun H locs hP hS _ _ => ?_)
  refine lv_istore_n (lv' := [(2, .int r23), (0, .ref (ad 62)), (1, .int u1)]) hx hb dX6_lastUndoneOwn_24 rfl hl (by decide) rfl (fun ls hl => ?_)
  exact L25 fu _ _ _ _ _ _ hM hP hS (lv_sub hl [1, 2, 0] rfl)
set_option maxHeartbeats 4000000 in
set_option maxRecDepth 100000 in
theorem tX6_redo (l : Launch) (D : va_G) (cA : ClassId) (ad : Nat → Nat) (hJ : w_J ad KC) (u1 : Int32) (σ σ' : St) (r : Int32) (hM : mX6_redo u1 σ = some (r, σ')) : Ct l yX6_redo wsX6_redo 6 140 D cA ad KC [.ref (ad 62), .int u1] σ r σ' := by
  unfold Ct
  refine Met_of (cc := cX6_redo) (maxL := 2) (ret := (some .int)) hJ (by decide +kernel) rfl (Nat.le_of_ble_eq_true rfl) ?_
  intro p e s m below meth c Z H locs ls hP hS hl
  obtain ⟨hx, hb, hml, hown, hts, hr, hlk, hK, -⟩ := Z
  have hown : s.vm.findClass RX6 = some m.cls := hown
  have hl : lv_has ls 2 [(0, .ref (ad 62)), (1, .int u1)] := hl
  have hA : ∀ q, w_A ad KC q → w_A ad KC q := fun _ h => h
  unfold mX6_redo at hM
  refine lv_aload_n hx hb dX6_redo_0 rfl (lv_at hl 0 rfl) ?_
  refine lv_iload_n hx hb dX6_redo_1 rfl (lv_at hl 1 rfl) ?_
  obtain ⟨r3, σ2, h1, hM⟩ := bnd_i hM
  refine x_callV (As := [.int u1]) (rest := []) hA ⟨hx, hb, hml, hown, hts⟩ (tX6_isSite l D cA ad hJ u1 σ _ _ h1) (cwV 1 hts gX6_redo_X6_isSite rfl rfl rfl (by decide +kernel) ⟨(Nat.le_of_ble_eq_true rfl), (Nat.le_of_ble_eq_true rfl)⟩) hK hP hS KC_sb rfl rfl hl.1 rfl (Nat.le_of_ble_eq_true rfl) ⟨Nat.zero_le _, Nat.zero_le _⟩ dX6_redo_2 (fun H locs hP hS _ _ => ?_)
  refine lv_if_ne (tgt := 11) hx hb dX6_redo_5 (by decide) (fun c4 => ?_) (fun c4 => ?_)
  · have hM := (if_neg c4).symm.trans hM
    refine lv_aload_n hx hb dX6_redo_11 rfl (lv_at hl 0 rfl) ?_
    refine lv_iload_n hx hb dX6_redo_12 rfl (lv_at hl 1 rfl) ?_
    refine lv_iconst (v := 2) hx hb dX6_redo_13 (by decide) ?_
    refine lv_aload_n hx hb dX6_redo_14 rfl (lv_at hl 0 rfl) ?_
    refine lv_iload_n hx hb dX6_redo_15 rfl (lv_at hl 1 rfl) ?_
    obtain ⟨r7, σ6, h5, hM⟩ := bnd_i hM
    refine x_callV (As := [.int u1]) (rest := [.int 2, .int u1, .ref (ad 62)]) hA ⟨hx, hb, hml, hown, hts⟩ (tX6_lastUndoneOwn l D cA ad hJ u1 σ2 _ _ h5) (cwV 1 hts gX6_redo_X6_lastUndoneOwn rfl rfl rfl (by decide +kernel) ⟨(Nat.le_of_ble_eq_true rfl), (Nat.le_of_ble_eq_true rfl)⟩) hK hP hS KC_sb rfl rfl hl.1 rfl (Nat.le_of_ble_eq_true rfl) ⟨Nat.zero_le _, Nat.zero_le _⟩ dX6_redo_16 (fun H locs hP hS _ _ => ?_)
    obtain ⟨r10, σ9, h8, hM⟩ := bnd_i hM
    refine x_callV (As := [.int u1, .int 2, .int r7]) (rest := []) hA ⟨hx, hb, hml, hown, hts⟩ (tX6_changeOwn l D cA ad hJ u1 2 r7 σ6 _ _ h8) (cwV 3 hts gX6_redo_X6_changeOwn rfl rfl rfl (by decide +kernel) ⟨(Nat.le_of_ble_eq_true rfl), (Nat.le_of_ble_eq_true rfl)⟩) hK hP hS KC_sb rfl rfl hl.1 rfl (Nat.le_of_ble_eq_true rfl) ⟨Nat.zero_le _, Nat.zero_le _⟩ dX6_redo_19 (fun H locs hP hS _ _ => ?_)
    exact x_iret hx hb hr hlk hP hS hM dX6_redo_22
  · have hM := (if_pos c4).symm.trans hM
    refine lv_ldc (own := RX6) (v := (-1000000001)) hx hb hown (hts (.constant RX6 67 (-1000000001)) (by decide +kernel)) dX6_redo_8 ?_
    exact x_iret hx hb hr hlk hP hS hM dX6_redo_10
theorem hinX6_X6_lift : ∀ w ∈ u_ws RX6 TX6 9, w ∈ wsX6_lift := by decide +kernel
set_option maxHeartbeats 4000000 in
set_option maxRecDepth 100000 in
theorem tX6_lift (l : Launch) (D : va_G) (cA : ClassId) (ad : Nat → Nat) (hJ : w_J ad KC) (u1 u2 u3 : Int32) (σ σ' : St) (r : Int32) (hM : mX6_lift u1 u2 u3 σ = some (r, σ')) : Ct l yX6_lift wsX6_lift 5 117 D cA ad KC [.ref (ad 62), .int u1, .int u2, .int u3] σ r σ' := by
  unfold Ct
  refine Met_of (cc := cX6_lift) (maxL := 5) (ret := (some .int)) hJ (by decide +kernel) rfl (Nat.le_of_ble_eq_true rfl) ?_
  intro p e s m below meth c Z H locs ls hP hS hl
  obtain ⟨hx, hb, hml, hown, hts, hr, hlk, hK, -⟩ := Z
  have hown : s.vm.findClass RX6 = some m.cls := hown
  have hl : lv_has ls 5 [(0, .ref (ad 62)), (1, .int u1), (2, .int u2), (3, .int u3)] := hl
  have hA : ∀ q, w_A ad KC q → w_A ad KC q := fun _ h => h
  unfold mX6_lift at hM
  refine lv_aload_n hx hb dX6_lift_0 rfl (lv_at hl 0 rfl) ?_
  refine lv_iload_n hx hb dX6_lift_1 rfl (lv_at hl 1 rfl) ?_
  obtain ⟨r3, σ2, h1, hM⟩ := bnd_i hM
  refine x_callV (As := [.int u1]) (rest := []) hA ⟨hx, hb, hml, hown, hts⟩ (tX6_isSite l D cA ad hJ u1 σ _ _ h1) (cwV 1 hts gX6_lift_X6_isSite rfl rfl rfl (by decide +kernel) ⟨(Nat.le_of_ble_eq_true rfl), (Nat.le_of_ble_eq_true rfl)⟩) hK hP hS KC_sb rfl rfl hl.1 rfl (Nat.le_of_ble_eq_true rfl) ⟨Nat.zero_le _, Nat.zero_le _⟩ dX6_lift_2 (fun H locs hP hS _ _ => ?_)
  refine lv_if_eq (tgt := 21) hx hb dX6_lift_5 (by decide) (fun c4 => ?_) (fun c4 => ?_)
  · have hM := (if_pos c4).symm.trans hM
    refine lv_ldc (own := RX6) (v := (-1000000001)) hx hb hown (hts (.constant RX6 67 (-1000000001)) (by decide +kernel)) dX6_lift_21 ?_
    exact x_iret hx hb hr hlk hP hS hM dX6_lift_23
  · have hM := (if_neg c4).symm.trans hM
    refine lv_iload_n hx hb dX6_lift_8 rfl (lv_at hl 2 rfl) ?_
    refine lv_if_lt (tgt := 21) hx hb dX6_lift_9 (by decide) (fun c5 => ?_) (fun c5 => ?_)
    · have hM := (if_pos c5).symm.trans hM
      refine lv_ldc (own := RX6) (v := (-1000000001)) hx hb hown (hts (.constant RX6 67 (-1000000001)) (by decide +kernel)) dX6_lift_21 ?_
      exact x_iret hx hb hr hlk hP hS hM dX6_lift_23
    · have hM := (if_neg c5).symm.trans hM
      refine lv_iload_n hx hb dX6_lift_12 rfl (lv_at hl 3 rfl) ?_
      refine lv_iconst (v := 0) hx hb dX6_lift_13 (by decide) ?_
      refine lv_iconst (v := 3) hx hb dX6_lift_14 (by decide) ?_
      obtain ⟨r8, σ7, h6, hM⟩ := bnd_i hM
      refine x_callS (As := [.int u3, .int 0, .int 3]) (rest := []) hA ⟨hx, hb, hml, hown, hts⟩ (tX6_isWithin l D cA ad hJ u3 0 3 σ2 _ _ h6) (va_cwS 3 hts gX6_lift_X6_isWithin rfl rfl rfl (by decide +kernel) ⟨(Nat.le_of_ble_eq_true rfl), (Nat.le_of_ble_eq_true rfl)⟩) hK hP hS rfl hl.1 rfl (Nat.le_of_ble_eq_true rfl) ⟨Nat.zero_le _, Nat.zero_le _⟩ dX6_lift_15 (fun H locs hP hS => ?_)
      refine lv_if_ne (tgt := 24) hx hb dX6_lift_18 (by decide) (fun c9 => ?_) (fun c9 => ?_)
      · have hM := (if_neg c9).symm.trans hM
        refine lv_aload_n hx hb dX6_lift_24 rfl (lv_at hl 0 rfl) ?_
        refine x_getr (own := RX6) (C := RX6) (T := TX6) (N := 9) hx hb hts hinX6_X6_lift hown hK hP KC_sb rfl 5 (by decide) (hts (.fieldLink RX6 45 "StrokeBoard" "board" "LStrokeBoard$Board;") (by decide +kernel)) rfl dX6_lift_25 ?_
        refine lv_aload_n hx hb dX6_lift_28 rfl (lv_at hl 0 rfl) ?_
        refine x_getr (own := RX6) (C := RX6) (T := TX6) (N := 9) hx hb hts hinX6_X6_lift hown hK hP KC_sb rfl 0 (by decide) (hts (.fieldLink RX6 12 "StrokeBoard" "log" "LStrokeBoard$Log;") (by decide +kernel)) rfl dX6_lift_29 ?_
        refine lv_aload_n hx hb dX6_lift_32 rfl (lv_at hl 0 rfl) ?_
        refine x_getr (own := RX6) (C := RX6) (T := TX6) (N := 9) hx hb hts hinX6_X6_lift hown hK hP KC_sb rfl 2 (by decide) (hts (.fieldLink RX6 28 "StrokeBoard" "knowledge" "LStrokeBoard$Knowledge;") (by decide +kernel)) rfl dX6_lift_33 ?_
        refine lv_iload_n hx hb dX6_lift_36 rfl (lv_at hl 1 rfl) ?_
        obtain ⟨σ11, h10, hM⟩ := bnv_i hM
        refine x_callVv (As := [.ref (ad 54), .ref (ad (57 + 0)), .int u1]) (rest := []) hA ⟨hx, hb, hml, hown, hts⟩ (tX0_show l D cA ad hJ 0 (by omega) 0 (by omega) u1 σ7 _ h10) (cwV 3 hts gX6_lift_X0_show rfl rfl rfl (by decide +kernel) ⟨(Nat.le_of_ble_eq_true rfl), (Nat.le_of_ble_eq_true rfl)⟩) hK hP hS (KC_brd 0 (by omega)) rfl rfl hl.1 rfl (Nat.le_of_ble_eq_true rfl) ⟨Nat.zero_le _, Nat.zero_le _⟩ dX6_lift_37 (fun H locs hP hS _ _ => ?_)
        refine lv_iload_n hx hb dX6_lift_40 rfl (lv_at hl 2 rfl) ?_
        refine lv_aload_n hx hb dX6_lift_41 rfl (lv_at hl 0 rfl) ?_
        refine x_getr (own := RX6) (C := RX6) (T := TX6) (N := 9) hx hb hts hinX6_X6_lift hown hK hP KC_sb rfl 5 (by decide) (hts (.fieldLink RX6 45 "StrokeBoard" "board" "LStrokeBoard$Board;") (by decide +kernel)) rfl dX6_lift_42 ?_
        obtain ⟨r14, σ13, h12, hM⟩ := bnd_i hM
        refine x_callV (As := []) (rest := [.int u2]) hA ⟨hx, hb, hml, hown, hts⟩ (tX0_strokeCount l D cA ad hJ 0 (by omega) σ11 _ _ h12) (cwV 0 hts gX6_lift_X0_strokeCount rfl rfl rfl (by decide +kernel) ⟨(Nat.le_of_ble_eq_true rfl), (Nat.le_of_ble_eq_true rfl)⟩) hK hP hS (KC_brd 0 (by omega)) rfl rfl hl.1 rfl (Nat.le_of_ble_eq_true rfl) ⟨Nat.zero_le _, Nat.zero_le _⟩ dX6_lift_45 (fun H locs hP hS _ _ => ?_)
        refine lv_icmp_lt (tgt := 54) hx hb dX6_lift_48 (by decide) (fun c15 => ?_) (fun c15 => ?_)
        · have hM := (if_pos c15).symm.trans hM
          refine lv_aload_n hx hb dX6_lift_54 rfl (lv_at hl 0 rfl) ?_
          refine lv_iload_n hx hb dX6_lift_55 rfl (lv_at hl 1 rfl) ?_
          obtain ⟨r18, σ17, h16, hM⟩ := bnd_i hM
          refine x_callV (As := [.int u1]) (rest := []) hA ⟨hx, hb, hml, hown, hts⟩ (tX6_hasMadeAll l D cA ad hJ u1 σ13 _ _ h16) (cwV 1 hts gX6_lift_X6_hasMadeAll rfl rfl rfl (by decide +kernel) ⟨(Nat.le_of_ble_eq_true rfl), (Nat.le_of_ble_eq_true rfl)⟩) hK hP hS KC_sb rfl rfl hl.1 rfl (Nat.le_of_ble_eq_true rfl) ⟨Nat.zero_le _, Nat.zero_le _⟩ dX6_lift_56 (fun H locs hP hS _ _ => ?_)
          refine lv_if_eq (tgt := 65) hx hb dX6_lift_59 (by decide) (fun c19 => ?_) (fun c19 => ?_)
          · have hM := (if_pos c19).symm.trans hM
            refine lv_aload_n hx hb dX6_lift_65 rfl (lv_at hl 0 rfl) ?_
            refine x_getr (own := RX6) (C := RX6) (T := TX6) (N := 9) hx hb hts hinX6_X6_lift hown hK hP KC_sb rfl 0 (by decide) (hts (.fieldLink RX6 12 "StrokeBoard" "log" "LStrokeBoard$Log;") (by decide +kernel)) rfl dX6_lift_66 ?_
            refine lv_iload_n hx hb dX6_lift_69 rfl (lv_at hl 1 rfl) ?_
            refine lv_aload_n hx hb dX6_lift_70 rfl (lv_at hl 0 rfl) ?_
            refine lv_iload_n hx hb dX6_lift_71 rfl (lv_at hl 1 rfl) ?_
            obtain ⟨r22, σ21, h20, hM⟩ := bnd_i hM
            refine x_callV (As := [.int u1]) (rest := [.int u1, .ref (ad 54)]) hA ⟨hx, hb, hml, hown, hts⟩ (tX6_tick l D cA ad hJ u1 σ17 _ _ h20) (cwV 1 hts gX6_lift_X6_tick rfl rfl rfl (by decide +kernel) ⟨(Nat.le_of_ble_eq_true rfl), (Nat.le_of_ble_eq_true rfl)⟩) hK hP hS KC_sb rfl rfl hl.1 rfl (Nat.le_of_ble_eq_true rfl) ⟨Nat.zero_le _, Nat.zero_le _⟩ dX6_lift_72 (fun H locs hP hS _ _ => ?_)
            refine lv_iconst (v := 3) hx hb dX6_lift_75 (by decide) ?_
            refine lv_aload_n hx hb dX6_lift_76 rfl (lv_at hl 0 rfl) ?_
            refine x_getr (own := RX6) (C := RX6) (T := TX6) (N := 9) hx hb hts hinX6_X6_lift hown hK hP KC_sb rfl 5 (by decide) (hts (.fieldLink RX6 45 "StrokeBoard" "board" "LStrokeBoard$Board;") (by decide +kernel)) rfl dX6_lift_77 ?_
            refine lv_iload_n hx hb dX6_lift_80 rfl (lv_at hl 2 rfl) ?_
            obtain ⟨r25, σ24, h23, hM⟩ := bnd_i hM
            refine x_callV (As := [.int u2]) (rest := [.int 3, .int r22, .int u1, .ref (ad 54)]) hA ⟨hx, hb, hml, hown, hts⟩ (tX0_strokeIn l D cA ad hJ 0 (by omega) u2 σ21 _ _ h23) (cwV 1 hts gX6_lift_X0_strokeIn rfl rfl rfl (by decide +kernel) ⟨(Nat.le_of_ble_eq_true rfl), (Nat.le_of_ble_eq_true rfl)⟩) hK hP hS (KC_brd 0 (by omega)) rfl rfl hl.1 rfl (Nat.le_of_ble_eq_true rfl) ⟨Nat.zero_le _, Nat.zero_le _⟩ dX6_lift_81 (fun H locs hP hS _ _ => ?_)
            refine lv_iload_n hx hb dX6_lift_84 rfl (lv_at hl 3 rfl) ?_
            obtain ⟨r28, σ27, h26, hM⟩ := bnd_i hM
            refine x_callV (As := [.int u1, .int r22, .int 3, .int r25, .int u3]) (rest := []) hA ⟨hx, hb, hml, hown, hts⟩ (tX4_addChange l D cA ad hJ u1 r22 3 r25 u3 σ24 _ _ h26) (cwV 5 hts gX6_lift_X4_addChange rfl rfl rfl (by decide +kernel) ⟨(Nat.le_of_ble_eq_true rfl), (Nat.le_of_ble_eq_true rfl)⟩) hK hP hS KC_log rfl rfl hl.1 rfl (Nat.le_of_ble_eq_true rfl) ⟨Nat.zero_le _, Nat.zero_le _⟩ dX6_lift_85 (fun H locs hP hS _ _ => ?_)
            refine lv_istore (lv' := [(4, .int r28), (0, .ref (ad 62)), (1, .int u1), (2, .int u2), (3, .int u3)]) hx hb dX6_lift_88 hl (by decide) rfl (fun ls hl => ?_)
            refine lv_aload_n hx hb dX6_lift_90 rfl (lv_at hl 1 rfl) ?_
            refine lv_iload_n hx hb dX6_lift_91 rfl (lv_at hl 2 rfl) ?_
            refine lv_iload hx hb dX6_lift_92 (lv_at hl 0 rfl) ?_
            obtain ⟨σ30, h29, hM⟩ := bnv_i hM
            refine x_callVv (As := [.int u1, .int r28]) (rest := []) hA ⟨hx, hb, hml, hown, hts⟩ (tX6_publish l D cA ad hJ u1 r28 σ27 _ h29) (cwV 2 hts gX6_lift_X6_publish rfl rfl rfl (by decide +kernel) ⟨(Nat.le_of_ble_eq_true rfl), (Nat.le_of_ble_eq_true rfl)⟩) hK hP hS KC_sb rfl rfl hl.1 rfl (Nat.le_of_ble_eq_true rfl) ⟨Nat.zero_le _, Nat.zero_le _⟩ dX6_lift_94 (fun H locs hP hS _ _ => ?_)
            refine lv_iload hx hb dX6_lift_97 (lv_at hl 0 rfl) ?_
            obtain ⟨r33, σ32, h31, hM⟩ := bnd_i hM
            refine x_callS (As := [.int r28]) (rest := []) hA ⟨hx, hb, hml, hown, hts⟩ (tX6_numberOf l D cA ad hJ r28 σ30 _ _ h31) (va_cwS 1 hts gX6_lift_X6_numberOf rfl rfl rfl (by decide +kernel) ⟨(Nat.le_of_ble_eq_true rfl), (Nat.le_of_ble_eq_true rfl)⟩) hK hP hS rfl hl.1 rfl (Nat.le_of_ble_eq_true rfl) ⟨Nat.zero_le _, Nat.zero_le _⟩ dX6_lift_99 (fun H locs hP hS => ?_)
            exact x_iret hx hb hr hlk hP hS hM dX6_lift_102
          · have hM := (if_neg c19).symm.trans hM
            refine lv_ldc (own := RX6) (v := (-1000000003)) hx hb hown (hts (.constant RX6 77 (-1000000003)) (by decide +kernel)) dX6_lift_62 ?_
            exact x_iret hx hb hr hlk hP hS hM dX6_lift_64
        · have hM := (if_neg c15).symm.trans hM
          refine lv_ldc (own := RX6) (v := (-1000000002)) hx hb hown (hts (.constant RX6 110 (-1000000002)) (by decide +kernel)) dX6_lift_51 ?_
          exact x_iret hx hb hr hlk hP hS hM dX6_lift_53
      · have hM := (if_pos c9).symm.trans hM
        refine lv_ldc (own := RX6) (v := (-1000000001)) hx hb hown (hts (.constant RX6 67 (-1000000001)) (by decide +kernel)) dX6_lift_21 ?_
        exact x_iret hx hb hr hlk hP hS hM dX6_lift_23
set_option maxHeartbeats 4000000 in
set_option maxRecDepth 100000 in
theorem tX6_areTwoSites (l : Launch) (D : va_G) (cA : ClassId) (ad : Nat → Nat) (hJ : w_J ad KC) (u1 u2 : Int32) (σ σ' : St) (r : Int32) (hM : mX6_areTwoSites u1 u2 σ = some (r, σ')) : Ct l yX6_areTwoSites wsX6_areTwoSites 2 43 D cA ad KC [.ref (ad 62), .int u1, .int u2] σ r σ' := by
  unfold Ct
  refine Met_of (cc := cX6_areTwoSites) (maxL := 3) (ret := (some .boolean)) hJ (by decide +kernel) rfl (Nat.le_of_ble_eq_true rfl) ?_
  intro p e s m below meth c Z H locs ls hP hS hl
  obtain ⟨hx, hb, hml, hown, hts, hr, hlk, hK, -⟩ := Z
  have hown : s.vm.findClass RX6 = some m.cls := hown
  have hl : lv_has ls 3 [(0, .ref (ad 62)), (1, .int u1), (2, .int u2)] := hl
  have hA : ∀ q, w_A ad KC q → w_A ad KC q := fun _ h => h
  unfold mX6_areTwoSites at hM
  refine lv_aload_n hx hb dX6_areTwoSites_0 rfl (lv_at hl 0 rfl) ?_
  refine lv_iload_n hx hb dX6_areTwoSites_1 rfl (lv_at hl 1 rfl) ?_
  obtain ⟨r3, σ2, h1, hM⟩ := bnd_i hM
  refine x_callV (As := [.int u1]) (rest := []) hA ⟨hx, hb, hml, hown, hts⟩ (tX6_isSite l D cA ad hJ u1 σ _ _ h1) (cwV 1 hts gX6_areTwoSites_X6_isSite rfl rfl rfl (by decide +kernel) ⟨(Nat.le_of_ble_eq_true rfl), (Nat.le_of_ble_eq_true rfl)⟩) hK hP hS KC_sb rfl rfl hl.1 rfl (Nat.le_of_ble_eq_true rfl) ⟨Nat.zero_le _, Nat.zero_le _⟩ dX6_areTwoSites_2 (fun H locs hP hS _ _ => ?_)
  refine lv_if_eq (tgt := 25) hx hb dX6_areTwoSites_5 (by decide) (fun c4 => ?_) (fun c4 => ?_)
  · have hM := (if_pos c4).symm.trans hM
    refine lv_iconst (v := 0) hx hb dX6_areTwoSites_25 (by decide) ?_
    exact x_zret hx hb hr hlk hP hS hM dX6_areTwoSites_26
  · have hM := (if_neg c4).symm.trans hM
    refine lv_aload_n hx hb dX6_areTwoSites_8 rfl (lv_at hl 0 rfl) ?_
    refine lv_iload_n hx hb dX6_areTwoSites_9 rfl (lv_at hl 2 rfl) ?_
    obtain ⟨r7, σ6, h5, hM⟩ := bnd_i hM
    refine x_callV (As := [.int u2]) (rest := []) hA ⟨hx, hb, hml, hown, hts⟩ (tX6_isSite l D cA ad hJ u2 σ2 _ _ h5) (cwV 1 hts gX6_areTwoSites_X6_isSite rfl rfl rfl (by decide +kernel) ⟨(Nat.le_of_ble_eq_true rfl), (Nat.le_of_ble_eq_true rfl)⟩) hK hP hS KC_sb rfl rfl hl.1 rfl (Nat.le_of_ble_eq_true rfl) ⟨Nat.zero_le _, Nat.zero_le _⟩ dX6_areTwoSites_10 (fun H locs hP hS _ _ => ?_)
    refine lv_if_eq (tgt := 25) hx hb dX6_areTwoSites_13 (by decide) (fun c8 => ?_) (fun c8 => ?_)
    · have hM := (if_pos c8).symm.trans hM
      refine lv_iconst (v := 0) hx hb dX6_areTwoSites_25 (by decide) ?_
      exact x_zret hx hb hr hlk hP hS hM dX6_areTwoSites_26
    · have hM := (if_neg c8).symm.trans hM
      refine lv_iload_n hx hb dX6_areTwoSites_16 rfl (lv_at hl 1 rfl) ?_
      refine lv_iload_n hx hb dX6_areTwoSites_17 rfl (lv_at hl 2 rfl) ?_
      refine lv_icmp_eq (tgt := 25) hx hb dX6_areTwoSites_18 (by decide) (fun c9 => ?_) (fun c9 => ?_)
      · have hM := (if_pos c9).symm.trans hM
        refine lv_iconst (v := 0) hx hb dX6_areTwoSites_25 (by decide) ?_
        exact x_zret hx hb hr hlk hP hS hM dX6_areTwoSites_26
      · have hM := (if_neg c9).symm.trans hM
        refine lv_iconst (v := 1) hx hb dX6_areTwoSites_21 (by decide) ?_
        refine lv_goto (tgt := 26) hx hb dX6_areTwoSites_22 (by decide) ?_
        exact x_zret hx hb hr hlk hP hS hM dX6_areTwoSites_26
theorem hinX6_X6_receive : ∀ w ∈ u_ws RX6 TX6 9, w ∈ wsX6_receive := by decide +kernel
set_option maxHeartbeats 4000000 in
set_option maxRecDepth 100000 in
theorem tX6_receive (l : Launch) (D : va_G) (cA : ClassId) (ad : Nat → Nat) (hJ : w_J ad KC) (u1 u2 : Int32) (σ σ' : St) (hM : mX6_receive u1 u2 σ = some σ') : Cv l yX6_receive wsX6_receive 2 44 D cA ad KC [.ref (ad 62), .int u1, .int u2] σ σ' := by
  unfold Cv
  refine Met_of (cc := cX6_receive) (maxL := 3) (ret := none) hJ (by decide +kernel) rfl (Nat.le_of_ble_eq_true rfl) ?_
  intro p e s m below meth c Z H locs ls hP hS hl
  obtain ⟨hx, hb, hml, hown, hts, hr, hlk, hK, -⟩ := Z
  have hown : s.vm.findClass RX6 = some m.cls := hown
  have hl : lv_has ls 3 [(0, .ref (ad 62)), (1, .int u1), (2, .int u2)] := hl
  have hA : ∀ q, w_A ad KC q → w_A ad KC q := fun _ h => h
  unfold mX6_receive at hM
  refine lv_aload_n hx hb dX6_receive_0 rfl (lv_at hl 0 rfl) ?_
  refine x_getr (own := RX6) (C := RX6) (T := TX6) (N := 9) hx hb hts hinX6_X6_receive hown hK hP KC_sb rfl 2 (by decide) (hts (.fieldLink RX6 28 "StrokeBoard" "knowledge" "LStrokeBoard$Knowledge;") (by decide +kernel)) rfl dX6_receive_1 ?_
  refine lv_iload_n hx hb dX6_receive_4 rfl (lv_at hl 1 rfl) ?_
  refine lv_iload_n hx hb dX6_receive_5 rfl (lv_at hl 2 rfl) ?_
  obtain ⟨σ2, h1, hM⟩ := bnv_i hM
  refine x_callVv (As := [.int u1, .int u2]) (rest := []) hA ⟨hx, hb, hml, hown, hts⟩ (tX2_learn l D cA ad hJ 0 (by omega) u1 u2 σ _ h1) (cwV 2 hts gX6_receive_X2_learn rfl rfl rfl (by decide +kernel) ⟨(Nat.le_of_ble_eq_true rfl), (Nat.le_of_ble_eq_true rfl)⟩) hK hP hS (KC_kno 0 (by omega)) rfl rfl hl.1 rfl (Nat.le_of_ble_eq_true rfl) ⟨Nat.zero_le _, Nat.zero_le _⟩ dX6_receive_6 (fun H locs hP hS _ _ => ?_)
  refine lv_aload_n hx hb dX6_receive_9 rfl (lv_at hl 0 rfl) ?_
  refine x_getr (own := RX6) (C := RX6) (T := TX6) (N := 9) hx hb hts hinX6_X6_receive hown hK hP KC_sb rfl 7 (by decide) (hts (.fieldLink RX6 55 "StrokeBoard" "clocks" "LStrokeBoard$Row;") (by decide +kernel)) rfl dX6_receive_10 ?_
  refine lv_iload_n hx hb dX6_receive_13 rfl (lv_at hl 1 rfl) ?_
  refine lv_aload_n hx hb dX6_receive_14 rfl (lv_at hl 0 rfl) ?_
  refine x_getr (own := RX6) (C := RX6) (T := TX6) (N := 9) hx hb hts hinX6_X6_receive hown hK hP KC_sb rfl 7 (by decide) (hts (.fieldLink RX6 55 "StrokeBoard" "clocks" "LStrokeBoard$Row;") (by decide +kernel)) rfl dX6_receive_15 ?_
  refine lv_iload_n hx hb dX6_receive_18 rfl (lv_at hl 1 rfl) ?_
  obtain ⟨r5, σ4, h3, hM⟩ := bnd_i hM
  refine x_callV (As := [.int u1]) (rest := [.int u1, .ref (ad (2 * 26))]) hA ⟨hx, hb, hml, hown, hts⟩ (tX5_get l D cA ad hJ 26 (by omega) u1 σ2 _ _ h3) (cwV 1 hts gX6_receive_X5_get rfl rfl rfl (by decide +kernel) ⟨(Nat.le_of_ble_eq_true rfl), (Nat.le_of_ble_eq_true rfl)⟩) hK hP hS (KC_row 26 (by omega)) rfl rfl hl.1 rfl (Nat.le_of_ble_eq_true rfl) ⟨Nat.zero_le _, Nat.zero_le _⟩ dX6_receive_19 (fun H locs hP hS _ _ => ?_)
  refine lv_aload_n hx hb dX6_receive_22 rfl (lv_at hl 0 rfl) ?_
  refine x_getr (own := RX6) (C := RX6) (T := TX6) (N := 9) hx hb hts hinX6_X6_receive hown hK hP KC_sb rfl 0 (by decide) (hts (.fieldLink RX6 12 "StrokeBoard" "log" "LStrokeBoard$Log;") (by decide +kernel)) rfl dX6_receive_23 ?_
  refine lv_iload_n hx hb dX6_receive_26 rfl (lv_at hl 2 rfl) ?_
  obtain ⟨r8, σ7, h6, hM⟩ := bnd_i hM
  refine x_callV (As := [.int u2]) (rest := [.int r5, .int u1, .ref (ad (2 * 26))]) hA ⟨hx, hb, hml, hown, hts⟩ (tX4_timeOf l D cA ad hJ u2 σ4 _ _ h6) (cwV 1 hts gX6_receive_X4_timeOf rfl rfl rfl (by decide +kernel) ⟨(Nat.le_of_ble_eq_true rfl), (Nat.le_of_ble_eq_true rfl)⟩) hK hP hS KC_log rfl rfl hl.1 rfl (Nat.le_of_ble_eq_true rfl) ⟨Nat.zero_le _, Nat.zero_le _⟩ dX6_receive_27 (fun H locs hP hS _ _ => ?_)
  refine va_mmax hx hb (hml.trans hl.1.symm) hown (hts (.methodLink RX6 190 Lib.Math.max.name) (by decide +kernel)) (hts (.static Lib.Math.max.name) (by decide +kernel)) (hts (.initialized "java/lang/Math") (by decide +kernel)) (hts (.code Lib.Math.max.name Lib.Math.max.code 2 (some .int)) (by decide +kernel)) (Nat.le_of_ble_eq_true rfl) (Nat.le_of_ble_eq_true rfl) (Nat.zero_le _) (Nat.zero_le _) dX6_receive_30 ?_
  refine lv_topi (fun z9 ez9 => ?_)
  have hM := lti_u ez9 hM
  obtain ⟨σ11, h10, hM⟩ := bnv_i hM
  refine x_callVv (As := [.int u1, .int z9]) (rest := []) hA ⟨hx, hb, hml, hown, hts⟩ (tX5_set l D cA ad hJ 26 (by omega) u1 z9 σ7 _ h10) (cwV 2 hts gX6_receive_X5_set rfl rfl rfl (by decide +kernel) ⟨(Nat.le_of_ble_eq_true rfl), (Nat.le_of_ble_eq_true rfl)⟩) hK hP hS (KC_row 26 (by omega)) rfl rfl hl.1 rfl (Nat.le_of_ble_eq_true rfl) ⟨Nat.zero_le _, Nat.zero_le _⟩ dX6_receive_33 (fun H locs hP hS _ _ => ?_)
  exact x_vret hx hb hr hlk hP hS hM dX6_receive_36
theorem hinX6_X6_deliver : ∀ w ∈ u_ws RX6 TX6 9, w ∈ wsX6_deliver := by decide +kernel
set_option maxHeartbeats 4000000 in
set_option maxRecDepth 100000 in
theorem tX6_deliver (l : Launch) (D : va_G) (cA : ClassId) (ad : Nat → Nat) (hJ : w_J ad KC) (u1 u2 : Int32) (σ σ' : St) (r : Int32) (hM : mX6_deliver u1 u2 σ = some (r, σ')) : Ct l yX6_deliver wsX6_deliver 3 66 D cA ad KC [.ref (ad 62), .int u1, .int u2] σ r σ' := by
  unfold Ct
  refine Met_of (cc := cX6_deliver) (maxL := 4) (ret := (some .int)) hJ (by decide +kernel) rfl (Nat.le_of_ble_eq_true rfl) ?_
  intro p e s m below meth c Z H locs ls hP hS hl
  obtain ⟨hx, hb, hml, hown, hts, hr, hlk, hK, -⟩ := Z
  have hown : s.vm.findClass RX6 = some m.cls := hown
  have hl : lv_has ls 4 [(0, .ref (ad 62)), (1, .int u1), (2, .int u2)] := hl
  have hA : ∀ q, w_A ad KC q → w_A ad KC q := fun _ h => h
  unfold mX6_deliver at hM
  refine lv_aload_n hx hb dX6_deliver_0 rfl (lv_at hl 0 rfl) ?_
  refine lv_iload_n hx hb dX6_deliver_1 rfl (lv_at hl 1 rfl) ?_
  refine lv_iload_n hx hb dX6_deliver_2 rfl (lv_at hl 2 rfl) ?_
  obtain ⟨r3, σ2, h1, hM⟩ := bnd_i hM
  refine x_callV (As := [.int u1, .int u2]) (rest := []) hA ⟨hx, hb, hml, hown, hts⟩ (tX6_areTwoSites l D cA ad hJ u1 u2 σ _ _ h1) (cwV 2 hts gX6_deliver_X6_areTwoSites rfl rfl rfl (by decide +kernel) ⟨(Nat.le_of_ble_eq_true rfl), (Nat.le_of_ble_eq_true rfl)⟩) hK hP hS KC_sb rfl rfl hl.1 rfl (Nat.le_of_ble_eq_true rfl) ⟨Nat.zero_le _, Nat.zero_le _⟩ dX6_deliver_3 (fun H locs hP hS _ _ => ?_)
  refine lv_if_ne (tgt := 12) hx hb dX6_deliver_6 (by decide) (fun c4 => ?_) (fun c4 => ?_)
  · have hM := (if_neg c4).symm.trans hM
    refine lv_aload_n hx hb dX6_deliver_12 rfl (lv_at hl 0 rfl) ?_
    refine x_getr (own := RX6) (C := RX6) (T := TX6) (N := 9) hx hb hts hinX6_X6_deliver hown hK hP KC_sb rfl 4 (by decide) (hts (.fieldLink RX6 38 "StrokeBoard" "links" "LStrokeBoard$Links;") (by decide +kernel)) rfl dX6_deliver_13 ?_
    refine lv_iload_n hx hb dX6_deliver_16 rfl (lv_at hl 1 rfl) ?_
    refine lv_iload_n hx hb dX6_deliver_17 rfl (lv_at hl 2 rfl) ?_
    obtain ⟨r7, σ6, h5, hM⟩ := bnd_i hM
    refine x_callV (As := [.int u1, .int u2]) (rest := []) hA ⟨hx, hb, hml, hown, hts⟩ (tX3_countIn l D cA ad hJ u1 u2 σ2 _ _ h5) (cwV 2 hts gX6_deliver_X3_countIn rfl rfl rfl (by decide +kernel) ⟨(Nat.le_of_ble_eq_true rfl), (Nat.le_of_ble_eq_true rfl)⟩) hK hP hS KC_lnk rfl rfl hl.1 rfl (Nat.le_of_ble_eq_true rfl) ⟨Nat.zero_le _, Nat.zero_le _⟩ dX6_deliver_18 (fun H locs hP hS _ _ => ?_)
    refine lv_if_ne (tgt := 27) hx hb dX6_deliver_21 (by decide) (fun c8 => ?_) (fun c8 => ?_)
    · have hM := (if_neg c8).symm.trans hM
      refine lv_aload_n hx hb dX6_deliver_27 rfl (lv_at hl 0 rfl) ?_
      refine x_getr (own := RX6) (C := RX6) (T := TX6) (N := 9) hx hb hts hinX6_X6_deliver hown hK hP KC_sb rfl 4 (by decide) (hts (.fieldLink RX6 38 "StrokeBoard" "links" "LStrokeBoard$Links;") (by decide +kernel)) rfl dX6_deliver_28 ?_
      refine lv_iload_n hx hb dX6_deliver_31 rfl (lv_at hl 1 rfl) ?_
      refine lv_iload_n hx hb dX6_deliver_32 rfl (lv_at hl 2 rfl) ?_
      refine lv_iconst (v := 0) hx hb dX6_deliver_33 (by decide) ?_
      obtain ⟨r11, σ10, h9, hM⟩ := bnd_i hM
      refine x_callV (As := [.int u1, .int u2, .int 0]) (rest := []) hA ⟨hx, hb, hml, hown, hts⟩ (tX3_messageIn l D cA ad hJ u1 u2 0 σ6 _ _ h9) (cwV 3 hts gX6_deliver_X3_messageIn rfl rfl rfl (by decide +kernel) ⟨(Nat.le_of_ble_eq_true rfl), (Nat.le_of_ble_eq_true rfl)⟩) hK hP hS KC_lnk rfl rfl hl.1 rfl (Nat.le_of_ble_eq_true rfl) ⟨Nat.zero_le _, Nat.zero_le _⟩ dX6_deliver_34 (fun H locs hP hS _ _ => ?_)
      refine lv_istore_n (lv' := [(3, .int r11), (0, .ref (ad 62)), (1, .int u1), (2, .int u2)]) hx hb dX6_deliver_37 rfl hl (by decide) rfl (fun ls hl => ?_)
      refine lv_aload_n hx hb dX6_deliver_38 rfl (lv_at hl 1 rfl) ?_
      refine x_getr (own := RX6) (C := RX6) (T := TX6) (N := 9) hx hb hts hinX6_X6_deliver hown hK hP KC_sb rfl 4 (by decide) (hts (.fieldLink RX6 38 "StrokeBoard" "links" "LStrokeBoard$Links;") (by decide +kernel)) rfl dX6_deliver_39 ?_
      refine lv_iload_n hx hb dX6_deliver_42 rfl (lv_at hl 2 rfl) ?_
      refine lv_iload_n hx hb dX6_deliver_43 rfl (lv_at hl 3 rfl) ?_
      obtain ⟨σ13, h12, hM⟩ := bnv_i hM
      refine x_callVv (As := [.int u1, .int u2]) (rest := []) hA ⟨hx, hb, hml, hown, hts⟩ (tX3_dropFirst l D cA ad hJ u1 u2 σ10 _ h12) (cwV 2 hts gX6_deliver_X3_dropFirst rfl rfl rfl (by decide +kernel) ⟨(Nat.le_of_ble_eq_true rfl), (Nat.le_of_ble_eq_true rfl)⟩) hK hP hS KC_lnk rfl rfl hl.1 rfl (Nat.le_of_ble_eq_true rfl) ⟨Nat.zero_le _, Nat.zero_le _⟩ dX6_deliver_44 (fun H locs hP hS _ _ => ?_)
      refine lv_aload_n hx hb dX6_deliver_47 rfl (lv_at hl 1 rfl) ?_
      refine lv_iload_n hx hb dX6_deliver_48 rfl (lv_at hl 3 rfl) ?_
      refine lv_iload_n hx hb dX6_deliver_49 rfl (lv_at hl 0 rfl) ?_
      obtain ⟨σ15, h14, hM⟩ := bnv_i hM
      refine x_callVv (As := [.int u2, .int r11]) (rest := []) hA ⟨hx, hb, hml, hown, hts⟩ (tX6_receive l D cA ad hJ u2 r11 σ13 _ h14) (cwV 2 hts gX6_deliver_X6_receive rfl rfl rfl (by decide +kernel) ⟨(Nat.le_of_ble_eq_true rfl), (Nat.le_of_ble_eq_true rfl)⟩) hK hP hS KC_sb rfl rfl hl.1 rfl (Nat.le_of_ble_eq_true rfl) ⟨Nat.zero_le _, Nat.zero_le _⟩ dX6_deliver_50 (fun H locs hP hS _ _ => ?_)
      refine lv_bipush (v := 100) hx hb dX6_deliver_53 (by decide) ?_
      refine lv_iload_n hx hb dX6_deliver_55 rfl (lv_at hl 0 rfl) ?_
      obtain ⟨r18, σ17, h16, hM⟩ := bnd_i hM
      refine x_callS (As := [.int r11]) (rest := [.int 100]) hA ⟨hx, hb, hml, hown, hts⟩ (tX6_authorOf l D cA ad hJ r11 σ15 _ _ h16) (va_cwS 1 hts gX6_deliver_X6_authorOf rfl rfl rfl (by decide +kernel) ⟨(Nat.le_of_ble_eq_true rfl), (Nat.le_of_ble_eq_true rfl)⟩) hK hP hS rfl hl.1 rfl (Nat.le_of_ble_eq_true rfl) ⟨Nat.zero_le _, Nat.zero_le _⟩ dX6_deliver_56 (fun H locs hP hS => ?_)
      refine lv_imul hx hb dX6_deliver_59 ?_
      refine lv_iload_n hx hb dX6_deliver_60 rfl (lv_at hl 0 rfl) ?_
      obtain ⟨r21, σ20, h19, hM⟩ := bnd_i hM
      refine x_callS (As := [.int r11]) (rest := [.int (100 * r18)]) hA ⟨hx, hb, hml, hown, hts⟩ (tX6_numberOf l D cA ad hJ r11 σ17 _ _ h19) (va_cwS 1 hts gX6_deliver_X6_numberOf rfl rfl rfl (by decide +kernel) ⟨(Nat.le_of_ble_eq_true rfl), (Nat.le_of_ble_eq_true rfl)⟩) hK hP hS rfl hl.1 rfl (Nat.le_of_ble_eq_true rfl) ⟨Nat.zero_le _, Nat.zero_le _⟩ dX6_deliver_61 (fun H locs hP hS => ?_)
      refine lv_iadd hx hb dX6_deliver_64 ?_
      exact x_iret hx hb hr hlk hP hS hM dX6_deliver_65
    · have hM := (if_pos c8).symm.trans hM
      refine lv_ldc (own := RX6) (v := (-1000000004)) hx hb hown (hts (.constant RX6 162 (-1000000004)) (by decide +kernel)) dX6_deliver_24 ?_
      exact x_iret hx hb hr hlk hP hS hM dX6_deliver_26
  · have hM := (if_pos c4).symm.trans hM
    refine lv_ldc (own := RX6) (v := (-1000000001)) hx hb hown (hts (.constant RX6 67 (-1000000001)) (by decide +kernel)) dX6_deliver_9 ?_
    exact x_iret hx hb hr hlk hP hS hM dX6_deliver_11
theorem hinX6_X6_lose : ∀ w ∈ u_ws RX6 TX6 9, w ∈ wsX6_lose := by decide +kernel
set_option maxHeartbeats 4000000 in
set_option maxRecDepth 100000 in
theorem tX6_lose (l : Launch) (D : va_G) (cA : ClassId) (ad : Nat → Nat) (hJ : w_J ad KC) (u1 u2 : Int32) (σ σ' : St) (r : Int32) (hM : mX6_lose u1 u2 σ = some (r, σ')) : Ct l yX6_lose wsX6_lose 3 65 D cA ad KC [.ref (ad 62), .int u1, .int u2] σ r σ' := by
  unfold Ct
  refine Met_of (cc := cX6_lose) (maxL := 3) (ret := (some .int)) hJ (by decide +kernel) rfl (Nat.le_of_ble_eq_true rfl) ?_
  intro p e s m below meth c Z H locs ls hP hS hl
  obtain ⟨hx, hb, hml, hown, hts, hr, hlk, hK, -⟩ := Z
  have hown : s.vm.findClass RX6 = some m.cls := hown
  have hl : lv_has ls 3 [(0, .ref (ad 62)), (1, .int u1), (2, .int u2)] := hl
  have hA : ∀ q, w_A ad KC q → w_A ad KC q := fun _ h => h
  unfold mX6_lose at hM
  refine lv_aload_n hx hb dX6_lose_0 rfl (lv_at hl 0 rfl) ?_
  refine lv_iload_n hx hb dX6_lose_1 rfl (lv_at hl 1 rfl) ?_
  refine lv_iload_n hx hb dX6_lose_2 rfl (lv_at hl 2 rfl) ?_
  obtain ⟨r3, σ2, h1, hM⟩ := bnd_i hM
  refine x_callV (As := [.int u1, .int u2]) (rest := []) hA ⟨hx, hb, hml, hown, hts⟩ (tX6_areTwoSites l D cA ad hJ u1 u2 σ _ _ h1) (cwV 2 hts gX6_lose_X6_areTwoSites rfl rfl rfl (by decide +kernel) ⟨(Nat.le_of_ble_eq_true rfl), (Nat.le_of_ble_eq_true rfl)⟩) hK hP hS KC_sb rfl rfl hl.1 rfl (Nat.le_of_ble_eq_true rfl) ⟨Nat.zero_le _, Nat.zero_le _⟩ dX6_lose_3 (fun H locs hP hS _ _ => ?_)
  refine lv_if_ne (tgt := 12) hx hb dX6_lose_6 (by decide) (fun c4 => ?_) (fun c4 => ?_)
  · have hM := (if_neg c4).symm.trans hM
    refine lv_aload_n hx hb dX6_lose_12 rfl (lv_at hl 0 rfl) ?_
    refine x_getr (own := RX6) (C := RX6) (T := TX6) (N := 9) hx hb hts hinX6_X6_lose hown hK hP KC_sb rfl 4 (by decide) (hts (.fieldLink RX6 38 "StrokeBoard" "links" "LStrokeBoard$Links;") (by decide +kernel)) rfl dX6_lose_13 ?_
    refine lv_iload_n hx hb dX6_lose_16 rfl (lv_at hl 1 rfl) ?_
    refine lv_iload_n hx hb dX6_lose_17 rfl (lv_at hl 2 rfl) ?_
    obtain ⟨r7, σ6, h5, hM⟩ := bnd_i hM
    refine x_callV (As := [.int u1, .int u2]) (rest := []) hA ⟨hx, hb, hml, hown, hts⟩ (tX3_countIn l D cA ad hJ u1 u2 σ2 _ _ h5) (cwV 2 hts gX6_lose_X3_countIn rfl rfl rfl (by decide +kernel) ⟨(Nat.le_of_ble_eq_true rfl), (Nat.le_of_ble_eq_true rfl)⟩) hK hP hS KC_lnk rfl rfl hl.1 rfl (Nat.le_of_ble_eq_true rfl) ⟨Nat.zero_le _, Nat.zero_le _⟩ dX6_lose_18 (fun H locs hP hS _ _ => ?_)
    refine lv_if_ne (tgt := 27) hx hb dX6_lose_21 (by decide) (fun c8 => ?_) (fun c8 => ?_)
    · have hM := (if_neg c8).symm.trans hM
      refine lv_aload_n hx hb dX6_lose_27 rfl (lv_at hl 0 rfl) ?_
      refine x_getr (own := RX6) (C := RX6) (T := TX6) (N := 9) hx hb hts hinX6_X6_lose hown hK hP KC_sb rfl 4 (by decide) (hts (.fieldLink RX6 38 "StrokeBoard" "links" "LStrokeBoard$Links;") (by decide +kernel)) rfl dX6_lose_28 ?_
      refine lv_iload_n hx hb dX6_lose_31 rfl (lv_at hl 1 rfl) ?_
      refine lv_iload_n hx hb dX6_lose_32 rfl (lv_at hl 2 rfl) ?_
      obtain ⟨σ10, h9, hM⟩ := bnv_i hM
      refine x_callVv (As := [.int u1, .int u2]) (rest := []) hA ⟨hx, hb, hml, hown, hts⟩ (tX3_dropFirst l D cA ad hJ u1 u2 σ6 _ h9) (cwV 2 hts gX6_lose_X3_dropFirst rfl rfl rfl (by decide +kernel) ⟨(Nat.le_of_ble_eq_true rfl), (Nat.le_of_ble_eq_true rfl)⟩) hK hP hS KC_lnk rfl rfl hl.1 rfl (Nat.le_of_ble_eq_true rfl) ⟨Nat.zero_le _, Nat.zero_le _⟩ dX6_lose_33 (fun H locs hP hS _ _ => ?_)
      refine lv_aload_n hx hb dX6_lose_36 rfl (lv_at hl 0 rfl) ?_
      refine x_getr (own := RX6) (C := RX6) (T := TX6) (N := 9) hx hb hts hinX6_X6_lose hown hK hP KC_sb rfl 4 (by decide) (hts (.fieldLink RX6 38 "StrokeBoard" "links" "LStrokeBoard$Links;") (by decide +kernel)) rfl dX6_lose_37 ?_
      refine lv_iload_n hx hb dX6_lose_40 rfl (lv_at hl 1 rfl) ?_
      refine lv_iload_n hx hb dX6_lose_41 rfl (lv_at hl 2 rfl) ?_
      obtain ⟨r13, σ12, h11, hM⟩ := bnd_i hM
      refine x_callV (As := [.int u1, .int u2]) (rest := []) hA ⟨hx, hb, hml, hown, hts⟩ (tX3_countIn l D cA ad hJ u1 u2 σ10 _ _ h11) (cwV 2 hts gX6_lose_X3_countIn rfl rfl rfl (by decide +kernel) ⟨(Nat.le_of_ble_eq_true rfl), (Nat.le_of_ble_eq_true rfl)⟩) hK hP hS KC_lnk rfl rfl hl.1 rfl (Nat.le_of_ble_eq_true rfl) ⟨Nat.zero_le _, Nat.zero_le _⟩ dX6_lose_42 (fun H locs hP hS _ _ => ?_)
      exact x_iret hx hb hr hlk hP hS hM dX6_lose_45
    · have hM := (if_pos c8).symm.trans hM
      refine lv_ldc (own := RX6) (v := (-1000000004)) hx hb hown (hts (.constant RX6 162 (-1000000004)) (by decide +kernel)) dX6_lose_24 ?_
      exact x_iret hx hb hr hlk hP hS hM dX6_lose_26
  · have hM := (if_pos c4).symm.trans hM
    refine lv_ldc (own := RX6) (v := (-1000000001)) hx hb hown (hts (.constant RX6 67 (-1000000001)) (by decide +kernel)) dX6_lose_9 ?_
    exact x_iret hx hb hr hlk hP hS hM dX6_lose_11
theorem hinX6_X6_deliverLink : ∀ w ∈ u_ws RX6 TX6 9, w ∈ wsX6_deliverLink := by decide +kernel
set_option maxHeartbeats 4000000 in
set_option maxRecDepth 100000 in
theorem tX6_deliverLink (l : Launch) (D : va_G) (cA : ClassId) (ad : Nat → Nat) (hJ : w_J ad KC) (u1 u2 : Int32) (σ σ' : St) (r : Int32) (hM : mX6_deliverLink u1 u2 σ = some (r, σ')) : Ct l yX6_deliverLink wsX6_deliverLink 3 66 D cA ad KC [.ref (ad 62), .int u1, .int u2] σ r σ' := by
  unfold Ct
  refine Met_of (cc := cX6_deliverLink) (maxL := 5) (ret := (some .int)) hJ (by decide +kernel) rfl (Nat.le_of_ble_eq_true rfl) ?_
  intro p e s m below meth c Z H locs ls hP hS hl
  obtain ⟨hx, hb, hml, hown, hts, hr, hlk, hK, -⟩ := Z
  have hown : s.vm.findClass RX6 = some m.cls := hown
  have hl : lv_has ls 5 [(0, .ref (ad 62)), (1, .int u1), (2, .int u2)] := hl
  have hA : ∀ q, w_A ad KC q → w_A ad KC q := fun _ h => h
  have L13 : ∀ (n : Nat) (x1 x2 x3 x4 : Int32) (σ : St) (H : Heap) (locs : List Loc) (ls : Array Slot), mX6_deliverLink_L13 n x1 x2 x3 x4 σ = some (r, σ') → w_P D cA ad KC σ H → va_S (w_A ad KC) s.heap H locs → lv_has ls 5 [(0, .ref (ad 62)), (1, .int x1), (2, .int x2), (3, .int x3), (4, .int x4)] → Wm p l e wsX6_deliverLink 3 66 s m ([.ref (ad 62), .int u1, .int u2] : List Value).toArray below meth c (w_Qi D cA ad KC r σ') (w_A ad KC) H locs (F0 m 13 ls []) := by
    intro n13
    induction n13 with
    | zero =>
      intro x1 x2 x3 x4 σ H locs ls hM hP hS hl
      rw [mX6_deliverLink_L13] at hM
      cases hM
    | succ n13 ih13 =>
      intro x1 x2 x3 x4 σ H locs ls hM hP hS hl
      rw [mX6_deliverLink_L13] at hM
      refine lv_iload hx hb dX6_deliverLink_13 (lv_at hl 4 rfl) ?_
      refine lv_iload_n hx hb dX6_deliverLink_15 rfl (lv_at hl 3 rfl) ?_
      refine lv_icmp_ge (tgt := 49) hx hb dX6_deliverLink_16 (by decide) (fun c1 => ?_) (fun c1 => ?_)
      · have hM := (if_pos c1).symm.trans hM
        refine lv_iload_n hx hb dX6_deliverLink_49 rfl (lv_at hl 3 rfl) ?_
        exact x_iret hx hb hr hlk hP hS hM dX6_deliverLink_50
      · have hM := (if_neg c1).symm.trans hM
        refine lv_aload_n hx hb dX6_deliverLink_19 rfl (lv_at hl 0 rfl) ?_
        refine lv_iload_n hx hb dX6_deliverLink_20 rfl (lv_at hl 2 rfl) ?_
        refine lv_aload_n hx hb dX6_deliverLink_21 rfl (lv_at hl 0 rfl) ?_
        refine x_getr (own := RX6) (C := RX6) (T := TX6) (N := 9) hx hb hts hinX6_X6_deliverLink hown hK hP KC_sb rfl 4 (by decide) (hts (.fieldLink RX6 38 "StrokeBoard" "links" "LStrokeBoard$Links;") (by decide +kernel)) rfl dX6_deliverLink_22 ?_
        refine lv_iload_n hx hb dX6_deliverLink_25 rfl (lv_at hl 1 rfl) ?_
        refine lv_iload_n hx hb dX6_deliverLink_26 rfl (lv_at hl 2 rfl) ?_
        refine lv_iconst (v := 0) hx hb dX6_deliverLink_27 (by decide) ?_
        obtain ⟨r4, σ3, h2, hM⟩ := bnd_i hM
        refine x_callV (As := [.int x1, .int x2, .int 0]) (rest := [.int x2, .ref (ad 62)]) hA ⟨hx, hb, hml, hown, hts⟩ (tX3_messageIn l D cA ad hJ x1 x2 0 σ _ _ h2) (cwV 3 hts gX6_deliverLink_X3_messageIn rfl rfl rfl (by decide +kernel) ⟨(Nat.le_of_ble_eq_true rfl), (Nat.le_of_ble_eq_true rfl)⟩) hK hP hS KC_lnk rfl rfl hl.1 rfl (Nat.le_of_ble_eq_true rfl) ⟨Nat.zero_le _, Nat.zero_le _⟩ dX6_deliverLink_28 (fun H locs hP hS _ _ => ?_)
        obtain ⟨σ6, h5, hM⟩ := bnv_i hM
        refine x_callVv (As := [.int x2, .int r4]) (rest := []) hA ⟨hx, hb, hml, hown, hts⟩ (tX6_receive l D cA ad hJ x2 r4 σ3 _ h5) (cwV 2 hts gX6_deliverLink_X6_receive rfl rfl rfl (by decide +kernel) ⟨(Nat.le_of_ble_eq_true rfl), (Nat.le_of_ble_eq_true rfl)⟩) hK hP hS KC_sb rfl rfl hl.1 rfl (Nat.le_of_ble_eq_true rfl) ⟨Nat.zero_le _, Nat.zero_le _⟩ dX6_deliverLink_31 (fun H locs hP hS _ _ => ?_)
        refine lv_aload_n hx hb dX6_deliverLink_34 rfl (lv_at hl 0 rfl) ?_
        refine x_getr (own := RX6) (C := RX6) (T := TX6) (N := 9) hx hb hts hinX6_X6_deliverLink hown hK hP KC_sb rfl 4 (by decide) (hts (.fieldLink RX6 38 "StrokeBoard" "links" "LStrokeBoard$Links;") (by decide +kernel)) rfl dX6_deliverLink_35 ?_
        refine lv_iload_n hx hb dX6_deliverLink_38 rfl (lv_at hl 1 rfl) ?_
        refine lv_iload_n hx hb dX6_deliverLink_39 rfl (lv_at hl 2 rfl) ?_
        obtain ⟨σ8, h7, hM⟩ := bnv_i hM
        refine x_callVv (As := [.int x1, .int x2]) (rest := []) hA ⟨hx, hb, hml, hown, hts⟩ (tX3_dropFirst l D cA ad hJ x1 x2 σ6 _ h7) (cwV 2 hts gX6_deliverLink_X3_dropFirst rfl rfl rfl (by decide +kernel) ⟨(Nat.le_of_ble_eq_true rfl), (Nat.le_of_ble_eq_true rfl)⟩) hK hP hS KC_lnk rfl rfl hl.1 rfl (Nat.le_of_ble_eq_true rfl) ⟨Nat.zero_le _, Nat.zero_le _⟩ dX6_deliverLink_40 (fun H locs hP hS _ _ => ?_)
        refine lv_iinc (v := (x4 + 1)) (lv' := [(4, .int (x4 + 1)), (0, .ref (ad 62)), (1, .int x1), (2, .int x2), (3, .int x3)]) hx hb dX6_deliverLink_43 hl (k := 4) rfl rfl (by decide) rfl (fun ls hl => ?_)
        refine lv_goto (tgt := 13) hx hb dX6_deliverLink_46 (by decide) ?_
        exact ih13 _ _ _ _ _ _ _ _ hM hP hS (lv_sub hl [1, 2, 3, 4, 0] rfl)
  unfold mX6_deliverLink at hM
  refine lv_aload_n hx hb dX6_deliverLink_0 rfl (lv_at hl 0 rfl) ?_
  refine x_getr (own := RX6) (C := RX6) (T := TX6) (N := 9) hx hb hts hinX6_X6_deliverLink hown hK hP KC_sb rfl 4 (by decide) (hts (.fieldLink RX6 38 "StrokeBoard" "links" "LStrokeBoard$Links;") (by decide +kernel)) rfl dX6_deliverLink_1 ?_
  refine lv_iload_n hx hb dX6_deliverLink_4 rfl (lv_at hl 1 rfl) ?_
  refine lv_iload_n hx hb dX6_deliverLink_5 rfl (lv_at hl 2 rfl) ?_
  obtain ⟨r11, σ10, h9, hM⟩ := bnd_i hM
  refine x_callV (As := [.int u1, .int u2]) (rest := []) hA ⟨hx, hb, hml, hown, hts⟩ (tX3_countIn l D cA ad hJ u1 u2 σ _ _ h9) (cwV 2 hts gX6_deliverLink_X3_countIn rfl rfl rfl (by decide +kernel) ⟨(Nat.le_of_ble_eq_true rfl), (Nat.le_of_ble_eq_true rfl)⟩) hK hP hS KC_lnk rfl rfl hl.1 rfl (Nat.le_of_ble_eq_true rfl) ⟨Nat.zero_le _, Nat.zero_le _⟩ dX6_deliverLink_6 (fun H locs hP hS _ _ => ?_)
  refine lv_istore_n (lv' := [(3, .int r11), (0, .ref (ad 62)), (1, .int u1), (2, .int u2)]) hx hb dX6_deliverLink_9 rfl hl (by decide) rfl (fun ls hl => ?_)
  refine lv_iconst (v := 0) hx hb dX6_deliverLink_10 (by decide) ?_
  refine lv_istore (lv' := [(4, .int 0), (3, .int r11), (0, .ref (ad 62)), (1, .int u1), (2, .int u2)]) hx hb dX6_deliverLink_11 hl (by decide) rfl (fun ls hl => ?_)
  exact L13 fu _ _ _ _ _ _ _ _ hM hP hS (lv_sub hl [2, 3, 4, 1, 0] rfl)
theorem hinX6_X6_deliverAll : ∀ w ∈ u_ws RX6 TX6 9, w ∈ wsX6_deliverAll := by decide +kernel
set_option maxHeartbeats 4000000 in
set_option maxRecDepth 100000 in
theorem tX6_deliverAll (l : Launch) (D : va_G) (cA : ClassId) (ad : Nat → Nat) (hJ : w_J ad KC) (σ σ' : St) (r : Int32) (hM : mX6_deliverAll σ = some (r, σ')) : Ct l yX6_deliverAll wsX6_deliverAll 4 90 D cA ad KC [.ref (ad 62)] σ r σ' := by
  unfold Ct
  refine Met_of (cc := cX6_deliverAll) (maxL := 4) (ret := (some .int)) hJ (by decide +kernel) rfl (Nat.le_of_ble_eq_true rfl) ?_
  intro p e s m below meth c Z H locs ls hP hS hl
  obtain ⟨hx, hb, hml, hown, hts, hr, hlk, hK, -⟩ := Z
  have hown : s.vm.findClass RX6 = some m.cls := hown
  have hl : lv_has ls 4 [(0, .ref (ad 62))] := hl
  have hA : ∀ q, w_A ad KC q → w_A ad KC q := fun _ h => h
  have L4 : ∀ (n : Nat) (x1 x2 : Int32) (σ : St) (H : Heap) (locs : List Loc) (ls : Array Slot), mX6_deliverAll_L4 n x1 x2 σ = some (r, σ') → w_P D cA ad KC σ H → va_S (w_A ad KC) s.heap H locs → lv_has ls 4 [(0, .ref (ad 62)), (1, .int x1), (2, .int x2)] → Wm p l e wsX6_deliverAll 4 90 s m ([.ref (ad 62)] : List Value).toArray below meth c (w_Qi D cA ad KC r σ') (w_A ad KC) H locs (F0 m 4 ls []) := by
    intro n4
    induction n4 with
    | zero =>
      intro x1 x2 σ H locs ls hM hP hS hl
      rw [mX6_deliverAll_L4] at hM
      cases hM
    | succ n4 ih4 =>
      have L14 : ∀ (n : Nat) (x1 x2 x3 : Int32) (σ : St) (H : Heap) (locs : List Loc) (ls : Array Slot), mX6_deliverAll_L14 (mX6_deliverAll_L4 n4) n x1 x2 x3 σ = some (r, σ') → w_P D cA ad KC σ H → va_S (w_A ad KC) s.heap H locs → lv_has ls 4 [(0, .ref (ad 62)), (1, .int x1), (2, .int x2), (3, .int x3)] → Wm p l e wsX6_deliverAll 4 90 s m ([.ref (ad 62)] : List Value).toArray below meth c (w_Qi D cA ad KC r σ') (w_A ad KC) H locs (F0 m 14 ls []) := by
        intro n14
        induction n14 with
        | zero =>
          intro x1 x2 x3 σ H locs ls hM hP hS hl
          rw [mX6_deliverAll_L14] at hM
          cases hM
        | succ n14 ih14 =>
          intro x1 x2 x3 σ H locs ls hM hP hS hl
          rw [mX6_deliverAll_L14] at hM
          refine lv_iload_n hx hb dX6_deliverAll_14 rfl (lv_at hl 3 rfl) ?_
          refine lv_aload_n hx hb dX6_deliverAll_15 rfl (lv_at hl 0 rfl) ?_
          refine x_geti (own := RX6) (C := RX6) (T := TX6) (N := 9) hx hb hts hinX6_X6_deliverAll hown hK hP KC_sb rfl 8 (by decide) (hts (.fieldLink RX6 59 "StrokeBoard" "siteCount" "I") (by decide +kernel)) rfl dX6_deliverAll_16 ?_
          refine lv_icmp_ge (tgt := 37) hx hb dX6_deliverAll_19 (by decide) (fun c1 => ?_) (fun c1 => ?_)
          · have hM := (if_pos c1).symm.trans hM
            refine lv_iinc (v := (x2 + 1)) (lv' := [(2, .int (x2 + 1)), (0, .ref (ad 62)), (1, .int x1), (3, .int x3)]) hx hb dX6_deliverAll_37 hl (k := 2) rfl rfl (by decide) rfl (fun ls hl => ?_)
            refine lv_goto (tgt := 4) hx hb dX6_deliverAll_40 (by decide) ?_
            exact ih4 _ _ _ _ _ _ hM hP hS (lv_sub hl [1, 2, 0] rfl)
          · have hM := (if_neg c1).symm.trans hM
            refine lv_iload_n hx hb dX6_deliverAll_22 rfl (lv_at hl 1 rfl) ?_
            refine lv_aload_n hx hb dX6_deliverAll_23 rfl (lv_at hl 0 rfl) ?_
            refine lv_iload_n hx hb dX6_deliverAll_24 rfl (lv_at hl 2 rfl) ?_
            refine lv_iload_n hx hb dX6_deliverAll_25 rfl (lv_at hl 3 rfl) ?_
            obtain ⟨r4, σ3, h2, hM⟩ := bnd_i hM
            refine x_callV (As := [.int x2, .int x3]) (rest := [.int x1]) hA ⟨hx, hb, hml, hown, hts⟩ (tX6_deliverLink l D cA ad hJ x2 x3 σ _ _ h2) (cwV 2 hts gX6_deliverAll_X6_deliverLink rfl rfl rfl (by decide +kernel) ⟨(Nat.le_of_ble_eq_true rfl), (Nat.le_of_ble_eq_true rfl)⟩) hK hP hS KC_sb rfl rfl hl.1 rfl (Nat.le_of_ble_eq_true rfl) ⟨Nat.zero_le _, Nat.zero_le _⟩ dX6_deliverAll_26 (fun H locs hP hS _ _ => ?_)
            refine lv_iadd hx hb dX6_deliverAll_29 ?_
            refine lv_istore_n (lv' := [(1, .int (x1 + r4)), (0, .ref (ad 62)), (2, .int x2), (3, .int x3)]) hx hb dX6_deliverAll_30 rfl hl (by decide) rfl (fun ls hl => ?_)
            refine lv_iinc (v := (x3 + 1)) (lv' := [(3, .int (x3 + 1)), (1, .int (x1 + r4)), (0, .ref (ad 62)), (2, .int x2)]) hx hb dX6_deliverAll_31 hl (k := 3) rfl rfl (by decide) rfl (fun ls hl => ?_)
            refine lv_goto (tgt := 14) hx hb dX6_deliverAll_34 (by decide) ?_
            exact ih14 _ _ _ _ _ _ _ hM hP hS (lv_sub hl [2, 1, 3, 0] rfl)
      intro x1 x2 σ H locs ls hM hP hS hl
      rw [mX6_deliverAll_L4] at hM
      refine lv_iload_n hx hb dX6_deliverAll_4 rfl (lv_at hl 2 rfl) ?_
      refine lv_aload_n hx hb dX6_deliverAll_5 rfl (lv_at hl 0 rfl) ?_
      refine x_geti (own := RX6) (C := RX6) (T := TX6) (N := 9) hx hb hts hinX6_X6_deliverAll hown hK hP KC_sb rfl 8 (by decide) (hts (.fieldLink RX6 59 "StrokeBoard" "siteCount" "I") (by decide +kernel)) rfl dX6_deliverAll_6 ?_
      refine lv_icmp_ge (tgt := 43) hx hb dX6_deliverAll_9 (by decide) (fun c5 => ?_) (fun c5 => ?_)
      · have hM := (if_pos c5).symm.trans hM
        refine lv_iload_n hx hb dX6_deliverAll_43 rfl (lv_at hl 1 rfl) ?_
        exact x_iret hx hb hr hlk hP hS hM dX6_deliverAll_44
      · have hM := (if_neg c5).symm.trans hM
        refine lv_iconst (v := 0) hx hb dX6_deliverAll_12 (by decide) ?_
        refine lv_istore_n (lv' := [(3, .int 0), (0, .ref (ad 62)), (1, .int x1), (2, .int x2)]) hx hb dX6_deliverAll_13 rfl hl (by decide) rfl (fun ls hl => ?_)
        exact L14 fu _ _ _ _ _ _ _ hM hP hS (lv_sub hl [1, 2, 3, 0] rfl)
  unfold mX6_deliverAll at hM
  refine lv_iconst (v := 0) hx hb dX6_deliverAll_0 (by decide) ?_
  refine lv_istore_n (lv' := [(1, .int 0), (0, .ref (ad 62))]) hx hb dX6_deliverAll_1 rfl hl (by decide) rfl (fun ls hl => ?_)
  refine lv_iconst (v := 0) hx hb dX6_deliverAll_2 (by decide) ?_
  refine lv_istore_n (lv' := [(2, .int 0), (1, .int 0), (0, .ref (ad 62))]) hx hb dX6_deliverAll_3 rfl hl (by decide) rfl (fun ls hl => ?_)
  exact L4 fu _ _ _ _ _ _ hM hP hS (lv_sub hl [2, 1, 0] rfl)
theorem hinX6_X6_waiting : ∀ w ∈ u_ws RX6 TX6 9, w ∈ wsX6_waiting := by decide +kernel
set_option maxHeartbeats 4000000 in
set_option maxRecDepth 100000 in
theorem tX6_waiting (l : Launch) (D : va_G) (cA : ClassId) (ad : Nat → Nat) (hJ : w_J ad KC) (u1 u2 : Int32) (σ σ' : St) (r : Int32) (hM : mX6_waiting u1 u2 σ = some (r, σ')) : Ct l yX6_waiting wsX6_waiting 3 65 D cA ad KC [.ref (ad 62), .int u1, .int u2] σ r σ' := by
  unfold Ct
  refine Met_of (cc := cX6_waiting) (maxL := 3) (ret := (some .int)) hJ (by decide +kernel) rfl (Nat.le_of_ble_eq_true rfl) ?_
  intro p e s m below meth c Z H locs ls hP hS hl
  obtain ⟨hx, hb, hml, hown, hts, hr, hlk, hK, -⟩ := Z
  have hown : s.vm.findClass RX6 = some m.cls := hown
  have hl : lv_has ls 3 [(0, .ref (ad 62)), (1, .int u1), (2, .int u2)] := hl
  have hA : ∀ q, w_A ad KC q → w_A ad KC q := fun _ h => h
  unfold mX6_waiting at hM
  refine lv_aload_n hx hb dX6_waiting_0 rfl (lv_at hl 0 rfl) ?_
  refine lv_iload_n hx hb dX6_waiting_1 rfl (lv_at hl 1 rfl) ?_
  refine lv_iload_n hx hb dX6_waiting_2 rfl (lv_at hl 2 rfl) ?_
  obtain ⟨r3, σ2, h1, hM⟩ := bnd_i hM
  refine x_callV (As := [.int u1, .int u2]) (rest := []) hA ⟨hx, hb, hml, hown, hts⟩ (tX6_areTwoSites l D cA ad hJ u1 u2 σ _ _ h1) (cwV 2 hts gX6_waiting_X6_areTwoSites rfl rfl rfl (by decide +kernel) ⟨(Nat.le_of_ble_eq_true rfl), (Nat.le_of_ble_eq_true rfl)⟩) hK hP hS KC_sb rfl rfl hl.1 rfl (Nat.le_of_ble_eq_true rfl) ⟨Nat.zero_le _, Nat.zero_le _⟩ dX6_waiting_3 (fun H locs hP hS _ _ => ?_)
  refine lv_if_eq (tgt := 21) hx hb dX6_waiting_6 (by decide) (fun c4 => ?_) (fun c4 => ?_)
  · have hM := (if_pos c4).symm.trans hM
    refine lv_ldc (own := RX6) (v := (-1000000001)) hx hb hown (hts (.constant RX6 67 (-1000000001)) (by decide +kernel)) dX6_waiting_21 ?_
    exact x_iret hx hb hr hlk hP hS hM dX6_waiting_23
  · have hM := (if_neg c4).symm.trans hM
    refine lv_aload_n hx hb dX6_waiting_9 rfl (lv_at hl 0 rfl) ?_
    refine x_getr (own := RX6) (C := RX6) (T := TX6) (N := 9) hx hb hts hinX6_X6_waiting hown hK hP KC_sb rfl 4 (by decide) (hts (.fieldLink RX6 38 "StrokeBoard" "links" "LStrokeBoard$Links;") (by decide +kernel)) rfl dX6_waiting_10 ?_
    refine lv_iload_n hx hb dX6_waiting_13 rfl (lv_at hl 1 rfl) ?_
    refine lv_iload_n hx hb dX6_waiting_14 rfl (lv_at hl 2 rfl) ?_
    obtain ⟨r7, σ6, h5, hM⟩ := bnd_i hM
    refine x_callV (As := [.int u1, .int u2]) (rest := []) hA ⟨hx, hb, hml, hown, hts⟩ (tX3_countIn l D cA ad hJ u1 u2 σ2 _ _ h5) (cwV 2 hts gX6_waiting_X3_countIn rfl rfl rfl (by decide +kernel) ⟨(Nat.le_of_ble_eq_true rfl), (Nat.le_of_ble_eq_true rfl)⟩) hK hP hS KC_lnk rfl rfl hl.1 rfl (Nat.le_of_ble_eq_true rfl) ⟨Nat.zero_le _, Nat.zero_le _⟩ dX6_waiting_15 (fun H locs hP hS _ _ => ?_)
    refine lv_goto (tgt := 23) hx hb dX6_waiting_18 (by decide) ?_
    exact x_iret hx hb hr hlk hP hS hM dX6_waiting_23
theorem hinX6_X6_gap : ∀ w ∈ u_ws RX6 TX6 9, w ∈ wsX6_gap := by decide +kernel
set_option maxHeartbeats 4000000 in
set_option maxRecDepth 100000 in
theorem tX6_gap (l : Launch) (D : va_G) (cA : ClassId) (ad : Nat → Nat) (hJ : w_J ad KC) (u1 u2 u3 : Int32) (σ σ' : St) (r : Int32) (hM : mX6_gap u1 u2 u3 σ = some (r, σ')) : Ct l yX6_gap wsX6_gap 2 43 D cA ad KC [.ref (ad 62), .int u1, .int u2, .int u3] σ r σ' := by
  unfold Ct
  refine Met_of (cc := cX6_gap) (maxL := 8) (ret := (some .int)) hJ (by decide +kernel) rfl (Nat.le_of_ble_eq_true rfl) ?_
  intro p e s m below meth c Z H locs ls hP hS hl
  obtain ⟨hx, hb, hml, hown, hts, hr, hlk, hK, -⟩ := Z
  have hown : s.vm.findClass RX6 = some m.cls := hown
  have hl : lv_has ls 8 [(0, .ref (ad 62)), (1, .int u1), (2, .int u2), (3, .int u3)] := hl
  have hA : ∀ q, w_A ad KC q → w_A ad KC q := fun _ h => h
  have L32 : ∀ (n : Nat) (x1 x2 x3 x4 x5 x6 : Int32) (σ : St) (H : Heap) (locs : List Loc) (ls : Array Slot), mX6_gap_L32 n x1 x2 x3 x4 x5 x6 σ = some (r, σ') → w_P D cA ad KC σ H → va_S (w_A ad KC) s.heap H locs → lv_has ls 8 [(0, .ref (ad 62)), (1, .int x1), (2, .int x2), (3, .int x3), (4, .int x4), (5, .int x5), (6, .int x6)] → Wm p l e wsX6_gap 2 43 s m ([.ref (ad 62), .int u1, .int u2, .int u3] : List Value).toArray below meth c (w_Qi D cA ad KC r σ') (w_A ad KC) H locs (F0 m 32 ls []) := by
    intro n32
    induction n32 with
    | zero =>
      intro x1 x2 x3 x4 x5 x6 σ H locs ls hM hP hS hl
      rw [mX6_gap_L32] at hM
      cases hM
    | succ n32 ih32 =>
      have b69 : ∀ (x1 x2 x3 x4 x5 x6 x7 : Int32) (σ : St) (H : Heap) (locs : List Loc) (ls : Array Slot), mX6_gap_b69 (mX6_gap_L32 n32) x1 x2 x3 x4 x5 x6 x7 σ = some (r, σ') → w_P D cA ad KC σ H → va_S (w_A ad KC) s.heap H locs → lv_has ls 8 [(0, .ref (ad 62)), (1, .int x1), (2, .int x2), (3, .int x3), (4, .int x4), (5, .int x5), (6, .int x6), (7, .int x7)] → Wm p l e wsX6_gap 2 43 s m ([.ref (ad 62), .int u1, .int u2, .int u3] : List Value).toArray below meth c (w_Qi D cA ad KC r σ') (w_A ad KC) H locs (F0 m 69 ls []) := by
        intro x1 x2 x3 x4 x5 x6 x7 σ H locs ls hM hP hS hl
        unfold mX6_gap_b69 at hM
        refine lv_iload hx hb dX6_gap_69 (lv_at hl 7 rfl) ?_
        refine lv_if_eq (tgt := 102) hx hb dX6_gap_71 (by decide) (fun c1 => ?_) (fun c1 => ?_)
        · have hM := (if_pos c1).symm.trans hM
          refine lv_iinc (v := (x6 + 1)) (lv' := [(6, .int (x6 + 1)), (0, .ref (ad 62)), (1, .int x1), (2, .int x2), (3, .int x3), (4, .int x4), (5, .int x5), (7, .int x7)]) hx hb dX6_gap_102 hl (k := 6) rfl rfl (by decide) rfl (fun ls hl => ?_)
          refine lv_goto (tgt := 32) hx hb dX6_gap_105 (by decide) ?_
          exact ih32 _ _ _ _ _ _ _ _ _ _ hM hP hS (lv_sub hl [1, 2, 3, 4, 5, 6, 0] rfl)
        · have hM := (if_neg c1).symm.trans hM
          refine lv_iload hx hb dX6_gap_74 (lv_at hl 4 rfl) ?_
          refine lv_if_eq (tgt := 102) hx hb dX6_gap_76 (by decide) (fun c2 => ?_) (fun c2 => ?_)
          · have hM := (if_pos c2).symm.trans hM
            refine lv_iinc (v := (x6 + 1)) (lv' := [(6, .int (x6 + 1)), (0, .ref (ad 62)), (1, .int x1), (2, .int x2), (3, .int x3), (4, .int x4), (5, .int x5), (7, .int x7)]) hx hb dX6_gap_102 hl (k := 6) rfl rfl (by decide) rfl (fun ls hl => ?_)
            refine lv_goto (tgt := 32) hx hb dX6_gap_105 (by decide) ?_
            exact ih32 _ _ _ _ _ _ _ _ _ _ hM hP hS (lv_sub hl [1, 2, 3, 4, 5, 6, 0] rfl)
          · have hM := (if_neg c2).symm.trans hM
            refine lv_iload hx hb dX6_gap_79 (lv_at hl 5 rfl) ?_
            refine lv_iload_n hx hb dX6_gap_81 rfl (lv_at hl 3 rfl) ?_
            refine lv_icmp_ne (tgt := 96) hx hb dX6_gap_82 (by decide) (fun c3 => ?_) (fun c3 => ?_)
            · have hM := (if_neg c3).symm.trans hM
              refine lv_iinc (v := (x5 + 1)) (lv' := [(5, .int (x5 + 1)), (0, .ref (ad 62)), (1, .int x1), (2, .int x2), (3, .int x3), (4, .int x4), (6, .int x6), (7, .int x7)]) hx hb dX6_gap_96 hl (k := 5) rfl rfl (by decide) rfl (fun ls hl => ?_)
              refine lv_iconst (v := 0) hx hb dX6_gap_99 (by decide) ?_
              refine lv_istore (lv' := [(4, .int 0), (5, .int (x5 + 1)), (0, .ref (ad 62)), (1, .int x1), (2, .int x2), (3, .int x3), (6, .int x6), (7, .int x7)]) hx hb dX6_gap_100 hl (by decide) rfl (fun ls hl => ?_)
              refine lv_iinc (v := (x6 + 1)) (lv' := [(6, .int (x6 + 1)), (4, .int 0), (5, .int (x5 + 1)), (0, .ref (ad 62)), (1, .int x1), (2, .int x2), (3, .int x3), (7, .int x7)]) hx hb dX6_gap_102 hl (k := 6) rfl rfl (by decide) rfl (fun ls hl => ?_)
              refine lv_goto (tgt := 32) hx hb dX6_gap_105 (by decide) ?_
              exact ih32 _ _ _ _ _ _ _ _ _ _ hM hP hS (lv_sub hl [3, 4, 5, 6, 1, 2, 0] rfl)
            · have hM := (if_pos c3).symm.trans hM
              refine lv_bipush (v := 100) hx hb dX6_gap_85 (by decide) ?_
              refine lv_iload hx hb dX6_gap_87 (lv_at hl 4 rfl) ?_
              refine lv_imul hx hb dX6_gap_89 ?_
              refine lv_iload hx hb dX6_gap_90 (lv_at hl 6 rfl) ?_
              refine lv_iadd hx hb dX6_gap_92 ?_
              refine lv_iconst (v := 1) hx hb dX6_gap_93 (by decide) ?_
              refine lv_isub hx hb dX6_gap_94 ?_
              exact x_iret hx hb hr hlk hP hS hM dX6_gap_95
      intro x1 x2 x3 x4 x5 x6 σ H locs ls hM hP hS hl
      rw [mX6_gap_L32] at hM
      refine lv_iload hx hb dX6_gap_32 (lv_at hl 6 rfl) ?_
      refine lv_bipush (v := 20) hx hb dX6_gap_34 (by decide) ?_
      refine lv_icmp_gt (tgt := 108) hx hb dX6_gap_36 (by decide) (fun c4 => ?_) (fun c4 => ?_)
      · have hM := (if_pos c4).symm.trans hM
        refine lv_ldc (own := RX6) (v := (-1000000004)) hx hb hown (hts (.constant RX6 162 (-1000000004)) (by decide +kernel)) dX6_gap_108 ?_
        exact x_iret hx hb hr hlk hP hS hM dX6_gap_110
      · have hM := (if_neg c4).symm.trans hM
        refine lv_aload_n hx hb dX6_gap_39 rfl (lv_at hl 0 rfl) ?_
        refine x_getr (own := RX6) (C := RX6) (T := TX6) (N := 9) hx hb hts hinX6_X6_gap hown hK hP KC_sb rfl 2 (by decide) (hts (.fieldLink RX6 28 "StrokeBoard" "knowledge" "LStrokeBoard$Knowledge;") (by decide +kernel)) rfl dX6_gap_40 ?_
        refine lv_iload_n hx hb dX6_gap_43 rfl (lv_at hl 1 rfl) ?_
        refine lv_iload_n hx hb dX6_gap_44 rfl (lv_at hl 2 rfl) ?_
        refine lv_iload hx hb dX6_gap_45 (lv_at hl 6 rfl) ?_
        obtain ⟨r7, σ6, h5, hM⟩ := bnd_i hM
        refine x_callS (As := [.int x2, .int x6]) (rest := [.int x1, .ref (ad (57 + 0))]) hA ⟨hx, hb, hml, hown, hts⟩ (tX6_idOf l D cA ad hJ x2 x6 σ _ _ h5) (va_cwS 2 hts gX6_gap_X6_idOf rfl rfl rfl (by decide +kernel) ⟨(Nat.le_of_ble_eq_true rfl), (Nat.le_of_ble_eq_true rfl)⟩) hK hP hS rfl hl.1 rfl (Nat.le_of_ble_eq_true rfl) ⟨Nat.zero_le _, Nat.zero_le _⟩ dX6_gap_47 (fun H locs hP hS => ?_)
        obtain ⟨r10, σ9, h8, hM⟩ := bnd_i hM
        refine x_callV (As := [.int x1, .int r7]) (rest := []) hA ⟨hx, hb, hml, hown, hts⟩ (tX2_has l D cA ad hJ 0 (by omega) x1 r7 σ6 _ _ h8) (cwV 2 hts gX6_gap_X2_has rfl rfl rfl (by decide +kernel) ⟨(Nat.le_of_ble_eq_true rfl), (Nat.le_of_ble_eq_true rfl)⟩) hK hP hS (KC_kno 0 (by omega)) rfl rfl hl.1 rfl (Nat.le_of_ble_eq_true rfl) ⟨Nat.zero_le _, Nat.zero_le _⟩ dX6_gap_50 (fun H locs hP hS _ _ => ?_)
        refine lv_istore (lv' := [(7, .int r10), (0, .ref (ad 62)), (1, .int x1), (2, .int x2), (3, .int x3), (4, .int x4), (5, .int x5), (6, .int x6)]) hx hb dX6_gap_53 hl (by decide) rfl (fun ls hl => ?_)
        refine lv_iload hx hb dX6_gap_55 (lv_at hl 0 rfl) ?_
        refine lv_if_ne (tgt := 69) hx hb dX6_gap_57 (by decide) (fun c11 => ?_) (fun c11 => ?_)
        · have hM := (if_neg c11).symm.trans hM
          exact b69 _ _ _ _ _ _ _ _ _ _ _ hM hP hS (lv_sub hl [1, 2, 3, 4, 5, 6, 7, 0] rfl)
        · have hM := (if_pos c11).symm.trans hM
          refine lv_iload hx hb dX6_gap_60 (lv_at hl 5 rfl) ?_
          refine lv_if_ne (tgt := 69) hx hb dX6_gap_62 (by decide) (fun c12 => ?_) (fun c12 => ?_)
          · have hM := (if_neg c12).symm.trans hM
            exact b69 _ _ _ _ _ _ _ _ _ _ _ hM hP hS (lv_sub hl [1, 2, 3, 4, 5, 6, 7, 0] rfl)
          · have hM := (if_pos c12).symm.trans hM
            refine lv_iload hx hb dX6_gap_65 (lv_at hl 7 rfl) ?_
            refine lv_istore (lv' := [(4, .int x6), (7, .int r10), (0, .ref (ad 62)), (1, .int x1), (2, .int x2), (3, .int x3), (5, .int x5), (6, .int x6)]) hx hb dX6_gap_67 hl (by decide) rfl (fun ls hl => ?_)
            exact b69 _ _ _ _ _ _ _ _ _ _ _ hM hP hS (lv_sub hl [2, 3, 4, 5, 0, 6, 7, 1] rfl)
  unfold mX6_gap at hM
  refine lv_aload_n hx hb dX6_gap_0 rfl (lv_at hl 0 rfl) ?_
  refine lv_iload_n hx hb dX6_gap_1 rfl (lv_at hl 1 rfl) ?_
  obtain ⟨r15, σ14, h13, hM⟩ := bnd_i hM
  refine x_callV (As := [.int u1]) (rest := []) hA ⟨hx, hb, hml, hown, hts⟩ (tX6_isSite l D cA ad hJ u1 σ _ _ h13) (cwV 1 hts gX6_gap_X6_isSite rfl rfl rfl (by decide +kernel) ⟨(Nat.le_of_ble_eq_true rfl), (Nat.le_of_ble_eq_true rfl)⟩) hK hP hS KC_sb rfl rfl hl.1 rfl (Nat.le_of_ble_eq_true rfl) ⟨Nat.zero_le _, Nat.zero_le _⟩ dX6_gap_2 (fun H locs hP hS _ _ => ?_)
  refine lv_if_eq (tgt := 20) hx hb dX6_gap_5 (by decide) (fun c16 => ?_) (fun c16 => ?_)
  · have hM := (if_pos c16).symm.trans hM
    refine lv_ldc (own := RX6) (v := (-1000000001)) hx hb hown (hts (.constant RX6 67 (-1000000001)) (by decide +kernel)) dX6_gap_20 ?_
    exact x_iret hx hb hr hlk hP hS hM dX6_gap_22
  · have hM := (if_neg c16).symm.trans hM
    refine lv_aload_n hx hb dX6_gap_8 rfl (lv_at hl 0 rfl) ?_
    refine lv_iload_n hx hb dX6_gap_9 rfl (lv_at hl 2 rfl) ?_
    obtain ⟨r19, σ18, h17, hM⟩ := bnd_i hM
    refine x_callV (As := [.int u2]) (rest := []) hA ⟨hx, hb, hml, hown, hts⟩ (tX6_isSite l D cA ad hJ u2 σ14 _ _ h17) (cwV 1 hts gX6_gap_X6_isSite rfl rfl rfl (by decide +kernel) ⟨(Nat.le_of_ble_eq_true rfl), (Nat.le_of_ble_eq_true rfl)⟩) hK hP hS KC_sb rfl rfl hl.1 rfl (Nat.le_of_ble_eq_true rfl) ⟨Nat.zero_le _, Nat.zero_le _⟩ dX6_gap_10 (fun H locs hP hS _ _ => ?_)
    refine lv_if_eq (tgt := 20) hx hb dX6_gap_13 (by decide) (fun c20 => ?_) (fun c20 => ?_)
    · have hM := (if_pos c20).symm.trans hM
      refine lv_ldc (own := RX6) (v := (-1000000001)) hx hb hown (hts (.constant RX6 67 (-1000000001)) (by decide +kernel)) dX6_gap_20 ?_
      exact x_iret hx hb hr hlk hP hS hM dX6_gap_22
    · have hM := (if_neg c20).symm.trans hM
      refine lv_iload_n hx hb dX6_gap_16 rfl (lv_at hl 3 rfl) ?_
      refine lv_if_ge (tgt := 23) hx hb dX6_gap_17 (by decide) (fun c21 => ?_) (fun c21 => ?_)
      · have hM := (if_pos c21).symm.trans hM
        refine lv_iconst (v := 0) hx hb dX6_gap_23 (by decide) ?_
        refine lv_istore (lv' := [(4, .int 0), (0, .ref (ad 62)), (1, .int u1), (2, .int u2), (3, .int u3)]) hx hb dX6_gap_24 hl (by decide) rfl (fun ls hl => ?_)
        refine lv_iconst (v := 0) hx hb dX6_gap_26 (by decide) ?_
        refine lv_istore (lv' := [(5, .int 0), (4, .int 0), (0, .ref (ad 62)), (1, .int u1), (2, .int u2), (3, .int u3)]) hx hb dX6_gap_27 hl (by decide) rfl (fun ls hl => ?_)
        refine lv_iconst (v := 1) hx hb dX6_gap_29 (by decide) ?_
        refine lv_istore (lv' := [(6, .int 1), (5, .int 0), (4, .int 0), (0, .ref (ad 62)), (1, .int u1), (2, .int u2), (3, .int u3)]) hx hb dX6_gap_30 hl (by decide) rfl (fun ls hl => ?_)
        exact L32 fu _ _ _ _ _ _ _ _ _ _ hM hP hS (lv_sub hl [3, 4, 5, 6, 2, 1, 0] rfl)
      · have hM := (if_neg c21).symm.trans hM
        refine lv_ldc (own := RX6) (v := (-1000000001)) hx hb hown (hts (.constant RX6 67 (-1000000001)) (by decide +kernel)) dX6_gap_20 ?_
        exact x_iret hx hb hr hlk hP hS hM dX6_gap_22
theorem hinX6_X6_canRepair : ∀ w ∈ u_ws RX6 TX6 9, w ∈ wsX6_canRepair := by decide +kernel
set_option maxHeartbeats 4000000 in
set_option maxRecDepth 100000 in
theorem tX6_canRepair (l : Launch) (D : va_G) (cA : ClassId) (ad : Nat → Nat) (hJ : w_J ad KC) (u1 u2 u3 : Int32) (σ σ' : St) (r : Int32) (hM : mX6_canRepair u1 u2 u3 σ = some (r, σ')) : Ct l yX6_canRepair wsX6_canRepair 4 89 D cA ad KC [.ref (ad 62), .int u1, .int u2, .int u3] σ r σ' := by
  unfold Ct
  refine Met_of (cc := cX6_canRepair) (maxL := 4) (ret := (some .boolean)) hJ (by decide +kernel) rfl (Nat.le_of_ble_eq_true rfl) ?_
  intro p e s m below meth c Z H locs ls hP hS hl
  obtain ⟨hx, hb, hml, hown, hts, hr, hlk, hK, -⟩ := Z
  have hown : s.vm.findClass RX6 = some m.cls := hown
  have hl : lv_has ls 4 [(0, .ref (ad 62)), (1, .int u1), (2, .int u2), (3, .int u3)] := hl
  have hA : ∀ q, w_A ad KC q → w_A ad KC q := fun _ h => h
  unfold mX6_canRepair at hM
  refine lv_aload_n hx hb dX6_canRepair_0 rfl (lv_at hl 0 rfl) ?_
  refine x_getr (own := RX6) (C := RX6) (T := TX6) (N := 9) hx hb hts hinX6_X6_canRepair hown hK hP KC_sb rfl 2 (by decide) (hts (.fieldLink RX6 28 "StrokeBoard" "knowledge" "LStrokeBoard$Knowledge;") (by decide +kernel)) rfl dX6_canRepair_1 ?_
  refine lv_iload_n hx hb dX6_canRepair_4 rfl (lv_at hl 1 rfl) ?_
  refine lv_iload_n hx hb dX6_canRepair_5 rfl (lv_at hl 3 rfl) ?_
  obtain ⟨r3, σ2, h1, hM⟩ := bnd_i hM
  refine x_callV (As := [.int u1, .int u3]) (rest := []) hA ⟨hx, hb, hml, hown, hts⟩ (tX2_isInGap l D cA ad hJ 0 (by omega) u1 u3 σ _ _ h1) (cwV 2 hts gX6_canRepair_X2_isInGap rfl rfl rfl (by decide +kernel) ⟨(Nat.le_of_ble_eq_true rfl), (Nat.le_of_ble_eq_true rfl)⟩) hK hP hS (KC_kno 0 (by omega)) rfl rfl hl.1 rfl (Nat.le_of_ble_eq_true rfl) ⟨Nat.zero_le _, Nat.zero_le _⟩ dX6_canRepair_6 (fun H locs hP hS _ _ => ?_)
  refine lv_if_eq (tgt := 28) hx hb dX6_canRepair_9 (by decide) (fun c4 => ?_) (fun c4 => ?_)
  · have hM := (if_pos c4).symm.trans hM
    refine lv_iconst (v := 0) hx hb dX6_canRepair_28 (by decide) ?_
    exact x_zret hx hb hr hlk hP hS hM dX6_canRepair_29
  · have hM := (if_neg c4).symm.trans hM
    refine lv_aload_n hx hb dX6_canRepair_12 rfl (lv_at hl 0 rfl) ?_
    refine x_getr (own := RX6) (C := RX6) (T := TX6) (N := 9) hx hb hts hinX6_X6_canRepair hown hK hP KC_sb rfl 2 (by decide) (hts (.fieldLink RX6 28 "StrokeBoard" "knowledge" "LStrokeBoard$Knowledge;") (by decide +kernel)) rfl dX6_canRepair_13 ?_
    refine lv_iload_n hx hb dX6_canRepair_16 rfl (lv_at hl 2 rfl) ?_
    refine lv_iload_n hx hb dX6_canRepair_17 rfl (lv_at hl 3 rfl) ?_
    obtain ⟨r7, σ6, h5, hM⟩ := bnd_i hM
    refine x_callV (As := [.int u2, .int u3]) (rest := []) hA ⟨hx, hb, hml, hown, hts⟩ (tX2_has l D cA ad hJ 0 (by omega) u2 u3 σ2 _ _ h5) (cwV 2 hts gX6_canRepair_X2_has rfl rfl rfl (by decide +kernel) ⟨(Nat.le_of_ble_eq_true rfl), (Nat.le_of_ble_eq_true rfl)⟩) hK hP hS (KC_kno 0 (by omega)) rfl rfl hl.1 rfl (Nat.le_of_ble_eq_true rfl) ⟨Nat.zero_le _, Nat.zero_le _⟩ dX6_canRepair_18 (fun H locs hP hS _ _ => ?_)
    refine lv_if_eq (tgt := 28) hx hb dX6_canRepair_21 (by decide) (fun c8 => ?_) (fun c8 => ?_)
    · have hM := (if_pos c8).symm.trans hM
      refine lv_iconst (v := 0) hx hb dX6_canRepair_28 (by decide) ?_
      exact x_zret hx hb hr hlk hP hS hM dX6_canRepair_29
    · have hM := (if_neg c8).symm.trans hM
      refine lv_iconst (v := 1) hx hb dX6_canRepair_24 (by decide) ?_
      refine lv_goto (tgt := 29) hx hb dX6_canRepair_25 (by decide) ?_
      exact x_zret hx hb hr hlk hP hS hM dX6_canRepair_29
set_option maxHeartbeats 4000000 in
set_option maxRecDepth 100000 in
theorem tX6_repair (l : Launch) (D : va_G) (cA : ClassId) (ad : Nat → Nat) (hJ : w_J ad KC) (u1 u2 : Int32) (σ σ' : St) (r : Int32) (hM : mX6_repair u1 u2 σ = some (r, σ')) : Ct l yX6_repair wsX6_repair 5 112 D cA ad KC [.ref (ad 62), .int u1, .int u2] σ r σ' := by
  unfold Ct
  refine Met_of (cc := cX6_repair) (maxL := 5) (ret := (some .int)) hJ (by decide +kernel) rfl (Nat.le_of_ble_eq_true rfl) ?_
  intro p e s m below meth c Z H locs ls hP hS hl
  obtain ⟨hx, hb, hml, hown, hts, hr, hlk, hK, -⟩ := Z
  have hown : s.vm.findClass RX6 = some m.cls := hown
  have hl : lv_has ls 5 [(0, .ref (ad 62)), (1, .int u1), (2, .int u2)] := hl
  have hA : ∀ q, w_A ad KC q → w_A ad KC q := fun _ h => h
  have L17 : ∀ (n : Nat) (x1 x2 x3 x4 : Int32) (σ : St) (H : Heap) (locs : List Loc) (ls : Array Slot), mX6_repair_L17 n x1 x2 x3 x4 σ = some (r, σ') → w_P D cA ad KC σ H → va_S (w_A ad KC) s.heap H locs → lv_has ls 5 [(0, .ref (ad 62)), (1, .int x1), (2, .int x2), (3, .int x3), (4, .int x4)] → Wm p l e wsX6_repair 5 112 s m ([.ref (ad 62), .int u1, .int u2] : List Value).toArray below meth c (w_Qi D cA ad KC r σ') (w_A ad KC) H locs (F0 m 17 ls []) := by
    intro n17
    induction n17 with
    | zero =>
      intro x1 x2 x3 x4 σ H locs ls hM hP hS hl
      rw [mX6_repair_L17] at hM
      cases hM
    | succ n17 ih17 =>
      intro x1 x2 x3 x4 σ H locs ls hM hP hS hl
      rw [mX6_repair_L17] at hM
      refine lv_iload hx hb dX6_repair_17 (lv_at hl 4 rfl) ?_
      refine lv_bipush (v := 100) hx hb dX6_repair_19 (by decide) ?_
      refine lv_icmp_ge (tgt := 51) hx hb dX6_repair_21 (by decide) (fun c1 => ?_) (fun c1 => ?_)
      · have hM := (if_pos c1).symm.trans hM
        refine lv_iload_n hx hb dX6_repair_51 rfl (lv_at hl 3 rfl) ?_
        exact x_iret hx hb hr hlk hP hS hM dX6_repair_52
      · have hM := (if_neg c1).symm.trans hM
        refine lv_aload_n hx hb dX6_repair_24 rfl (lv_at hl 0 rfl) ?_
        refine lv_iload_n hx hb dX6_repair_25 rfl (lv_at hl 1 rfl) ?_
        refine lv_iload_n hx hb dX6_repair_26 rfl (lv_at hl 2 rfl) ?_
        refine lv_iload hx hb dX6_repair_27 (lv_at hl 4 rfl) ?_
        obtain ⟨r4, σ3, h2, hM⟩ := bnd_i hM
        refine x_callV (As := [.int x1, .int x2, .int x4]) (rest := []) hA ⟨hx, hb, hml, hown, hts⟩ (tX6_canRepair l D cA ad hJ x1 x2 x4 σ _ _ h2) (cwV 3 hts gX6_repair_X6_canRepair rfl rfl rfl (by decide +kernel) ⟨(Nat.le_of_ble_eq_true rfl), (Nat.le_of_ble_eq_true rfl)⟩) hK hP hS KC_sb rfl rfl hl.1 rfl (Nat.le_of_ble_eq_true rfl) ⟨Nat.zero_le _, Nat.zero_le _⟩ dX6_repair_29 (fun H locs hP hS _ _ => ?_)
        refine lv_if_eq (tgt := 45) hx hb dX6_repair_32 (by decide) (fun c5 => ?_) (fun c5 => ?_)
        · have hM := (if_pos c5).symm.trans hM
          refine lv_iinc (v := (x4 + 1)) (lv' := [(4, .int (x4 + 1)), (0, .ref (ad 62)), (1, .int x1), (2, .int x2), (3, .int x3)]) hx hb dX6_repair_45 hl (k := 4) rfl rfl (by decide) rfl (fun ls hl => ?_)
          refine lv_goto (tgt := 17) hx hb dX6_repair_48 (by decide) ?_
          exact ih17 _ _ _ _ _ _ _ _ hM hP hS (lv_sub hl [1, 2, 3, 4, 0] rfl)
        · have hM := (if_neg c5).symm.trans hM
          refine lv_aload_n hx hb dX6_repair_35 rfl (lv_at hl 0 rfl) ?_
          refine lv_iload_n hx hb dX6_repair_36 rfl (lv_at hl 1 rfl) ?_
          refine lv_iload hx hb dX6_repair_37 (lv_at hl 4 rfl) ?_
          obtain ⟨σ7, h6, hM⟩ := bnv_i hM
          refine x_callVv (As := [.int x1, .int x4]) (rest := []) hA ⟨hx, hb, hml, hown, hts⟩ (tX6_receive l D cA ad hJ x1 x4 σ3 _ h6) (cwV 2 hts gX6_repair_X6_receive rfl rfl rfl (by decide +kernel) ⟨(Nat.le_of_ble_eq_true rfl), (Nat.le_of_ble_eq_true rfl)⟩) hK hP hS KC_sb rfl rfl hl.1 rfl (Nat.le_of_ble_eq_true rfl) ⟨Nat.zero_le _, Nat.zero_le _⟩ dX6_repair_39 (fun H locs hP hS _ _ => ?_)
          refine lv_iinc (v := (x3 + 1)) (lv' := [(3, .int (x3 + 1)), (0, .ref (ad 62)), (1, .int x1), (2, .int x2), (4, .int x4)]) hx hb dX6_repair_42 hl (k := 3) rfl rfl (by decide) rfl (fun ls hl => ?_)
          refine lv_iinc (v := (x4 + 1)) (lv' := [(4, .int (x4 + 1)), (3, .int (x3 + 1)), (0, .ref (ad 62)), (1, .int x1), (2, .int x2)]) hx hb dX6_repair_45 hl (k := 4) rfl rfl (by decide) rfl (fun ls hl => ?_)
          refine lv_goto (tgt := 17) hx hb dX6_repair_48 (by decide) ?_
          exact ih17 _ _ _ _ _ _ _ _ hM hP hS (lv_sub hl [2, 3, 4, 1, 0] rfl)
  unfold mX6_repair at hM
  refine lv_aload_n hx hb dX6_repair_0 rfl (lv_at hl 0 rfl) ?_
  refine lv_iload_n hx hb dX6_repair_1 rfl (lv_at hl 1 rfl) ?_
  refine lv_iload_n hx hb dX6_repair_2 rfl (lv_at hl 2 rfl) ?_
  obtain ⟨r10, σ9, h8, hM⟩ := bnd_i hM
  refine x_callV (As := [.int u1, .int u2]) (rest := []) hA ⟨hx, hb, hml, hown, hts⟩ (tX6_areTwoSites l D cA ad hJ u1 u2 σ _ _ h8) (cwV 2 hts gX6_repair_X6_areTwoSites rfl rfl rfl (by decide +kernel) ⟨(Nat.le_of_ble_eq_true rfl), (Nat.le_of_ble_eq_true rfl)⟩) hK hP hS KC_sb rfl rfl hl.1 rfl (Nat.le_of_ble_eq_true rfl) ⟨Nat.zero_le _, Nat.zero_le _⟩ dX6_repair_3 (fun H locs hP hS _ _ => ?_)
  refine lv_if_ne (tgt := 12) hx hb dX6_repair_6 (by decide) (fun c11 => ?_) (fun c11 => ?_)
  · have hM := (if_neg c11).symm.trans hM
    refine lv_iconst (v := 0) hx hb dX6_repair_12 (by decide) ?_
    refine lv_istore_n (lv' := [(3, .int 0), (0, .ref (ad 62)), (1, .int u1), (2, .int u2)]) hx hb dX6_repair_13 rfl hl (by decide) rfl (fun ls hl => ?_)
    refine lv_iconst (v := 0) hx hb dX6_repair_14 (by decide) ?_
    refine lv_istore (lv' := [(4, .int 0), (3, .int 0), (0, .ref (ad 62)), (1, .int u1), (2, .int u2)]) hx hb dX6_repair_15 hl (by decide) rfl (fun ls hl => ?_)
    exact L17 fu _ _ _ _ _ _ _ _ hM hP hS (lv_sub hl [2, 3, 4, 1, 0] rfl)
  · have hM := (if_pos c11).symm.trans hM
    refine lv_ldc (own := RX6) (v := (-1000000001)) hx hb hown (hts (.constant RX6 67 (-1000000001)) (by decide +kernel)) dX6_repair_9 ?_
    exact x_iret hx hb hr hlk hP hS hM dX6_repair_11
