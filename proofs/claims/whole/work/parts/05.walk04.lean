/-! The walks, laid by wip/whole/gen.py. -/
theorem hinX7_X7_undo : ∀ w ∈ u_ws RX7 TX7 14, w ∈ wsX7_undo := by decide +kernel
set_option maxHeartbeats 4000000 in
set_option maxRecDepth 100000 in
theorem tX7_undo (l : Launch) (D : va_G) (cA : ClassId) (ad : Nat → Nat) (hJ : w_J ad KM) (u1 : Int32) (σ σ' : St) (r : Int32) (hM : mX7_undo u1 σ = some (r, σ')) : Ct l yX7_undo wsX7_undo 4 94 D cA ad KM [.ref (ad 0), .int u1] σ r σ' := by
  unfold Ct
  refine Met_of (cc := cX7_undo) (maxL := 4) (ret := (some .int)) hJ (by decide +kernel) rfl (Nat.le_of_ble_eq_true rfl) ?_
  intro p e s m below meth c Z H locs ls hP hS hl
  obtain ⟨hx, hb, hml, hown, hts, hr, hlk, hK, -⟩ := Z
  have hown : s.vm.findClass RX7 = some m.cls := hown
  have hl : lv_has ls 4 [(0, .ref (ad 0)), (1, .int u1)] := hl
  have hA : ∀ q, w_A ad KM q → w_A ad KM q := fun _ h => h
  have b41 : ∀ (x1 x2 : Int32) (σ : St) (H : Heap) (locs : List Loc) (ls : Array Slot), mX7_undo_b41 x1 x2 σ = some (r, σ') → w_P D cA ad KM σ H → va_S (w_A ad KM) s.heap H locs → lv_has ls 4 [(0, .ref (ad 0)), (1, .int x1), (2, .int x2)] → Wm p l e wsX7_undo 4 94 s m ([.ref (ad 0), .int u1] : List Value).toArray below meth c (w_Qi D cA ad KM r σ') (w_A ad KM) H locs (F0 m 41 ls []) := by
    intro x1 x2 σ H locs ls hM hP hS hl
    unfold mX7_undo_b41 at hM
    refine lv_iload_n hx hb dX7_undo_41 rfl (lv_at hl 2 rfl) ?_
    refine lv_if_ne (tgt := 48) hx hb dX7_undo_42 (by decide) (fun c1 => ?_) (fun c1 => ?_)
    · have hM := (if_neg c1).symm.trans hM
      refine lv_aload_n hx hb dX7_undo_48 rfl (lv_at hl 0 rfl) ?_
      refine x_getr (own := RX7) (C := RX7) (T := TX7) (N := 14) hx hb hts hinX7_X7_undo hown hK hP KM_obj rfl 2 (by decide) (hts (.fieldLink RX7 17 "StrokeBoardModel" "made" "[I") (by decide +kernel)) rfl dX7_undo_49 ?_
      refine lv_iload_n hx hb dX7_undo_52 rfl (lv_at hl 1 rfl) ?_
      obtain ⟨h2, hM⟩ := ix_i hM
      refine x_iald hx hb hK hP rfl h2 dX7_undo_53 ?_
      refine lv_bipush (v := 20) hx hb dX7_undo_54 (by decide) ?_
      refine lv_icmp_ne (tgt := 62) hx hb dX7_undo_56 (by decide) (fun c3 => ?_) (fun c3 => ?_)
      · have hM := (if_neg c3).symm.trans hM
        refine lv_aload_n hx hb dX7_undo_62 rfl (lv_at hl 0 rfl) ?_
        refine lv_iload_n hx hb dX7_undo_63 rfl (lv_at hl 1 rfl) ?_
        refine lv_iconst (v := 1) hx hb dX7_undo_64 (by decide) ?_
        refine lv_iload_n hx hb dX7_undo_65 rfl (lv_at hl 1 rfl) ?_
        refine lv_iconst (v := (-1)) hx hb dX7_undo_66 (by decide) ?_
        refine lv_iload_n hx hb dX7_undo_67 rfl (lv_at hl 2 rfl) ?_
        obtain ⟨r6, σ5, h4, hM⟩ := bnd_i hM
        refine x_callV (As := [.int x1, .int 1, .int x1, .int (-1), .int x2]) (rest := []) hA ⟨hx, hb, hml, hown, hts⟩ (tX7_make l D cA ad hJ x1 1 x1 (-1) x2 σ _ _ h4) (cwV 5 hts gX7_undo_X7_make rfl rfl rfl (by decide +kernel) ⟨(Nat.le_of_ble_eq_true rfl), (Nat.le_of_ble_eq_true rfl)⟩) hK hP hS KM_obj rfl rfl hl.1 rfl (Nat.le_of_ble_eq_true rfl) ⟨Nat.zero_le _, Nat.zero_le _⟩ dX7_undo_68 (fun H locs hP hS _ _ => ?_)
        refine lv_istore_n (lv' := [(3, .int r6), (0, .ref (ad 0)), (1, .int x1), (2, .int x2)]) hx hb dX7_undo_71 rfl hl (by decide) rfl (fun ls hl => ?_)
        refine lv_iload_n hx hb dX7_undo_72 rfl (lv_at hl 0 rfl) ?_
        refine lv_if_le (tgt := 80) hx hb dX7_undo_73 (by decide) (fun c7 => ?_) (fun c7 => ?_)
        · have hM := (if_pos c7).symm.trans hM
          refine lv_iconst (v := 0) hx hb dX7_undo_80 (by decide) ?_
          exact x_iret hx hb hr hlk hP hS hM dX7_undo_81
        · have hM := (if_neg c7).symm.trans hM
          refine lv_iload_n hx hb dX7_undo_76 rfl (lv_at hl 3 rfl) ?_
          refine lv_goto (tgt := 81) hx hb dX7_undo_77 (by decide) ?_
          exact x_iret hx hb hr hlk hP hS hM dX7_undo_81
      · have hM := (if_pos c3).symm.trans hM
        refine lv_ldc (own := RX7) (v := (-1000000003)) hx hb hown (hts (.constant RX7 94 (-1000000003)) (by decide +kernel)) dX7_undo_59 ?_
        exact x_iret hx hb hr hlk hP hS hM dX7_undo_61
    · have hM := (if_pos c1).symm.trans hM
      refine lv_ldc (own := RX7) (v := (-1000000002)) hx hb hown (hts (.constant RX7 101 (-1000000002)) (by decide +kernel)) dX7_undo_45 ?_
      exact x_iret hx hb hr hlk hP hS hM dX7_undo_47
  have L18 : ∀ (n : Nat) (x1 x2 : Int32) (σ : St) (H : Heap) (locs : List Loc) (ls : Array Slot), mX7_undo_L18 n x1 x2 σ = some (r, σ') → w_P D cA ad KM σ H → va_S (w_A ad KM) s.heap H locs → lv_has ls 4 [(0, .ref (ad 0)), (1, .int x1), (2, .int x2)] → Wm p l e wsX7_undo 4 94 s m ([.ref (ad 0), .int u1] : List Value).toArray below meth c (w_Qi D cA ad KM r σ') (w_A ad KM) H locs (F0 m 18 ls []) := by
    intro n18
    induction n18 with
    | zero =>
      intro x1 x2 σ H locs ls hM hP hS hl
      rw [mX7_undo_L18] at hM
      cases hM
    | succ n18 ih18 =>
      intro x1 x2 σ H locs ls hM hP hS hl
      rw [mX7_undo_L18] at hM
      refine lv_iload_n hx hb dX7_undo_18 rfl (lv_at hl 2 rfl) ?_
      refine lv_if_le (tgt := 41) hx hb dX7_undo_19 (by decide) (fun c8 => ?_) (fun c8 => ?_)
      · have hM := (if_pos c8).symm.trans hM
        exact b41 _ _ _ _ _ _ hM hP hS (lv_sub hl [0, 1, 2] rfl)
      · have hM := (if_neg c8).symm.trans hM
        refine lv_aload_n hx hb dX7_undo_22 rfl (lv_at hl 0 rfl) ?_
        refine lv_iload_n hx hb dX7_undo_23 rfl (lv_at hl 1 rfl) ?_
        refine lv_iload_n hx hb dX7_undo_24 rfl (lv_at hl 1 rfl) ?_
        refine lv_iload_n hx hb dX7_undo_25 rfl (lv_at hl 2 rfl) ?_
        obtain ⟨r11, σ10, h9, hM⟩ := bnd_i hM
        refine x_callS (As := [.int x1, .int x2]) (rest := [.int x1, .ref (ad 0)]) hA ⟨hx, hb, hml, hown, hts⟩ (tX7_place l D cA ad hJ x1 x2 σ _ _ h9) (va_cwS 2 hts gX7_undo_X7_place rfl rfl rfl (by decide +kernel) ⟨(Nat.le_of_ble_eq_true rfl), (Nat.le_of_ble_eq_true rfl)⟩) hK hP hS rfl hl.1 rfl (Nat.le_of_ble_eq_true rfl) ⟨Nat.zero_le _, Nat.zero_le _⟩ dX7_undo_26 (fun H locs hP hS => ?_)
        obtain ⟨r14, σ13, h12, hM⟩ := bnd_i hM
        refine x_callV (As := [.int x1, .int r11]) (rest := []) hA ⟨hx, hb, hml, hown, hts⟩ (tX7_isVisible l D cA ad hJ x1 r11 σ10 _ _ h12) (cwV 2 hts gX7_undo_X7_isVisible rfl rfl rfl (by decide +kernel) ⟨(Nat.le_of_ble_eq_true rfl), (Nat.le_of_ble_eq_true rfl)⟩) hK hP hS KM_obj rfl rfl hl.1 rfl (Nat.le_of_ble_eq_true rfl) ⟨Nat.zero_le _, Nat.zero_le _⟩ dX7_undo_29 (fun H locs hP hS _ _ => ?_)
        refine lv_if_ne (tgt := 41) hx hb dX7_undo_32 (by decide) (fun c15 => ?_) (fun c15 => ?_)
        · have hM := (if_neg c15).symm.trans hM
          exact b41 _ _ _ _ _ _ hM hP hS (lv_sub hl [0, 1, 2] rfl)
        · have hM := (if_pos c15).symm.trans hM
          refine lv_iinc (v := (x2 + (-1))) (lv' := [(2, .int (x2 + (-1))), (0, .ref (ad 0)), (1, .int x1)]) hx hb dX7_undo_35 hl (k := 2) rfl rfl (by decide) rfl (fun ls hl => ?_)
          refine lv_goto (tgt := 18) hx hb dX7_undo_38 (by decide) ?_
          exact ih18 _ _ _ _ _ _ hM hP hS (lv_sub hl [1, 2, 0] rfl)
  unfold mX7_undo at hM
  refine lv_aload_n hx hb dX7_undo_0 rfl (lv_at hl 0 rfl) ?_
  refine lv_iload_n hx hb dX7_undo_1 rfl (lv_at hl 1 rfl) ?_
  obtain ⟨r18, σ17, h16, hM⟩ := bnd_i hM
  refine x_callV (As := [.int u1]) (rest := []) hA ⟨hx, hb, hml, hown, hts⟩ (tX7_isSite l D cA ad hJ u1 σ _ _ h16) (cwV 1 hts gX7_undo_X7_isSite rfl rfl rfl (by decide +kernel) ⟨(Nat.le_of_ble_eq_true rfl), (Nat.le_of_ble_eq_true rfl)⟩) hK hP hS KM_obj rfl rfl hl.1 rfl (Nat.le_of_ble_eq_true rfl) ⟨Nat.zero_le _, Nat.zero_le _⟩ dX7_undo_2 (fun H locs hP hS _ _ => ?_)
  refine lv_if_ne (tgt := 11) hx hb dX7_undo_5 (by decide) (fun c19 => ?_) (fun c19 => ?_)
  · have hM := (if_neg c19).symm.trans hM
    refine lv_aload_n hx hb dX7_undo_11 rfl (lv_at hl 0 rfl) ?_
    refine x_getr (own := RX7) (C := RX7) (T := TX7) (N := 14) hx hb hts hinX7_X7_undo hown hK hP KM_obj rfl 2 (by decide) (hts (.fieldLink RX7 17 "StrokeBoardModel" "made" "[I") (by decide +kernel)) rfl dX7_undo_12 ?_
    refine lv_iload_n hx hb dX7_undo_15 rfl (lv_at hl 1 rfl) ?_
    obtain ⟨h20, hM⟩ := ix_i hM
    refine x_iald hx hb hK hP rfl h20 dX7_undo_16 ?_
    refine lv_istore_n (lv' := [(2, .int (σ17 1 (Int32.toNatClampNeg u1))), (0, .ref (ad 0)), (1, .int u1)]) hx hb dX7_undo_17 rfl hl (by decide) rfl (fun ls hl => ?_)
    exact L18 fu _ _ _ _ _ _ hM hP hS (lv_sub hl [1, 2, 0] rfl)
  · have hM := (if_pos c19).symm.trans hM
    refine lv_ldc (own := RX7) (v := (-1000000001)) hx hb hown (hts (.constant RX7 89 (-1000000001)) (by decide +kernel)) dX7_undo_8 ?_
    exact x_iret hx hb hr hlk hP hS hM dX7_undo_10
theorem hinX7_X7_redo : ∀ w ∈ u_ws RX7 TX7 14, w ∈ wsX7_redo := by decide +kernel
set_option maxHeartbeats 4000000 in
set_option maxRecDepth 100000 in
theorem tX7_redo (l : Launch) (D : va_G) (cA : ClassId) (ad : Nat → Nat) (hJ : w_J ad KM) (u1 : Int32) (σ σ' : St) (r : Int32) (hM : mX7_redo u1 σ = some (r, σ')) : Ct l yX7_redo wsX7_redo 4 94 D cA ad KM [.ref (ad 0), .int u1] σ r σ' := by
  unfold Ct
  refine Met_of (cc := cX7_redo) (maxL := 6) (ret := (some .int)) hJ (by decide +kernel) rfl (Nat.le_of_ble_eq_true rfl) ?_
  intro p e s m below meth c Z H locs ls hP hS hl
  obtain ⟨hx, hb, hml, hown, hts, hr, hlk, hK, -⟩ := Z
  have hown : s.vm.findClass RX7 = some m.cls := hown
  have hl : lv_has ls 6 [(0, .ref (ad 0)), (1, .int u1)] := hl
  have hA : ∀ q, w_A ad KM q → w_A ad KM q := fun _ h => h
  have b87 : ∀ (x1 x2 : Int32) (σ : St) (H : Heap) (locs : List Loc) (ls : Array Slot), mX7_redo_b87 x1 x2 σ = some (r, σ') → w_P D cA ad KM σ H → va_S (w_A ad KM) s.heap H locs → lv_has ls 6 [(0, .ref (ad 0)), (1, .int x1), (2, .int x2)] → Wm p l e wsX7_redo 4 94 s m ([.ref (ad 0), .int u1] : List Value).toArray below meth c (w_Qi D cA ad KM r σ') (w_A ad KM) H locs (F0 m 87 ls []) := by
    intro x1 x2 σ H locs ls hM hP hS hl
    unfold mX7_redo_b87 at hM
    refine lv_iload_n hx hb dX7_redo_87 rfl (lv_at hl 2 rfl) ?_
    refine lv_if_ne (tgt := 94) hx hb dX7_redo_88 (by decide) (fun c1 => ?_) (fun c1 => ?_)
    · have hM := (if_neg c1).symm.trans hM
      refine lv_aload_n hx hb dX7_redo_94 rfl (lv_at hl 0 rfl) ?_
      refine x_getr (own := RX7) (C := RX7) (T := TX7) (N := 14) hx hb hts hinX7_X7_redo hown hK hP KM_obj rfl 2 (by decide) (hts (.fieldLink RX7 17 "StrokeBoardModel" "made" "[I") (by decide +kernel)) rfl dX7_redo_95 ?_
      refine lv_iload_n hx hb dX7_redo_98 rfl (lv_at hl 1 rfl) ?_
      obtain ⟨h2, hM⟩ := ix_i hM
      refine x_iald hx hb hK hP rfl h2 dX7_redo_99 ?_
      refine lv_bipush (v := 20) hx hb dX7_redo_100 (by decide) ?_
      refine lv_icmp_ne (tgt := 108) hx hb dX7_redo_102 (by decide) (fun c3 => ?_) (fun c3 => ?_)
      · have hM := (if_neg c3).symm.trans hM
        refine lv_aload_n hx hb dX7_redo_108 rfl (lv_at hl 0 rfl) ?_
        refine lv_iload_n hx hb dX7_redo_109 rfl (lv_at hl 1 rfl) ?_
        refine lv_iconst (v := 2) hx hb dX7_redo_110 (by decide) ?_
        refine lv_iload_n hx hb dX7_redo_111 rfl (lv_at hl 1 rfl) ?_
        refine lv_iconst (v := (-1)) hx hb dX7_redo_112 (by decide) ?_
        refine lv_iload_n hx hb dX7_redo_113 rfl (lv_at hl 2 rfl) ?_
        obtain ⟨r6, σ5, h4, hM⟩ := bnd_i hM
        refine x_callV (As := [.int x1, .int 2, .int x1, .int (-1), .int x2]) (rest := []) hA ⟨hx, hb, hml, hown, hts⟩ (tX7_make l D cA ad hJ x1 2 x1 (-1) x2 σ _ _ h4) (cwV 5 hts gX7_redo_X7_make rfl rfl rfl (by decide +kernel) ⟨(Nat.le_of_ble_eq_true rfl), (Nat.le_of_ble_eq_true rfl)⟩) hK hP hS KM_obj rfl rfl hl.1 rfl (Nat.le_of_ble_eq_true rfl) ⟨Nat.zero_le _, Nat.zero_le _⟩ dX7_redo_114 (fun H locs hP hS _ _ => ?_)
        refine lv_istore_n (lv' := [(3, .int r6), (0, .ref (ad 0)), (1, .int x1), (2, .int x2)]) hx hb dX7_redo_117 rfl hl (by decide) rfl (fun ls hl => ?_)
        refine lv_iload_n hx hb dX7_redo_118 rfl (lv_at hl 0 rfl) ?_
        refine lv_if_le (tgt := 126) hx hb dX7_redo_119 (by decide) (fun c7 => ?_) (fun c7 => ?_)
        · have hM := (if_pos c7).symm.trans hM
          refine lv_iconst (v := 0) hx hb dX7_redo_126 (by decide) ?_
          exact x_iret hx hb hr hlk hP hS hM dX7_redo_127
        · have hM := (if_neg c7).symm.trans hM
          refine lv_iload_n hx hb dX7_redo_122 rfl (lv_at hl 3 rfl) ?_
          refine lv_goto (tgt := 127) hx hb dX7_redo_123 (by decide) ?_
          exact x_iret hx hb hr hlk hP hS hM dX7_redo_127
      · have hM := (if_pos c3).symm.trans hM
        refine lv_ldc (own := RX7) (v := (-1000000003)) hx hb hown (hts (.constant RX7 94 (-1000000003)) (by decide +kernel)) dX7_redo_105 ?_
        exact x_iret hx hb hr hlk hP hS hM dX7_redo_107
    · have hM := (if_pos c1).symm.trans hM
      refine lv_ldc (own := RX7) (v := (-1000000002)) hx hb hown (hts (.constant RX7 101 (-1000000002)) (by decide +kernel)) dX7_redo_91 ?_
      exact x_iret hx hb hr hlk hP hS hM dX7_redo_93
  have L15 : ∀ (n : Nat) (x1 x2 x3 : Int32) (σ : St) (H : Heap) (locs : List Loc) (ls : Array Slot), mX7_redo_L15 n x1 x2 x3 σ = some (r, σ') → w_P D cA ad KM σ H → va_S (w_A ad KM) s.heap H locs → lv_has ls 6 [(0, .ref (ad 0)), (1, .int x1), (2, .int x2), (3, .int x3)] → Wm p l e wsX7_redo 4 94 s m ([.ref (ad 0), .int u1] : List Value).toArray below meth c (w_Qi D cA ad KM r σ') (w_A ad KM) H locs (F0 m 15 ls []) := by
    intro n15
    induction n15 with
    | zero =>
      intro x1 x2 x3 σ H locs ls hM hP hS hl
      rw [mX7_redo_L15] at hM
      cases hM
    | succ n15 ih15 =>
      have b62 : ∀ (x1 x2 x3 x4 y0 : Int32) (σ : St) (H : Heap) (locs : List Loc) (ls : Array Slot), mX7_redo_b62 (mX7_redo_L15 n15) x1 x2 x3 x4 y0 σ = some (r, σ') → w_P D cA ad KM σ H → va_S (w_A ad KM) s.heap H locs → lv_has ls 6 [(0, .ref (ad 0)), (1, .int x1), (2, .int x2), (3, .int x3), (4, .int x4)] → Wm p l e wsX7_redo 4 94 s m ([.ref (ad 0), .int u1] : List Value).toArray below meth c (w_Qi D cA ad KM r σ') (w_A ad KM) H locs (F0 m 62 ls [.int y0]) := by
        intro x1 x2 x3 x4 y0 σ H locs ls hM hP hS hl
        unfold mX7_redo_b62 at hM
        refine lv_istore (lv' := [(5, .int y0), (0, .ref (ad 0)), (1, .int x1), (2, .int x2), (3, .int x3), (4, .int x4)]) hx hb dX7_redo_62 hl (by decide) rfl (fun ls hl => ?_)
        refine lv_iload hx hb dX7_redo_64 (lv_at hl 0 rfl) ?_
        refine lv_if_eq (tgt := 79) hx hb dX7_redo_66 (by decide) (fun c8 => ?_) (fun c8 => ?_)
        · have hM := (if_pos c8).symm.trans hM
          refine lv_iload_n hx hb dX7_redo_79 rfl (lv_at hl 3 rfl) ?_
          refine lv_istore_n (lv' := [(2, .int x2), (5, .int y0), (0, .ref (ad 0)), (1, .int x1), (3, .int x3), (4, .int x4)]) hx hb dX7_redo_80 rfl hl (by decide) rfl (fun ls hl => ?_)
          refine lv_iinc (v := (x3 + 1)) (lv' := [(3, .int (x3 + 1)), (2, .int x2), (5, .int y0), (0, .ref (ad 0)), (1, .int x1), (4, .int x4)]) hx hb dX7_redo_81 hl (k := 4) rfl rfl (by decide) rfl (fun ls hl => ?_)
          refine lv_goto (tgt := 15) hx hb dX7_redo_84 (by decide) ?_
          exact ih15 _ _ _ _ _ _ _ hM hP hS (lv_sub hl [3, 4, 1, 0] rfl)
        · have hM := (if_neg c8).symm.trans hM
          refine lv_aload_n hx hb dX7_redo_69 rfl (lv_at hl 1 rfl) ?_
          refine lv_iload hx hb dX7_redo_70 (lv_at hl 5 rfl) ?_
          refine lv_iconst (v := 4) hx hb dX7_redo_72 (by decide) ?_
          obtain ⟨r11, σ10, h9, hM⟩ := bnd_i hM
          refine x_callV (As := [.int x4, .int 4]) (rest := []) hA ⟨hx, hb, hml, hown, hts⟩ (tX7_of l D cA ad hJ x4 4 σ _ _ h9) (cwV 2 hts gX7_redo_X7_of rfl rfl rfl (by decide +kernel) ⟨(Nat.le_of_ble_eq_true rfl), (Nat.le_of_ble_eq_true rfl)⟩) hK hP hS KM_obj rfl rfl hl.1 rfl (Nat.le_of_ble_eq_true rfl) ⟨Nat.zero_le _, Nat.zero_le _⟩ dX7_redo_73 (fun H locs hP hS _ _ => ?_)
          refine lv_goto (tgt := 80) hx hb dX7_redo_76 (by decide) ?_
          refine lv_istore_n (lv' := [(2, .int r11), (5, .int y0), (0, .ref (ad 0)), (1, .int x1), (3, .int x3), (4, .int x4)]) hx hb dX7_redo_80 rfl hl (by decide) rfl (fun ls hl => ?_)
          refine lv_iinc (v := (x3 + 1)) (lv' := [(3, .int (x3 + 1)), (2, .int r11), (5, .int y0), (0, .ref (ad 0)), (1, .int x1), (4, .int x4)]) hx hb dX7_redo_81 hl (k := 4) rfl rfl (by decide) rfl (fun ls hl => ?_)
          refine lv_goto (tgt := 15) hx hb dX7_redo_84 (by decide) ?_
          exact ih15 _ _ _ _ _ _ _ hM hP hS (lv_sub hl [3, 4, 1, 0] rfl)
      have b61 : ∀ (x1 x2 x3 x4 : Int32) (σ : St) (H : Heap) (locs : List Loc) (ls : Array Slot), mX7_redo_b61 (mX7_redo_L15 n15) x1 x2 x3 x4 σ = some (r, σ') → w_P D cA ad KM σ H → va_S (w_A ad KM) s.heap H locs → lv_has ls 6 [(0, .ref (ad 0)), (1, .int x1), (2, .int x2), (3, .int x3), (4, .int x4)] → Wm p l e wsX7_redo 4 94 s m ([.ref (ad 0), .int u1] : List Value).toArray below meth c (w_Qi D cA ad KM r σ') (w_A ad KM) H locs (F0 m 61 ls []) := by
        intro x1 x2 x3 x4 σ H locs ls hM hP hS hl
        unfold mX7_redo_b61 at hM
        refine lv_iconst (v := 0) hx hb dX7_redo_61 (by decide) ?_
        exact b62 _ _ _ _ _ _ _ _ _ hM hP hS (lv_sub hl [0, 1, 2, 3, 4] rfl)
      intro x1 x2 x3 σ H locs ls hM hP hS hl
      rw [mX7_redo_L15] at hM
      refine lv_iload_n hx hb dX7_redo_15 rfl (lv_at hl 3 rfl) ?_
      refine lv_aload_n hx hb dX7_redo_16 rfl (lv_at hl 0 rfl) ?_
      refine x_getr (own := RX7) (C := RX7) (T := TX7) (N := 14) hx hb hts hinX7_X7_redo hown hK hP KM_obj rfl 2 (by decide) (hts (.fieldLink RX7 17 "StrokeBoardModel" "made" "[I") (by decide +kernel)) rfl dX7_redo_17 ?_
      refine lv_iload_n hx hb dX7_redo_20 rfl (lv_at hl 1 rfl) ?_
      obtain ⟨h12, hM⟩ := ix_i hM
      refine x_iald hx hb hK hP rfl h12 dX7_redo_21 ?_
      refine lv_icmp_gt (tgt := 87) hx hb dX7_redo_22 (by decide) (fun c13 => ?_) (fun c13 => ?_)
      · have hM := (if_pos c13).symm.trans hM
        exact b87 _ _ _ _ _ _ hM hP hS (lv_sub hl [0, 1, 2] rfl)
      · have hM := (if_neg c13).symm.trans hM
        refine lv_iload_n hx hb dX7_redo_25 rfl (lv_at hl 1 rfl) ?_
        refine lv_iload_n hx hb dX7_redo_26 rfl (lv_at hl 3 rfl) ?_
        obtain ⟨r16, σ15, h14, hM⟩ := bnd_i hM
        refine x_callS (As := [.int x1, .int x3]) (rest := []) hA ⟨hx, hb, hml, hown, hts⟩ (tX7_place l D cA ad hJ x1 x3 σ _ _ h14) (va_cwS 2 hts gX7_redo_X7_place rfl rfl rfl (by decide +kernel) ⟨(Nat.le_of_ble_eq_true rfl), (Nat.le_of_ble_eq_true rfl)⟩) hK hP hS rfl hl.1 rfl (Nat.le_of_ble_eq_true rfl) ⟨Nat.zero_le _, Nat.zero_le _⟩ dX7_redo_27 (fun H locs hP hS => ?_)
        refine lv_istore (lv' := [(4, .int r16), (0, .ref (ad 0)), (1, .int x1), (2, .int x2), (3, .int x3)]) hx hb dX7_redo_30 hl (by decide) rfl (fun ls hl => ?_)
        refine lv_aload_n hx hb dX7_redo_32 rfl (lv_at hl 1 rfl) ?_
        refine lv_iload hx hb dX7_redo_33 (lv_at hl 0 rfl) ?_
        refine lv_iconst (v := 0) hx hb dX7_redo_35 (by decide) ?_
        obtain ⟨r19, σ18, h17, hM⟩ := bnd_i hM
        refine x_callV (As := [.int r16, .int 0]) (rest := []) hA ⟨hx, hb, hml, hown, hts⟩ (tX7_of l D cA ad hJ r16 0 σ15 _ _ h17) (cwV 2 hts gX7_redo_X7_of rfl rfl rfl (by decide +kernel) ⟨(Nat.le_of_ble_eq_true rfl), (Nat.le_of_ble_eq_true rfl)⟩) hK hP hS KM_obj rfl rfl hl.1 rfl (Nat.le_of_ble_eq_true rfl) ⟨Nat.zero_le _, Nat.zero_le _⟩ dX7_redo_36 (fun H locs hP hS _ _ => ?_)
        refine lv_iconst (v := 1) hx hb dX7_redo_39 (by decide) ?_
        refine lv_icmp_ne (tgt := 61) hx hb dX7_redo_40 (by decide) (fun c20 => ?_) (fun c20 => ?_)
        · have hM := (if_neg c20).symm.trans hM
          exact b61 _ _ _ _ _ _ _ _ hM hP hS (lv_sub hl [1, 2, 3, 4, 0] rfl)
        · have hM := (if_pos c20).symm.trans hM
          refine lv_aload_n hx hb dX7_redo_43 rfl (lv_at hl 1 rfl) ?_
          refine lv_iload_n hx hb dX7_redo_44 rfl (lv_at hl 2 rfl) ?_
          refine lv_aload_n hx hb dX7_redo_45 rfl (lv_at hl 1 rfl) ?_
          refine lv_iload hx hb dX7_redo_46 (lv_at hl 0 rfl) ?_
          obtain ⟨r23, σ22, h21, hM⟩ := bnd_i hM
          refine x_callV (As := [.int r16]) (rest := [.int x1, .ref (ad 0)]) hA ⟨hx, hb, hml, hown, hts⟩ (tX7_aim l D cA ad hJ r16 σ18 _ _ h21) (cwV 1 hts gX7_redo_X7_aim rfl rfl rfl (by decide +kernel) ⟨(Nat.le_of_ble_eq_true rfl), (Nat.le_of_ble_eq_true rfl)⟩) hK hP hS KM_obj rfl rfl hl.1 rfl (Nat.le_of_ble_eq_true rfl) ⟨Nat.zero_le _, Nat.zero_le _⟩ dX7_redo_48 (fun H locs hP hS _ _ => ?_)
          obtain ⟨r26, σ25, h24, hM⟩ := bnd_i hM
          refine x_callV (As := [.int x1, .int r23]) (rest := []) hA ⟨hx, hb, hml, hown, hts⟩ (tX7_isVisible l D cA ad hJ x1 r23 σ22 _ _ h24) (cwV 2 hts gX7_redo_X7_isVisible rfl rfl rfl (by decide +kernel) ⟨(Nat.le_of_ble_eq_true rfl), (Nat.le_of_ble_eq_true rfl)⟩) hK hP hS KM_obj rfl rfl hl.1 rfl (Nat.le_of_ble_eq_true rfl) ⟨Nat.zero_le _, Nat.zero_le _⟩ dX7_redo_51 (fun H locs hP hS _ _ => ?_)
          refine lv_if_ne (tgt := 61) hx hb dX7_redo_54 (by decide) (fun c27 => ?_) (fun c27 => ?_)
          · have hM := (if_neg c27).symm.trans hM
            exact b61 _ _ _ _ _ _ _ _ hM hP hS (lv_sub hl [1, 2, 3, 4, 0] rfl)
          · have hM := (if_pos c27).symm.trans hM
            refine lv_iconst (v := 1) hx hb dX7_redo_57 (by decide) ?_
            refine lv_goto (tgt := 62) hx hb dX7_redo_58 (by decide) ?_
            exact b62 _ _ _ _ _ _ _ _ _ hM hP hS (lv_sub hl [1, 2, 3, 4, 0] rfl)
  unfold mX7_redo at hM
  refine lv_aload_n hx hb dX7_redo_0 rfl (lv_at hl 0 rfl) ?_
  refine lv_iload_n hx hb dX7_redo_1 rfl (lv_at hl 1 rfl) ?_
  obtain ⟨r30, σ29, h28, hM⟩ := bnd_i hM
  refine x_callV (As := [.int u1]) (rest := []) hA ⟨hx, hb, hml, hown, hts⟩ (tX7_isSite l D cA ad hJ u1 σ _ _ h28) (cwV 1 hts gX7_redo_X7_isSite rfl rfl rfl (by decide +kernel) ⟨(Nat.le_of_ble_eq_true rfl), (Nat.le_of_ble_eq_true rfl)⟩) hK hP hS KM_obj rfl rfl hl.1 rfl (Nat.le_of_ble_eq_true rfl) ⟨Nat.zero_le _, Nat.zero_le _⟩ dX7_redo_2 (fun H locs hP hS _ _ => ?_)
  refine lv_if_ne (tgt := 11) hx hb dX7_redo_5 (by decide) (fun c31 => ?_) (fun c31 => ?_)
  · have hM := (if_neg c31).symm.trans hM
    refine lv_iconst (v := 0) hx hb dX7_redo_11 (by decide) ?_
    refine lv_istore_n (lv' := [(2, .int 0), (0, .ref (ad 0)), (1, .int u1)]) hx hb dX7_redo_12 rfl hl (by decide) rfl (fun ls hl => ?_)
    refine lv_iconst (v := 1) hx hb dX7_redo_13 (by decide) ?_
    refine lv_istore_n (lv' := [(3, .int 1), (2, .int 0), (0, .ref (ad 0)), (1, .int u1)]) hx hb dX7_redo_14 rfl hl (by decide) rfl (fun ls hl => ?_)
    exact L15 fu _ _ _ _ _ _ _ hM hP hS (lv_sub hl [2, 3, 1, 0] rfl)
  · have hM := (if_pos c31).symm.trans hM
    refine lv_ldc (own := RX7) (v := (-1000000001)) hx hb hown (hts (.constant RX7 89 (-1000000001)) (by decide +kernel)) dX7_redo_8 ?_
    exact x_iret hx hb hr hlk hP hS hM dX7_redo_10
theorem hinX7_X7_lift : ∀ w ∈ u_ws RX7 TX7 14, w ∈ wsX7_lift := by decide +kernel
set_option maxHeartbeats 4000000 in
set_option maxRecDepth 100000 in
theorem tX7_lift (l : Launch) (D : va_G) (cA : ClassId) (ad : Nat → Nat) (hJ : w_J ad KM) (u1 u2 u3 : Int32) (σ σ' : St) (r : Int32) (hM : mX7_lift u1 u2 u3 σ = some (r, σ')) : Ct l yX7_lift wsX7_lift 5 118 D cA ad KM [.ref (ad 0), .int u1, .int u2, .int u3] σ r σ' := by
  unfold Ct
  refine Met_of (cc := cX7_lift) (maxL := 4) (ret := (some .int)) hJ (by decide +kernel) rfl (Nat.le_of_ble_eq_true rfl) ?_
  intro p e s m below meth c Z H locs ls hP hS hl
  obtain ⟨hx, hb, hml, hown, hts, hr, hlk, hK, -⟩ := Z
  have hown : s.vm.findClass RX7 = some m.cls := hown
  have hl : lv_has ls 4 [(0, .ref (ad 0)), (1, .int u1), (2, .int u2), (3, .int u3)] := hl
  have hA : ∀ q, w_A ad KM q → w_A ad KM q := fun _ h => h
  unfold mX7_lift at hM
  refine lv_aload_n hx hb dX7_lift_0 rfl (lv_at hl 0 rfl) ?_
  refine lv_iload_n hx hb dX7_lift_1 rfl (lv_at hl 1 rfl) ?_
  obtain ⟨r3, σ2, h1, hM⟩ := bnd_i hM
  refine x_callV (As := [.int u1]) (rest := []) hA ⟨hx, hb, hml, hown, hts⟩ (tX7_isSite l D cA ad hJ u1 σ _ _ h1) (cwV 1 hts gX7_lift_X7_isSite rfl rfl rfl (by decide +kernel) ⟨(Nat.le_of_ble_eq_true rfl), (Nat.le_of_ble_eq_true rfl)⟩) hK hP hS KM_obj rfl rfl hl.1 rfl (Nat.le_of_ble_eq_true rfl) ⟨Nat.zero_le _, Nat.zero_le _⟩ dX7_lift_2 (fun H locs hP hS _ _ => ?_)
  refine lv_if_eq (tgt := 21) hx hb dX7_lift_5 (by decide) (fun c4 => ?_) (fun c4 => ?_)
  · have hM := (if_pos c4).symm.trans hM
    refine lv_ldc (own := RX7) (v := (-1000000001)) hx hb hown (hts (.constant RX7 89 (-1000000001)) (by decide +kernel)) dX7_lift_21 ?_
    exact x_iret hx hb hr hlk hP hS hM dX7_lift_23
  · have hM := (if_neg c4).symm.trans hM
    refine lv_iload_n hx hb dX7_lift_8 rfl (lv_at hl 2 rfl) ?_
    refine lv_if_lt (tgt := 21) hx hb dX7_lift_9 (by decide) (fun c5 => ?_) (fun c5 => ?_)
    · have hM := (if_pos c5).symm.trans hM
      refine lv_ldc (own := RX7) (v := (-1000000001)) hx hb hown (hts (.constant RX7 89 (-1000000001)) (by decide +kernel)) dX7_lift_21 ?_
      exact x_iret hx hb hr hlk hP hS hM dX7_lift_23
    · have hM := (if_neg c5).symm.trans hM
      refine lv_iload_n hx hb dX7_lift_12 rfl (lv_at hl 3 rfl) ?_
      refine lv_iconst (v := 0) hx hb dX7_lift_13 (by decide) ?_
      refine lv_iconst (v := 3) hx hb dX7_lift_14 (by decide) ?_
      obtain ⟨r8, σ7, h6, hM⟩ := bnd_i hM
      refine x_callS (As := [.int u3, .int 0, .int 3]) (rest := []) hA ⟨hx, hb, hml, hown, hts⟩ (tX7_in l D cA ad hJ u3 0 3 σ2 _ _ h6) (va_cwS 3 hts gX7_lift_X7_in rfl rfl rfl (by decide +kernel) ⟨(Nat.le_of_ble_eq_true rfl), (Nat.le_of_ble_eq_true rfl)⟩) hK hP hS rfl hl.1 rfl (Nat.le_of_ble_eq_true rfl) ⟨Nat.zero_le _, Nat.zero_le _⟩ dX7_lift_15 (fun H locs hP hS => ?_)
      refine lv_if_ne (tgt := 24) hx hb dX7_lift_18 (by decide) (fun c9 => ?_) (fun c9 => ?_)
      · have hM := (if_neg c9).symm.trans hM
        refine lv_aload_n hx hb dX7_lift_24 rfl (lv_at hl 0 rfl) ?_
        refine lv_iload_n hx hb dX7_lift_25 rfl (lv_at hl 1 rfl) ?_
        obtain ⟨σ11, h10, hM⟩ := bnv_i hM
        refine x_callVv (As := [.int u1]) (rest := []) hA ⟨hx, hb, hml, hown, hts⟩ (tX7_workOut l D cA ad hJ u1 σ7 _ h10) (cwV 1 hts gX7_lift_X7_workOut rfl rfl rfl (by decide +kernel) ⟨(Nat.le_of_ble_eq_true rfl), (Nat.le_of_ble_eq_true rfl)⟩) hK hP hS KM_obj rfl rfl hl.1 rfl (Nat.le_of_ble_eq_true rfl) ⟨Nat.zero_le _, Nat.zero_le _⟩ dX7_lift_26 (fun H locs hP hS _ _ => ?_)
        refine lv_iload_n hx hb dX7_lift_29 rfl (lv_at hl 2 rfl) ?_
        refine lv_aload_n hx hb dX7_lift_30 rfl (lv_at hl 0 rfl) ?_
        refine x_geti (own := RX7) (C := RX7) (T := TX7) (N := 14) hx hb hts hinX7_X7_lift hown hK hP KM_obj rfl 10 (by decide) (hts (.fieldLink RX7 80 "StrokeBoardModel" "boardMany" "I") (by decide +kernel)) rfl dX7_lift_31 ?_
        refine lv_icmp_lt (tgt := 40) hx hb dX7_lift_34 (by decide) (fun c12 => ?_) (fun c12 => ?_)
        · have hM := (if_pos c12).symm.trans hM
          refine lv_aload_n hx hb dX7_lift_40 rfl (lv_at hl 0 rfl) ?_
          refine x_getr (own := RX7) (C := RX7) (T := TX7) (N := 14) hx hb hts hinX7_X7_lift hown hK hP KM_obj rfl 2 (by decide) (hts (.fieldLink RX7 17 "StrokeBoardModel" "made" "[I") (by decide +kernel)) rfl dX7_lift_41 ?_
          refine lv_iload_n hx hb dX7_lift_44 rfl (lv_at hl 1 rfl) ?_
          obtain ⟨h13, hM⟩ := ix_i hM
          refine x_iald hx hb hK hP rfl h13 dX7_lift_45 ?_
          refine lv_bipush (v := 20) hx hb dX7_lift_46 (by decide) ?_
          refine lv_icmp_ne (tgt := 54) hx hb dX7_lift_48 (by decide) (fun c14 => ?_) (fun c14 => ?_)
          · have hM := (if_neg c14).symm.trans hM
            refine lv_aload_n hx hb dX7_lift_54 rfl (lv_at hl 0 rfl) ?_
            refine lv_iload_n hx hb dX7_lift_55 rfl (lv_at hl 1 rfl) ?_
            refine lv_iconst (v := 3) hx hb dX7_lift_56 (by decide) ?_
            refine lv_aload_n hx hb dX7_lift_57 rfl (lv_at hl 0 rfl) ?_
            refine x_getr (own := RX7) (C := RX7) (T := TX7) (N := 14) hx hb hts hinX7_X7_lift hown hK hP KM_obj rfl 8 (by decide) (hts (.fieldLink RX7 35 "StrokeBoardModel" "board" "[I") (by decide +kernel)) rfl dX7_lift_58 ?_
            refine lv_iload_n hx hb dX7_lift_61 rfl (lv_at hl 2 rfl) ?_
            obtain ⟨h15, hM⟩ := ix_i hM
            refine x_iald hx hb hK hP rfl h15 dX7_lift_62 ?_
            refine lv_bipush (v := 20) hx hb dX7_lift_63 (by decide) ?_
            refine lv_idiv hx hb dX7_lift_65 (by decide) ?_
            refine lv_iload_n hx hb dX7_lift_66 rfl (lv_at hl 3 rfl) ?_
            refine lv_aload_n hx hb dX7_lift_67 rfl (lv_at hl 0 rfl) ?_
            refine x_getr (own := RX7) (C := RX7) (T := TX7) (N := 14) hx hb hts hinX7_X7_lift hown hK hP KM_obj rfl 8 (by decide) (hts (.fieldLink RX7 35 "StrokeBoardModel" "board" "[I") (by decide +kernel)) rfl dX7_lift_68 ?_
            refine lv_iload_n hx hb dX7_lift_71 rfl (lv_at hl 2 rfl) ?_
            obtain ⟨h16, hM⟩ := ix_i hM
            refine x_iald hx hb hK hP rfl h16 dX7_lift_72 ?_
            refine lv_bipush (v := 20) hx hb dX7_lift_73 (by decide) ?_
            refine lv_irem hx hb dX7_lift_75 (by decide) ?_
            refine lv_iconst (v := 1) hx hb dX7_lift_76 (by decide) ?_
            refine lv_iadd hx hb dX7_lift_77 ?_
            obtain ⟨r19, σ18, h17, hM⟩ := bnd_i hM
            refine x_callV (As := [.int u1, .int 3, .int ((σ11 7 (Int32.toNatClampNeg u2)) / 20), .int u3, .int (((σ11 7 (Int32.toNatClampNeg u2)) - (σ11 7 (Int32.toNatClampNeg u2)) / 20 * 20) + 1)]) (rest := []) hA ⟨hx, hb, hml, hown, hts⟩ (tX7_make l D cA ad hJ u1 3 ((σ11 7 (Int32.toNatClampNeg u2)) / 20) u3 (((σ11 7 (Int32.toNatClampNeg u2)) - (σ11 7 (Int32.toNatClampNeg u2)) / 20 * 20) + 1) σ11 _ _ h17) (cwV 5 hts gX7_lift_X7_make rfl rfl rfl (by decide +kernel) ⟨(Nat.le_of_ble_eq_true rfl), (Nat.le_of_ble_eq_true rfl)⟩) hK hP hS KM_obj rfl rfl hl.1 rfl (Nat.le_of_ble_eq_true rfl) ⟨Nat.zero_le _, Nat.zero_le _⟩ dX7_lift_78 (fun H locs hP hS _ _ => ?_)
            exact x_iret hx hb hr hlk hP hS hM dX7_lift_81
          · have hM := (if_pos c14).symm.trans hM
            refine lv_ldc (own := RX7) (v := (-1000000003)) hx hb hown (hts (.constant RX7 94 (-1000000003)) (by decide +kernel)) dX7_lift_51 ?_
            exact x_iret hx hb hr hlk hP hS hM dX7_lift_53
        · have hM := (if_neg c12).symm.trans hM
          refine lv_ldc (own := RX7) (v := (-1000000002)) hx hb hown (hts (.constant RX7 101 (-1000000002)) (by decide +kernel)) dX7_lift_37 ?_
          exact x_iret hx hb hr hlk hP hS hM dX7_lift_39
      · have hM := (if_pos c9).symm.trans hM
        refine lv_ldc (own := RX7) (v := (-1000000001)) hx hb hown (hts (.constant RX7 89 (-1000000001)) (by decide +kernel)) dX7_lift_21 ?_
        exact x_iret hx hb hr hlk hP hS hM dX7_lift_23
theorem hinX7_X7_take : ∀ w ∈ u_ws RX7 TX7 14, w ∈ wsX7_take := by decide +kernel
set_option maxHeartbeats 4000000 in
set_option maxRecDepth 100000 in
theorem tX7_take (l : Launch) (D : va_G) (cA : ClassId) (ad : Nat → Nat) (hJ : w_J ad KM) (u1 : Int32) (σ σ' : St) (r : Int32) (hM : mX7_take u1 σ = some (r, σ')) : Ct l yX7_take wsX7_take 0 0 D cA ad KM [.ref (ad 0), .int u1] σ r σ' := by
  unfold Ct
  refine Met_of (cc := cX7_take) (maxL := 4) (ret := (some .int)) hJ (by decide +kernel) rfl (Nat.le_of_ble_eq_true rfl) ?_
  intro p e s m below meth c Z H locs ls hP hS hl
  obtain ⟨hx, hb, hml, hown, hts, hr, hlk, hK, -⟩ := Z
  have hown : s.vm.findClass RX7 = some m.cls := hown
  have hl : lv_has ls 4 [(0, .ref (ad 0)), (1, .int u1)] := hl
  have hA : ∀ q, w_A ad KM q → w_A ad KM q := fun _ h => h
  have L22 : ∀ (n : Nat) (x1 x2 x3 : Int32) (σ : St) (H : Heap) (locs : List Loc) (ls : Array Slot), mX7_take_L22 n x1 x2 x3 σ = some (r, σ') → w_P D cA ad KM σ H → va_S (w_A ad KM) s.heap H locs → lv_has ls 4 [(0, .ref (ad 0)), (1, .int x1), (2, .int x2), (3, .int x3)] → Wm p l e wsX7_take 0 0 s m ([.ref (ad 0), .int u1] : List Value).toArray below meth c (w_Qi D cA ad KM r σ') (w_A ad KM) H locs (F0 m 22 ls []) := by
    intro n22
    induction n22 with
    | zero =>
      intro x1 x2 x3 σ H locs ls hM hP hS hl
      rw [mX7_take_L22] at hM
      cases hM
    | succ n22 ih22 =>
      intro x1 x2 x3 σ H locs ls hM hP hS hl
      rw [mX7_take_L22] at hM
      refine lv_iload_n hx hb dX7_take_22 rfl (lv_at hl 3 rfl) ?_
      refine lv_aload_n hx hb dX7_take_23 rfl (lv_at hl 0 rfl) ?_
      refine x_getr (own := RX7) (C := RX7) (T := TX7) (N := 14) hx hb hts hinX7_X7_take hown hK hP KM_obj rfl 7 (by decide) (hts (.fieldLink RX7 32 "StrokeBoardModel" "linkMany" "[I") (by decide +kernel)) rfl dX7_take_24 ?_
      refine lv_iload_n hx hb dX7_take_27 rfl (lv_at hl 1 rfl) ?_
      obtain ⟨h1, hM⟩ := ix_i hM
      refine x_iald hx hb hK hP rfl h1 dX7_take_28 ?_
      refine lv_icmp_ge (tgt := 62) hx hb dX7_take_29 (by decide) (fun c2 => ?_) (fun c2 => ?_)
      · have hM := (if_pos c2).symm.trans hM
        refine lv_iload_n hx hb dX7_take_62 rfl (lv_at hl 2 rfl) ?_
        exact x_iret hx hb hr hlk hP hS hM dX7_take_63
      · have hM := (if_neg c2).symm.trans hM
        refine lv_aload_n hx hb dX7_take_32 rfl (lv_at hl 0 rfl) ?_
        refine x_getr (own := RX7) (C := RX7) (T := TX7) (N := 14) hx hb hts hinX7_X7_take hown hK hP KM_obj rfl 6 (by decide) (hts (.fieldLink RX7 29 "StrokeBoardModel" "links" "[I") (by decide +kernel)) rfl dX7_take_33 ?_
        refine lv_bipush (v := 10) hx hb dX7_take_36 (by decide) ?_
        refine lv_iload_n hx hb dX7_take_38 rfl (lv_at hl 1 rfl) ?_
        refine lv_imul hx hb dX7_take_39 ?_
        refine lv_iload_n hx hb dX7_take_40 rfl (lv_at hl 3 rfl) ?_
        refine lv_iadd hx hb dX7_take_41 ?_
        refine lv_aload_n hx hb dX7_take_42 rfl (lv_at hl 0 rfl) ?_
        refine x_getr (own := RX7) (C := RX7) (T := TX7) (N := 14) hx hb hts hinX7_X7_take hown hK hP KM_obj rfl 6 (by decide) (hts (.fieldLink RX7 29 "StrokeBoardModel" "links" "[I") (by decide +kernel)) rfl dX7_take_43 ?_
        refine lv_bipush (v := 10) hx hb dX7_take_46 (by decide) ?_
        refine lv_iload_n hx hb dX7_take_48 rfl (lv_at hl 1 rfl) ?_
        refine lv_imul hx hb dX7_take_49 ?_
        refine lv_iload_n hx hb dX7_take_50 rfl (lv_at hl 3 rfl) ?_
        refine lv_iadd hx hb dX7_take_51 ?_
        refine lv_iconst (v := 1) hx hb dX7_take_52 (by decide) ?_
        refine lv_iadd hx hb dX7_take_53 ?_
        obtain ⟨h3, hM⟩ := ix_i hM
        refine x_iald hx hb hK hP rfl h3 dX7_take_54 ?_
        obtain ⟨h4, hM⟩ := ix_i hM
        refine x_iast hx hb KM_ok hJ hK hP hS rfl h4 dX7_take_55 (fun H locs hP hS => ?_)
        obtain ⟨σ5, eσ5, hM⟩ := lts_i hM
        rw [← eσ5] at hP
        refine lv_iinc (v := (x3 + 1)) (lv' := [(3, .int (x3 + 1)), (0, .ref (ad 0)), (1, .int x1), (2, .int x2)]) hx hb dX7_take_56 hl (k := 3) rfl rfl (by decide) rfl (fun ls hl => ?_)
        refine lv_goto (tgt := 22) hx hb dX7_take_59 (by decide) ?_
        exact ih22 _ _ _ _ _ _ _ hM hP hS (lv_sub hl [1, 2, 3, 0] rfl)
  unfold mX7_take at hM
  refine lv_aload_n hx hb dX7_take_0 rfl (lv_at hl 0 rfl) ?_
  refine x_getr (own := RX7) (C := RX7) (T := TX7) (N := 14) hx hb hts hinX7_X7_take hown hK hP KM_obj rfl 6 (by decide) (hts (.fieldLink RX7 29 "StrokeBoardModel" "links" "[I") (by decide +kernel)) rfl dX7_take_1 ?_
  refine lv_bipush (v := 10) hx hb dX7_take_4 (by decide) ?_
  refine lv_iload_n hx hb dX7_take_6 rfl (lv_at hl 1 rfl) ?_
  refine lv_imul hx hb dX7_take_7 ?_
  obtain ⟨h6, hM⟩ := ix_i hM
  refine x_iald hx hb hK hP rfl h6 dX7_take_8 ?_
  refine lv_istore_n (lv' := [(2, .int (σ 5 (Int32.toNatClampNeg (10 * u1)))), (0, .ref (ad 0)), (1, .int u1)]) hx hb dX7_take_9 rfl hl (by decide) rfl (fun ls hl => ?_)
  refine lv_aload_n hx hb dX7_take_10 rfl (lv_at hl 1 rfl) ?_
  refine x_getr (own := RX7) (C := RX7) (T := TX7) (N := 14) hx hb hts hinX7_X7_take hown hK hP KM_obj rfl 7 (by decide) (hts (.fieldLink RX7 32 "StrokeBoardModel" "linkMany" "[I") (by decide +kernel)) rfl dX7_take_11 ?_
  refine lv_iload_n hx hb dX7_take_14 rfl (lv_at hl 2 rfl) ?_
  refine lv_dup2_11 hx hb dX7_take_15 rfl rfl ?_
  obtain ⟨h7, hM⟩ := ix_i hM
  refine x_iald hx hb hK hP rfl h7 dX7_take_16 ?_
  refine lv_iconst (v := 1) hx hb dX7_take_17 (by decide) ?_
  refine lv_isub hx hb dX7_take_18 ?_
  obtain ⟨h8, hM⟩ := ix_i hM
  refine x_iast hx hb KM_ok hJ hK hP hS rfl h8 dX7_take_19 (fun H locs hP hS => ?_)
  obtain ⟨σ9, eσ9, hM⟩ := lts_i hM
  rw [← eσ9] at hP
  refine lv_iconst (v := 0) hx hb dX7_take_20 (by decide) ?_
  refine lv_istore_n (lv' := [(3, .int 0), (2, .int (σ 5 (Int32.toNatClampNeg (10 * u1)))), (0, .ref (ad 0)), (1, .int u1)]) hx hb dX7_take_21 rfl hl (by decide) rfl (fun ls hl => ?_)
  exact L22 fu _ _ _ _ _ _ _ hM hP hS (lv_sub hl [2, 3, 1, 0] rfl)
theorem hinX7_X7_deliver : ∀ w ∈ u_ws RX7 TX7 14, w ∈ wsX7_deliver := by decide +kernel
set_option maxHeartbeats 4000000 in
set_option maxRecDepth 100000 in
theorem tX7_deliver (l : Launch) (D : va_G) (cA : ClassId) (ad : Nat → Nat) (hJ : w_J ad KM) (u1 u2 : Int32) (σ σ' : St) (r : Int32) (hM : mX7_deliver u1 u2 σ = some (r, σ')) : Ct l yX7_deliver wsX7_deliver 3 65 D cA ad KM [.ref (ad 0), .int u1, .int u2] σ r σ' := by
  unfold Ct
  refine Met_of (cc := cX7_deliver) (maxL := 5) (ret := (some .int)) hJ (by decide +kernel) rfl (Nat.le_of_ble_eq_true rfl) ?_
  intro p e s m below meth c Z H locs ls hP hS hl
  obtain ⟨hx, hb, hml, hown, hts, hr, hlk, hK, -⟩ := Z
  have hown : s.vm.findClass RX7 = some m.cls := hown
  have hl : lv_has ls 5 [(0, .ref (ad 0)), (1, .int u1), (2, .int u2)] := hl
  have hA : ∀ q, w_A ad KM q → w_A ad KM q := fun _ h => h
  unfold mX7_deliver at hM
  refine lv_aload_n hx hb dX7_deliver_0 rfl (lv_at hl 0 rfl) ?_
  refine lv_iload_n hx hb dX7_deliver_1 rfl (lv_at hl 1 rfl) ?_
  refine lv_iload_n hx hb dX7_deliver_2 rfl (lv_at hl 2 rfl) ?_
  obtain ⟨r3, σ2, h1, hM⟩ := bnd_i hM
  refine x_callV (As := [.int u1, .int u2]) (rest := []) hA ⟨hx, hb, hml, hown, hts⟩ (tX7_isPair l D cA ad hJ u1 u2 σ _ _ h1) (cwV 2 hts gX7_deliver_X7_isPair rfl rfl rfl (by decide +kernel) ⟨(Nat.le_of_ble_eq_true rfl), (Nat.le_of_ble_eq_true rfl)⟩) hK hP hS KM_obj rfl rfl hl.1 rfl (Nat.le_of_ble_eq_true rfl) ⟨Nat.zero_le _, Nat.zero_le _⟩ dX7_deliver_3 (fun H locs hP hS _ _ => ?_)
  refine lv_if_ne (tgt := 12) hx hb dX7_deliver_6 (by decide) (fun c4 => ?_) (fun c4 => ?_)
  · have hM := (if_neg c4).symm.trans hM
    refine lv_iconst (v := 5) hx hb dX7_deliver_12 (by decide) ?_
    refine lv_iload_n hx hb dX7_deliver_13 rfl (lv_at hl 1 rfl) ?_
    refine lv_imul hx hb dX7_deliver_14 ?_
    refine lv_iload_n hx hb dX7_deliver_15 rfl (lv_at hl 2 rfl) ?_
    refine lv_iadd hx hb dX7_deliver_16 ?_
    refine lv_istore_n (lv' := [(3, .int ((5 * u1) + u2)), (0, .ref (ad 0)), (1, .int u1), (2, .int u2)]) hx hb dX7_deliver_17 rfl hl (by decide) rfl (fun ls hl => ?_)
    refine lv_aload_n hx hb dX7_deliver_18 rfl (lv_at hl 1 rfl) ?_
    refine x_getr (own := RX7) (C := RX7) (T := TX7) (N := 14) hx hb hts hinX7_X7_deliver hown hK hP KM_obj rfl 7 (by decide) (hts (.fieldLink RX7 32 "StrokeBoardModel" "linkMany" "[I") (by decide +kernel)) rfl dX7_deliver_19 ?_
    refine lv_iload_n hx hb dX7_deliver_22 rfl (lv_at hl 0 rfl) ?_
    obtain ⟨h5, hM⟩ := ix_i hM
    refine x_iald hx hb hK hP rfl h5 dX7_deliver_23 ?_
    refine lv_if_ne (tgt := 30) hx hb dX7_deliver_24 (by decide) (fun c6 => ?_) (fun c6 => ?_)
    · have hM := (if_neg c6).symm.trans hM
      refine lv_aload_n hx hb dX7_deliver_30 rfl (lv_at hl 1 rfl) ?_
      refine lv_iload_n hx hb dX7_deliver_31 rfl (lv_at hl 0 rfl) ?_
      obtain ⟨r9, σ8, h7, hM⟩ := bnd_i hM
      refine x_callV (As := [.int ((5 * u1) + u2)]) (rest := []) hA ⟨hx, hb, hml, hown, hts⟩ (tX7_take l D cA ad hJ ((5 * u1) + u2) σ2 _ _ h7) (cwV 1 hts gX7_deliver_X7_take rfl rfl rfl (by decide +kernel) ⟨(Nat.le_of_ble_eq_true rfl), (Nat.le_of_ble_eq_true rfl)⟩) hK hP hS KM_obj rfl rfl hl.1 rfl (Nat.le_of_ble_eq_true rfl) ⟨Nat.zero_le _, Nat.zero_le _⟩ dX7_deliver_32 (fun H locs hP hS _ _ => ?_)
      refine lv_istore (lv' := [(4, .int r9), (3, .int ((5 * u1) + u2)), (0, .ref (ad 0)), (1, .int u1), (2, .int u2)]) hx hb dX7_deliver_35 hl (by decide) rfl (fun ls hl => ?_)
      refine lv_aload_n hx hb dX7_deliver_37 rfl (lv_at hl 2 rfl) ?_
      refine lv_iload_n hx hb dX7_deliver_38 rfl (lv_at hl 4 rfl) ?_
      refine lv_iload_n hx hb dX7_deliver_39 rfl (lv_at hl 3 rfl) ?_
      refine lv_iload hx hb dX7_deliver_40 (lv_at hl 0 rfl) ?_
      obtain ⟨r12, σ11, h10, hM⟩ := bnd_i hM
      refine x_callS (As := [.int u1, .int r9]) (rest := [.int u2, .ref (ad 0)]) hA ⟨hx, hb, hml, hown, hts⟩ (tX7_place l D cA ad hJ u1 r9 σ8 _ _ h10) (va_cwS 2 hts gX7_deliver_X7_place rfl rfl rfl (by decide +kernel) ⟨(Nat.le_of_ble_eq_true rfl), (Nat.le_of_ble_eq_true rfl)⟩) hK hP hS rfl hl.1 rfl (Nat.le_of_ble_eq_true rfl) ⟨Nat.zero_le _, Nat.zero_le _⟩ dX7_deliver_42 (fun H locs hP hS => ?_)
      obtain ⟨σ14, h13, hM⟩ := bnv_i hM
      refine x_callVv (As := [.int u2, .int r12]) (rest := []) hA ⟨hx, hb, hml, hown, hts⟩ (tX7_learns l D cA ad hJ u2 r12 σ11 _ h13) (cwV 2 hts gX7_deliver_X7_learns rfl rfl rfl (by decide +kernel) ⟨(Nat.le_of_ble_eq_true rfl), (Nat.le_of_ble_eq_true rfl)⟩) hK hP hS KM_obj rfl rfl hl.1 rfl (Nat.le_of_ble_eq_true rfl) ⟨Nat.zero_le _, Nat.zero_le _⟩ dX7_deliver_45 (fun H locs hP hS _ _ => ?_)
      refine lv_bipush (v := 100) hx hb dX7_deliver_48 (by decide) ?_
      refine lv_iload_n hx hb dX7_deliver_50 rfl (lv_at hl 3 rfl) ?_
      refine lv_imul hx hb dX7_deliver_51 ?_
      refine lv_iload hx hb dX7_deliver_52 (lv_at hl 0 rfl) ?_
      refine lv_iadd hx hb dX7_deliver_54 ?_
      exact x_iret hx hb hr hlk hP hS hM dX7_deliver_55
    · have hM := (if_pos c6).symm.trans hM
      refine lv_ldc (own := RX7) (v := (-1000000004)) hx hb hown (hts (.constant RX7 109 (-1000000004)) (by decide +kernel)) dX7_deliver_27 ?_
      exact x_iret hx hb hr hlk hP hS hM dX7_deliver_29
  · have hM := (if_pos c4).symm.trans hM
    refine lv_ldc (own := RX7) (v := (-1000000001)) hx hb hown (hts (.constant RX7 89 (-1000000001)) (by decide +kernel)) dX7_deliver_9 ?_
    exact x_iret hx hb hr hlk hP hS hM dX7_deliver_11
theorem hinX7_X7_lose : ∀ w ∈ u_ws RX7 TX7 14, w ∈ wsX7_lose := by decide +kernel
set_option maxHeartbeats 4000000 in
set_option maxRecDepth 100000 in
theorem tX7_lose (l : Launch) (D : va_G) (cA : ClassId) (ad : Nat → Nat) (hJ : w_J ad KM) (u1 u2 : Int32) (σ σ' : St) (r : Int32) (hM : mX7_lose u1 u2 σ = some (r, σ')) : Ct l yX7_lose wsX7_lose 3 65 D cA ad KM [.ref (ad 0), .int u1, .int u2] σ r σ' := by
  unfold Ct
  refine Met_of (cc := cX7_lose) (maxL := 5) (ret := (some .int)) hJ (by decide +kernel) rfl (Nat.le_of_ble_eq_true rfl) ?_
  intro p e s m below meth c Z H locs ls hP hS hl
  obtain ⟨hx, hb, hml, hown, hts, hr, hlk, hK, -⟩ := Z
  have hown : s.vm.findClass RX7 = some m.cls := hown
  have hl : lv_has ls 5 [(0, .ref (ad 0)), (1, .int u1), (2, .int u2)] := hl
  have hA : ∀ q, w_A ad KM q → w_A ad KM q := fun _ h => h
  unfold mX7_lose at hM
  refine lv_aload_n hx hb dX7_lose_0 rfl (lv_at hl 0 rfl) ?_
  refine lv_iload_n hx hb dX7_lose_1 rfl (lv_at hl 1 rfl) ?_
  refine lv_iload_n hx hb dX7_lose_2 rfl (lv_at hl 2 rfl) ?_
  obtain ⟨r3, σ2, h1, hM⟩ := bnd_i hM
  refine x_callV (As := [.int u1, .int u2]) (rest := []) hA ⟨hx, hb, hml, hown, hts⟩ (tX7_isPair l D cA ad hJ u1 u2 σ _ _ h1) (cwV 2 hts gX7_lose_X7_isPair rfl rfl rfl (by decide +kernel) ⟨(Nat.le_of_ble_eq_true rfl), (Nat.le_of_ble_eq_true rfl)⟩) hK hP hS KM_obj rfl rfl hl.1 rfl (Nat.le_of_ble_eq_true rfl) ⟨Nat.zero_le _, Nat.zero_le _⟩ dX7_lose_3 (fun H locs hP hS _ _ => ?_)
  refine lv_if_ne (tgt := 12) hx hb dX7_lose_6 (by decide) (fun c4 => ?_) (fun c4 => ?_)
  · have hM := (if_neg c4).symm.trans hM
    refine lv_iconst (v := 5) hx hb dX7_lose_12 (by decide) ?_
    refine lv_iload_n hx hb dX7_lose_13 rfl (lv_at hl 1 rfl) ?_
    refine lv_imul hx hb dX7_lose_14 ?_
    refine lv_iload_n hx hb dX7_lose_15 rfl (lv_at hl 2 rfl) ?_
    refine lv_iadd hx hb dX7_lose_16 ?_
    refine lv_istore_n (lv' := [(3, .int ((5 * u1) + u2)), (0, .ref (ad 0)), (1, .int u1), (2, .int u2)]) hx hb dX7_lose_17 rfl hl (by decide) rfl (fun ls hl => ?_)
    refine lv_aload_n hx hb dX7_lose_18 rfl (lv_at hl 1 rfl) ?_
    refine x_getr (own := RX7) (C := RX7) (T := TX7) (N := 14) hx hb hts hinX7_X7_lose hown hK hP KM_obj rfl 7 (by decide) (hts (.fieldLink RX7 32 "StrokeBoardModel" "linkMany" "[I") (by decide +kernel)) rfl dX7_lose_19 ?_
    refine lv_iload_n hx hb dX7_lose_22 rfl (lv_at hl 0 rfl) ?_
    obtain ⟨h5, hM⟩ := ix_i hM
    refine x_iald hx hb hK hP rfl h5 dX7_lose_23 ?_
    refine lv_if_ne (tgt := 30) hx hb dX7_lose_24 (by decide) (fun c6 => ?_) (fun c6 => ?_)
    · have hM := (if_neg c6).symm.trans hM
      refine lv_aload_n hx hb dX7_lose_30 rfl (lv_at hl 1 rfl) ?_
      refine lv_iload_n hx hb dX7_lose_31 rfl (lv_at hl 0 rfl) ?_
      obtain ⟨r9, σ8, h7, hM⟩ := bnd_i hM
      refine x_callV (As := [.int ((5 * u1) + u2)]) (rest := []) hA ⟨hx, hb, hml, hown, hts⟩ (tX7_take l D cA ad hJ ((5 * u1) + u2) σ2 _ _ h7) (cwV 1 hts gX7_lose_X7_take rfl rfl rfl (by decide +kernel) ⟨(Nat.le_of_ble_eq_true rfl), (Nat.le_of_ble_eq_true rfl)⟩) hK hP hS KM_obj rfl rfl hl.1 rfl (Nat.le_of_ble_eq_true rfl) ⟨Nat.zero_le _, Nat.zero_le _⟩ dX7_lose_32 (fun H locs hP hS _ _ => ?_)
      refine lv_istore (lv' := [(4, .int r9), (3, .int ((5 * u1) + u2)), (0, .ref (ad 0)), (1, .int u1), (2, .int u2)]) hx hb dX7_lose_35 hl (by decide) rfl (fun ls hl => ?_)
      refine lv_aload_n hx hb dX7_lose_37 rfl (lv_at hl 2 rfl) ?_
      refine x_getr (own := RX7) (C := RX7) (T := TX7) (N := 14) hx hb hts hinX7_X7_lose hown hK hP KM_obj rfl 7 (by decide) (hts (.fieldLink RX7 32 "StrokeBoardModel" "linkMany" "[I") (by decide +kernel)) rfl dX7_lose_38 ?_
      refine lv_iload_n hx hb dX7_lose_41 rfl (lv_at hl 1 rfl) ?_
      obtain ⟨h10, hM⟩ := ix_i hM
      refine x_iald hx hb hK hP rfl h10 dX7_lose_42 ?_
      exact x_iret hx hb hr hlk hP hS hM dX7_lose_43
    · have hM := (if_pos c6).symm.trans hM
      refine lv_ldc (own := RX7) (v := (-1000000004)) hx hb hown (hts (.constant RX7 109 (-1000000004)) (by decide +kernel)) dX7_lose_27 ?_
      exact x_iret hx hb hr hlk hP hS hM dX7_lose_29
  · have hM := (if_pos c4).symm.trans hM
    refine lv_ldc (own := RX7) (v := (-1000000001)) hx hb hown (hts (.constant RX7 89 (-1000000001)) (by decide +kernel)) dX7_lose_9 ?_
    exact x_iret hx hb hr hlk hP hS hM dX7_lose_11
theorem hinX7_X7_deliverAll : ∀ w ∈ u_ws RX7 TX7 14, w ∈ wsX7_deliverAll := by decide +kernel
set_option maxHeartbeats 4000000 in
set_option maxRecDepth 100000 in
theorem tX7_deliverAll (l : Launch) (D : va_G) (cA : ClassId) (ad : Nat → Nat) (hJ : w_J ad KM) (σ σ' : St) (r : Int32) (hM : mX7_deliverAll σ = some (r, σ')) : Ct l yX7_deliverAll wsX7_deliverAll 2 44 D cA ad KM [.ref (ad 0)] σ r σ' := by
  unfold Ct
  refine Met_of (cc := cX7_deliverAll) (maxL := 3) (ret := (some .int)) hJ (by decide +kernel) rfl (Nat.le_of_ble_eq_true rfl) ?_
  intro p e s m below meth c Z H locs ls hP hS hl
  obtain ⟨hx, hb, hml, hown, hts, hr, hlk, hK, -⟩ := Z
  have hown : s.vm.findClass RX7 = some m.cls := hown
  have hl : lv_has ls 3 [(0, .ref (ad 0))] := hl
  have hA : ∀ q, w_A ad KM q → w_A ad KM q := fun _ h => h
  have L4 : ∀ (n : Nat) (x1 x2 : Int32) (σ : St) (H : Heap) (locs : List Loc) (ls : Array Slot), mX7_deliverAll_L4 n x1 x2 σ = some (r, σ') → w_P D cA ad KM σ H → va_S (w_A ad KM) s.heap H locs → lv_has ls 3 [(0, .ref (ad 0)), (1, .int x1), (2, .int x2)] → Wm p l e wsX7_deliverAll 2 44 s m ([.ref (ad 0)] : List Value).toArray below meth c (w_Qi D cA ad KM r σ') (w_A ad KM) H locs (F0 m 4 ls []) := by
    intro n4
    induction n4 with
    | zero =>
      intro x1 x2 σ H locs ls hM hP hS hl
      rw [mX7_deliverAll_L4] at hM
      cases hM
    | succ n4 ih4 =>
      have L10 : ∀ (n : Nat) (x1 x2 : Int32) (σ : St) (H : Heap) (locs : List Loc) (ls : Array Slot), mX7_deliverAll_L10 (mX7_deliverAll_L4 n4) n x1 x2 σ = some (r, σ') → w_P D cA ad KM σ H → va_S (w_A ad KM) s.heap H locs → lv_has ls 3 [(0, .ref (ad 0)), (1, .int x1), (2, .int x2)] → Wm p l e wsX7_deliverAll 2 44 s m ([.ref (ad 0)] : List Value).toArray below meth c (w_Qi D cA ad KM r σ') (w_A ad KM) H locs (F0 m 10 ls []) := by
        intro n10
        induction n10 with
        | zero =>
          intro x1 x2 σ H locs ls hM hP hS hl
          rw [mX7_deliverAll_L10] at hM
          cases hM
        | succ n10 ih10 =>
          intro x1 x2 σ H locs ls hM hP hS hl
          rw [mX7_deliverAll_L10] at hM
          refine lv_aload_n hx hb dX7_deliverAll_10 rfl (lv_at hl 0 rfl) ?_
          refine x_getr (own := RX7) (C := RX7) (T := TX7) (N := 14) hx hb hts hinX7_X7_deliverAll hown hK hP KM_obj rfl 7 (by decide) (hts (.fieldLink RX7 32 "StrokeBoardModel" "linkMany" "[I") (by decide +kernel)) rfl dX7_deliverAll_11 ?_
          refine lv_iload_n hx hb dX7_deliverAll_14 rfl (lv_at hl 2 rfl) ?_
          obtain ⟨h1, hM⟩ := ix_i hM
          refine x_iald hx hb hK hP rfl h1 dX7_deliverAll_15 ?_
          refine lv_if_le (tgt := 43) hx hb dX7_deliverAll_16 (by decide) (fun c2 => ?_) (fun c2 => ?_)
          · have hM := (if_pos c2).symm.trans hM
            refine lv_iinc (v := (x2 + 1)) (lv' := [(2, .int (x2 + 1)), (0, .ref (ad 0)), (1, .int x1)]) hx hb dX7_deliverAll_43 hl (k := 2) rfl rfl (by decide) rfl (fun ls hl => ?_)
            refine lv_goto (tgt := 4) hx hb dX7_deliverAll_46 (by decide) ?_
            exact ih4 _ _ _ _ _ _ hM hP hS (lv_sub hl [1, 2, 0] rfl)
          · have hM := (if_neg c2).symm.trans hM
            refine lv_aload_n hx hb dX7_deliverAll_19 rfl (lv_at hl 0 rfl) ?_
            refine lv_iload_n hx hb dX7_deliverAll_20 rfl (lv_at hl 2 rfl) ?_
            refine lv_iconst (v := 5) hx hb dX7_deliverAll_21 (by decide) ?_
            refine lv_irem hx hb dX7_deliverAll_22 (by decide) ?_
            refine lv_iload_n hx hb dX7_deliverAll_23 rfl (lv_at hl 2 rfl) ?_
            refine lv_iconst (v := 5) hx hb dX7_deliverAll_24 (by decide) ?_
            refine lv_idiv hx hb dX7_deliverAll_25 (by decide) ?_
            refine lv_aload_n hx hb dX7_deliverAll_26 rfl (lv_at hl 0 rfl) ?_
            refine lv_iload_n hx hb dX7_deliverAll_27 rfl (lv_at hl 2 rfl) ?_
            obtain ⟨r5, σ4, h3, hM⟩ := bnd_i hM
            refine x_callV (As := [.int x2]) (rest := [.int (x2 / 5), .int (x2 - x2 / 5 * 5), .ref (ad 0)]) hA ⟨hx, hb, hml, hown, hts⟩ (tX7_take l D cA ad hJ x2 σ _ _ h3) (cwV 1 hts gX7_deliverAll_X7_take rfl rfl rfl (by decide +kernel) ⟨(Nat.le_of_ble_eq_true rfl), (Nat.le_of_ble_eq_true rfl)⟩) hK hP hS KM_obj rfl rfl hl.1 rfl (Nat.le_of_ble_eq_true rfl) ⟨Nat.zero_le _, Nat.zero_le _⟩ dX7_deliverAll_28 (fun H locs hP hS _ _ => ?_)
            obtain ⟨r8, σ7, h6, hM⟩ := bnd_i hM
            refine x_callS (As := [.int (x2 / 5), .int r5]) (rest := [.int (x2 - x2 / 5 * 5), .ref (ad 0)]) hA ⟨hx, hb, hml, hown, hts⟩ (tX7_place l D cA ad hJ (x2 / 5) r5 σ4 _ _ h6) (va_cwS 2 hts gX7_deliverAll_X7_place rfl rfl rfl (by decide +kernel) ⟨(Nat.le_of_ble_eq_true rfl), (Nat.le_of_ble_eq_true rfl)⟩) hK hP hS rfl hl.1 rfl (Nat.le_of_ble_eq_true rfl) ⟨Nat.zero_le _, Nat.zero_le _⟩ dX7_deliverAll_31 (fun H locs hP hS => ?_)
            obtain ⟨σ10, h9, hM⟩ := bnv_i hM
            refine x_callVv (As := [.int (x2 - x2 / 5 * 5), .int r8]) (rest := []) hA ⟨hx, hb, hml, hown, hts⟩ (tX7_learns l D cA ad hJ (x2 - x2 / 5 * 5) r8 σ7 _ h9) (cwV 2 hts gX7_deliverAll_X7_learns rfl rfl rfl (by decide +kernel) ⟨(Nat.le_of_ble_eq_true rfl), (Nat.le_of_ble_eq_true rfl)⟩) hK hP hS KM_obj rfl rfl hl.1 rfl (Nat.le_of_ble_eq_true rfl) ⟨Nat.zero_le _, Nat.zero_le _⟩ dX7_deliverAll_34 (fun H locs hP hS _ _ => ?_)
            refine lv_iinc (v := (x1 + 1)) (lv' := [(1, .int (x1 + 1)), (0, .ref (ad 0)), (2, .int x2)]) hx hb dX7_deliverAll_37 hl (k := 1) rfl rfl (by decide) rfl (fun ls hl => ?_)
            refine lv_goto (tgt := 10) hx hb dX7_deliverAll_40 (by decide) ?_
            exact ih10 _ _ _ _ _ _ hM hP hS (lv_sub hl [1, 0, 2] rfl)
      intro x1 x2 σ H locs ls hM hP hS hl
      rw [mX7_deliverAll_L4] at hM
      refine lv_iload_n hx hb dX7_deliverAll_4 rfl (lv_at hl 2 rfl) ?_
      refine lv_bipush (v := 25) hx hb dX7_deliverAll_5 (by decide) ?_
      refine lv_icmp_ge (tgt := 49) hx hb dX7_deliverAll_7 (by decide) (fun c11 => ?_) (fun c11 => ?_)
      · have hM := (if_pos c11).symm.trans hM
        refine lv_iload_n hx hb dX7_deliverAll_49 rfl (lv_at hl 1 rfl) ?_
        exact x_iret hx hb hr hlk hP hS hM dX7_deliverAll_50
      · have hM := (if_neg c11).symm.trans hM
        exact L10 fu _ _ _ _ _ _ hM hP hS (lv_sub hl [0, 1, 2] rfl)
  unfold mX7_deliverAll at hM
  refine lv_iconst (v := 0) hx hb dX7_deliverAll_0 (by decide) ?_
  refine lv_istore_n (lv' := [(1, .int 0), (0, .ref (ad 0))]) hx hb dX7_deliverAll_1 rfl hl (by decide) rfl (fun ls hl => ?_)
  refine lv_iconst (v := 0) hx hb dX7_deliverAll_2 (by decide) ?_
  refine lv_istore_n (lv' := [(2, .int 0), (1, .int 0), (0, .ref (ad 0))]) hx hb dX7_deliverAll_3 rfl hl (by decide) rfl (fun ls hl => ?_)
  exact L4 fu _ _ _ _ _ _ hM hP hS (lv_sub hl [2, 1, 0] rfl)
theorem hinX7_X7_waiting : ∀ w ∈ u_ws RX7 TX7 14, w ∈ wsX7_waiting := by decide +kernel
set_option maxHeartbeats 4000000 in
set_option maxRecDepth 100000 in
theorem tX7_waiting (l : Launch) (D : va_G) (cA : ClassId) (ad : Nat → Nat) (hJ : w_J ad KM) (u1 u2 : Int32) (σ σ' : St) (r : Int32) (hM : mX7_waiting u1 u2 σ = some (r, σ')) : Ct l yX7_waiting wsX7_waiting 3 65 D cA ad KM [.ref (ad 0), .int u1, .int u2] σ r σ' := by
  unfold Ct
  refine Met_of (cc := cX7_waiting) (maxL := 3) (ret := (some .int)) hJ (by decide +kernel) rfl (Nat.le_of_ble_eq_true rfl) ?_
  intro p e s m below meth c Z H locs ls hP hS hl
  obtain ⟨hx, hb, hml, hown, hts, hr, hlk, hK, -⟩ := Z
  have hown : s.vm.findClass RX7 = some m.cls := hown
  have hl : lv_has ls 3 [(0, .ref (ad 0)), (1, .int u1), (2, .int u2)] := hl
  have hA : ∀ q, w_A ad KM q → w_A ad KM q := fun _ h => h
  unfold mX7_waiting at hM
  refine lv_aload_n hx hb dX7_waiting_0 rfl (lv_at hl 0 rfl) ?_
  refine lv_iload_n hx hb dX7_waiting_1 rfl (lv_at hl 1 rfl) ?_
  refine lv_iload_n hx hb dX7_waiting_2 rfl (lv_at hl 2 rfl) ?_
  obtain ⟨r3, σ2, h1, hM⟩ := bnd_i hM
  refine x_callV (As := [.int u1, .int u2]) (rest := []) hA ⟨hx, hb, hml, hown, hts⟩ (tX7_isPair l D cA ad hJ u1 u2 σ _ _ h1) (cwV 2 hts gX7_waiting_X7_isPair rfl rfl rfl (by decide +kernel) ⟨(Nat.le_of_ble_eq_true rfl), (Nat.le_of_ble_eq_true rfl)⟩) hK hP hS KM_obj rfl rfl hl.1 rfl (Nat.le_of_ble_eq_true rfl) ⟨Nat.zero_le _, Nat.zero_le _⟩ dX7_waiting_3 (fun H locs hP hS _ _ => ?_)
  refine lv_if_eq (tgt := 22) hx hb dX7_waiting_6 (by decide) (fun c4 => ?_) (fun c4 => ?_)
  · have hM := (if_pos c4).symm.trans hM
    refine lv_ldc (own := RX7) (v := (-1000000001)) hx hb hown (hts (.constant RX7 89 (-1000000001)) (by decide +kernel)) dX7_waiting_22 ?_
    exact x_iret hx hb hr hlk hP hS hM dX7_waiting_24
  · have hM := (if_neg c4).symm.trans hM
    refine lv_aload_n hx hb dX7_waiting_9 rfl (lv_at hl 0 rfl) ?_
    refine x_getr (own := RX7) (C := RX7) (T := TX7) (N := 14) hx hb hts hinX7_X7_waiting hown hK hP KM_obj rfl 7 (by decide) (hts (.fieldLink RX7 32 "StrokeBoardModel" "linkMany" "[I") (by decide +kernel)) rfl dX7_waiting_10 ?_
    refine lv_iconst (v := 5) hx hb dX7_waiting_13 (by decide) ?_
    refine lv_iload_n hx hb dX7_waiting_14 rfl (lv_at hl 1 rfl) ?_
    refine lv_imul hx hb dX7_waiting_15 ?_
    refine lv_iload_n hx hb dX7_waiting_16 rfl (lv_at hl 2 rfl) ?_
    refine lv_iadd hx hb dX7_waiting_17 ?_
    obtain ⟨h5, hM⟩ := ix_i hM
    refine x_iald hx hb hK hP rfl h5 dX7_waiting_18 ?_
    refine lv_goto (tgt := 24) hx hb dX7_waiting_19 (by decide) ?_
    exact x_iret hx hb hr hlk hP hS hM dX7_waiting_24
theorem hinX7_X7_greatest : ∀ w ∈ u_ws RX7 TX7 14, w ∈ wsX7_greatest := by decide +kernel
set_option maxHeartbeats 4000000 in
set_option maxRecDepth 100000 in
theorem tX7_greatest (l : Launch) (D : va_G) (cA : ClassId) (ad : Nat → Nat) (hJ : w_J ad KM) (u1 u2 : Int32) (σ σ' : St) (r : Int32) (hM : mX7_greatest u1 u2 σ = some (r, σ')) : Ct l yX7_greatest wsX7_greatest 1 22 D cA ad KM [.ref (ad 0), .int u1, .int u2] σ r σ' := by
  unfold Ct
  refine Met_of (cc := cX7_greatest) (maxL := 5) (ret := (some .int)) hJ (by decide +kernel) rfl (Nat.le_of_ble_eq_true rfl) ?_
  intro p e s m below meth c Z H locs ls hP hS hl
  obtain ⟨hx, hb, hml, hown, hts, hr, hlk, hK, -⟩ := Z
  have hown : s.vm.findClass RX7 = some m.cls := hown
  have hl : lv_has ls 5 [(0, .ref (ad 0)), (1, .int u1), (2, .int u2)] := hl
  have hA : ∀ q, w_A ad KM q → w_A ad KM q := fun _ h => h
  have L5 : ∀ (n : Nat) (x1 x2 x3 x4 : Int32) (σ : St) (H : Heap) (locs : List Loc) (ls : Array Slot), mX7_greatest_L5 n x1 x2 x3 x4 σ = some (r, σ') → w_P D cA ad KM σ H → va_S (w_A ad KM) s.heap H locs → lv_has ls 5 [(0, .ref (ad 0)), (1, .int x1), (2, .int x2), (3, .int x3), (4, .int x4)] → Wm p l e wsX7_greatest 1 22 s m ([.ref (ad 0), .int u1, .int u2] : List Value).toArray below meth c (w_Qi D cA ad KM r σ') (w_A ad KM) H locs (F0 m 5 ls []) := by
    intro n5
    induction n5 with
    | zero =>
      intro x1 x2 x3 x4 σ H locs ls hM hP hS hl
      rw [mX7_greatest_L5] at hM
      cases hM
    | succ n5 ih5 =>
      intro x1 x2 x3 x4 σ H locs ls hM hP hS hl
      rw [mX7_greatest_L5] at hM
      refine lv_iload hx hb dX7_greatest_5 (lv_at hl 4 rfl) ?_
      refine lv_aload_n hx hb dX7_greatest_7 rfl (lv_at hl 0 rfl) ?_
      refine x_getr (own := RX7) (C := RX7) (T := TX7) (N := 14) hx hb hts hinX7_X7_greatest hown hK hP KM_obj rfl 2 (by decide) (hts (.fieldLink RX7 17 "StrokeBoardModel" "made" "[I") (by decide +kernel)) rfl dX7_greatest_8 ?_
      refine lv_iload_n hx hb dX7_greatest_11 rfl (lv_at hl 2 rfl) ?_
      obtain ⟨h1, hM⟩ := ix_i hM
      refine x_iald hx hb hK hP rfl h1 dX7_greatest_12 ?_
      refine lv_icmp_gt (tgt := 43) hx hb dX7_greatest_13 (by decide) (fun c2 => ?_) (fun c2 => ?_)
      · have hM := (if_pos c2).symm.trans hM
        refine lv_iload_n hx hb dX7_greatest_43 rfl (lv_at hl 3 rfl) ?_
        exact x_iret hx hb hr hlk hP hS hM dX7_greatest_44
      · have hM := (if_neg c2).symm.trans hM
        refine lv_aload_n hx hb dX7_greatest_16 rfl (lv_at hl 0 rfl) ?_
        refine lv_iload_n hx hb dX7_greatest_17 rfl (lv_at hl 1 rfl) ?_
        refine lv_iload_n hx hb dX7_greatest_18 rfl (lv_at hl 2 rfl) ?_
        refine lv_iload hx hb dX7_greatest_19 (lv_at hl 4 rfl) ?_
        obtain ⟨r5, σ4, h3, hM⟩ := bnd_i hM
        refine x_callS (As := [.int x2, .int x4]) (rest := [.int x1, .ref (ad 0)]) hA ⟨hx, hb, hml, hown, hts⟩ (tX7_place l D cA ad hJ x2 x4 σ _ _ h3) (va_cwS 2 hts gX7_greatest_X7_place rfl rfl rfl (by decide +kernel) ⟨(Nat.le_of_ble_eq_true rfl), (Nat.le_of_ble_eq_true rfl)⟩) hK hP hS rfl hl.1 rfl (Nat.le_of_ble_eq_true rfl) ⟨Nat.zero_le _, Nat.zero_le _⟩ dX7_greatest_21 (fun H locs hP hS => ?_)
        obtain ⟨r8, σ7, h6, hM⟩ := bnd_i hM
        refine x_callV (As := [.int x1, .int r5]) (rest := []) hA ⟨hx, hb, hml, hown, hts⟩ (tX7_doesKnow l D cA ad hJ x1 r5 σ4 _ _ h6) (cwV 2 hts gX7_greatest_X7_doesKnow rfl rfl rfl (by decide +kernel) ⟨(Nat.le_of_ble_eq_true rfl), (Nat.le_of_ble_eq_true rfl)⟩) hK hP hS KM_obj rfl rfl hl.1 rfl (Nat.le_of_ble_eq_true rfl) ⟨Nat.zero_le _, Nat.zero_le _⟩ dX7_greatest_24 (fun H locs hP hS _ _ => ?_)
        refine lv_if_eq (tgt := 35) hx hb dX7_greatest_27 (by decide) (fun c9 => ?_) (fun c9 => ?_)
        · have hM := (if_pos c9).symm.trans hM
          refine lv_iload_n hx hb dX7_greatest_35 rfl (lv_at hl 3 rfl) ?_
          refine lv_istore_n (lv' := [(3, .int x3), (0, .ref (ad 0)), (1, .int x1), (2, .int x2), (4, .int x4)]) hx hb dX7_greatest_36 rfl hl (by decide) rfl (fun ls hl => ?_)
          refine lv_iinc (v := (x4 + 1)) (lv' := [(4, .int (x4 + 1)), (3, .int x3), (0, .ref (ad 0)), (1, .int x1), (2, .int x2)]) hx hb dX7_greatest_37 hl (k := 4) rfl rfl (by decide) rfl (fun ls hl => ?_)
          refine lv_goto (tgt := 5) hx hb dX7_greatest_40 (by decide) ?_
          exact ih5 _ _ _ _ _ _ _ _ hM hP hS (lv_sub hl [2, 3, 4, 1, 0] rfl)
        · have hM := (if_neg c9).symm.trans hM
          refine lv_iload hx hb dX7_greatest_30 (lv_at hl 4 rfl) ?_
          refine lv_goto (tgt := 36) hx hb dX7_greatest_32 (by decide) ?_
          refine lv_istore_n (lv' := [(3, .int x4), (0, .ref (ad 0)), (1, .int x1), (2, .int x2), (4, .int x4)]) hx hb dX7_greatest_36 rfl hl (by decide) rfl (fun ls hl => ?_)
          refine lv_iinc (v := (x4 + 1)) (lv' := [(4, .int (x4 + 1)), (3, .int x4), (0, .ref (ad 0)), (1, .int x1), (2, .int x2)]) hx hb dX7_greatest_37 hl (k := 4) rfl rfl (by decide) rfl (fun ls hl => ?_)
          refine lv_goto (tgt := 5) hx hb dX7_greatest_40 (by decide) ?_
          exact ih5 _ _ _ _ _ _ _ _ hM hP hS (lv_sub hl [2, 3, 4, 1, 0] rfl)
  unfold mX7_greatest at hM
  refine lv_iconst (v := 0) hx hb dX7_greatest_0 (by decide) ?_
  refine lv_istore_n (lv' := [(3, .int 0), (0, .ref (ad 0)), (1, .int u1), (2, .int u2)]) hx hb dX7_greatest_1 rfl hl (by decide) rfl (fun ls hl => ?_)
  refine lv_iconst (v := 1) hx hb dX7_greatest_2 (by decide) ?_
  refine lv_istore (lv' := [(4, .int 1), (3, .int 0), (0, .ref (ad 0)), (1, .int u1), (2, .int u2)]) hx hb dX7_greatest_3 hl (by decide) rfl (fun ls hl => ?_)
  exact L5 fu _ _ _ _ _ _ _ _ hM hP hS (lv_sub hl [2, 3, 4, 1, 0] rfl)
set_option maxHeartbeats 4000000 in
set_option maxRecDepth 100000 in
theorem tX7_gap (l : Launch) (D : va_G) (cA : ClassId) (ad : Nat → Nat) (hJ : w_J ad KM) (u1 u2 u3 : Int32) (σ σ' : St) (r : Int32) (hM : mX7_gap u1 u2 u3 σ = some (r, σ')) : Ct l yX7_gap wsX7_gap 2 46 D cA ad KM [.ref (ad 0), .int u1, .int u2, .int u3] σ r σ' := by
  unfold Ct
  refine Met_of (cc := cX7_gap) (maxL := 9) (ret := (some .int)) hJ (by decide +kernel) rfl (Nat.le_of_ble_eq_true rfl) ?_
  intro p e s m below meth c Z H locs ls hP hS hl
  obtain ⟨hx, hb, hml, hown, hts, hr, hlk, hK, -⟩ := Z
  have hown : s.vm.findClass RX7 = some m.cls := hown
  have hl : lv_has ls 9 [(0, .ref (ad 0)), (1, .int u1), (2, .int u2), (3, .int u3)] := hl
  have hA : ∀ q, w_A ad KM q → w_A ad KM q := fun _ h => h
  have L119 : ∀ (n : Nat) (x1 x2 x6 x8 : Int32) (σ : St) (H : Heap) (locs : List Loc) (ls : Array Slot), mX7_gap_L119 n x1 x2 x6 x8 σ = some (r, σ') → w_P D cA ad KM σ H → va_S (w_A ad KM) s.heap H locs → lv_has ls 9 [(0, .ref (ad 0)), (1, .int x1), (2, .int x2), (6, .int x6), (8, .int x8)] → Wm p l e wsX7_gap 2 46 s m ([.ref (ad 0), .int u1, .int u2, .int u3] : List Value).toArray below meth c (w_Qi D cA ad KM r σ') (w_A ad KM) H locs (F0 m 119 ls []) := by
    intro n119
    induction n119 with
    | zero =>
      intro x1 x2 x6 x8 σ H locs ls hM hP hS hl
      rw [mX7_gap_L119] at hM
      cases hM
    | succ n119 ih119 =>
      intro x1 x2 x6 x8 σ H locs ls hM hP hS hl
      rw [mX7_gap_L119] at hM
      refine lv_aload_n hx hb dX7_gap_119 rfl (lv_at hl 0 rfl) ?_
      refine lv_iload_n hx hb dX7_gap_120 rfl (lv_at hl 1 rfl) ?_
      refine lv_iload_n hx hb dX7_gap_121 rfl (lv_at hl 2 rfl) ?_
      refine lv_iload hx hb dX7_gap_122 (lv_at hl 4 rfl) ?_
      refine lv_iconst (v := 1) hx hb dX7_gap_124 (by decide) ?_
      refine lv_iadd hx hb dX7_gap_125 ?_
      obtain ⟨r3, σ2, h1, hM⟩ := bnd_i hM
      refine x_callS (As := [.int x2, .int (x8 + 1)]) (rest := [.int x1, .ref (ad 0)]) hA ⟨hx, hb, hml, hown, hts⟩ (tX7_place l D cA ad hJ x2 (x8 + 1) σ _ _ h1) (va_cwS 2 hts gX7_gap_X7_place rfl rfl rfl (by decide +kernel) ⟨(Nat.le_of_ble_eq_true rfl), (Nat.le_of_ble_eq_true rfl)⟩) hK hP hS rfl hl.1 rfl (Nat.le_of_ble_eq_true rfl) ⟨Nat.zero_le _, Nat.zero_le _⟩ dX7_gap_126 (fun H locs hP hS => ?_)
      obtain ⟨r6, σ5, h4, hM⟩ := bnd_i hM
      refine x_callV (As := [.int x1, .int r3]) (rest := []) hA ⟨hx, hb, hml, hown, hts⟩ (tX7_doesKnow l D cA ad hJ x1 r3 σ2 _ _ h4) (cwV 2 hts gX7_gap_X7_doesKnow rfl rfl rfl (by decide +kernel) ⟨(Nat.le_of_ble_eq_true rfl), (Nat.le_of_ble_eq_true rfl)⟩) hK hP hS KM_obj rfl rfl hl.1 rfl (Nat.le_of_ble_eq_true rfl) ⟨Nat.zero_le _, Nat.zero_le _⟩ dX7_gap_129 (fun H locs hP hS _ _ => ?_)
      refine lv_if_ne (tgt := 141) hx hb dX7_gap_132 (by decide) (fun c7 => ?_) (fun c7 => ?_)
      · have hM := (if_neg c7).symm.trans hM
        refine lv_bipush (v := 100) hx hb dX7_gap_141 (by decide) ?_
        refine lv_iload hx hb dX7_gap_143 (lv_at hl 3 rfl) ?_
        refine lv_imul hx hb dX7_gap_145 ?_
        refine lv_iload hx hb dX7_gap_146 (lv_at hl 4 rfl) ?_
        refine lv_iadd hx hb dX7_gap_148 ?_
        exact x_iret hx hb hr hlk hP hS hM dX7_gap_149
      · have hM := (if_pos c7).symm.trans hM
        refine lv_iinc (v := (x8 + 1)) (lv' := [(8, .int (x8 + 1)), (0, .ref (ad 0)), (1, .int x1), (2, .int x2), (6, .int x6)]) hx hb dX7_gap_135 hl (k := 4) rfl rfl (by decide) rfl (fun ls hl => ?_)
        refine lv_goto (tgt := 119) hx hb dX7_gap_138 (by decide) ?_
        exact ih119 _ _ _ _ _ _ _ _ hM hP hS (lv_sub hl [1, 2, 3, 4, 0] rfl)
  have L37 : ∀ (n : Nat) (x1 x2 x3 x4 x5 x6 : Int32) (σ : St) (H : Heap) (locs : List Loc) (ls : Array Slot), mX7_gap_L37 n x1 x2 x3 x4 x5 x6 σ = some (r, σ') → w_P D cA ad KM σ H → va_S (w_A ad KM) s.heap H locs → lv_has ls 9 [(0, .ref (ad 0)), (1, .int x1), (2, .int x2), (3, .int x3), (4, .int x4), (5, .int x5), (6, .int x6)] → Wm p l e wsX7_gap 2 46 s m ([.ref (ad 0), .int u1, .int u2, .int u3] : List Value).toArray below meth c (w_Qi D cA ad KM r σ') (w_A ad KM) H locs (F0 m 37 ls []) := by
    intro n37
    induction n37 with
    | zero =>
      intro x1 x2 x3 x4 x5 x6 σ H locs ls hM hP hS hl
      rw [mX7_gap_L37] at hM
      cases hM
    | succ n37 ih37 =>
      have b99 : ∀ (x1 x2 x3 x4 x6 x7 y0 y1 : Int32) (σ : St) (H : Heap) (locs : List Loc) (ls : Array Slot), mX7_gap_b99 (mX7_gap_L37 n37) x1 x2 x3 x4 x6 x7 y0 y1 σ = some (r, σ') → w_P D cA ad KM σ H → va_S (w_A ad KM) s.heap H locs → lv_has ls 9 [(0, .ref (ad 0)), (1, .int x1), (2, .int x2), (3, .int x3), (4, .int x4), (6, .int x6), (7, .int x7)] → Wm p l e wsX7_gap 2 46 s m ([.ref (ad 0), .int u1, .int u2, .int u3] : List Value).toArray below meth c (w_Qi D cA ad KM r σ') (w_A ad KM) H locs (F0 m 99 ls [.int y0, .int y1]) := by
        intro x1 x2 x3 x4 x6 x7 y0 y1 σ H locs ls hM hP hS hl
        unfold mX7_gap_b99 at hM
        refine lv_iadd hx hb dX7_gap_99 ?_
        refine lv_istore (lv' := [(5, .int (y1 + y0)), (0, .ref (ad 0)), (1, .int x1), (2, .int x2), (3, .int x3), (4, .int x4), (6, .int x6), (7, .int x7)]) hx hb dX7_gap_100 hl (by decide) rfl (fun ls hl => ?_)
        refine lv_iload hx hb dX7_gap_102 (lv_at hl 7 rfl) ?_
        refine lv_if_eq (tgt := 150) hx hb dX7_gap_104 (by decide) (fun c8 => ?_) (fun c8 => ?_)
        · have hM := (if_pos c8).symm.trans hM
          refine lv_iinc (v := (x6 + 1)) (lv' := [(6, .int (x6 + 1)), (5, .int (y1 + y0)), (0, .ref (ad 0)), (1, .int x1), (2, .int x2), (3, .int x3), (4, .int x4), (7, .int x7)]) hx hb dX7_gap_150 hl (k := 6) rfl rfl (by decide) rfl (fun ls hl => ?_)
          refine lv_goto (tgt := 37) hx hb dX7_gap_153 (by decide) ?_
          exact ih37 _ _ _ _ _ _ _ _ _ _ hM hP hS (lv_sub hl [2, 3, 4, 5, 6, 1, 0] rfl)
        · have hM := (if_neg c8).symm.trans hM
          refine lv_iload hx hb dX7_gap_107 (lv_at hl 0 rfl) ?_
          refine lv_iload_n hx hb dX7_gap_109 rfl (lv_at hl 4 rfl) ?_
          refine lv_iconst (v := 1) hx hb dX7_gap_110 (by decide) ?_
          refine lv_iadd hx hb dX7_gap_111 ?_
          refine lv_icmp_ne (tgt := 150) hx hb dX7_gap_112 (by decide) (fun c9 => ?_) (fun c9 => ?_)
          · have hM := (if_neg c9).symm.trans hM
            refine lv_iinc (v := (x6 + 1)) (lv' := [(6, .int (x6 + 1)), (5, .int (y1 + y0)), (0, .ref (ad 0)), (1, .int x1), (2, .int x2), (3, .int x3), (4, .int x4), (7, .int x7)]) hx hb dX7_gap_150 hl (k := 6) rfl rfl (by decide) rfl (fun ls hl => ?_)
            refine lv_goto (tgt := 37) hx hb dX7_gap_153 (by decide) ?_
            exact ih37 _ _ _ _ _ _ _ _ _ _ hM hP hS (lv_sub hl [2, 3, 4, 5, 6, 1, 0] rfl)
          · have hM := (if_pos c9).symm.trans hM
            refine lv_iload hx hb dX7_gap_115 (lv_at hl 6 rfl) ?_
            refine lv_istore (lv' := [(8, .int x6), (5, .int (y1 + y0)), (0, .ref (ad 0)), (1, .int x1), (2, .int x2), (3, .int x3), (4, .int x4), (6, .int x6), (7, .int x7)]) hx hb dX7_gap_117 hl (by decide) rfl (fun ls hl => ?_)
            exact L119 fu _ _ _ _ _ _ _ _ hM hP hS (lv_sub hl [2, 3, 4, 7, 0] rfl)
      have b85 : ∀ (x1 x2 x3 x4 x5 x6 y0 : Int32) (σ : St) (H : Heap) (locs : List Loc) (ls : Array Slot), mX7_gap_b85 (mX7_gap_L37 n37) x1 x2 x3 x4 x5 x6 y0 σ = some (r, σ') → w_P D cA ad KM σ H → va_S (w_A ad KM) s.heap H locs → lv_has ls 9 [(0, .ref (ad 0)), (1, .int x1), (2, .int x2), (3, .int x3), (4, .int x4), (5, .int x5), (6, .int x6)] → Wm p l e wsX7_gap 2 46 s m ([.ref (ad 0), .int u1, .int u2, .int u3] : List Value).toArray below meth c (w_Qi D cA ad KM r σ') (w_A ad KM) H locs (F0 m 85 ls [.int y0]) := by
        intro x1 x2 x3 x4 x5 x6 y0 σ H locs ls hM hP hS hl
        unfold mX7_gap_b85 at hM
        refine lv_istore (lv' := [(7, .int y0), (0, .ref (ad 0)), (1, .int x1), (2, .int x2), (3, .int x3), (4, .int x4), (5, .int x5), (6, .int x6)]) hx hb dX7_gap_85 hl (by decide) rfl (fun ls hl => ?_)
        refine lv_iload hx hb dX7_gap_87 (lv_at hl 6 rfl) ?_
        refine lv_iload hx hb dX7_gap_89 (lv_at hl 0 rfl) ?_
        refine lv_if_eq (tgt := 98) hx hb dX7_gap_91 (by decide) (fun c10 => ?_) (fun c10 => ?_)
        · have hM := (if_pos c10).symm.trans hM
          refine lv_iconst (v := 0) hx hb dX7_gap_98 (by decide) ?_
          exact b99 _ _ _ _ _ _ _ _ _ _ _ _ hM hP hS (lv_sub hl [1, 2, 3, 4, 5, 7, 0] rfl)
        · have hM := (if_neg c10).symm.trans hM
          refine lv_iconst (v := 1) hx hb dX7_gap_94 (by decide) ?_
          refine lv_goto (tgt := 99) hx hb dX7_gap_95 (by decide) ?_
          exact b99 _ _ _ _ _ _ _ _ _ _ _ _ hM hP hS (lv_sub hl [1, 2, 3, 4, 5, 7, 0] rfl)
      have b84 : ∀ (x1 x2 x3 x4 x5 x6 : Int32) (σ : St) (H : Heap) (locs : List Loc) (ls : Array Slot), mX7_gap_b84 (mX7_gap_L37 n37) x1 x2 x3 x4 x5 x6 σ = some (r, σ') → w_P D cA ad KM σ H → va_S (w_A ad KM) s.heap H locs → lv_has ls 9 [(0, .ref (ad 0)), (1, .int x1), (2, .int x2), (3, .int x3), (4, .int x4), (5, .int x5), (6, .int x6)] → Wm p l e wsX7_gap 2 46 s m ([.ref (ad 0), .int u1, .int u2, .int u3] : List Value).toArray below meth c (w_Qi D cA ad KM r σ') (w_A ad KM) H locs (F0 m 84 ls []) := by
        intro x1 x2 x3 x4 x5 x6 σ H locs ls hM hP hS hl
        unfold mX7_gap_b84 at hM
        refine lv_iconst (v := 0) hx hb dX7_gap_84 (by decide) ?_
        exact b85 _ _ _ _ _ _ _ _ _ _ _ hM hP hS (lv_sub hl [0, 1, 2, 3, 4, 5, 6] rfl)
      have b80 : ∀ (x1 x2 x3 x4 x5 x6 : Int32) (σ : St) (H : Heap) (locs : List Loc) (ls : Array Slot), mX7_gap_b80 (mX7_gap_L37 n37) x1 x2 x3 x4 x5 x6 σ = some (r, σ') → w_P D cA ad KM σ H → va_S (w_A ad KM) s.heap H locs → lv_has ls 9 [(0, .ref (ad 0)), (1, .int x1), (2, .int x2), (3, .int x3), (4, .int x4), (5, .int x5), (6, .int x6)] → Wm p l e wsX7_gap 2 46 s m ([.ref (ad 0), .int u1, .int u2, .int u3] : List Value).toArray below meth c (w_Qi D cA ad KM r σ') (w_A ad KM) H locs (F0 m 80 ls []) := by
        intro x1 x2 x3 x4 x5 x6 σ H locs ls hM hP hS hl
        unfold mX7_gap_b80 at hM
        refine lv_iconst (v := 1) hx hb dX7_gap_80 (by decide) ?_
        refine lv_goto (tgt := 85) hx hb dX7_gap_81 (by decide) ?_
        exact b85 _ _ _ _ _ _ _ _ _ _ _ hM hP hS (lv_sub hl [0, 1, 2, 3, 4, 5, 6] rfl)
      intro x1 x2 x3 x4 x5 x6 σ H locs ls hM hP hS hl
      rw [mX7_gap_L37] at hM
      refine lv_iload hx hb dX7_gap_37 (lv_at hl 6 rfl) ?_
      refine lv_iload hx hb dX7_gap_39 (lv_at hl 4 rfl) ?_
      refine lv_icmp_gt (tgt := 156) hx hb dX7_gap_41 (by decide) (fun c11 => ?_) (fun c11 => ?_)
      · have hM := (if_pos c11).symm.trans hM
        refine lv_ldc (own := RX7) (v := (-1000000004)) hx hb hown (hts (.constant RX7 109 (-1000000004)) (by decide +kernel)) dX7_gap_156 ?_
        exact x_iret hx hb hr hlk hP hS hM dX7_gap_158
      · have hM := (if_neg c11).symm.trans hM
        refine lv_aload_n hx hb dX7_gap_44 rfl (lv_at hl 0 rfl) ?_
        refine lv_iload_n hx hb dX7_gap_45 rfl (lv_at hl 1 rfl) ?_
        refine lv_iload_n hx hb dX7_gap_46 rfl (lv_at hl 2 rfl) ?_
        refine lv_iload hx hb dX7_gap_47 (lv_at hl 6 rfl) ?_
        obtain ⟨r14, σ13, h12, hM⟩ := bnd_i hM
        refine x_callS (As := [.int x2, .int x6]) (rest := [.int x1, .ref (ad 0)]) hA ⟨hx, hb, hml, hown, hts⟩ (tX7_place l D cA ad hJ x2 x6 σ _ _ h12) (va_cwS 2 hts gX7_gap_X7_place rfl rfl rfl (by decide +kernel) ⟨(Nat.le_of_ble_eq_true rfl), (Nat.le_of_ble_eq_true rfl)⟩) hK hP hS rfl hl.1 rfl (Nat.le_of_ble_eq_true rfl) ⟨Nat.zero_le _, Nat.zero_le _⟩ dX7_gap_49 (fun H locs hP hS => ?_)
        obtain ⟨r17, σ16, h15, hM⟩ := bnd_i hM
        refine x_callV (As := [.int x1, .int r14]) (rest := []) hA ⟨hx, hb, hml, hown, hts⟩ (tX7_doesKnow l D cA ad hJ x1 r14 σ13 _ _ h15) (cwV 2 hts gX7_gap_X7_doesKnow rfl rfl rfl (by decide +kernel) ⟨(Nat.le_of_ble_eq_true rfl), (Nat.le_of_ble_eq_true rfl)⟩) hK hP hS KM_obj rfl rfl hl.1 rfl (Nat.le_of_ble_eq_true rfl) ⟨Nat.zero_le _, Nat.zero_le _⟩ dX7_gap_52 (fun H locs hP hS _ _ => ?_)
        refine lv_if_ne (tgt := 84) hx hb dX7_gap_55 (by decide) (fun c18 => ?_) (fun c18 => ?_)
        · have hM := (if_neg c18).symm.trans hM
          exact b84 _ _ _ _ _ _ _ _ _ _ hM hP hS (lv_sub hl [0, 1, 2, 3, 4, 5, 6] rfl)
        · have hM := (if_pos c18).symm.trans hM
          refine lv_iload hx hb dX7_gap_58 (lv_at hl 6 rfl) ?_
          refine lv_iconst (v := 1) hx hb dX7_gap_60 (by decide) ?_
          refine lv_icmp_eq (tgt := 80) hx hb dX7_gap_61 (by decide) (fun c19 => ?_) (fun c19 => ?_)
          · have hM := (if_pos c19).symm.trans hM
            exact b80 _ _ _ _ _ _ _ _ _ _ hM hP hS (lv_sub hl [0, 1, 2, 3, 4, 5, 6] rfl)
          · have hM := (if_neg c19).symm.trans hM
            refine lv_aload_n hx hb dX7_gap_64 rfl (lv_at hl 0 rfl) ?_
            refine lv_iload_n hx hb dX7_gap_65 rfl (lv_at hl 1 rfl) ?_
            refine lv_iload_n hx hb dX7_gap_66 rfl (lv_at hl 2 rfl) ?_
            refine lv_iload hx hb dX7_gap_67 (lv_at hl 6 rfl) ?_
            refine lv_iconst (v := 1) hx hb dX7_gap_69 (by decide) ?_
            refine lv_isub hx hb dX7_gap_70 ?_
            obtain ⟨r22, σ21, h20, hM⟩ := bnd_i hM
            refine x_callS (As := [.int x2, .int (x6 - 1)]) (rest := [.int x1, .ref (ad 0)]) hA ⟨hx, hb, hml, hown, hts⟩ (tX7_place l D cA ad hJ x2 (x6 - 1) σ16 _ _ h20) (va_cwS 2 hts gX7_gap_X7_place rfl rfl rfl (by decide +kernel) ⟨(Nat.le_of_ble_eq_true rfl), (Nat.le_of_ble_eq_true rfl)⟩) hK hP hS rfl hl.1 rfl (Nat.le_of_ble_eq_true rfl) ⟨Nat.zero_le _, Nat.zero_le _⟩ dX7_gap_71 (fun H locs hP hS => ?_)
            obtain ⟨r25, σ24, h23, hM⟩ := bnd_i hM
            refine x_callV (As := [.int x1, .int r22]) (rest := []) hA ⟨hx, hb, hml, hown, hts⟩ (tX7_doesKnow l D cA ad hJ x1 r22 σ21 _ _ h23) (cwV 2 hts gX7_gap_X7_doesKnow rfl rfl rfl (by decide +kernel) ⟨(Nat.le_of_ble_eq_true rfl), (Nat.le_of_ble_eq_true rfl)⟩) hK hP hS KM_obj rfl rfl hl.1 rfl (Nat.le_of_ble_eq_true rfl) ⟨Nat.zero_le _, Nat.zero_le _⟩ dX7_gap_74 (fun H locs hP hS _ _ => ?_)
            refine lv_if_eq (tgt := 84) hx hb dX7_gap_77 (by decide) (fun c26 => ?_) (fun c26 => ?_)
            · have hM := (if_pos c26).symm.trans hM
              exact b84 _ _ _ _ _ _ _ _ _ _ hM hP hS (lv_sub hl [0, 1, 2, 3, 4, 5, 6] rfl)
            · have hM := (if_neg c26).symm.trans hM
              exact b80 _ _ _ _ _ _ _ _ _ _ hM hP hS (lv_sub hl [0, 1, 2, 3, 4, 5, 6] rfl)
  unfold mX7_gap at hM
  refine lv_aload_n hx hb dX7_gap_0 rfl (lv_at hl 0 rfl) ?_
  refine lv_iload_n hx hb dX7_gap_1 rfl (lv_at hl 1 rfl) ?_
  obtain ⟨r29, σ28, h27, hM⟩ := bnd_i hM
  refine x_callV (As := [.int u1]) (rest := []) hA ⟨hx, hb, hml, hown, hts⟩ (tX7_isSite l D cA ad hJ u1 σ _ _ h27) (cwV 1 hts gX7_gap_X7_isSite rfl rfl rfl (by decide +kernel) ⟨(Nat.le_of_ble_eq_true rfl), (Nat.le_of_ble_eq_true rfl)⟩) hK hP hS KM_obj rfl rfl hl.1 rfl (Nat.le_of_ble_eq_true rfl) ⟨Nat.zero_le _, Nat.zero_le _⟩ dX7_gap_2 (fun H locs hP hS _ _ => ?_)
  refine lv_if_eq (tgt := 20) hx hb dX7_gap_5 (by decide) (fun c30 => ?_) (fun c30 => ?_)
  · have hM := (if_pos c30).symm.trans hM
    refine lv_ldc (own := RX7) (v := (-1000000001)) hx hb hown (hts (.constant RX7 89 (-1000000001)) (by decide +kernel)) dX7_gap_20 ?_
    exact x_iret hx hb hr hlk hP hS hM dX7_gap_22
  · have hM := (if_neg c30).symm.trans hM
    refine lv_aload_n hx hb dX7_gap_8 rfl (lv_at hl 0 rfl) ?_
    refine lv_iload_n hx hb dX7_gap_9 rfl (lv_at hl 2 rfl) ?_
    obtain ⟨r33, σ32, h31, hM⟩ := bnd_i hM
    refine x_callV (As := [.int u2]) (rest := []) hA ⟨hx, hb, hml, hown, hts⟩ (tX7_isSite l D cA ad hJ u2 σ28 _ _ h31) (cwV 1 hts gX7_gap_X7_isSite rfl rfl rfl (by decide +kernel) ⟨(Nat.le_of_ble_eq_true rfl), (Nat.le_of_ble_eq_true rfl)⟩) hK hP hS KM_obj rfl rfl hl.1 rfl (Nat.le_of_ble_eq_true rfl) ⟨Nat.zero_le _, Nat.zero_le _⟩ dX7_gap_10 (fun H locs hP hS _ _ => ?_)
    refine lv_if_eq (tgt := 20) hx hb dX7_gap_13 (by decide) (fun c34 => ?_) (fun c34 => ?_)
    · have hM := (if_pos c34).symm.trans hM
      refine lv_ldc (own := RX7) (v := (-1000000001)) hx hb hown (hts (.constant RX7 89 (-1000000001)) (by decide +kernel)) dX7_gap_20 ?_
      exact x_iret hx hb hr hlk hP hS hM dX7_gap_22
    · have hM := (if_neg c34).symm.trans hM
      refine lv_iload_n hx hb dX7_gap_16 rfl (lv_at hl 3 rfl) ?_
      refine lv_if_ge (tgt := 23) hx hb dX7_gap_17 (by decide) (fun c35 => ?_) (fun c35 => ?_)
      · have hM := (if_pos c35).symm.trans hM
        refine lv_aload_n hx hb dX7_gap_23 rfl (lv_at hl 0 rfl) ?_
        refine lv_iload_n hx hb dX7_gap_24 rfl (lv_at hl 1 rfl) ?_
        refine lv_iload_n hx hb dX7_gap_25 rfl (lv_at hl 2 rfl) ?_
        obtain ⟨r38, σ37, h36, hM⟩ := bnd_i hM
        refine x_callV (As := [.int u1, .int u2]) (rest := []) hA ⟨hx, hb, hml, hown, hts⟩ (tX7_greatest l D cA ad hJ u1 u2 σ32 _ _ h36) (cwV 2 hts gX7_gap_X7_greatest rfl rfl rfl (by decide +kernel) ⟨(Nat.le_of_ble_eq_true rfl), (Nat.le_of_ble_eq_true rfl)⟩) hK hP hS KM_obj rfl rfl hl.1 rfl (Nat.le_of_ble_eq_true rfl) ⟨Nat.zero_le _, Nat.zero_le _⟩ dX7_gap_26 (fun H locs hP hS _ _ => ?_)
        refine lv_istore (lv' := [(4, .int r38), (0, .ref (ad 0)), (1, .int u1), (2, .int u2), (3, .int u3)]) hx hb dX7_gap_29 hl (by decide) rfl (fun ls hl => ?_)
        refine lv_iconst (v := 0) hx hb dX7_gap_31 (by decide) ?_
        refine lv_istore (lv' := [(5, .int 0), (4, .int r38), (0, .ref (ad 0)), (1, .int u1), (2, .int u2), (3, .int u3)]) hx hb dX7_gap_32 hl (by decide) rfl (fun ls hl => ?_)
        refine lv_iconst (v := 1) hx hb dX7_gap_34 (by decide) ?_
        refine lv_istore (lv' := [(6, .int 1), (5, .int 0), (4, .int r38), (0, .ref (ad 0)), (1, .int u1), (2, .int u2), (3, .int u3)]) hx hb dX7_gap_35 hl (by decide) rfl (fun ls hl => ?_)
        exact L37 fu _ _ _ _ _ _ _ _ _ _ hM hP hS (lv_sub hl [3, 4, 5, 6, 2, 1, 0] rfl)
      · have hM := (if_neg c35).symm.trans hM
        refine lv_ldc (own := RX7) (v := (-1000000001)) hx hb hown (hts (.constant RX7 89 (-1000000001)) (by decide +kernel)) dX7_gap_20 ?_
        exact x_iret hx hb hr hlk hP hS hM dX7_gap_22
set_option maxHeartbeats 4000000 in
set_option maxRecDepth 100000 in
theorem tX7_isGiven (l : Launch) (D : va_G) (cA : ClassId) (ad : Nat → Nat) (hJ : w_J ad KM) (u1 u2 u3 : Int32) (σ σ' : St) (r : Int32) (hM : mX7_isGiven u1 u2 u3 σ = some (r, σ')) : Ct l yX7_isGiven wsX7_isGiven 2 46 D cA ad KM [.ref (ad 0), .int u1, .int u2, .int u3] σ r σ' := by
  unfold Ct
  refine Met_of (cc := cX7_isGiven) (maxL := 4) (ret := (some .boolean)) hJ (by decide +kernel) rfl (Nat.le_of_ble_eq_true rfl) ?_
  intro p e s m below meth c Z H locs ls hP hS hl
  obtain ⟨hx, hb, hml, hown, hts, hr, hlk, hK, -⟩ := Z
  have hown : s.vm.findClass RX7 = some m.cls := hown
  have hl : lv_has ls 4 [(0, .ref (ad 0)), (1, .int u1), (2, .int u2), (3, .int u3)] := hl
  have hA : ∀ q, w_A ad KM q → w_A ad KM q := fun _ h => h
  unfold mX7_isGiven at hM
  refine lv_aload_n hx hb dX7_isGiven_0 rfl (lv_at hl 0 rfl) ?_
  refine lv_iload_n hx hb dX7_isGiven_1 rfl (lv_at hl 1 rfl) ?_
  refine lv_iload_n hx hb dX7_isGiven_2 rfl (lv_at hl 3 rfl) ?_
  obtain ⟨r3, σ2, h1, hM⟩ := bnd_i hM
  refine x_callV (As := [.int u1, .int u3]) (rest := []) hA ⟨hx, hb, hml, hown, hts⟩ (tX7_doesKnow l D cA ad hJ u1 u3 σ _ _ h1) (cwV 2 hts gX7_isGiven_X7_doesKnow rfl rfl rfl (by decide +kernel) ⟨(Nat.le_of_ble_eq_true rfl), (Nat.le_of_ble_eq_true rfl)⟩) hK hP hS KM_obj rfl rfl hl.1 rfl (Nat.le_of_ble_eq_true rfl) ⟨Nat.zero_le _, Nat.zero_le _⟩ dX7_isGiven_3 (fun H locs hP hS _ _ => ?_)
  refine lv_if_ne (tgt := 40) hx hb dX7_isGiven_6 (by decide) (fun c4 => ?_) (fun c4 => ?_)
  · have hM := (if_neg c4).symm.trans hM
    refine lv_iconst (v := 0) hx hb dX7_isGiven_40 (by decide) ?_
    exact x_zret hx hb hr hlk hP hS hM dX7_isGiven_41
  · have hM := (if_pos c4).symm.trans hM
    refine lv_aload_n hx hb dX7_isGiven_9 rfl (lv_at hl 0 rfl) ?_
    refine lv_iload_n hx hb dX7_isGiven_10 rfl (lv_at hl 2 rfl) ?_
    refine lv_iload_n hx hb dX7_isGiven_11 rfl (lv_at hl 3 rfl) ?_
    obtain ⟨r7, σ6, h5, hM⟩ := bnd_i hM
    refine x_callV (As := [.int u2, .int u3]) (rest := []) hA ⟨hx, hb, hml, hown, hts⟩ (tX7_doesKnow l D cA ad hJ u2 u3 σ2 _ _ h5) (cwV 2 hts gX7_isGiven_X7_doesKnow rfl rfl rfl (by decide +kernel) ⟨(Nat.le_of_ble_eq_true rfl), (Nat.le_of_ble_eq_true rfl)⟩) hK hP hS KM_obj rfl rfl hl.1 rfl (Nat.le_of_ble_eq_true rfl) ⟨Nat.zero_le _, Nat.zero_le _⟩ dX7_isGiven_12 (fun H locs hP hS _ _ => ?_)
    refine lv_if_eq (tgt := 40) hx hb dX7_isGiven_15 (by decide) (fun c8 => ?_) (fun c8 => ?_)
    · have hM := (if_pos c8).symm.trans hM
      refine lv_iconst (v := 0) hx hb dX7_isGiven_40 (by decide) ?_
      exact x_zret hx hb hr hlk hP hS hM dX7_isGiven_41
    · have hM := (if_neg c8).symm.trans hM
      refine lv_iload_n hx hb dX7_isGiven_18 rfl (lv_at hl 3 rfl) ?_
      refine lv_bipush (v := 20) hx hb dX7_isGiven_19 (by decide) ?_
      refine lv_irem hx hb dX7_isGiven_21 (by decide) ?_
      refine lv_iconst (v := 1) hx hb dX7_isGiven_22 (by decide) ?_
      refine lv_iadd hx hb dX7_isGiven_23 ?_
      refine lv_aload_n hx hb dX7_isGiven_24 rfl (lv_at hl 0 rfl) ?_
      refine lv_iload_n hx hb dX7_isGiven_25 rfl (lv_at hl 1 rfl) ?_
      refine lv_iload_n hx hb dX7_isGiven_26 rfl (lv_at hl 3 rfl) ?_
      refine lv_bipush (v := 20) hx hb dX7_isGiven_27 (by decide) ?_
      refine lv_idiv hx hb dX7_isGiven_29 (by decide) ?_
      obtain ⟨r11, σ10, h9, hM⟩ := bnd_i hM
      refine x_callV (As := [.int u1, .int (u3 / 20)]) (rest := [.int ((u3 - u3 / 20 * 20) + 1)]) hA ⟨hx, hb, hml, hown, hts⟩ (tX7_greatest l D cA ad hJ u1 (u3 / 20) σ6 _ _ h9) (cwV 2 hts gX7_isGiven_X7_greatest rfl rfl rfl (by decide +kernel) ⟨(Nat.le_of_ble_eq_true rfl), (Nat.le_of_ble_eq_true rfl)⟩) hK hP hS KM_obj rfl rfl hl.1 rfl (Nat.le_of_ble_eq_true rfl) ⟨Nat.zero_le _, Nat.zero_le _⟩ dX7_isGiven_30 (fun H locs hP hS _ _ => ?_)
      refine lv_icmp_ge (tgt := 40) hx hb dX7_isGiven_33 (by decide) (fun c12 => ?_) (fun c12 => ?_)
      · have hM := (if_pos c12).symm.trans hM
        refine lv_iconst (v := 0) hx hb dX7_isGiven_40 (by decide) ?_
        exact x_zret hx hb hr hlk hP hS hM dX7_isGiven_41
      · have hM := (if_neg c12).symm.trans hM
        refine lv_iconst (v := 1) hx hb dX7_isGiven_36 (by decide) ?_
        refine lv_goto (tgt := 41) hx hb dX7_isGiven_37 (by decide) ?_
        exact x_zret hx hb hr hlk hP hS hM dX7_isGiven_41
set_option maxHeartbeats 4000000 in
set_option maxRecDepth 100000 in
theorem tX7_givenMany (l : Launch) (D : va_G) (cA : ClassId) (ad : Nat → Nat) (hJ : w_J ad KM) (u1 u2 : Int32) (σ σ' : St) (r : Int32) (hM : mX7_givenMany u1 u2 σ = some (r, σ')) : Ct l yX7_givenMany wsX7_givenMany 3 69 D cA ad KM [.ref (ad 0), .int u1, .int u2] σ r σ' := by
  unfold Ct
  refine Met_of (cc := cX7_givenMany) (maxL := 5) (ret := (some .int)) hJ (by decide +kernel) rfl (Nat.le_of_ble_eq_true rfl) ?_
  intro p e s m below meth c Z H locs ls hP hS hl
  obtain ⟨hx, hb, hml, hown, hts, hr, hlk, hK, -⟩ := Z
  have hown : s.vm.findClass RX7 = some m.cls := hown
  have hl : lv_has ls 5 [(0, .ref (ad 0)), (1, .int u1), (2, .int u2)] := hl
  have hA : ∀ q, w_A ad KM q → w_A ad KM q := fun _ h => h
  have L5 : ∀ (n : Nat) (x1 x2 x3 x4 : Int32) (σ : St) (H : Heap) (locs : List Loc) (ls : Array Slot), mX7_givenMany_L5 n x1 x2 x3 x4 σ = some (r, σ') → w_P D cA ad KM σ H → va_S (w_A ad KM) s.heap H locs → lv_has ls 5 [(0, .ref (ad 0)), (1, .int x1), (2, .int x2), (3, .int x3), (4, .int x4)] → Wm p l e wsX7_givenMany 3 69 s m ([.ref (ad 0), .int u1, .int u2] : List Value).toArray below meth c (w_Qi D cA ad KM r σ') (w_A ad KM) H locs (F0 m 5 ls []) := by
    intro n5
    induction n5 with
    | zero =>
      intro x1 x2 x3 x4 σ H locs ls hM hP hS hl
      rw [mX7_givenMany_L5] at hM
      cases hM
    | succ n5 ih5 =>
      intro x1 x2 x3 x4 σ H locs ls hM hP hS hl
      rw [mX7_givenMany_L5] at hM
      refine lv_iload hx hb dX7_givenMany_5 (lv_at hl 4 rfl) ?_
      refine lv_bipush (v := 100) hx hb dX7_givenMany_7 (by decide) ?_
      refine lv_icmp_ge (tgt := 37) hx hb dX7_givenMany_9 (by decide) (fun c1 => ?_) (fun c1 => ?_)
      · have hM := (if_pos c1).symm.trans hM
        refine lv_iload_n hx hb dX7_givenMany_37 rfl (lv_at hl 3 rfl) ?_
        exact x_iret hx hb hr hlk hP hS hM dX7_givenMany_38
      · have hM := (if_neg c1).symm.trans hM
        refine lv_iload_n hx hb dX7_givenMany_12 rfl (lv_at hl 3 rfl) ?_
        refine lv_aload_n hx hb dX7_givenMany_13 rfl (lv_at hl 0 rfl) ?_
        refine lv_iload_n hx hb dX7_givenMany_14 rfl (lv_at hl 1 rfl) ?_
        refine lv_iload_n hx hb dX7_givenMany_15 rfl (lv_at hl 2 rfl) ?_
        refine lv_iload hx hb dX7_givenMany_16 (lv_at hl 4 rfl) ?_
        obtain ⟨r4, σ3, h2, hM⟩ := bnd_i hM
        refine x_callV (As := [.int x1, .int x2, .int x4]) (rest := [.int x3]) hA ⟨hx, hb, hml, hown, hts⟩ (tX7_isGiven l D cA ad hJ x1 x2 x4 σ _ _ h2) (cwV 3 hts gX7_givenMany_X7_isGiven rfl rfl rfl (by decide +kernel) ⟨(Nat.le_of_ble_eq_true rfl), (Nat.le_of_ble_eq_true rfl)⟩) hK hP hS KM_obj rfl rfl hl.1 rfl (Nat.le_of_ble_eq_true rfl) ⟨Nat.zero_le _, Nat.zero_le _⟩ dX7_givenMany_18 (fun H locs hP hS _ _ => ?_)
        refine lv_if_eq (tgt := 28) hx hb dX7_givenMany_21 (by decide) (fun c5 => ?_) (fun c5 => ?_)
        · have hM := (if_pos c5).symm.trans hM
          refine lv_iconst (v := 0) hx hb dX7_givenMany_28 (by decide) ?_
          refine lv_iadd hx hb dX7_givenMany_29 ?_
          refine lv_istore_n (lv' := [(3, .int (x3 + 0)), (0, .ref (ad 0)), (1, .int x1), (2, .int x2), (4, .int x4)]) hx hb dX7_givenMany_30 rfl hl (by decide) rfl (fun ls hl => ?_)
          refine lv_iinc (v := (x4 + 1)) (lv' := [(4, .int (x4 + 1)), (3, .int (x3 + 0)), (0, .ref (ad 0)), (1, .int x1), (2, .int x2)]) hx hb dX7_givenMany_31 hl (k := 4) rfl rfl (by decide) rfl (fun ls hl => ?_)
          refine lv_goto (tgt := 5) hx hb dX7_givenMany_34 (by decide) ?_
          exact ih5 _ _ _ _ _ _ _ _ hM hP hS (lv_sub hl [2, 3, 4, 1, 0] rfl)
        · have hM := (if_neg c5).symm.trans hM
          refine lv_iconst (v := 1) hx hb dX7_givenMany_24 (by decide) ?_
          refine lv_goto (tgt := 29) hx hb dX7_givenMany_25 (by decide) ?_
          refine lv_iadd hx hb dX7_givenMany_29 ?_
          refine lv_istore_n (lv' := [(3, .int (x3 + 1)), (0, .ref (ad 0)), (1, .int x1), (2, .int x2), (4, .int x4)]) hx hb dX7_givenMany_30 rfl hl (by decide) rfl (fun ls hl => ?_)
          refine lv_iinc (v := (x4 + 1)) (lv' := [(4, .int (x4 + 1)), (3, .int (x3 + 1)), (0, .ref (ad 0)), (1, .int x1), (2, .int x2)]) hx hb dX7_givenMany_31 hl (k := 4) rfl rfl (by decide) rfl (fun ls hl => ?_)
          refine lv_goto (tgt := 5) hx hb dX7_givenMany_34 (by decide) ?_
          exact ih5 _ _ _ _ _ _ _ _ hM hP hS (lv_sub hl [2, 3, 4, 1, 0] rfl)
  unfold mX7_givenMany at hM
  refine lv_iconst (v := 0) hx hb dX7_givenMany_0 (by decide) ?_
  refine lv_istore_n (lv' := [(3, .int 0), (0, .ref (ad 0)), (1, .int u1), (2, .int u2)]) hx hb dX7_givenMany_1 rfl hl (by decide) rfl (fun ls hl => ?_)
  refine lv_iconst (v := 0) hx hb dX7_givenMany_2 (by decide) ?_
  refine lv_istore (lv' := [(4, .int 0), (3, .int 0), (0, .ref (ad 0)), (1, .int u1), (2, .int u2)]) hx hb dX7_givenMany_3 hl (by decide) rfl (fun ls hl => ?_)
  exact L5 fu _ _ _ _ _ _ _ _ hM hP hS (lv_sub hl [2, 3, 4, 1, 0] rfl)
set_option maxHeartbeats 4000000 in
set_option maxRecDepth 100000 in
theorem tX7_repair (l : Launch) (D : va_G) (cA : ClassId) (ad : Nat → Nat) (hJ : w_J ad KM) (u1 u2 : Int32) (σ σ' : St) (r : Int32) (hM : mX7_repair u1 u2 σ = some (r, σ')) : Ct l yX7_repair wsX7_repair 3 69 D cA ad KM [.ref (ad 0), .int u1, .int u2] σ r σ' := by
  unfold Ct
  refine Met_of (cc := cX7_repair) (maxL := 5) (ret := (some .int)) hJ (by decide +kernel) rfl (Nat.le_of_ble_eq_true rfl) ?_
  intro p e s m below meth c Z H locs ls hP hS hl
  obtain ⟨hx, hb, hml, hown, hts, hr, hlk, hK, -⟩ := Z
  have hown : s.vm.findClass RX7 = some m.cls := hown
  have hl : lv_has ls 5 [(0, .ref (ad 0)), (1, .int u1), (2, .int u2)] := hl
  have hA : ∀ q, w_A ad KM q → w_A ad KM q := fun _ h => h
  have L17 : ∀ (n : Nat) (x1 x2 x3 x4 : Int32) (σ : St) (H : Heap) (locs : List Loc) (ls : Array Slot), mX7_repair_L17 n x1 x2 x3 x4 σ = some (r, σ') → w_P D cA ad KM σ H → va_S (w_A ad KM) s.heap H locs → lv_has ls 5 [(0, .ref (ad 0)), (1, .int x1), (2, .int x2), (3, .int x3), (4, .int x4)] → Wm p l e wsX7_repair 3 69 s m ([.ref (ad 0), .int u1, .int u2] : List Value).toArray below meth c (w_Qi D cA ad KM r σ') (w_A ad KM) H locs (F0 m 17 ls []) := by
    intro n17
    induction n17 with
    | zero =>
      intro x1 x2 x3 x4 σ H locs ls hM hP hS hl
      rw [mX7_repair_L17] at hM
      cases hM
    | succ n17 ih17 =>
      intro x1 x2 x3 x4 σ H locs ls hM hP hS hl
      rw [mX7_repair_L17] at hM
      refine lv_iload hx hb dX7_repair_17 (lv_at hl 4 rfl) ?_
      refine lv_bipush (v := 100) hx hb dX7_repair_19 (by decide) ?_
      refine lv_icmp_ge (tgt := 51) hx hb dX7_repair_21 (by decide) (fun c1 => ?_) (fun c1 => ?_)
      · have hM := (if_pos c1).symm.trans hM
        refine lv_iload_n hx hb dX7_repair_51 rfl (lv_at hl 3 rfl) ?_
        exact x_iret hx hb hr hlk hP hS hM dX7_repair_52
      · have hM := (if_neg c1).symm.trans hM
        refine lv_aload_n hx hb dX7_repair_24 rfl (lv_at hl 0 rfl) ?_
        refine lv_iload_n hx hb dX7_repair_25 rfl (lv_at hl 1 rfl) ?_
        refine lv_iload_n hx hb dX7_repair_26 rfl (lv_at hl 2 rfl) ?_
        refine lv_iload hx hb dX7_repair_27 (lv_at hl 4 rfl) ?_
        obtain ⟨r4, σ3, h2, hM⟩ := bnd_i hM
        refine x_callV (As := [.int x1, .int x2, .int x4]) (rest := []) hA ⟨hx, hb, hml, hown, hts⟩ (tX7_isGiven l D cA ad hJ x1 x2 x4 σ _ _ h2) (cwV 3 hts gX7_repair_X7_isGiven rfl rfl rfl (by decide +kernel) ⟨(Nat.le_of_ble_eq_true rfl), (Nat.le_of_ble_eq_true rfl)⟩) hK hP hS KM_obj rfl rfl hl.1 rfl (Nat.le_of_ble_eq_true rfl) ⟨Nat.zero_le _, Nat.zero_le _⟩ dX7_repair_29 (fun H locs hP hS _ _ => ?_)
        refine lv_if_eq (tgt := 45) hx hb dX7_repair_32 (by decide) (fun c5 => ?_) (fun c5 => ?_)
        · have hM := (if_pos c5).symm.trans hM
          refine lv_iinc (v := (x4 + 1)) (lv' := [(4, .int (x4 + 1)), (0, .ref (ad 0)), (1, .int x1), (2, .int x2), (3, .int x3)]) hx hb dX7_repair_45 hl (k := 4) rfl rfl (by decide) rfl (fun ls hl => ?_)
          refine lv_goto (tgt := 17) hx hb dX7_repair_48 (by decide) ?_
          exact ih17 _ _ _ _ _ _ _ _ hM hP hS (lv_sub hl [1, 2, 3, 4, 0] rfl)
        · have hM := (if_neg c5).symm.trans hM
          refine lv_aload_n hx hb dX7_repair_35 rfl (lv_at hl 0 rfl) ?_
          refine lv_iload_n hx hb dX7_repair_36 rfl (lv_at hl 1 rfl) ?_
          refine lv_iload hx hb dX7_repair_37 (lv_at hl 4 rfl) ?_
          obtain ⟨σ7, h6, hM⟩ := bnv_i hM
          refine x_callVv (As := [.int x1, .int x4]) (rest := []) hA ⟨hx, hb, hml, hown, hts⟩ (tX7_learns l D cA ad hJ x1 x4 σ3 _ h6) (cwV 2 hts gX7_repair_X7_learns rfl rfl rfl (by decide +kernel) ⟨(Nat.le_of_ble_eq_true rfl), (Nat.le_of_ble_eq_true rfl)⟩) hK hP hS KM_obj rfl rfl hl.1 rfl (Nat.le_of_ble_eq_true rfl) ⟨Nat.zero_le _, Nat.zero_le _⟩ dX7_repair_39 (fun H locs hP hS _ _ => ?_)
          refine lv_iinc (v := (x3 + 1)) (lv' := [(3, .int (x3 + 1)), (0, .ref (ad 0)), (1, .int x1), (2, .int x2), (4, .int x4)]) hx hb dX7_repair_42 hl (k := 3) rfl rfl (by decide) rfl (fun ls hl => ?_)
          refine lv_iinc (v := (x4 + 1)) (lv' := [(4, .int (x4 + 1)), (3, .int (x3 + 1)), (0, .ref (ad 0)), (1, .int x1), (2, .int x2)]) hx hb dX7_repair_45 hl (k := 4) rfl rfl (by decide) rfl (fun ls hl => ?_)
          refine lv_goto (tgt := 17) hx hb dX7_repair_48 (by decide) ?_
          exact ih17 _ _ _ _ _ _ _ _ hM hP hS (lv_sub hl [2, 3, 4, 1, 0] rfl)
  unfold mX7_repair at hM
  refine lv_aload_n hx hb dX7_repair_0 rfl (lv_at hl 0 rfl) ?_
  refine lv_iload_n hx hb dX7_repair_1 rfl (lv_at hl 1 rfl) ?_
  refine lv_iload_n hx hb dX7_repair_2 rfl (lv_at hl 2 rfl) ?_
  obtain ⟨r10, σ9, h8, hM⟩ := bnd_i hM
  refine x_callV (As := [.int u1, .int u2]) (rest := []) hA ⟨hx, hb, hml, hown, hts⟩ (tX7_isPair l D cA ad hJ u1 u2 σ _ _ h8) (cwV 2 hts gX7_repair_X7_isPair rfl rfl rfl (by decide +kernel) ⟨(Nat.le_of_ble_eq_true rfl), (Nat.le_of_ble_eq_true rfl)⟩) hK hP hS KM_obj rfl rfl hl.1 rfl (Nat.le_of_ble_eq_true rfl) ⟨Nat.zero_le _, Nat.zero_le _⟩ dX7_repair_3 (fun H locs hP hS _ _ => ?_)
  refine lv_if_ne (tgt := 12) hx hb dX7_repair_6 (by decide) (fun c11 => ?_) (fun c11 => ?_)
  · have hM := (if_neg c11).symm.trans hM
    refine lv_iconst (v := 0) hx hb dX7_repair_12 (by decide) ?_
    refine lv_istore_n (lv' := [(3, .int 0), (0, .ref (ad 0)), (1, .int u1), (2, .int u2)]) hx hb dX7_repair_13 rfl hl (by decide) rfl (fun ls hl => ?_)
    refine lv_iconst (v := 0) hx hb dX7_repair_14 (by decide) ?_
    refine lv_istore (lv' := [(4, .int 0), (3, .int 0), (0, .ref (ad 0)), (1, .int u1), (2, .int u2)]) hx hb dX7_repair_15 hl (by decide) rfl (fun ls hl => ?_)
    exact L17 fu _ _ _ _ _ _ _ _ hM hP hS (lv_sub hl [2, 3, 4, 1, 0] rfl)
  · have hM := (if_pos c11).symm.trans hM
    refine lv_ldc (own := RX7) (v := (-1000000001)) hx hb hown (hts (.constant RX7 89 (-1000000001)) (by decide +kernel)) dX7_repair_9 ?_
    exact x_iret hx hb hr hlk hP hS hM dX7_repair_11
set_option maxHeartbeats 4000000 in
set_option maxRecDepth 100000 in
theorem tX7_sizeOf (l : Launch) (D : va_G) (cA : ClassId) (ad : Nat → Nat) (hJ : w_J ad KM) (u1 : Int32) (σ σ' : St) (r : Int32) (hM : mX7_sizeOf u1 σ = some (r, σ')) : Ct l yX7_sizeOf wsX7_sizeOf 1 22 D cA ad KM [.ref (ad 0), .int u1] σ r σ' := by
  unfold Ct
  refine Met_of (cc := cX7_sizeOf) (maxL := 6) (ret := (some .int)) hJ (by decide +kernel) rfl (Nat.le_of_ble_eq_true rfl) ?_
  intro p e s m below meth c Z H locs ls hP hS hl
  obtain ⟨hx, hb, hml, hown, hts, hr, hlk, hK, -⟩ := Z
  have hown : s.vm.findClass RX7 = some m.cls := hown
  have hl : lv_has ls 6 [(0, .ref (ad 0)), (1, .int u1)] := hl
  have hA : ∀ q, w_A ad KM q → w_A ad KM q := fun _ h => h
  have L29 : ∀ (n : Nat) (x1 x2 x3 : Int32) (σ : St) (H : Heap) (locs : List Loc) (ls : Array Slot), mX7_sizeOf_L29 n x1 x2 x3 σ = some (r, σ') → w_P D cA ad KM σ H → va_S (w_A ad KM) s.heap H locs → lv_has ls 6 [(0, .ref (ad 0)), (1, .int x1), (2, .int x2), (3, .int x3)] → Wm p l e wsX7_sizeOf 1 22 s m ([.ref (ad 0), .int u1] : List Value).toArray below meth c (w_Qi D cA ad KM r σ') (w_A ad KM) H locs (F0 m 29 ls []) := by
    intro n29
    induction n29 with
    | zero =>
      intro x1 x2 x3 σ H locs ls hM hP hS hl
      rw [mX7_sizeOf_L29] at hM
      cases hM
    | succ n29 ih29 =>
      intro x1 x2 x3 σ H locs ls hM hP hS hl
      rw [mX7_sizeOf_L29] at hM
      refine lv_iload_n hx hb dX7_sizeOf_29 rfl (lv_at hl 3 rfl) ?_
      refine lv_aload_n hx hb dX7_sizeOf_30 rfl (lv_at hl 0 rfl) ?_
      refine lv_iload_n hx hb dX7_sizeOf_31 rfl (lv_at hl 1 rfl) ?_
      refine lv_iconst (v := 4) hx hb dX7_sizeOf_32 (by decide) ?_
      obtain ⟨r3, σ2, h1, hM⟩ := bnd_i hM
      refine x_callV (As := [.int x1, .int 4]) (rest := [.int x3]) hA ⟨hx, hb, hml, hown, hts⟩ (tX7_of l D cA ad hJ x1 4 σ _ _ h1) (cwV 2 hts gX7_sizeOf_X7_of rfl rfl rfl (by decide +kernel) ⟨(Nat.le_of_ble_eq_true rfl), (Nat.le_of_ble_eq_true rfl)⟩) hK hP hS KM_obj rfl rfl hl.1 rfl (Nat.le_of_ble_eq_true rfl) ⟨Nat.zero_le _, Nat.zero_le _⟩ dX7_sizeOf_33 (fun H locs hP hS _ _ => ?_)
      refine lv_icmp_ge (tgt := 127) hx hb dX7_sizeOf_36 (by decide) (fun c4 => ?_) (fun c4 => ?_)
      · have hM := (if_pos c4).symm.trans hM
        refine lv_iload_n hx hb dX7_sizeOf_127 rfl (lv_at hl 2 rfl) ?_
        exact x_iret hx hb hr hlk hP hS hM dX7_sizeOf_128
      · have hM := (if_neg c4).symm.trans hM
        refine lv_aload_n hx hb dX7_sizeOf_39 rfl (lv_at hl 0 rfl) ?_
        refine lv_iload_n hx hb dX7_sizeOf_40 rfl (lv_at hl 1 rfl) ?_
        refine lv_iconst (v := 5) hx hb dX7_sizeOf_41 (by decide) ?_
        refine lv_iconst (v := 2) hx hb dX7_sizeOf_42 (by decide) ?_
        refine lv_iload_n hx hb dX7_sizeOf_43 rfl (lv_at hl 3 rfl) ?_
        refine lv_imul hx hb dX7_sizeOf_44 ?_
        refine lv_iadd hx hb dX7_sizeOf_45 ?_
        obtain ⟨r7, σ6, h5, hM⟩ := bnd_i hM
        refine x_callV (As := [.int x1, .int (5 + (2 * x3))]) (rest := []) hA ⟨hx, hb, hml, hown, hts⟩ (tX7_of l D cA ad hJ x1 (5 + (2 * x3)) σ2 _ _ h5) (cwV 2 hts gX7_sizeOf_X7_of rfl rfl rfl (by decide +kernel) ⟨(Nat.le_of_ble_eq_true rfl), (Nat.le_of_ble_eq_true rfl)⟩) hK hP hS KM_obj rfl rfl hl.1 rfl (Nat.le_of_ble_eq_true rfl) ⟨Nat.zero_le _, Nat.zero_le _⟩ dX7_sizeOf_46 (fun H locs hP hS _ _ => ?_)
        refine lv_aload_n hx hb dX7_sizeOf_49 rfl (lv_at hl 0 rfl) ?_
        refine lv_iload_n hx hb dX7_sizeOf_50 rfl (lv_at hl 1 rfl) ?_
        refine lv_iconst (v := 5) hx hb dX7_sizeOf_51 (by decide) ?_
        refine lv_iconst (v := 2) hx hb dX7_sizeOf_52 (by decide) ?_
        refine lv_iload_n hx hb dX7_sizeOf_53 rfl (lv_at hl 3 rfl) ?_
        refine lv_imul hx hb dX7_sizeOf_54 ?_
        refine lv_iadd hx hb dX7_sizeOf_55 ?_
        refine lv_iconst (v := 2) hx hb dX7_sizeOf_56 (by decide) ?_
        refine lv_isub hx hb dX7_sizeOf_57 ?_
        obtain ⟨r10, σ9, h8, hM⟩ := bnd_i hM
        refine x_callV (As := [.int x1, .int ((5 + (2 * x3)) - 2)]) (rest := [.int r7]) hA ⟨hx, hb, hml, hown, hts⟩ (tX7_of l D cA ad hJ x1 ((5 + (2 * x3)) - 2) σ6 _ _ h8) (cwV 2 hts gX7_sizeOf_X7_of rfl rfl rfl (by decide +kernel) ⟨(Nat.le_of_ble_eq_true rfl), (Nat.le_of_ble_eq_true rfl)⟩) hK hP hS KM_obj rfl rfl hl.1 rfl (Nat.le_of_ble_eq_true rfl) ⟨Nat.zero_le _, Nat.zero_le _⟩ dX7_sizeOf_58 (fun H locs hP hS _ _ => ?_)
        refine lv_isub hx hb dX7_sizeOf_61 ?_
        refine lv_istore (lv' := [(4, .int (r7 - r10)), (0, .ref (ad 0)), (1, .int x1), (2, .int x2), (3, .int x3)]) hx hb dX7_sizeOf_62 hl (by decide) rfl (fun ls hl => ?_)
        refine lv_aload_n hx hb dX7_sizeOf_64 rfl (lv_at hl 1 rfl) ?_
        refine lv_iload_n hx hb dX7_sizeOf_65 rfl (lv_at hl 2 rfl) ?_
        refine lv_iconst (v := 5) hx hb dX7_sizeOf_66 (by decide) ?_
        refine lv_iconst (v := 2) hx hb dX7_sizeOf_67 (by decide) ?_
        refine lv_iload_n hx hb dX7_sizeOf_68 rfl (lv_at hl 4 rfl) ?_
        refine lv_imul hx hb dX7_sizeOf_69 ?_
        refine lv_iadd hx hb dX7_sizeOf_70 ?_
        refine lv_iconst (v := 1) hx hb dX7_sizeOf_71 (by decide) ?_
        refine lv_iadd hx hb dX7_sizeOf_72 ?_
        obtain ⟨r13, σ12, h11, hM⟩ := bnd_i hM
        refine x_callV (As := [.int x1, .int ((5 + (2 * x3)) + 1)]) (rest := []) hA ⟨hx, hb, hml, hown, hts⟩ (tX7_of l D cA ad hJ x1 ((5 + (2 * x3)) + 1) σ9 _ _ h11) (cwV 2 hts gX7_sizeOf_X7_of rfl rfl rfl (by decide +kernel) ⟨(Nat.le_of_ble_eq_true rfl), (Nat.le_of_ble_eq_true rfl)⟩) hK hP hS KM_obj rfl rfl hl.1 rfl (Nat.le_of_ble_eq_true rfl) ⟨Nat.zero_le _, Nat.zero_le _⟩ dX7_sizeOf_73 (fun H locs hP hS _ _ => ?_)
        refine lv_aload_n hx hb dX7_sizeOf_76 rfl (lv_at hl 1 rfl) ?_
        refine lv_iload_n hx hb dX7_sizeOf_77 rfl (lv_at hl 2 rfl) ?_
        refine lv_iconst (v := 5) hx hb dX7_sizeOf_78 (by decide) ?_
        refine lv_iconst (v := 2) hx hb dX7_sizeOf_79 (by decide) ?_
        refine lv_iload_n hx hb dX7_sizeOf_80 rfl (lv_at hl 4 rfl) ?_
        refine lv_imul hx hb dX7_sizeOf_81 ?_
        refine lv_iadd hx hb dX7_sizeOf_82 ?_
        refine lv_iconst (v := 1) hx hb dX7_sizeOf_83 (by decide) ?_
        refine lv_isub hx hb dX7_sizeOf_84 ?_
        obtain ⟨r16, σ15, h14, hM⟩ := bnd_i hM
        refine x_callV (As := [.int x1, .int ((5 + (2 * x3)) - 1)]) (rest := [.int r13]) hA ⟨hx, hb, hml, hown, hts⟩ (tX7_of l D cA ad hJ x1 ((5 + (2 * x3)) - 1) σ12 _ _ h14) (cwV 2 hts gX7_sizeOf_X7_of rfl rfl rfl (by decide +kernel) ⟨(Nat.le_of_ble_eq_true rfl), (Nat.le_of_ble_eq_true rfl)⟩) hK hP hS KM_obj rfl rfl hl.1 rfl (Nat.le_of_ble_eq_true rfl) ⟨Nat.zero_le _, Nat.zero_le _⟩ dX7_sizeOf_85 (fun H locs hP hS _ _ => ?_)
        refine lv_isub hx hb dX7_sizeOf_88 ?_
        refine lv_istore (lv' := [(5, .int (r13 - r16)), (4, .int (r7 - r10)), (0, .ref (ad 0)), (1, .int x1), (2, .int x2), (3, .int x3)]) hx hb dX7_sizeOf_89 hl (by decide) rfl (fun ls hl => ?_)
        refine lv_iload_n hx hb dX7_sizeOf_91 rfl (lv_at hl 4 rfl) ?_
        refine lv_iload hx hb dX7_sizeOf_92 (lv_at hl 1 rfl) ?_
        refine lv_bipush (v := (-4)) hx hb dX7_sizeOf_94 (by decide) ?_
        refine lv_iconst (v := 3) hx hb dX7_sizeOf_96 (by decide) ?_
        obtain ⟨r19, σ18, h17, hM⟩ := bnd_i hM
        refine x_callS (As := [.int (r7 - r10), .int (-4), .int 3]) (rest := [.int x2]) hA ⟨hx, hb, hml, hown, hts⟩ (tX7_in l D cA ad hJ (r7 - r10) (-4) 3 σ15 _ _ h17) (va_cwS 3 hts gX7_sizeOf_X7_in rfl rfl rfl (by decide +kernel) ⟨(Nat.le_of_ble_eq_true rfl), (Nat.le_of_ble_eq_true rfl)⟩) hK hP hS rfl hl.1 rfl (Nat.le_of_ble_eq_true rfl) ⟨Nat.zero_le _, Nat.zero_le _⟩ dX7_sizeOf_97 (fun H locs hP hS => ?_)
        refine lv_if_eq (tgt := 118) hx hb dX7_sizeOf_100 (by decide) (fun c20 => ?_) (fun c20 => ?_)
        · have hM := (if_pos c20).symm.trans hM
          refine lv_iconst (v := 2) hx hb dX7_sizeOf_118 (by decide) ?_
          refine lv_iadd hx hb dX7_sizeOf_119 ?_
          refine lv_istore_n (lv' := [(2, .int (x2 + 2)), (5, .int (r13 - r16)), (4, .int (r7 - r10)), (0, .ref (ad 0)), (1, .int x1), (3, .int x3)]) hx hb dX7_sizeOf_120 rfl hl (by decide) rfl (fun ls hl => ?_)
          refine lv_iinc (v := (x3 + 1)) (lv' := [(3, .int (x3 + 1)), (2, .int (x2 + 2)), (5, .int (r13 - r16)), (4, .int (r7 - r10)), (0, .ref (ad 0)), (1, .int x1)]) hx hb dX7_sizeOf_121 hl (k := 5) rfl rfl (by decide) rfl (fun ls hl => ?_)
          refine lv_goto (tgt := 29) hx hb dX7_sizeOf_124 (by decide) ?_
          exact ih29 _ _ _ _ _ _ _ hM hP hS (lv_sub hl [4, 5, 1, 0] rfl)
        · have hM := (if_neg c20).symm.trans hM
          refine lv_iload hx hb dX7_sizeOf_103 (lv_at hl 0 rfl) ?_
          refine lv_bipush (v := (-4)) hx hb dX7_sizeOf_105 (by decide) ?_
          refine lv_iconst (v := 3) hx hb dX7_sizeOf_107 (by decide) ?_
          obtain ⟨r23, σ22, h21, hM⟩ := bnd_i hM
          refine x_callS (As := [.int (r13 - r16), .int (-4), .int 3]) (rest := [.int x2]) hA ⟨hx, hb, hml, hown, hts⟩ (tX7_in l D cA ad hJ (r13 - r16) (-4) 3 σ18 _ _ h21) (va_cwS 3 hts gX7_sizeOf_X7_in rfl rfl rfl (by decide +kernel) ⟨(Nat.le_of_ble_eq_true rfl), (Nat.le_of_ble_eq_true rfl)⟩) hK hP hS rfl hl.1 rfl (Nat.le_of_ble_eq_true rfl) ⟨Nat.zero_le _, Nat.zero_le _⟩ dX7_sizeOf_108 (fun H locs hP hS => ?_)
          refine lv_if_eq (tgt := 118) hx hb dX7_sizeOf_111 (by decide) (fun c24 => ?_) (fun c24 => ?_)
          · have hM := (if_pos c24).symm.trans hM
            refine lv_iconst (v := 2) hx hb dX7_sizeOf_118 (by decide) ?_
            refine lv_iadd hx hb dX7_sizeOf_119 ?_
            refine lv_istore_n (lv' := [(2, .int (x2 + 2)), (5, .int (r13 - r16)), (4, .int (r7 - r10)), (0, .ref (ad 0)), (1, .int x1), (3, .int x3)]) hx hb dX7_sizeOf_120 rfl hl (by decide) rfl (fun ls hl => ?_)
            refine lv_iinc (v := (x3 + 1)) (lv' := [(3, .int (x3 + 1)), (2, .int (x2 + 2)), (5, .int (r13 - r16)), (4, .int (r7 - r10)), (0, .ref (ad 0)), (1, .int x1)]) hx hb dX7_sizeOf_121 hl (k := 5) rfl rfl (by decide) rfl (fun ls hl => ?_)
            refine lv_goto (tgt := 29) hx hb dX7_sizeOf_124 (by decide) ?_
            exact ih29 _ _ _ _ _ _ _ hM hP hS (lv_sub hl [4, 5, 1, 0] rfl)
          · have hM := (if_neg c24).symm.trans hM
            refine lv_iconst (v := 1) hx hb dX7_sizeOf_114 (by decide) ?_
            refine lv_goto (tgt := 119) hx hb dX7_sizeOf_115 (by decide) ?_
            refine lv_iadd hx hb dX7_sizeOf_119 ?_
            refine lv_istore_n (lv' := [(2, .int (x2 + 1)), (5, .int (r13 - r16)), (4, .int (r7 - r10)), (0, .ref (ad 0)), (1, .int x1), (3, .int x3)]) hx hb dX7_sizeOf_120 rfl hl (by decide) rfl (fun ls hl => ?_)
            refine lv_iinc (v := (x3 + 1)) (lv' := [(3, .int (x3 + 1)), (2, .int (x2 + 1)), (5, .int (r13 - r16)), (4, .int (r7 - r10)), (0, .ref (ad 0)), (1, .int x1)]) hx hb dX7_sizeOf_121 hl (k := 5) rfl rfl (by decide) rfl (fun ls hl => ?_)
            refine lv_goto (tgt := 29) hx hb dX7_sizeOf_124 (by decide) ?_
            exact ih29 _ _ _ _ _ _ _ hM hP hS (lv_sub hl [4, 5, 1, 0] rfl)
  unfold mX7_sizeOf at hM
  refine lv_aload_n hx hb dX7_sizeOf_0 rfl (lv_at hl 0 rfl) ?_
  refine lv_iload_n hx hb dX7_sizeOf_1 rfl (lv_at hl 1 rfl) ?_
  refine lv_iconst (v := 0) hx hb dX7_sizeOf_2 (by decide) ?_
  obtain ⟨r27, σ26, h25, hM⟩ := bnd_i hM
  refine x_callV (As := [.int u1, .int 0]) (rest := []) hA ⟨hx, hb, hml, hown, hts⟩ (tX7_of l D cA ad hJ u1 0 σ _ _ h25) (cwV 2 hts gX7_sizeOf_X7_of rfl rfl rfl (by decide +kernel) ⟨(Nat.le_of_ble_eq_true rfl), (Nat.le_of_ble_eq_true rfl)⟩) hK hP hS KM_obj rfl rfl hl.1 rfl (Nat.le_of_ble_eq_true rfl) ⟨Nat.zero_le _, Nat.zero_le _⟩ dX7_sizeOf_3 (fun H locs hP hS _ _ => ?_)
  refine lv_if_eq (tgt := 25) hx hb dX7_sizeOf_6 (by decide) (fun c28 => ?_) (fun c28 => ?_)
  · have hM := (if_pos c28).symm.trans hM
    refine lv_iconst (v := 4) hx hb dX7_sizeOf_25 (by decide) ?_
    refine lv_istore_n (lv' := [(2, .int 4), (0, .ref (ad 0)), (1, .int u1)]) hx hb dX7_sizeOf_26 rfl hl (by decide) rfl (fun ls hl => ?_)
    refine lv_iconst (v := 1) hx hb dX7_sizeOf_27 (by decide) ?_
    refine lv_istore_n (lv' := [(3, .int 1), (2, .int 4), (0, .ref (ad 0)), (1, .int u1)]) hx hb dX7_sizeOf_28 rfl hl (by decide) rfl (fun ls hl => ?_)
    exact L29 fu _ _ _ _ _ _ _ hM hP hS (lv_sub hl [2, 3, 1, 0] rfl)
  · have hM := (if_neg c28).symm.trans hM
    refine lv_aload_n hx hb dX7_sizeOf_9 rfl (lv_at hl 0 rfl) ?_
    refine lv_iload_n hx hb dX7_sizeOf_10 rfl (lv_at hl 1 rfl) ?_
    refine lv_iconst (v := 0) hx hb dX7_sizeOf_11 (by decide) ?_
    obtain ⟨r31, σ30, h29, hM⟩ := bnd_i hM
    refine x_callV (As := [.int u1, .int 0]) (rest := []) hA ⟨hx, hb, hml, hown, hts⟩ (tX7_of l D cA ad hJ u1 0 σ26 _ _ h29) (cwV 2 hts gX7_sizeOf_X7_of rfl rfl rfl (by decide +kernel) ⟨(Nat.le_of_ble_eq_true rfl), (Nat.le_of_ble_eq_true rfl)⟩) hK hP hS KM_obj rfl rfl hl.1 rfl (Nat.le_of_ble_eq_true rfl) ⟨Nat.zero_le _, Nat.zero_le _⟩ dX7_sizeOf_12 (fun H locs hP hS _ _ => ?_)
    refine lv_iconst (v := 3) hx hb dX7_sizeOf_15 (by decide) ?_
    refine lv_icmp_ne (tgt := 23) hx hb dX7_sizeOf_16 (by decide) (fun c32 => ?_) (fun c32 => ?_)
    · have hM := (if_neg c32).symm.trans hM
      refine lv_iconst (v := 3) hx hb dX7_sizeOf_23 (by decide) ?_
      exact x_iret hx hb hr hlk hP hS hM dX7_sizeOf_24
    · have hM := (if_pos c32).symm.trans hM
      refine lv_iconst (v := 4) hx hb dX7_sizeOf_19 (by decide) ?_
      refine lv_goto (tgt := 24) hx hb dX7_sizeOf_20 (by decide) ?_
      exact x_iret hx hb hr hlk hP hS hM dX7_sizeOf_24
theorem hinX7_X7_transfer : ∀ w ∈ u_ws RX7 TX7 14, w ∈ wsX7_transfer := by decide +kernel
set_option maxHeartbeats 4000000 in
set_option maxRecDepth 100000 in
theorem tX7_transfer (l : Launch) (D : va_G) (cA : ClassId) (ad : Nat → Nat) (hJ : w_J ad KM) (u1 u2 : Int32) (σ σ' : St) (r : Int32) (hM : mX7_transfer u1 u2 σ = some (r, σ')) : Ct l yX7_transfer wsX7_transfer 3 65 D cA ad KM [.ref (ad 0), .int u1, .int u2] σ r σ' := by
  unfold Ct
  refine Met_of (cc := cX7_transfer) (maxL := 5) (ret := (some .int)) hJ (by decide +kernel) rfl (Nat.le_of_ble_eq_true rfl) ?_
  intro p e s m below meth c Z H locs ls hP hS hl
  obtain ⟨hx, hb, hml, hown, hts, hr, hlk, hK, -⟩ := Z
  have hown : s.vm.findClass RX7 = some m.cls := hown
  have hl : lv_has ls 5 [(0, .ref (ad 0)), (1, .int u1), (2, .int u2)] := hl
  have hA : ∀ q, w_A ad KM q → w_A ad KM q := fun _ h => h
  have b101 : ∀ (x3 y0 y1 : Int32) (σ : St) (H : Heap) (locs : List Loc) (ls : Array Slot), mX7_transfer_b101 x3 y0 y1 σ = some (r, σ') → w_P D cA ad KM σ H → va_S (w_A ad KM) s.heap H locs → lv_has ls 5 [(0, .ref (ad 0)), (3, .int x3)] → Wm p l e wsX7_transfer 3 65 s m ([.ref (ad 0), .int u1, .int u2] : List Value).toArray below meth c (w_Qi D cA ad KM r σ') (w_A ad KM) H locs (F0 m 101 ls [.int y0, .int y1, .ref (ad 3)]) := by
    intro x3 y0 y1 σ H locs ls hM hP hS hl
    unfold mX7_transfer_b101 at hM
    obtain ⟨h1, hM⟩ := ix_i hM
    refine x_iast hx hb KM_ok hJ hK hP hS rfl h1 dX7_transfer_101 (fun H locs hP hS => ?_)
    obtain ⟨σ2, eσ2, hM⟩ := lts_i hM
    rw [← eσ2] at hP
    refine lv_iload_n hx hb dX7_transfer_102 rfl (lv_at hl 1 rfl) ?_
    exact x_iret hx hb hr hlk hP hS hM dX7_transfer_103
  have b66 : ∀ (x1 x2 x3 : Int32) (σ : St) (H : Heap) (locs : List Loc) (ls : Array Slot), mX7_transfer_b66 x1 x2 x3 σ = some (r, σ') → w_P D cA ad KM σ H → va_S (w_A ad KM) s.heap H locs → lv_has ls 5 [(0, .ref (ad 0)), (1, .int x1), (2, .int x2), (3, .int x3)] → Wm p l e wsX7_transfer 3 65 s m ([.ref (ad 0), .int u1, .int u2] : List Value).toArray below meth c (w_Qi D cA ad KM r σ') (w_A ad KM) H locs (F0 m 66 ls []) := by
    intro x1 x2 x3 σ H locs ls hM hP hS hl
    unfold mX7_transfer_b66 at hM
    refine lv_aload_n hx hb dX7_transfer_66 rfl (lv_at hl 0 rfl) ?_
    refine x_getr (own := RX7) (C := RX7) (T := TX7) (N := 14) hx hb hts hinX7_X7_transfer hown hK hP KM_obj rfl 3 (by decide) (hts (.fieldLink RX7 20 "StrokeBoardModel" "clock" "[I") (by decide +kernel)) rfl dX7_transfer_67 ?_
    refine lv_iload_n hx hb dX7_transfer_70 rfl (lv_at hl 1 rfl) ?_
    refine lv_aload_n hx hb dX7_transfer_71 rfl (lv_at hl 0 rfl) ?_
    refine x_getr (own := RX7) (C := RX7) (T := TX7) (N := 14) hx hb hts hinX7_X7_transfer hown hK hP KM_obj rfl 3 (by decide) (hts (.fieldLink RX7 20 "StrokeBoardModel" "clock" "[I") (by decide +kernel)) rfl dX7_transfer_72 ?_
    refine lv_iload_n hx hb dX7_transfer_75 rfl (lv_at hl 2 rfl) ?_
    obtain ⟨h3, hM⟩ := ix_i hM
    refine x_iald hx hb hK hP rfl h3 dX7_transfer_76 ?_
    refine lv_aload_n hx hb dX7_transfer_77 rfl (lv_at hl 0 rfl) ?_
    refine x_getr (own := RX7) (C := RX7) (T := TX7) (N := 14) hx hb hts hinX7_X7_transfer hown hK hP KM_obj rfl 3 (by decide) (hts (.fieldLink RX7 20 "StrokeBoardModel" "clock" "[I") (by decide +kernel)) rfl dX7_transfer_78 ?_
    refine lv_iload_n hx hb dX7_transfer_81 rfl (lv_at hl 1 rfl) ?_
    obtain ⟨h4, hM⟩ := ix_i hM
    refine x_iald hx hb hK hP rfl h4 dX7_transfer_82 ?_
    refine lv_icmp_le (tgt := 95) hx hb dX7_transfer_83 (by decide) (fun c5 => ?_) (fun c5 => ?_)
    · have hM := (if_pos c5).symm.trans hM
      refine lv_aload_n hx hb dX7_transfer_95 rfl (lv_at hl 0 rfl) ?_
      refine x_getr (own := RX7) (C := RX7) (T := TX7) (N := 14) hx hb hts hinX7_X7_transfer hown hK hP KM_obj rfl 3 (by decide) (hts (.fieldLink RX7 20 "StrokeBoardModel" "clock" "[I") (by decide +kernel)) rfl dX7_transfer_96 ?_
      refine lv_iload_n hx hb dX7_transfer_99 rfl (lv_at hl 1 rfl) ?_
      obtain ⟨h6, hM⟩ := ix_i hM
      refine x_iald hx hb hK hP rfl h6 dX7_transfer_100 ?_
      exact b101 _ _ _ _ _ _ _ hM hP hS (lv_sub hl [0, 3] rfl)
    · have hM := (if_neg c5).symm.trans hM
      refine lv_aload_n hx hb dX7_transfer_86 rfl (lv_at hl 0 rfl) ?_
      refine x_getr (own := RX7) (C := RX7) (T := TX7) (N := 14) hx hb hts hinX7_X7_transfer hown hK hP KM_obj rfl 3 (by decide) (hts (.fieldLink RX7 20 "StrokeBoardModel" "clock" "[I") (by decide +kernel)) rfl dX7_transfer_87 ?_
      refine lv_iload_n hx hb dX7_transfer_90 rfl (lv_at hl 2 rfl) ?_
      obtain ⟨h7, hM⟩ := ix_i hM
      refine x_iald hx hb hK hP rfl h7 dX7_transfer_91 ?_
      refine lv_goto (tgt := 101) hx hb dX7_transfer_92 (by decide) ?_
      exact b101 _ _ _ _ _ _ _ hM hP hS (lv_sub hl [0, 3] rfl)
  have L17 : ∀ (n : Nat) (x1 x2 x3 x4 : Int32) (σ : St) (H : Heap) (locs : List Loc) (ls : Array Slot), mX7_transfer_L17 n x1 x2 x3 x4 σ = some (r, σ') → w_P D cA ad KM σ H → va_S (w_A ad KM) s.heap H locs → lv_has ls 5 [(0, .ref (ad 0)), (1, .int x1), (2, .int x2), (3, .int x3), (4, .int x4)] → Wm p l e wsX7_transfer 3 65 s m ([.ref (ad 0), .int u1, .int u2] : List Value).toArray below meth c (w_Qi D cA ad KM r σ') (w_A ad KM) H locs (F0 m 17 ls []) := by
    intro n17
    induction n17 with
    | zero =>
      intro x1 x2 x3 x4 σ H locs ls hM hP hS hl
      rw [mX7_transfer_L17] at hM
      cases hM
    | succ n17 ih17 =>
      intro x1 x2 x3 x4 σ H locs ls hM hP hS hl
      rw [mX7_transfer_L17] at hM
      refine lv_iload hx hb dX7_transfer_17 (lv_at hl 4 rfl) ?_
      refine lv_bipush (v := 100) hx hb dX7_transfer_19 (by decide) ?_
      refine lv_icmp_ge (tgt := 66) hx hb dX7_transfer_21 (by decide) (fun c8 => ?_) (fun c8 => ?_)
      · have hM := (if_pos c8).symm.trans hM
        exact b66 _ _ _ _ _ _ _ hM hP hS (lv_sub hl [0, 1, 2, 3] rfl)
      · have hM := (if_neg c8).symm.trans hM
        refine lv_aload_n hx hb dX7_transfer_24 rfl (lv_at hl 0 rfl) ?_
        refine lv_iload_n hx hb dX7_transfer_25 rfl (lv_at hl 2 rfl) ?_
        refine lv_iload hx hb dX7_transfer_26 (lv_at hl 4 rfl) ?_
        obtain ⟨r11, σ10, h9, hM⟩ := bnd_i hM
        refine x_callV (As := [.int x2, .int x4]) (rest := []) hA ⟨hx, hb, hml, hown, hts⟩ (tX7_doesKnow l D cA ad hJ x2 x4 σ _ _ h9) (cwV 2 hts gX7_transfer_X7_doesKnow rfl rfl rfl (by decide +kernel) ⟨(Nat.le_of_ble_eq_true rfl), (Nat.le_of_ble_eq_true rfl)⟩) hK hP hS KM_obj rfl rfl hl.1 rfl (Nat.le_of_ble_eq_true rfl) ⟨Nat.zero_le _, Nat.zero_le _⟩ dX7_transfer_28 (fun H locs hP hS _ _ => ?_)
        refine lv_if_eq (tgt := 60) hx hb dX7_transfer_31 (by decide) (fun c12 => ?_) (fun c12 => ?_)
        · have hM := (if_pos c12).symm.trans hM
          refine lv_iinc (v := (x4 + 1)) (lv' := [(4, .int (x4 + 1)), (0, .ref (ad 0)), (1, .int x1), (2, .int x2), (3, .int x3)]) hx hb dX7_transfer_60 hl (k := 4) rfl rfl (by decide) rfl (fun ls hl => ?_)
          refine lv_goto (tgt := 17) hx hb dX7_transfer_63 (by decide) ?_
          exact ih17 _ _ _ _ _ _ _ _ hM hP hS (lv_sub hl [1, 2, 3, 4, 0] rfl)
        · have hM := (if_neg c12).symm.trans hM
          refine lv_aload_n hx hb dX7_transfer_34 rfl (lv_at hl 0 rfl) ?_
          refine lv_iload_n hx hb dX7_transfer_35 rfl (lv_at hl 1 rfl) ?_
          refine lv_iload hx hb dX7_transfer_36 (lv_at hl 4 rfl) ?_
          obtain ⟨r15, σ14, h13, hM⟩ := bnd_i hM
          refine x_callV (As := [.int x1, .int x4]) (rest := []) hA ⟨hx, hb, hml, hown, hts⟩ (tX7_doesKnow l D cA ad hJ x1 x4 σ10 _ _ h13) (cwV 2 hts gX7_transfer_X7_doesKnow rfl rfl rfl (by decide +kernel) ⟨(Nat.le_of_ble_eq_true rfl), (Nat.le_of_ble_eq_true rfl)⟩) hK hP hS KM_obj rfl rfl hl.1 rfl (Nat.le_of_ble_eq_true rfl) ⟨Nat.zero_le _, Nat.zero_le _⟩ dX7_transfer_38 (fun H locs hP hS _ _ => ?_)
          refine lv_if_ne (tgt := 60) hx hb dX7_transfer_41 (by decide) (fun c16 => ?_) (fun c16 => ?_)
          · have hM := (if_neg c16).symm.trans hM
            refine lv_iinc (v := (x4 + 1)) (lv' := [(4, .int (x4 + 1)), (0, .ref (ad 0)), (1, .int x1), (2, .int x2), (3, .int x3)]) hx hb dX7_transfer_60 hl (k := 4) rfl rfl (by decide) rfl (fun ls hl => ?_)
            refine lv_goto (tgt := 17) hx hb dX7_transfer_63 (by decide) ?_
            exact ih17 _ _ _ _ _ _ _ _ hM hP hS (lv_sub hl [1, 2, 3, 4, 0] rfl)
          · have hM := (if_pos c16).symm.trans hM
            refine lv_aload_n hx hb dX7_transfer_44 rfl (lv_at hl 0 rfl) ?_
            refine lv_iload_n hx hb dX7_transfer_45 rfl (lv_at hl 1 rfl) ?_
            refine lv_iload hx hb dX7_transfer_46 (lv_at hl 4 rfl) ?_
            obtain ⟨σ18, h17, hM⟩ := bnv_i hM
            refine x_callVv (As := [.int x1, .int x4]) (rest := []) hA ⟨hx, hb, hml, hown, hts⟩ (tX7_learns l D cA ad hJ x1 x4 σ14 _ h17) (cwV 2 hts gX7_transfer_X7_learns rfl rfl rfl (by decide +kernel) ⟨(Nat.le_of_ble_eq_true rfl), (Nat.le_of_ble_eq_true rfl)⟩) hK hP hS KM_obj rfl rfl hl.1 rfl (Nat.le_of_ble_eq_true rfl) ⟨Nat.zero_le _, Nat.zero_le _⟩ dX7_transfer_48 (fun H locs hP hS _ _ => ?_)
            refine lv_iload_n hx hb dX7_transfer_51 rfl (lv_at hl 3 rfl) ?_
            refine lv_aload_n hx hb dX7_transfer_52 rfl (lv_at hl 0 rfl) ?_
            refine lv_iload hx hb dX7_transfer_53 (lv_at hl 4 rfl) ?_
            obtain ⟨r21, σ20, h19, hM⟩ := bnd_i hM
            refine x_callV (As := [.int x4]) (rest := [.int x3]) hA ⟨hx, hb, hml, hown, hts⟩ (tX7_sizeOf l D cA ad hJ x4 σ18 _ _ h19) (cwV 1 hts gX7_transfer_X7_sizeOf rfl rfl rfl (by decide +kernel) ⟨(Nat.le_of_ble_eq_true rfl), (Nat.le_of_ble_eq_true rfl)⟩) hK hP hS KM_obj rfl rfl hl.1 rfl (Nat.le_of_ble_eq_true rfl) ⟨Nat.zero_le _, Nat.zero_le _⟩ dX7_transfer_55 (fun H locs hP hS _ _ => ?_)
            refine lv_iadd hx hb dX7_transfer_58 ?_
            refine lv_istore_n (lv' := [(3, .int (x3 + r21)), (0, .ref (ad 0)), (1, .int x1), (2, .int x2), (4, .int x4)]) hx hb dX7_transfer_59 rfl hl (by decide) rfl (fun ls hl => ?_)
            refine lv_iinc (v := (x4 + 1)) (lv' := [(4, .int (x4 + 1)), (3, .int (x3 + r21)), (0, .ref (ad 0)), (1, .int x1), (2, .int x2)]) hx hb dX7_transfer_60 hl (k := 4) rfl rfl (by decide) rfl (fun ls hl => ?_)
            refine lv_goto (tgt := 17) hx hb dX7_transfer_63 (by decide) ?_
            exact ih17 _ _ _ _ _ _ _ _ hM hP hS (lv_sub hl [2, 3, 4, 1, 0] rfl)
  unfold mX7_transfer at hM
  refine lv_aload_n hx hb dX7_transfer_0 rfl (lv_at hl 0 rfl) ?_
  refine lv_iload_n hx hb dX7_transfer_1 rfl (lv_at hl 1 rfl) ?_
  refine lv_iload_n hx hb dX7_transfer_2 rfl (lv_at hl 2 rfl) ?_
  obtain ⟨r24, σ23, h22, hM⟩ := bnd_i hM
  refine x_callV (As := [.int u1, .int u2]) (rest := []) hA ⟨hx, hb, hml, hown, hts⟩ (tX7_isPair l D cA ad hJ u1 u2 σ _ _ h22) (cwV 2 hts gX7_transfer_X7_isPair rfl rfl rfl (by decide +kernel) ⟨(Nat.le_of_ble_eq_true rfl), (Nat.le_of_ble_eq_true rfl)⟩) hK hP hS KM_obj rfl rfl hl.1 rfl (Nat.le_of_ble_eq_true rfl) ⟨Nat.zero_le _, Nat.zero_le _⟩ dX7_transfer_3 (fun H locs hP hS _ _ => ?_)
  refine lv_if_ne (tgt := 12) hx hb dX7_transfer_6 (by decide) (fun c25 => ?_) (fun c25 => ?_)
  · have hM := (if_neg c25).symm.trans hM
    refine lv_iconst (v := 0) hx hb dX7_transfer_12 (by decide) ?_
    refine lv_istore_n (lv' := [(3, .int 0), (0, .ref (ad 0)), (1, .int u1), (2, .int u2)]) hx hb dX7_transfer_13 rfl hl (by decide) rfl (fun ls hl => ?_)
    refine lv_iconst (v := 0) hx hb dX7_transfer_14 (by decide) ?_
    refine lv_istore (lv' := [(4, .int 0), (3, .int 0), (0, .ref (ad 0)), (1, .int u1), (2, .int u2)]) hx hb dX7_transfer_15 hl (by decide) rfl (fun ls hl => ?_)
    exact L17 fu _ _ _ _ _ _ _ _ hM hP hS (lv_sub hl [2, 3, 4, 1, 0] rfl)
  · have hM := (if_pos c25).symm.trans hM
    refine lv_ldc (own := RX7) (v := (-1000000001)) hx hb hown (hts (.constant RX7 89 (-1000000001)) (by decide +kernel)) dX7_transfer_9 ?_
    exact x_iret hx hb hr hlk hP hS hM dX7_transfer_11
theorem hinX7_X7_operation : ∀ w ∈ u_ws RX7 TX7 14, w ∈ wsX7_operation := by decide +kernel
set_option maxHeartbeats 4000000 in
set_option maxRecDepth 100000 in
theorem tX7_operation (l : Launch) (D : va_G) (cA : ClassId) (ad : Nat → Nat) (hJ : w_J ad KM) (u1 u2 u3 : Int32) (σ σ' : St) (r : Int32) (hM : mX7_operation u1 u2 u3 σ = some (r, σ')) : Ct l yX7_operation wsX7_operation 2 47 D cA ad KM [.ref (ad 0), .int u1, .int u2, .int u3] σ r σ' := by
  unfold Ct
  refine Met_of (cc := cX7_operation) (maxL := 5) (ret := (some .int)) hJ (by decide +kernel) rfl (Nat.le_of_ble_eq_true rfl) ?_
  intro p e s m below meth c Z H locs ls hP hS hl
  obtain ⟨hx, hb, hml, hown, hts, hr, hlk, hK, -⟩ := Z
  have hown : s.vm.findClass RX7 = some m.cls := hown
  have hl : lv_has ls 5 [(0, .ref (ad 0)), (1, .int u1), (2, .int u2), (3, .int u3)] := hl
  have hA : ∀ q, w_A ad KM q → w_A ad KM q := fun _ h => h
  unfold mX7_operation at hM
  refine lv_aload_n hx hb dX7_operation_0 rfl (lv_at hl 0 rfl) ?_
  refine lv_iload_n hx hb dX7_operation_1 rfl (lv_at hl 1 rfl) ?_
  obtain ⟨r3, σ2, h1, hM⟩ := bnd_i hM
  refine x_callV (As := [.int u1]) (rest := []) hA ⟨hx, hb, hml, hown, hts⟩ (tX7_isSite l D cA ad hJ u1 σ _ _ h1) (cwV 1 hts gX7_operation_X7_isSite rfl rfl rfl (by decide +kernel) ⟨(Nat.le_of_ble_eq_true rfl), (Nat.le_of_ble_eq_true rfl)⟩) hK hP hS KM_obj rfl rfl hl.1 rfl (Nat.le_of_ble_eq_true rfl) ⟨Nat.zero_le _, Nat.zero_le _⟩ dX7_operation_2 (fun H locs hP hS _ _ => ?_)
  refine lv_if_eq (tgt := 22) hx hb dX7_operation_5 (by decide) (fun c4 => ?_) (fun c4 => ?_)
  · have hM := (if_pos c4).symm.trans hM
    refine lv_ldc (own := RX7) (v := (-1000000001)) hx hb hown (hts (.constant RX7 89 (-1000000001)) (by decide +kernel)) dX7_operation_22 ?_
    exact x_iret hx hb hr hlk hP hS hM dX7_operation_24
  · have hM := (if_neg c4).symm.trans hM
    refine lv_iload_n hx hb dX7_operation_8 rfl (lv_at hl 2 rfl) ?_
    refine lv_iconst (v := 1) hx hb dX7_operation_9 (by decide) ?_
    refine lv_icmp_lt (tgt := 22) hx hb dX7_operation_10 (by decide) (fun c5 => ?_) (fun c5 => ?_)
    · have hM := (if_pos c5).symm.trans hM
      refine lv_ldc (own := RX7) (v := (-1000000001)) hx hb hown (hts (.constant RX7 89 (-1000000001)) (by decide +kernel)) dX7_operation_22 ?_
      exact x_iret hx hb hr hlk hP hS hM dX7_operation_24
    · have hM := (if_neg c5).symm.trans hM
      refine lv_iload_n hx hb dX7_operation_13 rfl (lv_at hl 3 rfl) ?_
      refine lv_iconst (v := 0) hx hb dX7_operation_14 (by decide) ?_
      refine lv_iconst (v := 5) hx hb dX7_operation_15 (by decide) ?_
      obtain ⟨r8, σ7, h6, hM⟩ := bnd_i hM
      refine x_callS (As := [.int u3, .int 0, .int 5]) (rest := []) hA ⟨hx, hb, hml, hown, hts⟩ (tX7_in l D cA ad hJ u3 0 5 σ2 _ _ h6) (va_cwS 3 hts gX7_operation_X7_in rfl rfl rfl (by decide +kernel) ⟨(Nat.le_of_ble_eq_true rfl), (Nat.le_of_ble_eq_true rfl)⟩) hK hP hS rfl hl.1 rfl (Nat.le_of_ble_eq_true rfl) ⟨Nat.zero_le _, Nat.zero_le _⟩ dX7_operation_16 (fun H locs hP hS => ?_)
      refine lv_if_ne (tgt := 25) hx hb dX7_operation_19 (by decide) (fun c9 => ?_) (fun c9 => ?_)
      · have hM := (if_neg c9).symm.trans hM
        refine lv_iload_n hx hb dX7_operation_25 rfl (lv_at hl 2 rfl) ?_
        refine lv_aload_n hx hb dX7_operation_26 rfl (lv_at hl 0 rfl) ?_
        refine x_getr (own := RX7) (C := RX7) (T := TX7) (N := 14) hx hb hts hinX7_X7_operation hown hK hP KM_obj rfl 2 (by decide) (hts (.fieldLink RX7 17 "StrokeBoardModel" "made" "[I") (by decide +kernel)) rfl dX7_operation_27 ?_
        refine lv_iload_n hx hb dX7_operation_30 rfl (lv_at hl 1 rfl) ?_
        obtain ⟨h10, hM⟩ := ix_i hM
        refine x_iald hx hb hK hP rfl h10 dX7_operation_31 ?_
        refine lv_icmp_le (tgt := 38) hx hb dX7_operation_32 (by decide) (fun c11 => ?_) (fun c11 => ?_)
        · have hM := (if_pos c11).symm.trans hM
          refine lv_iload_n hx hb dX7_operation_38 rfl (lv_at hl 1 rfl) ?_
          refine lv_iload_n hx hb dX7_operation_39 rfl (lv_at hl 2 rfl) ?_
          obtain ⟨r14, σ13, h12, hM⟩ := bnd_i hM
          refine x_callS (As := [.int u1, .int u2]) (rest := []) hA ⟨hx, hb, hml, hown, hts⟩ (tX7_place l D cA ad hJ u1 u2 σ7 _ _ h12) (va_cwS 2 hts gX7_operation_X7_place rfl rfl rfl (by decide +kernel) ⟨(Nat.le_of_ble_eq_true rfl), (Nat.le_of_ble_eq_true rfl)⟩) hK hP hS rfl hl.1 rfl (Nat.le_of_ble_eq_true rfl) ⟨Nat.zero_le _, Nat.zero_le _⟩ dX7_operation_40 (fun H locs hP hS => ?_)
          refine lv_istore (lv' := [(4, .int r14), (0, .ref (ad 0)), (1, .int u1), (2, .int u2), (3, .int u3)]) hx hb dX7_operation_43 hl (by decide) rfl (fun ls hl => ?_)
          refine lv_iload_n hx hb dX7_operation_45 rfl (lv_at hl 4 rfl) ?_
          by_cases c15 : u3 = 0
          · have hM := (if_pos c15).symm.trans hM
            refine lv_tableIn (tgt := 80) (off := 34) hx hb dX7_operation_46 (by rw [c15]; decide) (by rw [c15]; decide) (by rw [c15]; rfl) (by decide) ?_
            refine lv_aload_n hx hb dX7_operation_80 rfl (lv_at hl 1 rfl) ?_
            refine lv_iload hx hb dX7_operation_81 (lv_at hl 0 rfl) ?_
            refine lv_iconst (v := 0) hx hb dX7_operation_83 (by decide) ?_
            obtain ⟨r18, σ17, h16, hM⟩ := bnd_i hM
            refine x_callV (As := [.int r14, .int 0]) (rest := []) hA ⟨hx, hb, hml, hown, hts⟩ (tX7_of l D cA ad hJ r14 0 σ13 _ _ h16) (cwV 2 hts gX7_operation_X7_of rfl rfl rfl (by decide +kernel) ⟨(Nat.le_of_ble_eq_true rfl), (Nat.le_of_ble_eq_true rfl)⟩) hK hP hS KM_obj rfl rfl hl.1 rfl (Nat.le_of_ble_eq_true rfl) ⟨Nat.zero_le _, Nat.zero_le _⟩ dX7_operation_84 (fun H locs hP hS _ _ => ?_)
            exact x_iret hx hb hr hlk hP hS hM dX7_operation_87
          · have hM := (if_neg c15).symm.trans hM
            by_cases c19 : u3 = 1
            · have hM := (if_pos c19).symm.trans hM
              refine lv_tableIn (tgt := 88) (off := 42) hx hb dX7_operation_46 (by rw [c19]; decide) (by rw [c19]; decide) (by rw [c19]; rfl) (by decide) ?_
              refine lv_aload_n hx hb dX7_operation_88 rfl (lv_at hl 1 rfl) ?_
              refine lv_iload hx hb dX7_operation_89 (lv_at hl 0 rfl) ?_
              refine lv_iconst (v := 1) hx hb dX7_operation_91 (by decide) ?_
              obtain ⟨r22, σ21, h20, hM⟩ := bnd_i hM
              refine x_callV (As := [.int r14, .int 1]) (rest := []) hA ⟨hx, hb, hml, hown, hts⟩ (tX7_of l D cA ad hJ r14 1 σ13 _ _ h20) (cwV 2 hts gX7_operation_X7_of rfl rfl rfl (by decide +kernel) ⟨(Nat.le_of_ble_eq_true rfl), (Nat.le_of_ble_eq_true rfl)⟩) hK hP hS KM_obj rfl rfl hl.1 rfl (Nat.le_of_ble_eq_true rfl) ⟨Nat.zero_le _, Nat.zero_le _⟩ dX7_operation_92 (fun H locs hP hS _ _ => ?_)
              exact x_iret hx hb hr hlk hP hS hM dX7_operation_95
            · have hM := (if_neg c19).symm.trans hM
              by_cases c23 : u3 = 2
              · have hM := (if_pos c23).symm.trans hM
                refine lv_tableIn (tgt := 96) (off := 50) hx hb dX7_operation_46 (by rw [c23]; decide) (by rw [c23]; decide) (by rw [c23]; rfl) (by decide) ?_
                refine lv_aload_n hx hb dX7_operation_96 rfl (lv_at hl 1 rfl) ?_
                refine lv_iload hx hb dX7_operation_97 (lv_at hl 0 rfl) ?_
                obtain ⟨r26, σ25, h24, hM⟩ := bnd_i hM
                refine x_callV (As := [.int r14]) (rest := []) hA ⟨hx, hb, hml, hown, hts⟩ (tX7_sizeOf l D cA ad hJ r14 σ13 _ _ h24) (cwV 1 hts gX7_operation_X7_sizeOf rfl rfl rfl (by decide +kernel) ⟨(Nat.le_of_ble_eq_true rfl), (Nat.le_of_ble_eq_true rfl)⟩) hK hP hS KM_obj rfl rfl hl.1 rfl (Nat.le_of_ble_eq_true rfl) ⟨Nat.zero_le _, Nat.zero_le _⟩ dX7_operation_99 (fun H locs hP hS _ _ => ?_)
                exact x_iret hx hb hr hlk hP hS hM dX7_operation_102
              · have hM := (if_neg c23).symm.trans hM
                by_cases c27 : u3 = 3
                · have hM := (if_pos c27).symm.trans hM
                  refine lv_tableIn (tgt := 103) (off := 57) hx hb dX7_operation_46 (by rw [c27]; decide) (by rw [c27]; decide) (by rw [c27]; rfl) (by decide) ?_
                  refine lv_aload_n hx hb dX7_operation_103 rfl (lv_at hl 1 rfl) ?_
                  refine lv_iload hx hb dX7_operation_104 (lv_at hl 0 rfl) ?_
                  refine lv_iconst (v := 4) hx hb dX7_operation_106 (by decide) ?_
                  obtain ⟨r30, σ29, h28, hM⟩ := bnd_i hM
                  refine x_callV (As := [.int r14, .int 4]) (rest := []) hA ⟨hx, hb, hml, hown, hts⟩ (tX7_of l D cA ad hJ r14 4 σ13 _ _ h28) (cwV 2 hts gX7_operation_X7_of rfl rfl rfl (by decide +kernel) ⟨(Nat.le_of_ble_eq_true rfl), (Nat.le_of_ble_eq_true rfl)⟩) hK hP hS KM_obj rfl rfl hl.1 rfl (Nat.le_of_ble_eq_true rfl) ⟨Nat.zero_le _, Nat.zero_le _⟩ dX7_operation_107 (fun H locs hP hS _ _ => ?_)
                  exact x_iret hx hb hr hlk hP hS hM dX7_operation_110
                · have hM := (if_neg c27).symm.trans hM
                  by_cases c31 : u3 = 4
                  · have hM := (if_pos c31).symm.trans hM
                    refine lv_tableIn (tgt := 111) (off := 65) hx hb dX7_operation_46 (by rw [c31]; decide) (by rw [c31]; decide) (by rw [c31]; rfl) (by decide) ?_
                    refine lv_aload_n hx hb dX7_operation_111 rfl (lv_at hl 1 rfl) ?_
                    refine lv_iload hx hb dX7_operation_112 (lv_at hl 0 rfl) ?_
                    refine lv_iconst (v := 0) hx hb dX7_operation_114 (by decide) ?_
                    obtain ⟨r34, σ33, h32, hM⟩ := bnd_i hM
                    refine x_callV (As := [.int r14, .int 0]) (rest := []) hA ⟨hx, hb, hml, hown, hts⟩ (tX7_of l D cA ad hJ r14 0 σ13 _ _ h32) (cwV 2 hts gX7_operation_X7_of rfl rfl rfl (by decide +kernel) ⟨(Nat.le_of_ble_eq_true rfl), (Nat.le_of_ble_eq_true rfl)⟩) hK hP hS KM_obj rfl rfl hl.1 rfl (Nat.le_of_ble_eq_true rfl) ⟨Nat.zero_le _, Nat.zero_le _⟩ dX7_operation_115 (fun H locs hP hS _ _ => ?_)
                    refine lv_iconst (v := 3) hx hb dX7_operation_118 (by decide) ?_
                    refine lv_icmp_ne (tgt := 132) hx hb dX7_operation_119 (by decide) (fun c35 => ?_) (fun c35 => ?_)
                    · have hM := (if_neg c35).symm.trans hM
                      refine lv_iload_n hx hb dX7_operation_132 rfl (lv_at hl 2 rfl) ?_
                      exact x_iret hx hb hr hlk hP hS hM dX7_operation_133
                    · have hM := (if_pos c35).symm.trans hM
                      refine lv_aload_n hx hb dX7_operation_122 rfl (lv_at hl 1 rfl) ?_
                      refine lv_iload hx hb dX7_operation_123 (lv_at hl 0 rfl) ?_
                      refine lv_iconst (v := 2) hx hb dX7_operation_125 (by decide) ?_
                      obtain ⟨r38, σ37, h36, hM⟩ := bnd_i hM
                      refine x_callV (As := [.int r14, .int 2]) (rest := []) hA ⟨hx, hb, hml, hown, hts⟩ (tX7_of l D cA ad hJ r14 2 σ33 _ _ h36) (cwV 2 hts gX7_operation_X7_of rfl rfl rfl (by decide +kernel) ⟨(Nat.le_of_ble_eq_true rfl), (Nat.le_of_ble_eq_true rfl)⟩) hK hP hS KM_obj rfl rfl hl.1 rfl (Nat.le_of_ble_eq_true rfl) ⟨Nat.zero_le _, Nat.zero_le _⟩ dX7_operation_126 (fun H locs hP hS _ _ => ?_)
                      refine lv_goto (tgt := 133) hx hb dX7_operation_129 (by decide) ?_
                      exact x_iret hx hb hr hlk hP hS hM dX7_operation_133
                  · have hM := (if_neg c31).symm.trans hM
                    refine lv_tableOut (tgt := 134) hx hb dX7_operation_46 (by
                      rcases Int.lt_or_le (Int32.toInt u3) 0 with h9 | h9
                      · exact Or.inl h9
                      · rcases Int.lt_or_le 4 (Int32.toInt u3) with h8 | h8
                        · exact Or.inr h8
                        · exfalso
                          rcases (show Int32.toInt u3 = 0 ∨ Int32.toInt u3 = 1 ∨ Int32.toInt u3 = 2 ∨ Int32.toInt u3 = 3 ∨ Int32.toInt u3 = 4 by omega) with h7 | h7 | h7 | h7 | h7
                          · exact c15 (Int32.toInt_inj.mp (h7.trans (by decide)))
                          · exact c19 (Int32.toInt_inj.mp (h7.trans (by decide)))
                          · exact c23 (Int32.toInt_inj.mp (h7.trans (by decide)))
                          · exact c27 (Int32.toInt_inj.mp (h7.trans (by decide)))
                          · exact c31 (Int32.toInt_inj.mp (h7.trans (by decide)))) (by decide) ?_
                    refine lv_aload_n hx hb dX7_operation_134 rfl (lv_at hl 1 rfl) ?_
                    refine lv_iload hx hb dX7_operation_135 (lv_at hl 0 rfl) ?_
                    refine lv_iconst (v := 3) hx hb dX7_operation_137 (by decide) ?_
                    obtain ⟨r41, σ40, h39, hM⟩ := bnd_i hM
                    refine x_callV (As := [.int r14, .int 3]) (rest := []) hA ⟨hx, hb, hml, hown, hts⟩ (tX7_of l D cA ad hJ r14 3 σ13 _ _ h39) (cwV 2 hts gX7_operation_X7_of rfl rfl rfl (by decide +kernel) ⟨(Nat.le_of_ble_eq_true rfl), (Nat.le_of_ble_eq_true rfl)⟩) hK hP hS KM_obj rfl rfl hl.1 rfl (Nat.le_of_ble_eq_true rfl) ⟨Nat.zero_le _, Nat.zero_le _⟩ dX7_operation_138 (fun H locs hP hS _ _ => ?_)
                    exact x_iret hx hb hr hlk hP hS hM dX7_operation_141
        · have hM := (if_neg c11).symm.trans hM
          refine lv_ldc (own := RX7) (v := (-1000000004)) hx hb hown (hts (.constant RX7 109 (-1000000004)) (by decide +kernel)) dX7_operation_35 ?_
          exact x_iret hx hb hr hlk hP hS hM dX7_operation_37
      · have hM := (if_pos c9).symm.trans hM
        refine lv_ldc (own := RX7) (v := (-1000000001)) hx hb hown (hts (.constant RX7 89 (-1000000001)) (by decide +kernel)) dX7_operation_22 ?_
        exact x_iret hx hb hr hlk hP hS hM dX7_operation_24
theorem hinX7_X7_knows : ∀ w ∈ u_ws RX7 TX7 14, w ∈ wsX7_knows := by decide +kernel
set_option maxHeartbeats 4000000 in
set_option maxRecDepth 100000 in
theorem tX7_knows (l : Launch) (D : va_G) (cA : ClassId) (ad : Nat → Nat) (hJ : w_J ad KM) (u1 u2 u3 : Int32) (σ σ' : St) (r : Int32) (hM : mX7_knows u1 u2 u3 σ = some (r, σ')) : Ct l yX7_knows wsX7_knows 2 43 D cA ad KM [.ref (ad 0), .int u1, .int u2, .int u3] σ r σ' := by
  unfold Ct
  refine Met_of (cc := cX7_knows) (maxL := 4) (ret := (some .int)) hJ (by decide +kernel) rfl (Nat.le_of_ble_eq_true rfl) ?_
  intro p e s m below meth c Z H locs ls hP hS hl
  obtain ⟨hx, hb, hml, hown, hts, hr, hlk, hK, -⟩ := Z
  have hown : s.vm.findClass RX7 = some m.cls := hown
  have hl : lv_has ls 4 [(0, .ref (ad 0)), (1, .int u1), (2, .int u2), (3, .int u3)] := hl
  have hA : ∀ q, w_A ad KM q → w_A ad KM q := fun _ h => h
  unfold mX7_knows at hM
  refine lv_aload_n hx hb dX7_knows_0 rfl (lv_at hl 0 rfl) ?_
  refine lv_iload_n hx hb dX7_knows_1 rfl (lv_at hl 1 rfl) ?_
  obtain ⟨r3, σ2, h1, hM⟩ := bnd_i hM
  refine x_callV (As := [.int u1]) (rest := []) hA ⟨hx, hb, hml, hown, hts⟩ (tX7_isSite l D cA ad hJ u1 σ _ _ h1) (cwV 1 hts gX7_knows_X7_isSite rfl rfl rfl (by decide +kernel) ⟨(Nat.le_of_ble_eq_true rfl), (Nat.le_of_ble_eq_true rfl)⟩) hK hP hS KM_obj rfl rfl hl.1 rfl (Nat.le_of_ble_eq_true rfl) ⟨Nat.zero_le _, Nat.zero_le _⟩ dX7_knows_2 (fun H locs hP hS _ _ => ?_)
  refine lv_if_eq (tgt := 21) hx hb dX7_knows_5 (by decide) (fun c4 => ?_) (fun c4 => ?_)
  · have hM := (if_pos c4).symm.trans hM
    refine lv_ldc (own := RX7) (v := (-1000000001)) hx hb hown (hts (.constant RX7 89 (-1000000001)) (by decide +kernel)) dX7_knows_21 ?_
    exact x_iret hx hb hr hlk hP hS hM dX7_knows_23
  · have hM := (if_neg c4).symm.trans hM
    refine lv_aload_n hx hb dX7_knows_8 rfl (lv_at hl 0 rfl) ?_
    refine lv_iload_n hx hb dX7_knows_9 rfl (lv_at hl 2 rfl) ?_
    obtain ⟨r7, σ6, h5, hM⟩ := bnd_i hM
    refine x_callV (As := [.int u2]) (rest := []) hA ⟨hx, hb, hml, hown, hts⟩ (tX7_isSite l D cA ad hJ u2 σ2 _ _ h5) (cwV 1 hts gX7_knows_X7_isSite rfl rfl rfl (by decide +kernel) ⟨(Nat.le_of_ble_eq_true rfl), (Nat.le_of_ble_eq_true rfl)⟩) hK hP hS KM_obj rfl rfl hl.1 rfl (Nat.le_of_ble_eq_true rfl) ⟨Nat.zero_le _, Nat.zero_le _⟩ dX7_knows_10 (fun H locs hP hS _ _ => ?_)
    refine lv_if_eq (tgt := 21) hx hb dX7_knows_13 (by decide) (fun c8 => ?_) (fun c8 => ?_)
    · have hM := (if_pos c8).symm.trans hM
      refine lv_ldc (own := RX7) (v := (-1000000001)) hx hb hown (hts (.constant RX7 89 (-1000000001)) (by decide +kernel)) dX7_knows_21 ?_
      exact x_iret hx hb hr hlk hP hS hM dX7_knows_23
    · have hM := (if_neg c8).symm.trans hM
      refine lv_iload_n hx hb dX7_knows_16 rfl (lv_at hl 3 rfl) ?_
      refine lv_iconst (v := 1) hx hb dX7_knows_17 (by decide) ?_
      refine lv_icmp_ge (tgt := 24) hx hb dX7_knows_18 (by decide) (fun c9 => ?_) (fun c9 => ?_)
      · have hM := (if_pos c9).symm.trans hM
        refine lv_iload_n hx hb dX7_knows_24 rfl (lv_at hl 3 rfl) ?_
        refine lv_aload_n hx hb dX7_knows_25 rfl (lv_at hl 0 rfl) ?_
        refine x_getr (own := RX7) (C := RX7) (T := TX7) (N := 14) hx hb hts hinX7_X7_knows hown hK hP KM_obj rfl 2 (by decide) (hts (.fieldLink RX7 17 "StrokeBoardModel" "made" "[I") (by decide +kernel)) rfl dX7_knows_26 ?_
        refine lv_iload_n hx hb dX7_knows_29 rfl (lv_at hl 2 rfl) ?_
        obtain ⟨h10, hM⟩ := ix_i hM
        refine x_iald hx hb hK hP rfl h10 dX7_knows_30 ?_
        refine lv_icmp_le (tgt := 39) hx hb dX7_knows_31 (by decide) (fun c11 => ?_) (fun c11 => ?_)
        · have hM := (if_pos c11).symm.trans hM
          refine lv_aload_n hx hb dX7_knows_39 rfl (lv_at hl 0 rfl) ?_
          refine x_getr (own := RX7) (C := RX7) (T := TX7) (N := 14) hx hb hts hinX7_X7_knows hown hK hP KM_obj rfl 4 (by decide) (hts (.fieldLink RX7 23 "StrokeBoardModel" "known" "[I") (by decide +kernel)) rfl dX7_knows_40 ?_
          refine lv_bipush (v := 100) hx hb dX7_knows_43 (by decide) ?_
          refine lv_iload_n hx hb dX7_knows_45 rfl (lv_at hl 1 rfl) ?_
          refine lv_imul hx hb dX7_knows_46 ?_
          refine lv_iload_n hx hb dX7_knows_47 rfl (lv_at hl 2 rfl) ?_
          refine lv_iload_n hx hb dX7_knows_48 rfl (lv_at hl 3 rfl) ?_
          obtain ⟨r14, σ13, h12, hM⟩ := bnd_i hM
          refine x_callS (As := [.int u2, .int u3]) (rest := [.int (100 * u1), .ref (ad 4)]) hA ⟨hx, hb, hml, hown, hts⟩ (tX7_place l D cA ad hJ u2 u3 σ6 _ _ h12) (va_cwS 2 hts gX7_knows_X7_place rfl rfl rfl (by decide +kernel) ⟨(Nat.le_of_ble_eq_true rfl), (Nat.le_of_ble_eq_true rfl)⟩) hK hP hS rfl hl.1 rfl (Nat.le_of_ble_eq_true rfl) ⟨Nat.zero_le _, Nat.zero_le _⟩ dX7_knows_49 (fun H locs hP hS => ?_)
          refine lv_iadd hx hb dX7_knows_52 ?_
          obtain ⟨h15, hM⟩ := ix_i hM
          refine x_iald hx hb hK hP rfl h15 dX7_knows_53 ?_
          exact x_iret hx hb hr hlk hP hS hM dX7_knows_54
        · have hM := (if_neg c11).symm.trans hM
          refine lv_ldc (own := RX7) (v := (-1000000004)) hx hb hown (hts (.constant RX7 109 (-1000000004)) (by decide +kernel)) dX7_knows_34 ?_
          refine lv_goto (tgt := 54) hx hb dX7_knows_36 (by decide) ?_
          exact x_iret hx hb hr hlk hP hS hM dX7_knows_54
      · have hM := (if_neg c9).symm.trans hM
        refine lv_ldc (own := RX7) (v := (-1000000001)) hx hb hown (hts (.constant RX7 89 (-1000000001)) (by decide +kernel)) dX7_knows_21 ?_
        exact x_iret hx hb hr hlk hP hS hM dX7_knows_23
theorem hinX7_X7_stroke : ∀ w ∈ u_ws RX7 TX7 14, w ∈ wsX7_stroke := by decide +kernel
set_option maxHeartbeats 4000000 in
set_option maxRecDepth 100000 in
theorem tX7_stroke (l : Launch) (D : va_G) (cA : ClassId) (ad : Nat → Nat) (hJ : w_J ad KM) (u1 u2 u3 : Int32) (σ σ' : St) (r : Int32) (hM : mX7_stroke u1 u2 u3 σ = some (r, σ')) : Ct l yX7_stroke wsX7_stroke 5 118 D cA ad KM [.ref (ad 0), .int u1, .int u2, .int u3] σ r σ' := by
  unfold Ct
  refine Met_of (cc := cX7_stroke) (maxL := 5) (ret := (some .int)) hJ (by decide +kernel) rfl (Nat.le_of_ble_eq_true rfl) ?_
  intro p e s m below meth c Z H locs ls hP hS hl
  obtain ⟨hx, hb, hml, hown, hts, hr, hlk, hK, -⟩ := Z
  have hown : s.vm.findClass RX7 = some m.cls := hown
  have hl : lv_has ls 5 [(0, .ref (ad 0)), (1, .int u1), (2, .int u2), (3, .int u3)] := hl
  have hA : ∀ q, w_A ad KM q → w_A ad KM q := fun _ h => h
  have b35 : ∀ (x1 x2 x3 : Int32) (σ : St) (H : Heap) (locs : List Loc) (ls : Array Slot), mX7_stroke_b35 x1 x2 x3 σ = some (r, σ') → w_P D cA ad KM σ H → va_S (w_A ad KM) s.heap H locs → lv_has ls 5 [(0, .ref (ad 0)), (1, .int x1), (2, .int x2), (3, .int x3)] → Wm p l e wsX7_stroke 5 118 s m ([.ref (ad 0), .int u1, .int u2, .int u3] : List Value).toArray below meth c (w_Qi D cA ad KM r σ') (w_A ad KM) H locs (F0 m 35 ls []) := by
    intro x1 x2 x3 σ H locs ls hM hP hS hl
    unfold mX7_stroke_b35 at hM
    refine lv_aload_n hx hb dX7_stroke_35 rfl (lv_at hl 0 rfl) ?_
    refine lv_iload_n hx hb dX7_stroke_36 rfl (lv_at hl 1 rfl) ?_
    obtain ⟨σ2, h1, hM⟩ := bnv_i hM
    refine x_callVv (As := [.int x1]) (rest := []) hA ⟨hx, hb, hml, hown, hts⟩ (tX7_workOut l D cA ad hJ x1 σ _ h1) (cwV 1 hts gX7_stroke_X7_workOut rfl rfl rfl (by decide +kernel) ⟨(Nat.le_of_ble_eq_true rfl), (Nat.le_of_ble_eq_true rfl)⟩) hK hP hS KM_obj rfl rfl hl.1 rfl (Nat.le_of_ble_eq_true rfl) ⟨Nat.zero_le _, Nat.zero_le _⟩ dX7_stroke_37 (fun H locs hP hS _ _ => ?_)
    refine lv_iload_n hx hb dX7_stroke_40 rfl (lv_at hl 2 rfl) ?_
    refine lv_aload_n hx hb dX7_stroke_41 rfl (lv_at hl 0 rfl) ?_
    refine x_geti (own := RX7) (C := RX7) (T := TX7) (N := 14) hx hb hts hinX7_X7_stroke hown hK hP KM_obj rfl 10 (by decide) (hts (.fieldLink RX7 80 "StrokeBoardModel" "boardMany" "I") (by decide +kernel)) rfl dX7_stroke_42 ?_
    refine lv_icmp_lt (tgt := 51) hx hb dX7_stroke_45 (by decide) (fun c3 => ?_) (fun c3 => ?_)
    · have hM := (if_pos c3).symm.trans hM
      refine lv_aload_n hx hb dX7_stroke_51 rfl (lv_at hl 0 rfl) ?_
      refine x_getr (own := RX7) (C := RX7) (T := TX7) (N := 14) hx hb hts hinX7_X7_stroke hown hK hP KM_obj rfl 8 (by decide) (hts (.fieldLink RX7 35 "StrokeBoardModel" "board" "[I") (by decide +kernel)) rfl dX7_stroke_52 ?_
      refine lv_iload_n hx hb dX7_stroke_55 rfl (lv_at hl 2 rfl) ?_
      obtain ⟨h4, hM⟩ := ix_i hM
      refine x_iald hx hb hK hP rfl h4 dX7_stroke_56 ?_
      refine lv_istore (lv' := [(4, .int (σ2 7 (Int32.toNatClampNeg x2))), (0, .ref (ad 0)), (1, .int x1), (2, .int x2), (3, .int x3)]) hx hb dX7_stroke_57 hl (by decide) rfl (fun ls hl => ?_)
      refine lv_iload_n hx hb dX7_stroke_59 rfl (lv_at hl 4 rfl) ?_
      by_cases c5 : x3 = 0
      · have hM := (if_pos c5).symm.trans hM
        refine lv_tableIn (tgt := 96) (off := 36) hx hb dX7_stroke_60 (by rw [c5]; decide) (by rw [c5]; decide) (by rw [c5]; rfl) (by decide) ?_
        refine lv_iload hx hb dX7_stroke_96 (lv_at hl 0 rfl) ?_
        refine lv_bipush (v := 20) hx hb dX7_stroke_98 (by decide) ?_
        refine lv_idiv hx hb dX7_stroke_100 (by decide) ?_
        exact x_iret hx hb hr hlk hP hS hM dX7_stroke_101
      · have hM := (if_neg c5).symm.trans hM
        by_cases c6 : x3 = 1
        · have hM := (if_pos c6).symm.trans hM
          refine lv_tableIn (tgt := 102) (off := 42) hx hb dX7_stroke_60 (by rw [c6]; decide) (by rw [c6]; decide) (by rw [c6]; rfl) (by decide) ?_
          refine lv_iload hx hb dX7_stroke_102 (lv_at hl 0 rfl) ?_
          refine lv_bipush (v := 20) hx hb dX7_stroke_104 (by decide) ?_
          refine lv_irem hx hb dX7_stroke_106 (by decide) ?_
          refine lv_iconst (v := 1) hx hb dX7_stroke_107 (by decide) ?_
          refine lv_iadd hx hb dX7_stroke_108 ?_
          exact x_iret hx hb hr hlk hP hS hM dX7_stroke_109
        · have hM := (if_neg c6).symm.trans hM
          by_cases c7 : x3 = 2
          · have hM := (if_pos c7).symm.trans hM
            refine lv_tableIn (tgt := 110) (off := 50) hx hb dX7_stroke_60 (by rw [c7]; decide) (by rw [c7]; decide) (by rw [c7]; rfl) (by decide) ?_
            refine lv_aload_n hx hb dX7_stroke_110 rfl (lv_at hl 1 rfl) ?_
            refine x_getr (own := RX7) (C := RX7) (T := TX7) (N := 14) hx hb hts hinX7_X7_stroke hown hK hP KM_obj rfl 9 (by decide) (hts (.fieldLink RX7 38 "StrokeBoardModel" "layers" "[I") (by decide +kernel)) rfl dX7_stroke_111 ?_
            refine lv_iload_n hx hb dX7_stroke_114 rfl (lv_at hl 3 rfl) ?_
            obtain ⟨h8, hM⟩ := ix_i hM
            refine x_iald hx hb hK hP rfl h8 dX7_stroke_115 ?_
            exact x_iret hx hb hr hlk hP hS hM dX7_stroke_116
          · have hM := (if_neg c7).symm.trans hM
            by_cases c9 : x3 = 3
            · have hM := (if_pos c9).symm.trans hM
              refine lv_tableIn (tgt := 117) (off := 57) hx hb dX7_stroke_60 (by rw [c9]; decide) (by rw [c9]; decide) (by rw [c9]; rfl) (by decide) ?_
              refine lv_aload_n hx hb dX7_stroke_117 rfl (lv_at hl 1 rfl) ?_
              refine lv_iload hx hb dX7_stroke_118 (lv_at hl 0 rfl) ?_
              refine lv_iconst (v := 2) hx hb dX7_stroke_120 (by decide) ?_
              obtain ⟨r12, σ11, h10, hM⟩ := bnd_i hM
              refine x_callV (As := [.int (σ2 7 (Int32.toNatClampNeg x2)), .int 2]) (rest := []) hA ⟨hx, hb, hml, hown, hts⟩ (tX7_of l D cA ad hJ (σ2 7 (Int32.toNatClampNeg x2)) 2 σ2 _ _ h10) (cwV 2 hts gX7_stroke_X7_of rfl rfl rfl (by decide +kernel) ⟨(Nat.le_of_ble_eq_true rfl), (Nat.le_of_ble_eq_true rfl)⟩) hK hP hS KM_obj rfl rfl hl.1 rfl (Nat.le_of_ble_eq_true rfl) ⟨Nat.zero_le _, Nat.zero_le _⟩ dX7_stroke_121 (fun H locs hP hS _ _ => ?_)
              exact x_iret hx hb hr hlk hP hS hM dX7_stroke_124
            · have hM := (if_neg c9).symm.trans hM
              by_cases c13 : x3 = 4
              · have hM := (if_pos c13).symm.trans hM
                refine lv_tableIn (tgt := 125) (off := 65) hx hb dX7_stroke_60 (by rw [c13]; decide) (by rw [c13]; decide) (by rw [c13]; rfl) (by decide) ?_
                refine lv_aload_n hx hb dX7_stroke_125 rfl (lv_at hl 1 rfl) ?_
                refine lv_iload hx hb dX7_stroke_126 (lv_at hl 0 rfl) ?_
                refine lv_iconst (v := 4) hx hb dX7_stroke_128 (by decide) ?_
                obtain ⟨r16, σ15, h14, hM⟩ := bnd_i hM
                refine x_callV (As := [.int (σ2 7 (Int32.toNatClampNeg x2)), .int 4]) (rest := []) hA ⟨hx, hb, hml, hown, hts⟩ (tX7_of l D cA ad hJ (σ2 7 (Int32.toNatClampNeg x2)) 4 σ2 _ _ h14) (cwV 2 hts gX7_stroke_X7_of rfl rfl rfl (by decide +kernel) ⟨(Nat.le_of_ble_eq_true rfl), (Nat.le_of_ble_eq_true rfl)⟩) hK hP hS KM_obj rfl rfl hl.1 rfl (Nat.le_of_ble_eq_true rfl) ⟨Nat.zero_le _, Nat.zero_le _⟩ dX7_stroke_129 (fun H locs hP hS _ _ => ?_)
                exact x_iret hx hb hr hlk hP hS hM dX7_stroke_132
              · have hM := (if_neg c13).symm.trans hM
                refine lv_tableOut (tgt := 133) hx hb dX7_stroke_60 (by
                  rcases Int.lt_or_le (Int32.toInt x3) 0 with h9 | h9
                  · exact Or.inl h9
                  · rcases Int.lt_or_le 4 (Int32.toInt x3) with h8 | h8
                    · exact Or.inr h8
                    · exfalso
                      rcases (show Int32.toInt x3 = 0 ∨ Int32.toInt x3 = 1 ∨ Int32.toInt x3 = 2 ∨ Int32.toInt x3 = 3 ∨ Int32.toInt x3 = 4 by omega) with h7 | h7 | h7 | h7 | h7
                      · exact c5 (Int32.toInt_inj.mp (h7.trans (by decide)))
                      · exact c6 (Int32.toInt_inj.mp (h7.trans (by decide)))
                      · exact c7 (Int32.toInt_inj.mp (h7.trans (by decide)))
                      · exact c9 (Int32.toInt_inj.mp (h7.trans (by decide)))
                      · exact c13 (Int32.toInt_inj.mp (h7.trans (by decide)))) (by decide) ?_
                refine lv_iload_n hx hb dX7_stroke_133 rfl (lv_at hl 4 rfl) ?_
                refine lv_bipush (v := 10) hx hb dX7_stroke_134 (by decide) ?_
                refine lv_isub hx hb dX7_stroke_136 ?_
                refine lv_iconst (v := 2) hx hb dX7_stroke_137 (by decide) ?_
                refine lv_aload_n hx hb dX7_stroke_138 rfl (lv_at hl 1 rfl) ?_
                refine lv_iload hx hb dX7_stroke_139 (lv_at hl 0 rfl) ?_
                refine lv_iconst (v := 4) hx hb dX7_stroke_141 (by decide) ?_
                obtain ⟨r19, σ18, h17, hM⟩ := bnd_i hM
                refine x_callV (As := [.int (σ2 7 (Int32.toNatClampNeg x2)), .int 4]) (rest := [.int 2, .int (x3 - 10)]) hA ⟨hx, hb, hml, hown, hts⟩ (tX7_of l D cA ad hJ (σ2 7 (Int32.toNatClampNeg x2)) 4 σ2 _ _ h17) (cwV 2 hts gX7_stroke_X7_of rfl rfl rfl (by decide +kernel) ⟨(Nat.le_of_ble_eq_true rfl), (Nat.le_of_ble_eq_true rfl)⟩) hK hP hS KM_obj rfl rfl hl.1 rfl (Nat.le_of_ble_eq_true rfl) ⟨Nat.zero_le _, Nat.zero_le _⟩ dX7_stroke_142 (fun H locs hP hS _ _ => ?_)
                refine lv_imul hx hb dX7_stroke_145 ?_
                refine lv_icmp_ge (tgt := 164) hx hb dX7_stroke_146 (by decide) (fun c20 => ?_) (fun c20 => ?_)
                · have hM := (if_pos c20).symm.trans hM
                  refine lv_ldc (own := RX7) (v := (-1000000004)) hx hb hown (hts (.constant RX7 109 (-1000000004)) (by decide +kernel)) dX7_stroke_164 ?_
                  exact x_iret hx hb hr hlk hP hS hM dX7_stroke_166
                · have hM := (if_neg c20).symm.trans hM
                  refine lv_aload_n hx hb dX7_stroke_149 rfl (lv_at hl 1 rfl) ?_
                  refine lv_iload hx hb dX7_stroke_150 (lv_at hl 0 rfl) ?_
                  refine lv_iconst (v := 5) hx hb dX7_stroke_152 (by decide) ?_
                  refine lv_iload_n hx hb dX7_stroke_153 rfl (lv_at hl 4 rfl) ?_
                  refine lv_iadd hx hb dX7_stroke_154 ?_
                  refine lv_bipush (v := 10) hx hb dX7_stroke_155 (by decide) ?_
                  refine lv_isub hx hb dX7_stroke_157 ?_
                  obtain ⟨r23, σ22, h21, hM⟩ := bnd_i hM
                  refine x_callV (As := [.int (σ2 7 (Int32.toNatClampNeg x2)), .int ((5 + x3) - 10)]) (rest := []) hA ⟨hx, hb, hml, hown, hts⟩ (tX7_of l D cA ad hJ (σ2 7 (Int32.toNatClampNeg x2)) ((5 + x3) - 10) σ18 _ _ h21) (cwV 2 hts gX7_stroke_X7_of rfl rfl rfl (by decide +kernel) ⟨(Nat.le_of_ble_eq_true rfl), (Nat.le_of_ble_eq_true rfl)⟩) hK hP hS KM_obj rfl rfl hl.1 rfl (Nat.le_of_ble_eq_true rfl) ⟨Nat.zero_le _, Nat.zero_le _⟩ dX7_stroke_158 (fun H locs hP hS _ _ => ?_)
                  refine lv_goto (tgt := 166) hx hb dX7_stroke_161 (by decide) ?_
                  exact x_iret hx hb hr hlk hP hS hM dX7_stroke_166
    · have hM := (if_neg c3).symm.trans hM
      refine lv_ldc (own := RX7) (v := (-1000000004)) hx hb hown (hts (.constant RX7 109 (-1000000004)) (by decide +kernel)) dX7_stroke_48 ?_
      exact x_iret hx hb hr hlk hP hS hM dX7_stroke_50
  unfold mX7_stroke at hM
  refine lv_aload_n hx hb dX7_stroke_0 rfl (lv_at hl 0 rfl) ?_
  refine lv_iload_n hx hb dX7_stroke_1 rfl (lv_at hl 1 rfl) ?_
  obtain ⟨r26, σ25, h24, hM⟩ := bnd_i hM
  refine x_callV (As := [.int u1]) (rest := []) hA ⟨hx, hb, hml, hown, hts⟩ (tX7_isSite l D cA ad hJ u1 σ _ _ h24) (cwV 1 hts gX7_stroke_X7_isSite rfl rfl rfl (by decide +kernel) ⟨(Nat.le_of_ble_eq_true rfl), (Nat.le_of_ble_eq_true rfl)⟩) hK hP hS KM_obj rfl rfl hl.1 rfl (Nat.le_of_ble_eq_true rfl) ⟨Nat.zero_le _, Nat.zero_le _⟩ dX7_stroke_2 (fun H locs hP hS _ _ => ?_)
  refine lv_if_eq (tgt := 32) hx hb dX7_stroke_5 (by decide) (fun c27 => ?_) (fun c27 => ?_)
  · have hM := (if_pos c27).symm.trans hM
    refine lv_ldc (own := RX7) (v := (-1000000001)) hx hb hown (hts (.constant RX7 89 (-1000000001)) (by decide +kernel)) dX7_stroke_32 ?_
    exact x_iret hx hb hr hlk hP hS hM dX7_stroke_34
  · have hM := (if_neg c27).symm.trans hM
    refine lv_iload_n hx hb dX7_stroke_8 rfl (lv_at hl 2 rfl) ?_
    refine lv_if_lt (tgt := 32) hx hb dX7_stroke_9 (by decide) (fun c28 => ?_) (fun c28 => ?_)
    · have hM := (if_pos c28).symm.trans hM
      refine lv_ldc (own := RX7) (v := (-1000000001)) hx hb hown (hts (.constant RX7 89 (-1000000001)) (by decide +kernel)) dX7_stroke_32 ?_
      exact x_iret hx hb hr hlk hP hS hM dX7_stroke_34
    · have hM := (if_neg c28).symm.trans hM
      refine lv_iload_n hx hb dX7_stroke_12 rfl (lv_at hl 3 rfl) ?_
      refine lv_iconst (v := 0) hx hb dX7_stroke_13 (by decide) ?_
      refine lv_iconst (v := 4) hx hb dX7_stroke_14 (by decide) ?_
      obtain ⟨r31, σ30, h29, hM⟩ := bnd_i hM
      refine x_callS (As := [.int u3, .int 0, .int 4]) (rest := []) hA ⟨hx, hb, hml, hown, hts⟩ (tX7_in l D cA ad hJ u3 0 4 σ25 _ _ h29) (va_cwS 3 hts gX7_stroke_X7_in rfl rfl rfl (by decide +kernel) ⟨(Nat.le_of_ble_eq_true rfl), (Nat.le_of_ble_eq_true rfl)⟩) hK hP hS rfl hl.1 rfl (Nat.le_of_ble_eq_true rfl) ⟨Nat.zero_le _, Nat.zero_le _⟩ dX7_stroke_15 (fun H locs hP hS => ?_)
      refine lv_if_ne (tgt := 35) hx hb dX7_stroke_18 (by decide) (fun c32 => ?_) (fun c32 => ?_)
      · have hM := (if_neg c32).symm.trans hM
        exact b35 _ _ _ _ _ _ _ hM hP hS (lv_sub hl [0, 1, 2, 3] rfl)
      · have hM := (if_pos c32).symm.trans hM
        refine lv_iload_n hx hb dX7_stroke_21 rfl (lv_at hl 3 rfl) ?_
        refine lv_bipush (v := 10) hx hb dX7_stroke_22 (by decide) ?_
        refine lv_bipush (v := 25) hx hb dX7_stroke_24 (by decide) ?_
        obtain ⟨r35, σ34, h33, hM⟩ := bnd_i hM
        refine x_callS (As := [.int u3, .int 10, .int 25]) (rest := []) hA ⟨hx, hb, hml, hown, hts⟩ (tX7_in l D cA ad hJ u3 10 25 σ30 _ _ h33) (va_cwS 3 hts gX7_stroke_X7_in rfl rfl rfl (by decide +kernel) ⟨(Nat.le_of_ble_eq_true rfl), (Nat.le_of_ble_eq_true rfl)⟩) hK hP hS rfl hl.1 rfl (Nat.le_of_ble_eq_true rfl) ⟨Nat.zero_le _, Nat.zero_le _⟩ dX7_stroke_26 (fun H locs hP hS => ?_)
        refine lv_if_ne (tgt := 35) hx hb dX7_stroke_29 (by decide) (fun c36 => ?_) (fun c36 => ?_)
        · have hM := (if_neg c36).symm.trans hM
          exact b35 _ _ _ _ _ _ _ hM hP hS (lv_sub hl [0, 1, 2, 3] rfl)
        · have hM := (if_pos c36).symm.trans hM
          refine lv_ldc (own := RX7) (v := (-1000000001)) hx hb hown (hts (.constant RX7 89 (-1000000001)) (by decide +kernel)) dX7_stroke_32 ?_
          exact x_iret hx hb hr hlk hP hS hM dX7_stroke_34
