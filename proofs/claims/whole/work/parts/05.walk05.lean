/-! The walks, laid by wip/whole/gen.py. -/
theorem hinX7_X7_strokeAt : ∀ w ∈ u_ws RX7 TX7 14, w ∈ wsX7_strokeAt := by decide +kernel
set_option maxHeartbeats 4000000 in
set_option maxRecDepth 100000 in
theorem tX7_strokeAt (l : Launch) (D : va_G) (cA : ClassId) (ad : Nat → Nat) (hJ : w_J ad KM) (u1 u2 u3 : Int32) (σ σ' : St) (r : Int32) (hM : mX7_strokeAt u1 u2 u3 σ = some (r, σ')) : Ct l yX7_strokeAt wsX7_strokeAt 5 118 D cA ad KM [.ref (ad 0), .int u1, .int u2, .int u3] σ r σ' := by
  unfold Ct
  refine Met_of (cc := cX7_strokeAt) (maxL := 7) (ret := (some .int)) hJ (by decide +kernel) rfl (Nat.le_of_ble_eq_true rfl) ?_
  intro p e s m below meth c Z H locs ls hP hS hl
  obtain ⟨hx, hb, hml, hown, hts, hr, hlk, hK, -⟩ := Z
  have hown : s.vm.findClass RX7 = some m.cls := hown
  have hl : lv_has ls 7 [(0, .ref (ad 0)), (1, .int u1), (2, .int u2), (3, .int u3)] := hl
  have hA : ∀ q, w_A ad KM q → w_A ad KM q := fun _ h => h
  have L47 : ∀ (n : Nat) (x2 x3 x4 x5 : Int32) (σ : St) (H : Heap) (locs : List Loc) (ls : Array Slot), mX7_strokeAt_L47 n x2 x3 x4 x5 σ = some (r, σ') → w_P D cA ad KM σ H → va_S (w_A ad KM) s.heap H locs → lv_has ls 7 [(0, .ref (ad 0)), (2, .int x2), (3, .int x3), (4, .int x4), (5, .int x5)] → Wm p l e wsX7_strokeAt 5 118 s m ([.ref (ad 0), .int u1, .int u2, .int u3] : List Value).toArray below meth c (w_Qi D cA ad KM r σ') (w_A ad KM) H locs (F0 m 47 ls []) := by
    intro n47
    induction n47 with
    | zero =>
      intro x2 x3 x4 x5 σ H locs ls hM hP hS hl
      rw [mX7_strokeAt_L47] at hM
      cases hM
    | succ n47 ih47 =>
      have L59 : ∀ (n : Nat) (x2 x3 x4 x5 x6 : Int32) (σ : St) (H : Heap) (locs : List Loc) (ls : Array Slot), mX7_strokeAt_L59 (mX7_strokeAt_L47 n47) n x2 x3 x4 x5 x6 σ = some (r, σ') → w_P D cA ad KM σ H → va_S (w_A ad KM) s.heap H locs → lv_has ls 7 [(0, .ref (ad 0)), (2, .int x2), (3, .int x3), (4, .int x4), (5, .int x5), (6, .int x6)] → Wm p l e wsX7_strokeAt 5 118 s m ([.ref (ad 0), .int u1, .int u2, .int u3] : List Value).toArray below meth c (w_Qi D cA ad KM r σ') (w_A ad KM) H locs (F0 m 59 ls []) := by
        intro n59
        induction n59 with
        | zero =>
          intro x2 x3 x4 x5 x6 σ H locs ls hM hP hS hl
          rw [mX7_strokeAt_L59] at hM
          cases hM
        | succ n59 ih59 =>
          intro x2 x3 x4 x5 x6 σ H locs ls hM hP hS hl
          rw [mX7_strokeAt_L59] at hM
          refine lv_iload hx hb dX7_strokeAt_59 (lv_at hl 5 rfl) ?_
          refine lv_aload_n hx hb dX7_strokeAt_61 rfl (lv_at hl 0 rfl) ?_
          refine lv_aload_n hx hb dX7_strokeAt_62 rfl (lv_at hl 0 rfl) ?_
          refine x_getr (own := RX7) (C := RX7) (T := TX7) (N := 14) hx hb hts hinX7_X7_strokeAt hown hK hP KM_obj rfl 8 (by decide) (hts (.fieldLink RX7 35 "StrokeBoardModel" "board" "[I") (by decide +kernel)) rfl dX7_strokeAt_63 ?_
          refine lv_iload hx hb dX7_strokeAt_66 (lv_at hl 4 rfl) ?_
          obtain ⟨h1, hM⟩ := ix_i hM
          refine x_iald hx hb hK hP rfl h1 dX7_strokeAt_68 ?_
          refine lv_iconst (v := 4) hx hb dX7_strokeAt_69 (by decide) ?_
          obtain ⟨r4, σ3, h2, hM⟩ := bnd_i hM
          refine x_callV (As := [.int (σ 7 (Int32.toNatClampNeg x5)), .int 4]) (rest := [.int x6]) hA ⟨hx, hb, hml, hown, hts⟩ (tX7_of l D cA ad hJ (σ 7 (Int32.toNatClampNeg x5)) 4 σ _ _ h2) (cwV 2 hts gX7_strokeAt_X7_of rfl rfl rfl (by decide +kernel) ⟨(Nat.le_of_ble_eq_true rfl), (Nat.le_of_ble_eq_true rfl)⟩) hK hP hS KM_obj rfl rfl hl.1 rfl (Nat.le_of_ble_eq_true rfl) ⟨Nat.zero_le _, Nat.zero_le _⟩ dX7_strokeAt_70 (fun H locs hP hS _ _ => ?_)
          refine lv_icmp_ge (tgt := 135) hx hb dX7_strokeAt_73 (by decide) (fun c5 => ?_) (fun c5 => ?_)
          · have hM := (if_pos c5).symm.trans hM
            refine lv_iinc (v := (x5 + 1)) (lv' := [(5, .int (x5 + 1)), (0, .ref (ad 0)), (2, .int x2), (3, .int x3), (4, .int x4), (6, .int x6)]) hx hb dX7_strokeAt_135 hl (k := 4) rfl rfl (by decide) rfl (fun ls hl => ?_)
            refine lv_goto (tgt := 47) hx hb dX7_strokeAt_138 (by decide) ?_
            exact ih47 _ _ _ _ _ _ _ _ hM hP hS (lv_sub hl [1, 2, 3, 4, 0] rfl)
          · have hM := (if_neg c5).symm.trans hM
            refine lv_aload_n hx hb dX7_strokeAt_76 rfl (lv_at hl 0 rfl) ?_
            refine lv_aload_n hx hb dX7_strokeAt_77 rfl (lv_at hl 0 rfl) ?_
            refine x_getr (own := RX7) (C := RX7) (T := TX7) (N := 14) hx hb hts hinX7_X7_strokeAt hown hK hP KM_obj rfl 8 (by decide) (hts (.fieldLink RX7 35 "StrokeBoardModel" "board" "[I") (by decide +kernel)) rfl dX7_strokeAt_78 ?_
            refine lv_iload hx hb dX7_strokeAt_81 (lv_at hl 4 rfl) ?_
            obtain ⟨h6, hM⟩ := ix_i hM
            refine x_iald hx hb hK hP rfl h6 dX7_strokeAt_83 ?_
            refine lv_iconst (v := 5) hx hb dX7_strokeAt_84 (by decide) ?_
            refine lv_iconst (v := 2) hx hb dX7_strokeAt_85 (by decide) ?_
            refine lv_iload hx hb dX7_strokeAt_86 (lv_at hl 5 rfl) ?_
            refine lv_imul hx hb dX7_strokeAt_88 ?_
            refine lv_iadd hx hb dX7_strokeAt_89 ?_
            obtain ⟨r9, σ8, h7, hM⟩ := bnd_i hM
            refine x_callV (As := [.int (σ3 7 (Int32.toNatClampNeg x5)), .int (5 + (2 * x6))]) (rest := []) hA ⟨hx, hb, hml, hown, hts⟩ (tX7_of l D cA ad hJ (σ3 7 (Int32.toNatClampNeg x5)) (5 + (2 * x6)) σ3 _ _ h7) (cwV 2 hts gX7_strokeAt_X7_of rfl rfl rfl (by decide +kernel) ⟨(Nat.le_of_ble_eq_true rfl), (Nat.le_of_ble_eq_true rfl)⟩) hK hP hS KM_obj rfl rfl hl.1 rfl (Nat.le_of_ble_eq_true rfl) ⟨Nat.zero_le _, Nat.zero_le _⟩ dX7_strokeAt_90 (fun H locs hP hS _ _ => ?_)
            refine lv_iload_n hx hb dX7_strokeAt_93 rfl (lv_at hl 1 rfl) ?_
            refine lv_icmp_ne (tgt := 125) hx hb dX7_strokeAt_94 (by decide) (fun c10 => ?_) (fun c10 => ?_)
            · have hM := (if_neg c10).symm.trans hM
              refine lv_iload hx hb dX7_strokeAt_125 (lv_at hl 3 rfl) ?_
              refine lv_istore (lv' := [(4, .int x4), (0, .ref (ad 0)), (2, .int x2), (3, .int x3), (5, .int x5), (6, .int x6)]) hx hb dX7_strokeAt_127 hl (by decide) rfl (fun ls hl => ?_)
              refine lv_iinc (v := (x6 + 1)) (lv' := [(6, .int (x6 + 1)), (4, .int x4), (0, .ref (ad 0)), (2, .int x2), (3, .int x3), (5, .int x5)]) hx hb dX7_strokeAt_129 hl (k := 5) rfl rfl (by decide) rfl (fun ls hl => ?_)
              refine lv_goto (tgt := 59) hx hb dX7_strokeAt_132 (by decide) ?_
              exact ih59 _ _ _ _ _ _ _ _ _ hM hP hS (lv_sub hl [2, 3, 4, 1, 5, 0] rfl)
            · have hM := (if_pos c10).symm.trans hM
              refine lv_aload_n hx hb dX7_strokeAt_97 rfl (lv_at hl 0 rfl) ?_
              refine lv_aload_n hx hb dX7_strokeAt_98 rfl (lv_at hl 0 rfl) ?_
              refine x_getr (own := RX7) (C := RX7) (T := TX7) (N := 14) hx hb hts hinX7_X7_strokeAt hown hK hP KM_obj rfl 8 (by decide) (hts (.fieldLink RX7 35 "StrokeBoardModel" "board" "[I") (by decide +kernel)) rfl dX7_strokeAt_99 ?_
              refine lv_iload hx hb dX7_strokeAt_102 (lv_at hl 4 rfl) ?_
              obtain ⟨h11, hM⟩ := ix_i hM
              refine x_iald hx hb hK hP rfl h11 dX7_strokeAt_104 ?_
              refine lv_iconst (v := 5) hx hb dX7_strokeAt_105 (by decide) ?_
              refine lv_iconst (v := 2) hx hb dX7_strokeAt_106 (by decide) ?_
              refine lv_iload hx hb dX7_strokeAt_107 (lv_at hl 5 rfl) ?_
              refine lv_imul hx hb dX7_strokeAt_109 ?_
              refine lv_iadd hx hb dX7_strokeAt_110 ?_
              refine lv_iconst (v := 1) hx hb dX7_strokeAt_111 (by decide) ?_
              refine lv_iadd hx hb dX7_strokeAt_112 ?_
              obtain ⟨r14, σ13, h12, hM⟩ := bnd_i hM
              refine x_callV (As := [.int (σ8 7 (Int32.toNatClampNeg x5)), .int ((5 + (2 * x6)) + 1)]) (rest := []) hA ⟨hx, hb, hml, hown, hts⟩ (tX7_of l D cA ad hJ (σ8 7 (Int32.toNatClampNeg x5)) ((5 + (2 * x6)) + 1) σ8 _ _ h12) (cwV 2 hts gX7_strokeAt_X7_of rfl rfl rfl (by decide +kernel) ⟨(Nat.le_of_ble_eq_true rfl), (Nat.le_of_ble_eq_true rfl)⟩) hK hP hS KM_obj rfl rfl hl.1 rfl (Nat.le_of_ble_eq_true rfl) ⟨Nat.zero_le _, Nat.zero_le _⟩ dX7_strokeAt_113 (fun H locs hP hS _ _ => ?_)
              refine lv_iload_n hx hb dX7_strokeAt_116 rfl (lv_at hl 2 rfl) ?_
              refine lv_icmp_ne (tgt := 125) hx hb dX7_strokeAt_117 (by decide) (fun c15 => ?_) (fun c15 => ?_)
              · have hM := (if_neg c15).symm.trans hM
                refine lv_iload hx hb dX7_strokeAt_125 (lv_at hl 3 rfl) ?_
                refine lv_istore (lv' := [(4, .int x4), (0, .ref (ad 0)), (2, .int x2), (3, .int x3), (5, .int x5), (6, .int x6)]) hx hb dX7_strokeAt_127 hl (by decide) rfl (fun ls hl => ?_)
                refine lv_iinc (v := (x6 + 1)) (lv' := [(6, .int (x6 + 1)), (4, .int x4), (0, .ref (ad 0)), (2, .int x2), (3, .int x3), (5, .int x5)]) hx hb dX7_strokeAt_129 hl (k := 5) rfl rfl (by decide) rfl (fun ls hl => ?_)
                refine lv_goto (tgt := 59) hx hb dX7_strokeAt_132 (by decide) ?_
                exact ih59 _ _ _ _ _ _ _ _ _ hM hP hS (lv_sub hl [2, 3, 4, 1, 5, 0] rfl)
              · have hM := (if_pos c15).symm.trans hM
                refine lv_iload hx hb dX7_strokeAt_120 (lv_at hl 4 rfl) ?_
                refine lv_goto (tgt := 127) hx hb dX7_strokeAt_122 (by decide) ?_
                refine lv_istore (lv' := [(4, .int x5), (0, .ref (ad 0)), (2, .int x2), (3, .int x3), (5, .int x5), (6, .int x6)]) hx hb dX7_strokeAt_127 hl (by decide) rfl (fun ls hl => ?_)
                refine lv_iinc (v := (x6 + 1)) (lv' := [(6, .int (x6 + 1)), (4, .int x5), (0, .ref (ad 0)), (2, .int x2), (3, .int x3), (5, .int x5)]) hx hb dX7_strokeAt_129 hl (k := 5) rfl rfl (by decide) rfl (fun ls hl => ?_)
                refine lv_goto (tgt := 59) hx hb dX7_strokeAt_132 (by decide) ?_
                exact ih59 _ _ _ _ _ _ _ _ _ hM hP hS (lv_sub hl [2, 3, 4, 1, 5, 0] rfl)
      intro x2 x3 x4 x5 σ H locs ls hM hP hS hl
      rw [mX7_strokeAt_L47] at hM
      refine lv_iload hx hb dX7_strokeAt_47 (lv_at hl 4 rfl) ?_
      refine lv_aload_n hx hb dX7_strokeAt_49 rfl (lv_at hl 0 rfl) ?_
      refine x_geti (own := RX7) (C := RX7) (T := TX7) (N := 14) hx hb hts hinX7_X7_strokeAt hown hK hP KM_obj rfl 10 (by decide) (hts (.fieldLink RX7 80 "StrokeBoardModel" "boardMany" "I") (by decide +kernel)) rfl dX7_strokeAt_50 ?_
      refine lv_icmp_ge (tgt := 141) hx hb dX7_strokeAt_53 (by decide) (fun c16 => ?_) (fun c16 => ?_)
      · have hM := (if_pos c16).symm.trans hM
        refine lv_iload hx hb dX7_strokeAt_141 (lv_at hl 3 rfl) ?_
        exact x_iret hx hb hr hlk hP hS hM dX7_strokeAt_143
      · have hM := (if_neg c16).symm.trans hM
        refine lv_iconst (v := 0) hx hb dX7_strokeAt_56 (by decide) ?_
        refine lv_istore (lv' := [(6, .int 0), (0, .ref (ad 0)), (2, .int x2), (3, .int x3), (4, .int x4), (5, .int x5)]) hx hb dX7_strokeAt_57 hl (by decide) rfl (fun ls hl => ?_)
        exact L59 fu _ _ _ _ _ _ _ _ _ hM hP hS (lv_sub hl [1, 2, 3, 4, 5, 0] rfl)
  unfold mX7_strokeAt at hM
  refine lv_aload_n hx hb dX7_strokeAt_0 rfl (lv_at hl 0 rfl) ?_
  refine lv_iload_n hx hb dX7_strokeAt_1 rfl (lv_at hl 1 rfl) ?_
  obtain ⟨r19, σ18, h17, hM⟩ := bnd_i hM
  refine x_callV (As := [.int u1]) (rest := []) hA ⟨hx, hb, hml, hown, hts⟩ (tX7_isSite l D cA ad hJ u1 σ _ _ h17) (cwV 1 hts gX7_strokeAt_X7_isSite rfl rfl rfl (by decide +kernel) ⟨(Nat.le_of_ble_eq_true rfl), (Nat.le_of_ble_eq_true rfl)⟩) hK hP hS KM_obj rfl rfl hl.1 rfl (Nat.le_of_ble_eq_true rfl) ⟨Nat.zero_le _, Nat.zero_le _⟩ dX7_strokeAt_2 (fun H locs hP hS _ _ => ?_)
  refine lv_if_eq (tgt := 32) hx hb dX7_strokeAt_5 (by decide) (fun c20 => ?_) (fun c20 => ?_)
  · have hM := (if_pos c20).symm.trans hM
    refine lv_ldc (own := RX7) (v := (-1000000001)) hx hb hown (hts (.constant RX7 89 (-1000000001)) (by decide +kernel)) dX7_strokeAt_32 ?_
    exact x_iret hx hb hr hlk hP hS hM dX7_strokeAt_34
  · have hM := (if_neg c20).symm.trans hM
    refine lv_iload_n hx hb dX7_strokeAt_8 rfl (lv_at hl 2 rfl) ?_
    refine lv_bipush (v := (-100)) hx hb dX7_strokeAt_9 (by decide) ?_
    refine lv_sipush (v := 200) hx hb dX7_strokeAt_11 (by decide) ?_
    obtain ⟨r23, σ22, h21, hM⟩ := bnd_i hM
    refine x_callS (As := [.int u2, .int (-100), .int 200]) (rest := []) hA ⟨hx, hb, hml, hown, hts⟩ (tX7_in l D cA ad hJ u2 (-100) 200 σ18 _ _ h21) (va_cwS 3 hts gX7_strokeAt_X7_in rfl rfl rfl (by decide +kernel) ⟨(Nat.le_of_ble_eq_true rfl), (Nat.le_of_ble_eq_true rfl)⟩) hK hP hS rfl hl.1 rfl (Nat.le_of_ble_eq_true rfl) ⟨Nat.zero_le _, Nat.zero_le _⟩ dX7_strokeAt_14 (fun H locs hP hS => ?_)
    refine lv_if_eq (tgt := 32) hx hb dX7_strokeAt_17 (by decide) (fun c24 => ?_) (fun c24 => ?_)
    · have hM := (if_pos c24).symm.trans hM
      refine lv_ldc (own := RX7) (v := (-1000000001)) hx hb hown (hts (.constant RX7 89 (-1000000001)) (by decide +kernel)) dX7_strokeAt_32 ?_
      exact x_iret hx hb hr hlk hP hS hM dX7_strokeAt_34
    · have hM := (if_neg c24).symm.trans hM
      refine lv_iload_n hx hb dX7_strokeAt_20 rfl (lv_at hl 3 rfl) ?_
      refine lv_bipush (v := (-100)) hx hb dX7_strokeAt_21 (by decide) ?_
      refine lv_sipush (v := 200) hx hb dX7_strokeAt_23 (by decide) ?_
      obtain ⟨r27, σ26, h25, hM⟩ := bnd_i hM
      refine x_callS (As := [.int u3, .int (-100), .int 200]) (rest := []) hA ⟨hx, hb, hml, hown, hts⟩ (tX7_in l D cA ad hJ u3 (-100) 200 σ22 _ _ h25) (va_cwS 3 hts gX7_strokeAt_X7_in rfl rfl rfl (by decide +kernel) ⟨(Nat.le_of_ble_eq_true rfl), (Nat.le_of_ble_eq_true rfl)⟩) hK hP hS rfl hl.1 rfl (Nat.le_of_ble_eq_true rfl) ⟨Nat.zero_le _, Nat.zero_le _⟩ dX7_strokeAt_26 (fun H locs hP hS => ?_)
      refine lv_if_ne (tgt := 35) hx hb dX7_strokeAt_29 (by decide) (fun c28 => ?_) (fun c28 => ?_)
      · have hM := (if_neg c28).symm.trans hM
        refine lv_aload_n hx hb dX7_strokeAt_35 rfl (lv_at hl 0 rfl) ?_
        refine lv_iload_n hx hb dX7_strokeAt_36 rfl (lv_at hl 1 rfl) ?_
        obtain ⟨σ30, h29, hM⟩ := bnv_i hM
        refine x_callVv (As := [.int u1]) (rest := []) hA ⟨hx, hb, hml, hown, hts⟩ (tX7_workOut l D cA ad hJ u1 σ26 _ h29) (cwV 1 hts gX7_strokeAt_X7_workOut rfl rfl rfl (by decide +kernel) ⟨(Nat.le_of_ble_eq_true rfl), (Nat.le_of_ble_eq_true rfl)⟩) hK hP hS KM_obj rfl rfl hl.1 rfl (Nat.le_of_ble_eq_true rfl) ⟨Nat.zero_le _, Nat.zero_le _⟩ dX7_strokeAt_37 (fun H locs hP hS _ _ => ?_)
        refine lv_ldc (own := RX7) (v := (-1000000004)) hx hb hown (hts (.constant RX7 109 (-1000000004)) (by decide +kernel)) dX7_strokeAt_40 ?_
        refine lv_istore (lv' := [(4, .int (-1000000004)), (0, .ref (ad 0)), (1, .int u1), (2, .int u2), (3, .int u3)]) hx hb dX7_strokeAt_42 hl (by decide) rfl (fun ls hl => ?_)
        refine lv_iconst (v := 0) hx hb dX7_strokeAt_44 (by decide) ?_
        refine lv_istore (lv' := [(5, .int 0), (4, .int (-1000000004)), (0, .ref (ad 0)), (1, .int u1), (2, .int u2), (3, .int u3)]) hx hb dX7_strokeAt_45 hl (by decide) rfl (fun ls hl => ?_)
        exact L47 fu _ _ _ _ _ _ _ _ hM hP hS (lv_sub hl [2, 4, 5, 1, 0] rfl)
      · have hM := (if_pos c28).symm.trans hM
        refine lv_ldc (own := RX7) (v := (-1000000001)) hx hb hown (hts (.constant RX7 89 (-1000000001)) (by decide +kernel)) dX7_strokeAt_32 ?_
        exact x_iret hx hb hr hlk hP hS hM dX7_strokeAt_34
theorem hinX7_X7_digest : ∀ w ∈ u_ws RX7 TX7 14, w ∈ wsX7_digest := by decide +kernel
set_option maxHeartbeats 4000000 in
set_option maxRecDepth 100000 in
theorem tX7_digest (l : Launch) (D : va_G) (cA : ClassId) (ad : Nat → Nat) (hJ : w_J ad KM) (u1 : Int32) (σ σ' : St) (r : Int32) (hM : mX7_digest u1 σ = some (r, σ')) : Ct l yX7_digest wsX7_digest 5 118 D cA ad KM [.ref (ad 0), .int u1] σ r σ' := by
  unfold Ct
  refine Met_of (cc := cX7_digest) (maxL := 6) (ret := (some .int)) hJ (by decide +kernel) rfl (Nat.le_of_ble_eq_true rfl) ?_
  intro p e s m below meth c Z H locs ls hP hS hl
  obtain ⟨hx, hb, hml, hown, hts, hr, hlk, hK, -⟩ := Z
  have hown : s.vm.findClass RX7 = some m.cls := hown
  have hl : lv_has ls 6 [(0, .ref (ad 0)), (1, .int u1)] := hl
  have hA : ∀ q, w_A ad KM q → w_A ad KM q := fun _ h => h
  have L20 : ∀ (n : Nat) (x2 x3 : Int32) (σ : St) (H : Heap) (locs : List Loc) (ls : Array Slot), mX7_digest_L20 n x2 x3 σ = some (r, σ') → w_P D cA ad KM σ H → va_S (w_A ad KM) s.heap H locs → lv_has ls 6 [(0, .ref (ad 0)), (2, .int x2), (3, .int x3)] → Wm p l e wsX7_digest 5 118 s m ([.ref (ad 0), .int u1] : List Value).toArray below meth c (w_Qi D cA ad KM r σ') (w_A ad KM) H locs (F0 m 20 ls []) := by
    intro n20
    induction n20 with
    | zero =>
      intro x2 x3 σ H locs ls hM hP hS hl
      rw [mX7_digest_L20] at hM
      cases hM
    | succ n20 ih20 =>
      have L88 : ∀ (n : Nat) (x2 x3 x4 x5 : Int32) (σ : St) (H : Heap) (locs : List Loc) (ls : Array Slot), mX7_digest_L88 (mX7_digest_L20 n20) n x2 x3 x4 x5 σ = some (r, σ') → w_P D cA ad KM σ H → va_S (w_A ad KM) s.heap H locs → lv_has ls 6 [(0, .ref (ad 0)), (2, .int x2), (3, .int x3), (4, .int x4), (5, .int x5)] → Wm p l e wsX7_digest 5 118 s m ([.ref (ad 0), .int u1] : List Value).toArray below meth c (w_Qi D cA ad KM r σ') (w_A ad KM) H locs (F0 m 88 ls []) := by
        intro n88
        induction n88 with
        | zero =>
          intro x2 x3 x4 x5 σ H locs ls hM hP hS hl
          rw [mX7_digest_L88] at hM
          cases hM
        | succ n88 ih88 =>
          intro x2 x3 x4 x5 σ H locs ls hM hP hS hl
          rw [mX7_digest_L88] at hM
          refine lv_iload hx hb dX7_digest_88 (lv_at hl 4 rfl) ?_
          refine lv_iconst (v := 2) hx hb dX7_digest_90 (by decide) ?_
          refine lv_aload_n hx hb dX7_digest_91 rfl (lv_at hl 0 rfl) ?_
          refine lv_iload hx hb dX7_digest_92 (lv_at hl 3 rfl) ?_
          refine lv_iconst (v := 4) hx hb dX7_digest_94 (by decide) ?_
          obtain ⟨r3, σ2, h1, hM⟩ := bnd_i hM
          refine x_callV (As := [.int x4, .int 4]) (rest := [.int 2, .int x5]) hA ⟨hx, hb, hml, hown, hts⟩ (tX7_of l D cA ad hJ x4 4 σ _ _ h1) (cwV 2 hts gX7_digest_X7_of rfl rfl rfl (by decide +kernel) ⟨(Nat.le_of_ble_eq_true rfl), (Nat.le_of_ble_eq_true rfl)⟩) hK hP hS KM_obj rfl rfl hl.1 rfl (Nat.le_of_ble_eq_true rfl) ⟨Nat.zero_le _, Nat.zero_le _⟩ dX7_digest_95 (fun H locs hP hS _ _ => ?_)
          refine lv_imul hx hb dX7_digest_98 ?_
          refine lv_icmp_ge (tgt := 124) hx hb dX7_digest_99 (by decide) (fun c4 => ?_) (fun c4 => ?_)
          · have hM := (if_pos c4).symm.trans hM
            refine lv_iinc (v := (x3 + 1)) (lv' := [(3, .int (x3 + 1)), (0, .ref (ad 0)), (2, .int x2), (4, .int x4), (5, .int x5)]) hx hb dX7_digest_124 hl (k := 2) rfl rfl (by decide) rfl (fun ls hl => ?_)
            refine lv_goto (tgt := 20) hx hb dX7_digest_127 (by decide) ?_
            exact ih20 _ _ _ _ _ _ hM hP hS (lv_sub hl [1, 2, 0] rfl)
          · have hM := (if_neg c4).symm.trans hM
            refine lv_bipush (v := 31) hx hb dX7_digest_102 (by decide) ?_
            refine lv_iload_n hx hb dX7_digest_104 rfl (lv_at hl 1 rfl) ?_
            refine lv_imul hx hb dX7_digest_105 ?_
            refine lv_aload_n hx hb dX7_digest_106 rfl (lv_at hl 0 rfl) ?_
            refine lv_iload hx hb dX7_digest_107 (lv_at hl 3 rfl) ?_
            refine lv_iconst (v := 5) hx hb dX7_digest_109 (by decide) ?_
            refine lv_iload hx hb dX7_digest_110 (lv_at hl 4 rfl) ?_
            refine lv_iadd hx hb dX7_digest_112 ?_
            obtain ⟨r7, σ6, h5, hM⟩ := bnd_i hM
            refine x_callV (As := [.int x4, .int (5 + x5)]) (rest := [.int (31 * x2)]) hA ⟨hx, hb, hml, hown, hts⟩ (tX7_of l D cA ad hJ x4 (5 + x5) σ2 _ _ h5) (cwV 2 hts gX7_digest_X7_of rfl rfl rfl (by decide +kernel) ⟨(Nat.le_of_ble_eq_true rfl), (Nat.le_of_ble_eq_true rfl)⟩) hK hP hS KM_obj rfl rfl hl.1 rfl (Nat.le_of_ble_eq_true rfl) ⟨Nat.zero_le _, Nat.zero_le _⟩ dX7_digest_113 (fun H locs hP hS _ _ => ?_)
            refine lv_iadd hx hb dX7_digest_116 ?_
            refine lv_istore_n (lv' := [(2, .int ((31 * x2) + r7)), (0, .ref (ad 0)), (3, .int x3), (4, .int x4), (5, .int x5)]) hx hb dX7_digest_117 rfl hl (by decide) rfl (fun ls hl => ?_)
            refine lv_iinc (v := (x5 + 1)) (lv' := [(5, .int (x5 + 1)), (2, .int ((31 * x2) + r7)), (0, .ref (ad 0)), (3, .int x3), (4, .int x4)]) hx hb dX7_digest_118 hl (k := 4) rfl rfl (by decide) rfl (fun ls hl => ?_)
            refine lv_goto (tgt := 88) hx hb dX7_digest_121 (by decide) ?_
            exact ih88 _ _ _ _ _ _ _ _ hM hP hS (lv_sub hl [2, 1, 3, 4, 0] rfl)
      intro x2 x3 σ H locs ls hM hP hS hl
      rw [mX7_digest_L20] at hM
      refine lv_iload_n hx hb dX7_digest_20 rfl (lv_at hl 2 rfl) ?_
      refine lv_aload_n hx hb dX7_digest_21 rfl (lv_at hl 0 rfl) ?_
      refine x_geti (own := RX7) (C := RX7) (T := TX7) (N := 14) hx hb hts hinX7_X7_digest hown hK hP KM_obj rfl 10 (by decide) (hts (.fieldLink RX7 80 "StrokeBoardModel" "boardMany" "I") (by decide +kernel)) rfl dX7_digest_22 ?_
      refine lv_icmp_ge (tgt := 130) hx hb dX7_digest_25 (by decide) (fun c8 => ?_) (fun c8 => ?_)
      · have hM := (if_pos c8).symm.trans hM
        refine lv_iload_n hx hb dX7_digest_130 rfl (lv_at hl 1 rfl) ?_
        exact x_iret hx hb hr hlk hP hS hM dX7_digest_131
      · have hM := (if_neg c8).symm.trans hM
        refine lv_aload_n hx hb dX7_digest_28 rfl (lv_at hl 0 rfl) ?_
        refine x_getr (own := RX7) (C := RX7) (T := TX7) (N := 14) hx hb hts hinX7_X7_digest hown hK hP KM_obj rfl 8 (by decide) (hts (.fieldLink RX7 35 "StrokeBoardModel" "board" "[I") (by decide +kernel)) rfl dX7_digest_29 ?_
        refine lv_iload_n hx hb dX7_digest_32 rfl (lv_at hl 2 rfl) ?_
        obtain ⟨h9, hM⟩ := ix_i hM
        refine x_iald hx hb hK hP rfl h9 dX7_digest_33 ?_
        refine lv_istore (lv' := [(4, .int (σ 7 (Int32.toNatClampNeg x3))), (0, .ref (ad 0)), (2, .int x2), (3, .int x3)]) hx hb dX7_digest_34 hl (by decide) rfl (fun ls hl => ?_)
        refine lv_bipush (v := 31) hx hb dX7_digest_36 (by decide) ?_
        refine lv_iload_n hx hb dX7_digest_38 rfl (lv_at hl 2 rfl) ?_
        refine lv_imul hx hb dX7_digest_39 ?_
        refine lv_iload hx hb dX7_digest_40 (lv_at hl 0 rfl) ?_
        refine lv_bipush (v := 20) hx hb dX7_digest_42 (by decide) ?_
        refine lv_idiv hx hb dX7_digest_44 (by decide) ?_
        refine lv_iadd hx hb dX7_digest_45 ?_
        refine lv_topi (fun z10 ez10 => ?_)
        have hM := lti_u ez10 hM
        refine lv_istore_n (lv' := [(2, .int z10), (4, .int (σ 7 (Int32.toNatClampNeg x3))), (0, .ref (ad 0)), (3, .int x3)]) hx hb dX7_digest_46 rfl hl (by decide) rfl (fun ls hl => ?_)
        refine lv_bipush (v := 31) hx hb dX7_digest_47 (by decide) ?_
        refine lv_iload_n hx hb dX7_digest_49 rfl (lv_at hl 0 rfl) ?_
        refine lv_imul hx hb dX7_digest_50 ?_
        refine lv_iload hx hb dX7_digest_51 (lv_at hl 1 rfl) ?_
        refine lv_bipush (v := 20) hx hb dX7_digest_53 (by decide) ?_
        refine lv_irem hx hb dX7_digest_55 (by decide) ?_
        refine lv_iadd hx hb dX7_digest_56 ?_
        refine lv_iconst (v := 1) hx hb dX7_digest_57 (by decide) ?_
        refine lv_iadd hx hb dX7_digest_58 ?_
        refine lv_topi (fun z11 ez11 => ?_)
        have hM := lti_u ez11 hM
        refine lv_istore_n (lv' := [(2, .int z11), (4, .int (σ 7 (Int32.toNatClampNeg x3))), (0, .ref (ad 0)), (3, .int x3)]) hx hb dX7_digest_59 rfl hl (by decide) rfl (fun ls hl => ?_)
        refine lv_bipush (v := 31) hx hb dX7_digest_60 (by decide) ?_
        refine lv_iload_n hx hb dX7_digest_62 rfl (lv_at hl 0 rfl) ?_
        refine lv_imul hx hb dX7_digest_63 ?_
        refine lv_aload_n hx hb dX7_digest_64 rfl (lv_at hl 2 rfl) ?_
        refine x_getr (own := RX7) (C := RX7) (T := TX7) (N := 14) hx hb hts hinX7_X7_digest hown hK hP KM_obj rfl 9 (by decide) (hts (.fieldLink RX7 38 "StrokeBoardModel" "layers" "[I") (by decide +kernel)) rfl dX7_digest_65 ?_
        refine lv_iload_n hx hb dX7_digest_68 rfl (lv_at hl 3 rfl) ?_
        obtain ⟨h12, hM⟩ := ix_i hM
        refine x_iald hx hb hK hP rfl h12 dX7_digest_69 ?_
        refine lv_iadd hx hb dX7_digest_70 ?_
        refine lv_topi (fun z13 ez13 => ?_)
        have hM := lti_u ez13 hM
        refine lv_istore_n (lv' := [(2, .int z13), (4, .int (σ 7 (Int32.toNatClampNeg x3))), (0, .ref (ad 0)), (3, .int x3)]) hx hb dX7_digest_71 rfl hl (by decide) rfl (fun ls hl => ?_)
        refine lv_bipush (v := 31) hx hb dX7_digest_72 (by decide) ?_
        refine lv_iload_n hx hb dX7_digest_74 rfl (lv_at hl 0 rfl) ?_
        refine lv_imul hx hb dX7_digest_75 ?_
        refine lv_aload_n hx hb dX7_digest_76 rfl (lv_at hl 2 rfl) ?_
        refine lv_iload hx hb dX7_digest_77 (lv_at hl 1 rfl) ?_
        refine lv_iconst (v := 2) hx hb dX7_digest_79 (by decide) ?_
        obtain ⟨r16, σ15, h14, hM⟩ := bnd_i hM
        refine x_callV (As := [.int (σ 7 (Int32.toNatClampNeg x3)), .int 2]) (rest := [.int (31 * z13)]) hA ⟨hx, hb, hml, hown, hts⟩ (tX7_of l D cA ad hJ (σ 7 (Int32.toNatClampNeg x3)) 2 σ _ _ h14) (cwV 2 hts gX7_digest_X7_of rfl rfl rfl (by decide +kernel) ⟨(Nat.le_of_ble_eq_true rfl), (Nat.le_of_ble_eq_true rfl)⟩) hK hP hS KM_obj rfl rfl hl.1 rfl (Nat.le_of_ble_eq_true rfl) ⟨Nat.zero_le _, Nat.zero_le _⟩ dX7_digest_80 (fun H locs hP hS _ _ => ?_)
        refine lv_iadd hx hb dX7_digest_83 ?_
        refine lv_istore_n (lv' := [(2, .int ((31 * z13) + r16)), (4, .int (σ 7 (Int32.toNatClampNeg x3))), (0, .ref (ad 0)), (3, .int x3)]) hx hb dX7_digest_84 rfl hl (by decide) rfl (fun ls hl => ?_)
        refine lv_iconst (v := 0) hx hb dX7_digest_85 (by decide) ?_
        refine lv_istore (lv' := [(5, .int 0), (2, .int ((31 * z13) + r16)), (4, .int (σ 7 (Int32.toNatClampNeg x3))), (0, .ref (ad 0)), (3, .int x3)]) hx hb dX7_digest_86 hl (by decide) rfl (fun ls hl => ?_)
        exact L88 fu _ _ _ _ _ _ _ _ hM hP hS (lv_sub hl [3, 1, 4, 2, 0] rfl)
  unfold mX7_digest at hM
  refine lv_aload_n hx hb dX7_digest_0 rfl (lv_at hl 0 rfl) ?_
  refine lv_iload_n hx hb dX7_digest_1 rfl (lv_at hl 1 rfl) ?_
  obtain ⟨r19, σ18, h17, hM⟩ := bnd_i hM
  refine x_callV (As := [.int u1]) (rest := []) hA ⟨hx, hb, hml, hown, hts⟩ (tX7_isSite l D cA ad hJ u1 σ _ _ h17) (cwV 1 hts gX7_digest_X7_isSite rfl rfl rfl (by decide +kernel) ⟨(Nat.le_of_ble_eq_true rfl), (Nat.le_of_ble_eq_true rfl)⟩) hK hP hS KM_obj rfl rfl hl.1 rfl (Nat.le_of_ble_eq_true rfl) ⟨Nat.zero_le _, Nat.zero_le _⟩ dX7_digest_2 (fun H locs hP hS _ _ => ?_)
  refine lv_if_ne (tgt := 10) hx hb dX7_digest_5 (by decide) (fun c20 => ?_) (fun c20 => ?_)
  · have hM := (if_neg c20).symm.trans hM
    refine lv_aload_n hx hb dX7_digest_10 rfl (lv_at hl 0 rfl) ?_
    refine lv_iload_n hx hb dX7_digest_11 rfl (lv_at hl 1 rfl) ?_
    obtain ⟨σ22, h21, hM⟩ := bnv_i hM
    refine x_callVv (As := [.int u1]) (rest := []) hA ⟨hx, hb, hml, hown, hts⟩ (tX7_workOut l D cA ad hJ u1 σ18 _ h21) (cwV 1 hts gX7_digest_X7_workOut rfl rfl rfl (by decide +kernel) ⟨(Nat.le_of_ble_eq_true rfl), (Nat.le_of_ble_eq_true rfl)⟩) hK hP hS KM_obj rfl rfl hl.1 rfl (Nat.le_of_ble_eq_true rfl) ⟨Nat.zero_le _, Nat.zero_le _⟩ dX7_digest_12 (fun H locs hP hS _ _ => ?_)
    refine lv_bipush (v := 17) hx hb dX7_digest_15 (by decide) ?_
    refine lv_istore_n (lv' := [(2, .int 17), (0, .ref (ad 0)), (1, .int u1)]) hx hb dX7_digest_17 rfl hl (by decide) rfl (fun ls hl => ?_)
    refine lv_iconst (v := 0) hx hb dX7_digest_18 (by decide) ?_
    refine lv_istore_n (lv' := [(3, .int 0), (2, .int 17), (0, .ref (ad 0)), (1, .int u1)]) hx hb dX7_digest_19 rfl hl (by decide) rfl (fun ls hl => ?_)
    exact L20 fu _ _ _ _ _ _ hM hP hS (lv_sub hl [2, 1, 0] rfl)
  · have hM := (if_pos c20).symm.trans hM
    refine lv_iconst (v := 0) hx hb dX7_digest_8 (by decide) ?_
    exact x_iret hx hb hr hlk hP hS hM dX7_digest_9
theorem hinX7_X7_doShowSame : ∀ w ∈ u_ws RX7 TX7 14, w ∈ wsX7_doShowSame := by decide +kernel
set_option maxHeartbeats 4000000 in
set_option maxRecDepth 100000 in
theorem tX7_doShowSame (l : Launch) (D : va_G) (cA : ClassId) (ad : Nat → Nat) (hJ : w_J ad KM) (u1 u2 : Int32) (σ σ' : St) (r : Int32) (hM : mX7_doShowSame u1 u2 σ = some (r, σ')) : Ct l yX7_doShowSame wsX7_doShowSame 5 118 D cA ad KM [.ref (ad 0), .int u1, .int u2] σ r σ' := by
  unfold Ct
  refine Met_of (cc := cX7_doShowSame) (maxL := 6) (ret := (some .boolean)) hJ (by decide +kernel) rfl (Nat.le_of_ble_eq_true rfl) ?_
  intro p e s m below meth c Z H locs ls hP hS hl
  obtain ⟨hx, hb, hml, hown, hts, hr, hlk, hK, -⟩ := Z
  have hown : s.vm.findClass RX7 = some m.cls := hown
  have hl : lv_has ls 6 [(0, .ref (ad 0)), (1, .int u1), (2, .int u2)] := hl
  have hA : ∀ q, w_A ad KM q → w_A ad KM q := fun _ h => h
  have L76 : ∀ (n : Nat) (x3 x4 x5 : Int32) (σ : St) (H : Heap) (locs : List Loc) (ls : Array Slot), mX7_doShowSame_L76 n x3 x4 x5 σ = some (r, σ') → w_P D cA ad KM σ H → va_S (w_A ad KM) s.heap H locs → lv_has ls 6 [(0, .ref (ad 0)), (3, .int x3), (4, .int x4), (5, .int x5)] → Wm p l e wsX7_doShowSame 5 118 s m ([.ref (ad 0), .int u1, .int u2] : List Value).toArray below meth c (w_Qi D cA ad KM r σ') (w_A ad KM) H locs (F0 m 76 ls []) := by
    intro n76
    induction n76 with
    | zero =>
      intro x3 x4 x5 σ H locs ls hM hP hS hl
      rw [mX7_doShowSame_L76] at hM
      cases hM
    | succ n76 ih76 =>
      intro x3 x4 x5 σ H locs ls hM hP hS hl
      rw [mX7_doShowSame_L76] at hM
      refine lv_iload hx hb dX7_doShowSame_76 (lv_at hl 3 rfl) ?_
      refine lv_iload_n hx hb dX7_doShowSame_78 rfl (lv_at hl 1 rfl) ?_
      refine lv_icmp_ge (tgt := 134) hx hb dX7_doShowSame_79 (by decide) (fun c1 => ?_) (fun c1 => ?_)
      · have hM := (if_pos c1).symm.trans hM
        refine lv_iload hx hb dX7_doShowSame_134 (lv_at hl 2 rfl) ?_
        exact x_zret hx hb hr hlk hP hS hM dX7_doShowSame_136
      · have hM := (if_neg c1).symm.trans hM
        refine lv_iload hx hb dX7_doShowSame_82 (lv_at hl 2 rfl) ?_
        refine lv_if_eq (tgt := 134) hx hb dX7_doShowSame_84 (by decide) (fun c2 => ?_) (fun c2 => ?_)
        · have hM := (if_pos c2).symm.trans hM
          refine lv_iload hx hb dX7_doShowSame_134 (lv_at hl 2 rfl) ?_
          exact x_zret hx hb hr hlk hP hS hM dX7_doShowSame_136
        · have hM := (if_neg c2).symm.trans hM
          refine lv_aload_n hx hb dX7_doShowSame_87 rfl (lv_at hl 0 rfl) ?_
          refine x_getr (own := RX7) (C := RX7) (T := TX7) (N := 14) hx hb hts hinX7_X7_doShowSame hown hK hP KM_obj rfl 8 (by decide) (hts (.fieldLink RX7 35 "StrokeBoardModel" "board" "[I") (by decide +kernel)) rfl dX7_doShowSame_88 ?_
          refine lv_iload hx hb dX7_doShowSame_91 (lv_at hl 3 rfl) ?_
          obtain ⟨h3, hM⟩ := ix_i hM
          refine x_iald hx hb hK hP rfl h3 dX7_doShowSame_93 ?_
          refine lv_aload_n hx hb dX7_doShowSame_94 rfl (lv_at hl 0 rfl) ?_
          refine x_getr (own := RX7) (C := RX7) (T := TX7) (N := 14) hx hb hts hinX7_X7_doShowSame hown hK hP KM_obj rfl 11 (by decide) (hts (.fieldLink RX7 41 "StrokeBoardModel" "otherBoard" "[I") (by decide +kernel)) rfl dX7_doShowSame_95 ?_
          refine lv_iload hx hb dX7_doShowSame_98 (lv_at hl 3 rfl) ?_
          obtain ⟨h4, hM⟩ := ix_i hM
          refine x_iald hx hb hK hP rfl h4 dX7_doShowSame_100 ?_
          refine lv_icmp_ne (tgt := 125) hx hb dX7_doShowSame_101 (by decide) (fun c5 => ?_) (fun c5 => ?_)
          · have hM := (if_neg c5).symm.trans hM
            refine lv_iconst (v := 0) hx hb dX7_doShowSame_125 (by decide) ?_
            refine lv_istore (lv' := [(4, .int 0), (0, .ref (ad 0)), (3, .int x3), (5, .int x5)]) hx hb dX7_doShowSame_126 hl (by decide) rfl (fun ls hl => ?_)
            refine lv_iinc (v := (x5 + 1)) (lv' := [(5, .int (x5 + 1)), (4, .int 0), (0, .ref (ad 0)), (3, .int x3)]) hx hb dX7_doShowSame_128 hl (k := 3) rfl rfl (by decide) rfl (fun ls hl => ?_)
            refine lv_goto (tgt := 76) hx hb dX7_doShowSame_131 (by decide) ?_
            exact ih76 _ _ _ _ _ _ _ hM hP hS (lv_sub hl [2, 3, 1, 0] rfl)
          · have hM := (if_pos c5).symm.trans hM
            refine lv_aload_n hx hb dX7_doShowSame_104 rfl (lv_at hl 0 rfl) ?_
            refine x_getr (own := RX7) (C := RX7) (T := TX7) (N := 14) hx hb hts hinX7_X7_doShowSame hown hK hP KM_obj rfl 9 (by decide) (hts (.fieldLink RX7 38 "StrokeBoardModel" "layers" "[I") (by decide +kernel)) rfl dX7_doShowSame_105 ?_
            refine lv_iload hx hb dX7_doShowSame_108 (lv_at hl 3 rfl) ?_
            obtain ⟨h6, hM⟩ := ix_i hM
            refine x_iald hx hb hK hP rfl h6 dX7_doShowSame_110 ?_
            refine lv_aload_n hx hb dX7_doShowSame_111 rfl (lv_at hl 0 rfl) ?_
            refine x_getr (own := RX7) (C := RX7) (T := TX7) (N := 14) hx hb hts hinX7_X7_doShowSame hown hK hP KM_obj rfl 12 (by decide) (hts (.fieldLink RX7 44 "StrokeBoardModel" "otherLayers" "[I") (by decide +kernel)) rfl dX7_doShowSame_112 ?_
            refine lv_iload hx hb dX7_doShowSame_115 (lv_at hl 3 rfl) ?_
            obtain ⟨h7, hM⟩ := ix_i hM
            refine x_iald hx hb hK hP rfl h7 dX7_doShowSame_117 ?_
            refine lv_icmp_ne (tgt := 125) hx hb dX7_doShowSame_118 (by decide) (fun c8 => ?_) (fun c8 => ?_)
            · have hM := (if_neg c8).symm.trans hM
              refine lv_iconst (v := 0) hx hb dX7_doShowSame_125 (by decide) ?_
              refine lv_istore (lv' := [(4, .int 0), (0, .ref (ad 0)), (3, .int x3), (5, .int x5)]) hx hb dX7_doShowSame_126 hl (by decide) rfl (fun ls hl => ?_)
              refine lv_iinc (v := (x5 + 1)) (lv' := [(5, .int (x5 + 1)), (4, .int 0), (0, .ref (ad 0)), (3, .int x3)]) hx hb dX7_doShowSame_128 hl (k := 3) rfl rfl (by decide) rfl (fun ls hl => ?_)
              refine lv_goto (tgt := 76) hx hb dX7_doShowSame_131 (by decide) ?_
              exact ih76 _ _ _ _ _ _ _ hM hP hS (lv_sub hl [2, 3, 1, 0] rfl)
            · have hM := (if_pos c8).symm.trans hM
              refine lv_iconst (v := 1) hx hb dX7_doShowSame_121 (by decide) ?_
              refine lv_goto (tgt := 126) hx hb dX7_doShowSame_122 (by decide) ?_
              refine lv_istore (lv' := [(4, .int 1), (0, .ref (ad 0)), (3, .int x3), (5, .int x5)]) hx hb dX7_doShowSame_126 hl (by decide) rfl (fun ls hl => ?_)
              refine lv_iinc (v := (x5 + 1)) (lv' := [(5, .int (x5 + 1)), (4, .int 1), (0, .ref (ad 0)), (3, .int x3)]) hx hb dX7_doShowSame_128 hl (k := 3) rfl rfl (by decide) rfl (fun ls hl => ?_)
              refine lv_goto (tgt := 76) hx hb dX7_doShowSame_131 (by decide) ?_
              exact ih76 _ _ _ _ _ _ _ hM hP hS (lv_sub hl [2, 3, 1, 0] rfl)
  have b53 : ∀ (x2 x3 : Int32) (σ : St) (H : Heap) (locs : List Loc) (ls : Array Slot), mX7_doShowSame_b53 x2 x3 σ = some (r, σ') → w_P D cA ad KM σ H → va_S (w_A ad KM) s.heap H locs → lv_has ls 6 [(0, .ref (ad 0)), (2, .int x2), (3, .int x3)] → Wm p l e wsX7_doShowSame 5 118 s m ([.ref (ad 0), .int u1, .int u2] : List Value).toArray below meth c (w_Qi D cA ad KM r σ') (w_A ad KM) H locs (F0 m 53 ls []) := by
    intro x2 x3 σ H locs ls hM hP hS hl
    unfold mX7_doShowSame_b53 at hM
    refine lv_aload_n hx hb dX7_doShowSame_53 rfl (lv_at hl 0 rfl) ?_
    refine lv_iload_n hx hb dX7_doShowSame_54 rfl (lv_at hl 1 rfl) ?_
    obtain ⟨σ10, h9, hM⟩ := bnv_i hM
    refine x_callVv (As := [.int x2]) (rest := []) hA ⟨hx, hb, hml, hown, hts⟩ (tX7_workOut l D cA ad hJ x2 σ _ h9) (cwV 1 hts gX7_doShowSame_X7_workOut rfl rfl rfl (by decide +kernel) ⟨(Nat.le_of_ble_eq_true rfl), (Nat.le_of_ble_eq_true rfl)⟩) hK hP hS KM_obj rfl rfl hl.1 rfl (Nat.le_of_ble_eq_true rfl) ⟨Nat.zero_le _, Nat.zero_le _⟩ dX7_doShowSame_55 (fun H locs hP hS _ _ => ?_)
    refine lv_iload_n hx hb dX7_doShowSame_58 rfl (lv_at hl 2 rfl) ?_
    refine lv_aload_n hx hb dX7_doShowSame_59 rfl (lv_at hl 0 rfl) ?_
    refine x_geti (own := RX7) (C := RX7) (T := TX7) (N := 14) hx hb hts hinX7_X7_doShowSame hown hK hP KM_obj rfl 10 (by decide) (hts (.fieldLink RX7 80 "StrokeBoardModel" "boardMany" "I") (by decide +kernel)) rfl dX7_doShowSame_60 ?_
    refine lv_icmp_ne (tgt := 70) hx hb dX7_doShowSame_63 (by decide) (fun c11 => ?_) (fun c11 => ?_)
    · have hM := (if_neg c11).symm.trans hM
      refine lv_iconst (v := 0) hx hb dX7_doShowSame_70 (by decide) ?_
      refine lv_istore (lv' := [(4, .int 0), (0, .ref (ad 0)), (2, .int x2), (3, .int x3)]) hx hb dX7_doShowSame_71 hl (by decide) rfl (fun ls hl => ?_)
      refine lv_iconst (v := 0) hx hb dX7_doShowSame_73 (by decide) ?_
      refine lv_istore (lv' := [(5, .int 0), (4, .int 0), (0, .ref (ad 0)), (2, .int x2), (3, .int x3)]) hx hb dX7_doShowSame_74 hl (by decide) rfl (fun ls hl => ?_)
      exact L76 fu _ _ _ _ _ _ _ hM hP hS (lv_sub hl [2, 4, 1, 0] rfl)
    · have hM := (if_pos c11).symm.trans hM
      refine lv_iconst (v := 1) hx hb dX7_doShowSame_66 (by decide) ?_
      refine lv_goto (tgt := 71) hx hb dX7_doShowSame_67 (by decide) ?_
      refine lv_istore (lv' := [(4, .int 1), (0, .ref (ad 0)), (2, .int x2), (3, .int x3)]) hx hb dX7_doShowSame_71 hl (by decide) rfl (fun ls hl => ?_)
      refine lv_iconst (v := 0) hx hb dX7_doShowSame_73 (by decide) ?_
      refine lv_istore (lv' := [(5, .int 0), (4, .int 1), (0, .ref (ad 0)), (2, .int x2), (3, .int x3)]) hx hb dX7_doShowSame_74 hl (by decide) rfl (fun ls hl => ?_)
      exact L76 fu _ _ _ _ _ _ _ hM hP hS (lv_sub hl [2, 4, 1, 0] rfl)
  have L13 : ∀ (n : Nat) (x2 x3 x4 : Int32) (σ : St) (H : Heap) (locs : List Loc) (ls : Array Slot), mX7_doShowSame_L13 n x2 x3 x4 σ = some (r, σ') → w_P D cA ad KM σ H → va_S (w_A ad KM) s.heap H locs → lv_has ls 6 [(0, .ref (ad 0)), (2, .int x2), (3, .int x3), (4, .int x4)] → Wm p l e wsX7_doShowSame 5 118 s m ([.ref (ad 0), .int u1, .int u2] : List Value).toArray below meth c (w_Qi D cA ad KM r σ') (w_A ad KM) H locs (F0 m 13 ls []) := by
    intro n13
    induction n13 with
    | zero =>
      intro x2 x3 x4 σ H locs ls hM hP hS hl
      rw [mX7_doShowSame_L13] at hM
      cases hM
    | succ n13 ih13 =>
      intro x2 x3 x4 σ H locs ls hM hP hS hl
      rw [mX7_doShowSame_L13] at hM
      refine lv_iload hx hb dX7_doShowSame_13 (lv_at hl 3 rfl) ?_
      refine lv_iload_n hx hb dX7_doShowSame_15 rfl (lv_at hl 2 rfl) ?_
      refine lv_icmp_ge (tgt := 53) hx hb dX7_doShowSame_16 (by decide) (fun c12 => ?_) (fun c12 => ?_)
      · have hM := (if_pos c12).symm.trans hM
        exact b53 _ _ _ _ _ _ hM hP hS (lv_sub hl [0, 1, 2] rfl)
      · have hM := (if_neg c12).symm.trans hM
        refine lv_aload_n hx hb dX7_doShowSame_19 rfl (lv_at hl 0 rfl) ?_
        refine x_getr (own := RX7) (C := RX7) (T := TX7) (N := 14) hx hb hts hinX7_X7_doShowSame hown hK hP KM_obj rfl 11 (by decide) (hts (.fieldLink RX7 41 "StrokeBoardModel" "otherBoard" "[I") (by decide +kernel)) rfl dX7_doShowSame_20 ?_
        refine lv_iload hx hb dX7_doShowSame_23 (lv_at hl 3 rfl) ?_
        refine lv_aload_n hx hb dX7_doShowSame_25 rfl (lv_at hl 0 rfl) ?_
        refine x_getr (own := RX7) (C := RX7) (T := TX7) (N := 14) hx hb hts hinX7_X7_doShowSame hown hK hP KM_obj rfl 8 (by decide) (hts (.fieldLink RX7 35 "StrokeBoardModel" "board" "[I") (by decide +kernel)) rfl dX7_doShowSame_26 ?_
        refine lv_iload hx hb dX7_doShowSame_29 (lv_at hl 3 rfl) ?_
        obtain ⟨h13, hM⟩ := ix_i hM
        refine x_iald hx hb hK hP rfl h13 dX7_doShowSame_31 ?_
        obtain ⟨h14, hM⟩ := ix_i hM
        refine x_iast hx hb KM_ok hJ hK hP hS rfl h14 dX7_doShowSame_32 (fun H locs hP hS => ?_)
        obtain ⟨σ15, eσ15, hM⟩ := lts_i hM
        rw [← eσ15] at hP
        refine lv_aload_n hx hb dX7_doShowSame_33 rfl (lv_at hl 0 rfl) ?_
        refine x_getr (own := RX7) (C := RX7) (T := TX7) (N := 14) hx hb hts hinX7_X7_doShowSame hown hK hP KM_obj rfl 12 (by decide) (hts (.fieldLink RX7 44 "StrokeBoardModel" "otherLayers" "[I") (by decide +kernel)) rfl dX7_doShowSame_34 ?_
        refine lv_iload hx hb dX7_doShowSame_37 (lv_at hl 3 rfl) ?_
        refine lv_aload_n hx hb dX7_doShowSame_39 rfl (lv_at hl 0 rfl) ?_
        refine x_getr (own := RX7) (C := RX7) (T := TX7) (N := 14) hx hb hts hinX7_X7_doShowSame hown hK hP KM_obj rfl 9 (by decide) (hts (.fieldLink RX7 38 "StrokeBoardModel" "layers" "[I") (by decide +kernel)) rfl dX7_doShowSame_40 ?_
        refine lv_iload hx hb dX7_doShowSame_43 (lv_at hl 3 rfl) ?_
        obtain ⟨h16, hM⟩ := ix_i hM
        refine x_iald hx hb hK hP rfl h16 dX7_doShowSame_45 ?_
        obtain ⟨h17, hM⟩ := ix_i hM
        refine x_iast hx hb KM_ok hJ hK hP hS rfl h17 dX7_doShowSame_46 (fun H locs hP hS => ?_)
        obtain ⟨σ18, eσ18, hM⟩ := lts_i hM
        rw [← eσ18] at hP
        refine lv_iinc (v := (x4 + 1)) (lv' := [(4, .int (x4 + 1)), (0, .ref (ad 0)), (2, .int x2), (3, .int x3)]) hx hb dX7_doShowSame_47 hl (k := 3) rfl rfl (by decide) rfl (fun ls hl => ?_)
        refine lv_goto (tgt := 13) hx hb dX7_doShowSame_50 (by decide) ?_
        exact ih13 _ _ _ _ _ _ _ hM hP hS (lv_sub hl [1, 2, 3, 0] rfl)
  unfold mX7_doShowSame at hM
  refine lv_aload_n hx hb dX7_doShowSame_0 rfl (lv_at hl 0 rfl) ?_
  refine lv_iload_n hx hb dX7_doShowSame_1 rfl (lv_at hl 1 rfl) ?_
  obtain ⟨σ20, h19, hM⟩ := bnv_i hM
  refine x_callVv (As := [.int u1]) (rest := []) hA ⟨hx, hb, hml, hown, hts⟩ (tX7_workOut l D cA ad hJ u1 σ _ h19) (cwV 1 hts gX7_doShowSame_X7_workOut rfl rfl rfl (by decide +kernel) ⟨(Nat.le_of_ble_eq_true rfl), (Nat.le_of_ble_eq_true rfl)⟩) hK hP hS KM_obj rfl rfl hl.1 rfl (Nat.le_of_ble_eq_true rfl) ⟨Nat.zero_le _, Nat.zero_le _⟩ dX7_doShowSame_2 (fun H locs hP hS _ _ => ?_)
  refine lv_aload_n hx hb dX7_doShowSame_5 rfl (lv_at hl 0 rfl) ?_
  refine x_geti (own := RX7) (C := RX7) (T := TX7) (N := 14) hx hb hts hinX7_X7_doShowSame hown hK hP KM_obj rfl 10 (by decide) (hts (.fieldLink RX7 80 "StrokeBoardModel" "boardMany" "I") (by decide +kernel)) rfl dX7_doShowSame_6 ?_
  refine lv_istore_n (lv' := [(3, .int (σ20 13 0)), (0, .ref (ad 0)), (1, .int u1), (2, .int u2)]) hx hb dX7_doShowSame_9 rfl hl (by decide) rfl (fun ls hl => ?_)
  refine lv_iconst (v := 0) hx hb dX7_doShowSame_10 (by decide) ?_
  refine lv_istore (lv' := [(4, .int 0), (3, .int (σ20 13 0)), (0, .ref (ad 0)), (1, .int u1), (2, .int u2)]) hx hb dX7_doShowSame_11 hl (by decide) rfl (fun ls hl => ?_)
  exact L13 fu _ _ _ _ _ _ _ hM hP hS (lv_sub hl [2, 4, 1, 0] rfl)
set_option maxHeartbeats 4000000 in
set_option maxRecDepth 100000 in
theorem tX7_areSame (l : Launch) (D : va_G) (cA : ClassId) (ad : Nat → Nat) (hJ : w_J ad KM) (u1 u2 : Int32) (σ σ' : St) (r : Int32) (hM : mX7_areSame u1 u2 σ = some (r, σ')) : Ct l yX7_areSame wsX7_areSame 6 143 D cA ad KM [.ref (ad 0), .int u1, .int u2] σ r σ' := by
  unfold Ct
  refine Met_of (cc := cX7_areSame) (maxL := 3) (ret := (some .int)) hJ (by decide +kernel) rfl (Nat.le_of_ble_eq_true rfl) ?_
  intro p e s m below meth c Z H locs ls hP hS hl
  obtain ⟨hx, hb, hml, hown, hts, hr, hlk, hK, -⟩ := Z
  have hown : s.vm.findClass RX7 = some m.cls := hown
  have hl : lv_has ls 3 [(0, .ref (ad 0)), (1, .int u1), (2, .int u2)] := hl
  have hA : ∀ q, w_A ad KM q → w_A ad KM q := fun _ h => h
  unfold mX7_areSame at hM
  refine lv_aload_n hx hb dX7_areSame_0 rfl (lv_at hl 0 rfl) ?_
  refine lv_iload_n hx hb dX7_areSame_1 rfl (lv_at hl 1 rfl) ?_
  obtain ⟨r3, σ2, h1, hM⟩ := bnd_i hM
  refine x_callV (As := [.int u1]) (rest := []) hA ⟨hx, hb, hml, hown, hts⟩ (tX7_isSite l D cA ad hJ u1 σ _ _ h1) (cwV 1 hts gX7_areSame_X7_isSite rfl rfl rfl (by decide +kernel) ⟨(Nat.le_of_ble_eq_true rfl), (Nat.le_of_ble_eq_true rfl)⟩) hK hP hS KM_obj rfl rfl hl.1 rfl (Nat.le_of_ble_eq_true rfl) ⟨Nat.zero_le _, Nat.zero_le _⟩ dX7_areSame_2 (fun H locs hP hS _ _ => ?_)
  refine lv_if_eq (tgt := 16) hx hb dX7_areSame_5 (by decide) (fun c4 => ?_) (fun c4 => ?_)
  · have hM := (if_pos c4).symm.trans hM
    refine lv_ldc (own := RX7) (v := (-1000000001)) hx hb hown (hts (.constant RX7 89 (-1000000001)) (by decide +kernel)) dX7_areSame_16 ?_
    exact x_iret hx hb hr hlk hP hS hM dX7_areSame_18
  · have hM := (if_neg c4).symm.trans hM
    refine lv_aload_n hx hb dX7_areSame_8 rfl (lv_at hl 0 rfl) ?_
    refine lv_iload_n hx hb dX7_areSame_9 rfl (lv_at hl 2 rfl) ?_
    obtain ⟨r7, σ6, h5, hM⟩ := bnd_i hM
    refine x_callV (As := [.int u2]) (rest := []) hA ⟨hx, hb, hml, hown, hts⟩ (tX7_isSite l D cA ad hJ u2 σ2 _ _ h5) (cwV 1 hts gX7_areSame_X7_isSite rfl rfl rfl (by decide +kernel) ⟨(Nat.le_of_ble_eq_true rfl), (Nat.le_of_ble_eq_true rfl)⟩) hK hP hS KM_obj rfl rfl hl.1 rfl (Nat.le_of_ble_eq_true rfl) ⟨Nat.zero_le _, Nat.zero_le _⟩ dX7_areSame_10 (fun H locs hP hS _ _ => ?_)
    refine lv_if_ne (tgt := 19) hx hb dX7_areSame_13 (by decide) (fun c8 => ?_) (fun c8 => ?_)
    · have hM := (if_neg c8).symm.trans hM
      refine lv_aload_n hx hb dX7_areSame_19 rfl (lv_at hl 0 rfl) ?_
      refine lv_iload_n hx hb dX7_areSame_20 rfl (lv_at hl 1 rfl) ?_
      refine lv_iload_n hx hb dX7_areSame_21 rfl (lv_at hl 2 rfl) ?_
      obtain ⟨r11, σ10, h9, hM⟩ := bnd_i hM
      refine x_callV (As := [.int u1, .int u2]) (rest := []) hA ⟨hx, hb, hml, hown, hts⟩ (tX7_doShowSame l D cA ad hJ u1 u2 σ6 _ _ h9) (cwV 2 hts gX7_areSame_X7_doShowSame rfl rfl rfl (by decide +kernel) ⟨(Nat.le_of_ble_eq_true rfl), (Nat.le_of_ble_eq_true rfl)⟩) hK hP hS KM_obj rfl rfl hl.1 rfl (Nat.le_of_ble_eq_true rfl) ⟨Nat.zero_le _, Nat.zero_le _⟩ dX7_areSame_22 (fun H locs hP hS _ _ => ?_)
      refine lv_if_eq (tgt := 32) hx hb dX7_areSame_25 (by decide) (fun c12 => ?_) (fun c12 => ?_)
      · have hM := (if_pos c12).symm.trans hM
        refine lv_iconst (v := 0) hx hb dX7_areSame_32 (by decide) ?_
        exact x_iret hx hb hr hlk hP hS hM dX7_areSame_33
      · have hM := (if_neg c12).symm.trans hM
        refine lv_iconst (v := 1) hx hb dX7_areSame_28 (by decide) ?_
        refine lv_goto (tgt := 33) hx hb dX7_areSame_29 (by decide) ?_
        exact x_iret hx hb hr hlk hP hS hM dX7_areSame_33
    · have hM := (if_pos c8).symm.trans hM
      refine lv_ldc (own := RX7) (v := (-1000000001)) hx hb hown (hts (.constant RX7 89 (-1000000001)) (by decide +kernel)) dX7_areSame_16 ?_
      exact x_iret hx hb hr hlk hP hS hM dX7_areSame_18
theorem hinX7_X7_differing : ∀ w ∈ u_ws RX7 TX7 14, w ∈ wsX7_differing := by decide +kernel
set_option maxHeartbeats 4000000 in
set_option maxRecDepth 100000 in
theorem tX7_differing (l : Launch) (D : va_G) (cA : ClassId) (ad : Nat → Nat) (hJ : w_J ad KM) (σ σ' : St) (r : Int32) (hM : mX7_differing σ = some (r, σ')) : Ct l yX7_differing wsX7_differing 6 143 D cA ad KM [.ref (ad 0)] σ r σ' := by
  unfold Ct
  refine Met_of (cc := cX7_differing) (maxL := 4) (ret := (some .int)) hJ (by decide +kernel) rfl (Nat.le_of_ble_eq_true rfl) ?_
  intro p e s m below meth c Z H locs ls hP hS hl
  obtain ⟨hx, hb, hml, hown, hts, hr, hlk, hK, -⟩ := Z
  have hown : s.vm.findClass RX7 = some m.cls := hown
  have hl : lv_has ls 4 [(0, .ref (ad 0))] := hl
  have hA : ∀ q, w_A ad KM q → w_A ad KM q := fun _ h => h
  have L144 : ∀ (n : Nat) (x1 x2 : Int32) (σ : St) (H : Heap) (locs : List Loc) (ls : Array Slot), mX7_differing_L144 n x1 x2 σ = some (r, σ') → w_P D cA ad KM σ H → va_S (w_A ad KM) s.heap H locs → lv_has ls 4 [(0, .ref (ad 0)), (1, .int x1), (2, .int x2)] → Wm p l e wsX7_differing 6 143 s m ([.ref (ad 0)] : List Value).toArray below meth c (w_Qi D cA ad KM r σ') (w_A ad KM) H locs (F0 m 144 ls []) := by
    intro n144
    induction n144 with
    | zero =>
      intro x1 x2 σ H locs ls hM hP hS hl
      rw [mX7_differing_L144] at hM
      cases hM
    | succ n144 ih144 =>
      intro x1 x2 σ H locs ls hM hP hS hl
      rw [mX7_differing_L144] at hM
      refine lv_iload_n hx hb dX7_differing_144 rfl (lv_at hl 2 rfl) ?_
      refine lv_sipush (v := 500) hx hb dX7_differing_145 (by decide) ?_
      refine lv_icmp_ge (tgt := 169) hx hb dX7_differing_148 (by decide) (fun c1 => ?_) (fun c1 => ?_)
      · have hM := (if_pos c1).symm.trans hM
        refine lv_iload_n hx hb dX7_differing_169 rfl (lv_at hl 1 rfl) ?_
        exact x_iret hx hb hr hlk hP hS hM dX7_differing_170
      · have hM := (if_neg c1).symm.trans hM
        refine lv_aload_n hx hb dX7_differing_151 rfl (lv_at hl 0 rfl) ?_
        refine x_getr (own := RX7) (C := RX7) (T := TX7) (N := 14) hx hb hts hinX7_X7_differing hown hK hP KM_obj rfl 4 (by decide) (hts (.fieldLink RX7 23 "StrokeBoardModel" "known" "[I") (by decide +kernel)) rfl dX7_differing_152 ?_
        refine lv_iload_n hx hb dX7_differing_155 rfl (lv_at hl 2 rfl) ?_
        refine lv_aload_n hx hb dX7_differing_156 rfl (lv_at hl 0 rfl) ?_
        refine x_getr (own := RX7) (C := RX7) (T := TX7) (N := 14) hx hb hts hinX7_X7_differing hown hK hP KM_obj rfl 13 (by decide) (hts (.fieldLink RX7 47 "StrokeBoardModel" "aside" "[I") (by decide +kernel)) rfl dX7_differing_157 ?_
        refine lv_iload_n hx hb dX7_differing_160 rfl (lv_at hl 2 rfl) ?_
        obtain ⟨h2, hM⟩ := ix_i hM
        refine x_iald hx hb hK hP rfl h2 dX7_differing_161 ?_
        obtain ⟨h3, hM⟩ := ix_i hM
        refine x_iast hx hb KM_ok hJ hK hP hS rfl h3 dX7_differing_162 (fun H locs hP hS => ?_)
        obtain ⟨σ4, eσ4, hM⟩ := lts_i hM
        rw [← eσ4] at hP
        refine lv_iinc (v := (x2 + 1)) (lv' := [(2, .int (x2 + 1)), (0, .ref (ad 0)), (1, .int x1)]) hx hb dX7_differing_163 hl (k := 2) rfl rfl (by decide) rfl (fun ls hl => ?_)
        refine lv_goto (tgt := 144) hx hb dX7_differing_166 (by decide) ?_
        exact ih144 _ _ _ _ _ _ hM hP hS (lv_sub hl [1, 2, 0] rfl)
  have L93 : ∀ (n : Nat) (x1 x2 : Int32) (σ : St) (H : Heap) (locs : List Loc) (ls : Array Slot), mX7_differing_L93 n x1 x2 σ = some (r, σ') → w_P D cA ad KM σ H → va_S (w_A ad KM) s.heap H locs → lv_has ls 4 [(0, .ref (ad 0)), (1, .int x1), (2, .int x2)] → Wm p l e wsX7_differing 6 143 s m ([.ref (ad 0)] : List Value).toArray below meth c (w_Qi D cA ad KM r σ') (w_A ad KM) H locs (F0 m 93 ls []) := by
    intro n93
    induction n93 with
    | zero =>
      intro x1 x2 σ H locs ls hM hP hS hl
      rw [mX7_differing_L93] at hM
      cases hM
    | succ n93 ih93 =>
      have L105 : ∀ (n : Nat) (x1 x2 x3 : Int32) (σ : St) (H : Heap) (locs : List Loc) (ls : Array Slot), mX7_differing_L105 (mX7_differing_L93 n93) n x1 x2 x3 σ = some (r, σ') → w_P D cA ad KM σ H → va_S (w_A ad KM) s.heap H locs → lv_has ls 4 [(0, .ref (ad 0)), (1, .int x1), (2, .int x2), (3, .int x3)] → Wm p l e wsX7_differing 6 143 s m ([.ref (ad 0)] : List Value).toArray below meth c (w_Qi D cA ad KM r σ') (w_A ad KM) H locs (F0 m 105 ls []) := by
        intro n105
        induction n105 with
        | zero =>
          intro x1 x2 x3 σ H locs ls hM hP hS hl
          rw [mX7_differing_L105] at hM
          cases hM
        | succ n105 ih105 =>
          intro x1 x2 x3 σ H locs ls hM hP hS hl
          rw [mX7_differing_L105] at hM
          refine lv_iload_n hx hb dX7_differing_105 rfl (lv_at hl 3 rfl) ?_
          refine lv_aload_n hx hb dX7_differing_106 rfl (lv_at hl 0 rfl) ?_
          refine x_geti (own := RX7) (C := RX7) (T := TX7) (N := 14) hx hb hts hinX7_X7_differing hown hK hP KM_obj rfl 0 (by decide) (hts (.fieldLink RX7 7 "StrokeBoardModel" "sites" "I") (by decide +kernel)) rfl dX7_differing_107 ?_
          refine lv_icmp_ge (tgt := 136) hx hb dX7_differing_110 (by decide) (fun c5 => ?_) (fun c5 => ?_)
          · have hM := (if_pos c5).symm.trans hM
            refine lv_iinc (v := (x2 + 1)) (lv' := [(2, .int (x2 + 1)), (0, .ref (ad 0)), (1, .int x1), (3, .int x3)]) hx hb dX7_differing_136 hl (k := 2) rfl rfl (by decide) rfl (fun ls hl => ?_)
            refine lv_goto (tgt := 93) hx hb dX7_differing_139 (by decide) ?_
            exact ih93 _ _ _ _ _ _ hM hP hS (lv_sub hl [1, 2, 0] rfl)
          · have hM := (if_neg c5).symm.trans hM
            refine lv_iload_n hx hb dX7_differing_113 rfl (lv_at hl 1 rfl) ?_
            refine lv_aload_n hx hb dX7_differing_114 rfl (lv_at hl 0 rfl) ?_
            refine lv_iload_n hx hb dX7_differing_115 rfl (lv_at hl 2 rfl) ?_
            refine lv_iload_n hx hb dX7_differing_116 rfl (lv_at hl 3 rfl) ?_
            obtain ⟨r8, σ7, h6, hM⟩ := bnd_i hM
            refine x_callV (As := [.int x2, .int x3]) (rest := [.int x1]) hA ⟨hx, hb, hml, hown, hts⟩ (tX7_doShowSame l D cA ad hJ x2 x3 σ _ _ h6) (cwV 2 hts gX7_differing_X7_doShowSame rfl rfl rfl (by decide +kernel) ⟨(Nat.le_of_ble_eq_true rfl), (Nat.le_of_ble_eq_true rfl)⟩) hK hP hS KM_obj rfl rfl hl.1 rfl (Nat.le_of_ble_eq_true rfl) ⟨Nat.zero_le _, Nat.zero_le _⟩ dX7_differing_117 (fun H locs hP hS _ _ => ?_)
            refine lv_if_eq (tgt := 127) hx hb dX7_differing_120 (by decide) (fun c9 => ?_) (fun c9 => ?_)
            · have hM := (if_pos c9).symm.trans hM
              refine lv_iconst (v := 1) hx hb dX7_differing_127 (by decide) ?_
              refine lv_iadd hx hb dX7_differing_128 ?_
              refine lv_istore_n (lv' := [(1, .int (x1 + 1)), (0, .ref (ad 0)), (2, .int x2), (3, .int x3)]) hx hb dX7_differing_129 rfl hl (by decide) rfl (fun ls hl => ?_)
              refine lv_iinc (v := (x3 + 1)) (lv' := [(3, .int (x3 + 1)), (1, .int (x1 + 1)), (0, .ref (ad 0)), (2, .int x2)]) hx hb dX7_differing_130 hl (k := 3) rfl rfl (by decide) rfl (fun ls hl => ?_)
              refine lv_goto (tgt := 105) hx hb dX7_differing_133 (by decide) ?_
              exact ih105 _ _ _ _ _ _ _ hM hP hS (lv_sub hl [2, 1, 3, 0] rfl)
            · have hM := (if_neg c9).symm.trans hM
              refine lv_iconst (v := 0) hx hb dX7_differing_123 (by decide) ?_
              refine lv_goto (tgt := 128) hx hb dX7_differing_124 (by decide) ?_
              refine lv_iadd hx hb dX7_differing_128 ?_
              refine lv_istore_n (lv' := [(1, .int (x1 + 0)), (0, .ref (ad 0)), (2, .int x2), (3, .int x3)]) hx hb dX7_differing_129 rfl hl (by decide) rfl (fun ls hl => ?_)
              refine lv_iinc (v := (x3 + 1)) (lv' := [(3, .int (x3 + 1)), (1, .int (x1 + 0)), (0, .ref (ad 0)), (2, .int x2)]) hx hb dX7_differing_130 hl (k := 3) rfl rfl (by decide) rfl (fun ls hl => ?_)
              refine lv_goto (tgt := 105) hx hb dX7_differing_133 (by decide) ?_
              exact ih105 _ _ _ _ _ _ _ hM hP hS (lv_sub hl [2, 1, 3, 0] rfl)
      intro x1 x2 σ H locs ls hM hP hS hl
      rw [mX7_differing_L93] at hM
      refine lv_iload_n hx hb dX7_differing_93 rfl (lv_at hl 2 rfl) ?_
      refine lv_aload_n hx hb dX7_differing_94 rfl (lv_at hl 0 rfl) ?_
      refine x_geti (own := RX7) (C := RX7) (T := TX7) (N := 14) hx hb hts hinX7_X7_differing hown hK hP KM_obj rfl 0 (by decide) (hts (.fieldLink RX7 7 "StrokeBoardModel" "sites" "I") (by decide +kernel)) rfl dX7_differing_95 ?_
      refine lv_icmp_ge (tgt := 142) hx hb dX7_differing_98 (by decide) (fun c10 => ?_) (fun c10 => ?_)
      · have hM := (if_pos c10).symm.trans hM
        refine lv_iconst (v := 0) hx hb dX7_differing_142 (by decide) ?_
        refine lv_istore_n (lv' := [(2, .int 0), (0, .ref (ad 0)), (1, .int x1)]) hx hb dX7_differing_143 rfl hl (by decide) rfl (fun ls hl => ?_)
        exact L144 fu _ _ _ _ _ _ hM hP hS (lv_sub hl [1, 2, 0] rfl)
      · have hM := (if_neg c10).symm.trans hM
        refine lv_iload_n hx hb dX7_differing_101 rfl (lv_at hl 2 rfl) ?_
        refine lv_iconst (v := 1) hx hb dX7_differing_102 (by decide) ?_
        refine lv_iadd hx hb dX7_differing_103 ?_
        refine lv_istore_n (lv' := [(3, .int (x2 + 1)), (0, .ref (ad 0)), (1, .int x1), (2, .int x2)]) hx hb dX7_differing_104 rfl hl (by decide) rfl (fun ls hl => ?_)
        exact L105 fu _ _ _ _ _ _ _ hM hP hS (lv_sub hl [1, 2, 3, 0] rfl)
  have L29 : ∀ (n : Nat) (x1 : Int32) (σ : St) (H : Heap) (locs : List Loc) (ls : Array Slot), mX7_differing_L29 n x1 σ = some (r, σ') → w_P D cA ad KM σ H → va_S (w_A ad KM) s.heap H locs → lv_has ls 4 [(0, .ref (ad 0)), (1, .int x1)] → Wm p l e wsX7_differing 6 143 s m ([.ref (ad 0)] : List Value).toArray below meth c (w_Qi D cA ad KM r σ') (w_A ad KM) H locs (F0 m 29 ls []) := by
    intro n29
    induction n29 with
    | zero =>
      intro x1 σ H locs ls hM hP hS hl
      rw [mX7_differing_L29] at hM
      cases hM
    | succ n29 ih29 =>
      have L37 : ∀ (n : Nat) (x1 x2 : Int32) (σ : St) (H : Heap) (locs : List Loc) (ls : Array Slot), mX7_differing_L37 (mX7_differing_L29 n29) n x1 x2 σ = some (r, σ') → w_P D cA ad KM σ H → va_S (w_A ad KM) s.heap H locs → lv_has ls 4 [(0, .ref (ad 0)), (1, .int x1), (2, .int x2)] → Wm p l e wsX7_differing 6 143 s m ([.ref (ad 0)] : List Value).toArray below meth c (w_Qi D cA ad KM r σ') (w_A ad KM) H locs (F0 m 37 ls []) := by
        intro n37
        induction n37 with
        | zero =>
          intro x1 x2 σ H locs ls hM hP hS hl
          rw [mX7_differing_L37] at hM
          cases hM
        | succ n37 ih37 =>
          intro x1 x2 σ H locs ls hM hP hS hl
          rw [mX7_differing_L37] at hM
          refine lv_iload_n hx hb dX7_differing_37 rfl (lv_at hl 2 rfl) ?_
          refine lv_aload_n hx hb dX7_differing_38 rfl (lv_at hl 0 rfl) ?_
          refine x_getr (own := RX7) (C := RX7) (T := TX7) (N := 14) hx hb hts hinX7_X7_differing hown hK hP KM_obj rfl 7 (by decide) (hts (.fieldLink RX7 32 "StrokeBoardModel" "linkMany" "[I") (by decide +kernel)) rfl dX7_differing_39 ?_
          refine lv_iload_n hx hb dX7_differing_42 rfl (lv_at hl 1 rfl) ?_
          obtain ⟨h11, hM⟩ := ix_i hM
          refine x_iald hx hb hK hP rfl h11 dX7_differing_43 ?_
          refine lv_icmp_ge (tgt := 83) hx hb dX7_differing_44 (by decide) (fun c12 => ?_) (fun c12 => ?_)
          · have hM := (if_pos c12).symm.trans hM
            refine lv_iinc (v := (x1 + 1)) (lv' := [(1, .int (x1 + 1)), (0, .ref (ad 0)), (2, .int x2)]) hx hb dX7_differing_83 hl (k := 1) rfl rfl (by decide) rfl (fun ls hl => ?_)
            refine lv_goto (tgt := 29) hx hb dX7_differing_86 (by decide) ?_
            exact ih29 _ _ _ _ _ hM hP hS (lv_sub hl [1, 0] rfl)
          · have hM := (if_neg c12).symm.trans hM
            refine lv_aload_n hx hb dX7_differing_47 rfl (lv_at hl 0 rfl) ?_
            refine x_getr (own := RX7) (C := RX7) (T := TX7) (N := 14) hx hb hts hinX7_X7_differing hown hK hP KM_obj rfl 4 (by decide) (hts (.fieldLink RX7 23 "StrokeBoardModel" "known" "[I") (by decide +kernel)) rfl dX7_differing_48 ?_
            refine lv_bipush (v := 100) hx hb dX7_differing_51 (by decide) ?_
            refine lv_iload_n hx hb dX7_differing_53 rfl (lv_at hl 1 rfl) ?_
            refine lv_iconst (v := 5) hx hb dX7_differing_54 (by decide) ?_
            refine lv_irem hx hb dX7_differing_55 (by decide) ?_
            refine lv_imul hx hb dX7_differing_56 ?_
            refine lv_iload_n hx hb dX7_differing_57 rfl (lv_at hl 1 rfl) ?_
            refine lv_iconst (v := 5) hx hb dX7_differing_58 (by decide) ?_
            refine lv_idiv hx hb dX7_differing_59 (by decide) ?_
            refine lv_aload_n hx hb dX7_differing_60 rfl (lv_at hl 0 rfl) ?_
            refine x_getr (own := RX7) (C := RX7) (T := TX7) (N := 14) hx hb hts hinX7_X7_differing hown hK hP KM_obj rfl 6 (by decide) (hts (.fieldLink RX7 29 "StrokeBoardModel" "links" "[I") (by decide +kernel)) rfl dX7_differing_61 ?_
            refine lv_bipush (v := 10) hx hb dX7_differing_64 (by decide) ?_
            refine lv_iload_n hx hb dX7_differing_66 rfl (lv_at hl 1 rfl) ?_
            refine lv_imul hx hb dX7_differing_67 ?_
            refine lv_iload_n hx hb dX7_differing_68 rfl (lv_at hl 2 rfl) ?_
            refine lv_iadd hx hb dX7_differing_69 ?_
            obtain ⟨h13, hM⟩ := ix_i hM
            refine x_iald hx hb hK hP rfl h13 dX7_differing_70 ?_
            obtain ⟨r16, σ15, h14, hM⟩ := bnd_i hM
            refine x_callS (As := [.int (x1 / 5), .int (σ 5 (Int32.toNatClampNeg ((10 * x1) + x2)))]) (rest := [.int (100 * (x1 - x1 / 5 * 5)), .ref (ad 4)]) hA ⟨hx, hb, hml, hown, hts⟩ (tX7_place l D cA ad hJ (x1 / 5) (σ 5 (Int32.toNatClampNeg ((10 * x1) + x2))) σ _ _ h14) (va_cwS 2 hts gX7_differing_X7_place rfl rfl rfl (by decide +kernel) ⟨(Nat.le_of_ble_eq_true rfl), (Nat.le_of_ble_eq_true rfl)⟩) hK hP hS rfl hl.1 rfl (Nat.le_of_ble_eq_true rfl) ⟨Nat.zero_le _, Nat.zero_le _⟩ dX7_differing_71 (fun H locs hP hS => ?_)
            refine lv_iadd hx hb dX7_differing_74 ?_
            refine lv_iconst (v := 1) hx hb dX7_differing_75 (by decide) ?_
            obtain ⟨h17, hM⟩ := ix_i hM
            refine x_iast hx hb KM_ok hJ hK hP hS rfl h17 dX7_differing_76 (fun H locs hP hS => ?_)
            obtain ⟨σ18, eσ18, hM⟩ := lts_i hM
            rw [← eσ18] at hP
            refine lv_iinc (v := (x2 + 1)) (lv' := [(2, .int (x2 + 1)), (0, .ref (ad 0)), (1, .int x1)]) hx hb dX7_differing_77 hl (k := 2) rfl rfl (by decide) rfl (fun ls hl => ?_)
            refine lv_goto (tgt := 37) hx hb dX7_differing_80 (by decide) ?_
            exact ih37 _ _ _ _ _ _ hM hP hS (lv_sub hl [1, 2, 0] rfl)
      intro x1 σ H locs ls hM hP hS hl
      rw [mX7_differing_L29] at hM
      refine lv_iload_n hx hb dX7_differing_29 rfl (lv_at hl 1 rfl) ?_
      refine lv_bipush (v := 25) hx hb dX7_differing_30 (by decide) ?_
      refine lv_icmp_ge (tgt := 89) hx hb dX7_differing_32 (by decide) (fun c19 => ?_) (fun c19 => ?_)
      · have hM := (if_pos c19).symm.trans hM
        refine lv_iconst (v := 0) hx hb dX7_differing_89 (by decide) ?_
        refine lv_istore_n (lv' := [(1, .int 0), (0, .ref (ad 0))]) hx hb dX7_differing_90 rfl hl (by decide) rfl (fun ls hl => ?_)
        refine lv_iconst (v := 0) hx hb dX7_differing_91 (by decide) ?_
        refine lv_istore_n (lv' := [(2, .int 0), (1, .int 0), (0, .ref (ad 0))]) hx hb dX7_differing_92 rfl hl (by decide) rfl (fun ls hl => ?_)
        exact L93 fu _ _ _ _ _ _ hM hP hS (lv_sub hl [2, 1, 0] rfl)
      · have hM := (if_neg c19).symm.trans hM
        refine lv_iconst (v := 0) hx hb dX7_differing_35 (by decide) ?_
        refine lv_istore_n (lv' := [(2, .int 0), (0, .ref (ad 0)), (1, .int x1)]) hx hb dX7_differing_36 rfl hl (by decide) rfl (fun ls hl => ?_)
        exact L37 fu _ _ _ _ _ _ hM hP hS (lv_sub hl [1, 2, 0] rfl)
  have L2 : ∀ (n : Nat) (x1 : Int32) (σ : St) (H : Heap) (locs : List Loc) (ls : Array Slot), mX7_differing_L2 n x1 σ = some (r, σ') → w_P D cA ad KM σ H → va_S (w_A ad KM) s.heap H locs → lv_has ls 4 [(0, .ref (ad 0)), (1, .int x1)] → Wm p l e wsX7_differing 6 143 s m ([.ref (ad 0)] : List Value).toArray below meth c (w_Qi D cA ad KM r σ') (w_A ad KM) H locs (F0 m 2 ls []) := by
    intro n2
    induction n2 with
    | zero =>
      intro x1 σ H locs ls hM hP hS hl
      rw [mX7_differing_L2] at hM
      cases hM
    | succ n2 ih2 =>
      intro x1 σ H locs ls hM hP hS hl
      rw [mX7_differing_L2] at hM
      refine lv_iload_n hx hb dX7_differing_2 rfl (lv_at hl 1 rfl) ?_
      refine lv_sipush (v := 500) hx hb dX7_differing_3 (by decide) ?_
      refine lv_icmp_ge (tgt := 27) hx hb dX7_differing_6 (by decide) (fun c20 => ?_) (fun c20 => ?_)
      · have hM := (if_pos c20).symm.trans hM
        refine lv_iconst (v := 0) hx hb dX7_differing_27 (by decide) ?_
        refine lv_istore_n (lv' := [(1, .int 0), (0, .ref (ad 0))]) hx hb dX7_differing_28 rfl hl (by decide) rfl (fun ls hl => ?_)
        exact L29 fu _ _ _ _ _ hM hP hS (lv_sub hl [1, 0] rfl)
      · have hM := (if_neg c20).symm.trans hM
        refine lv_aload_n hx hb dX7_differing_9 rfl (lv_at hl 0 rfl) ?_
        refine x_getr (own := RX7) (C := RX7) (T := TX7) (N := 14) hx hb hts hinX7_X7_differing hown hK hP KM_obj rfl 13 (by decide) (hts (.fieldLink RX7 47 "StrokeBoardModel" "aside" "[I") (by decide +kernel)) rfl dX7_differing_10 ?_
        refine lv_iload_n hx hb dX7_differing_13 rfl (lv_at hl 1 rfl) ?_
        refine lv_aload_n hx hb dX7_differing_14 rfl (lv_at hl 0 rfl) ?_
        refine x_getr (own := RX7) (C := RX7) (T := TX7) (N := 14) hx hb hts hinX7_X7_differing hown hK hP KM_obj rfl 4 (by decide) (hts (.fieldLink RX7 23 "StrokeBoardModel" "known" "[I") (by decide +kernel)) rfl dX7_differing_15 ?_
        refine lv_iload_n hx hb dX7_differing_18 rfl (lv_at hl 1 rfl) ?_
        obtain ⟨h21, hM⟩ := ix_i hM
        refine x_iald hx hb hK hP rfl h21 dX7_differing_19 ?_
        obtain ⟨h22, hM⟩ := ix_i hM
        refine x_iast hx hb KM_ok hJ hK hP hS rfl h22 dX7_differing_20 (fun H locs hP hS => ?_)
        obtain ⟨σ23, eσ23, hM⟩ := lts_i hM
        rw [← eσ23] at hP
        refine lv_iinc (v := (x1 + 1)) (lv' := [(1, .int (x1 + 1)), (0, .ref (ad 0))]) hx hb dX7_differing_21 hl (k := 1) rfl rfl (by decide) rfl (fun ls hl => ?_)
        refine lv_goto (tgt := 2) hx hb dX7_differing_24 (by decide) ?_
        exact ih2 _ _ _ _ _ hM hP hS (lv_sub hl [1, 0] rfl)
  unfold mX7_differing at hM
  refine lv_iconst (v := 0) hx hb dX7_differing_0 (by decide) ?_
  refine lv_istore_n (lv' := [(1, .int 0), (0, .ref (ad 0))]) hx hb dX7_differing_1 rfl hl (by decide) rfl (fun ls hl => ?_)
  exact L2 fu _ _ _ _ _ hM hP hS (lv_sub hl [1, 0] rfl)
theorem hinX7_X7_bestHelper : ∀ w ∈ u_ws RX7 TX7 14, w ∈ wsX7_bestHelper := by decide +kernel
set_option maxHeartbeats 4000000 in
set_option maxRecDepth 100000 in
theorem tX7_bestHelper (l : Launch) (D : va_G) (cA : ClassId) (ad : Nat → Nat) (hJ : w_J ad KM) (u1 : Int32) (σ σ' : St) (r : Int32) (hM : mX7_bestHelper u1 σ = some (r, σ')) : Ct l yX7_bestHelper wsX7_bestHelper 4 93 D cA ad KM [.ref (ad 0), .int u1] σ r σ' := by
  unfold Ct
  refine Met_of (cc := cX7_bestHelper) (maxL := 6) (ret := (some .int)) hJ (by decide +kernel) rfl (Nat.le_of_ble_eq_true rfl) ?_
  intro p e s m below meth c Z H locs ls hP hS hl
  obtain ⟨hx, hb, hml, hown, hts, hr, hlk, hK, -⟩ := Z
  have hown : s.vm.findClass RX7 = some m.cls := hown
  have hl : lv_has ls 6 [(0, .ref (ad 0)), (1, .int u1)] := hl
  have hA : ∀ q, w_A ad KM q → w_A ad KM q := fun _ h => h
  have L19 : ∀ (n : Nat) (x1 x2 x3 x4 : Int32) (σ : St) (H : Heap) (locs : List Loc) (ls : Array Slot), mX7_bestHelper_L19 n x1 x2 x3 x4 σ = some (r, σ') → w_P D cA ad KM σ H → va_S (w_A ad KM) s.heap H locs → lv_has ls 6 [(0, .ref (ad 0)), (1, .int x1), (2, .int x2), (3, .int x3), (4, .int x4)] → Wm p l e wsX7_bestHelper 4 93 s m ([.ref (ad 0), .int u1] : List Value).toArray below meth c (w_Qi D cA ad KM r σ') (w_A ad KM) H locs (F0 m 19 ls []) := by
    intro n19
    induction n19 with
    | zero =>
      intro x1 x2 x3 x4 σ H locs ls hM hP hS hl
      rw [mX7_bestHelper_L19] at hM
      cases hM
    | succ n19 ih19 =>
      have b59 : ∀ (x1 x3 x4 x5 y0 : Int32) (σ : St) (H : Heap) (locs : List Loc) (ls : Array Slot), mX7_bestHelper_b59 (mX7_bestHelper_L19 n19) x1 x3 x4 x5 y0 σ = some (r, σ') → w_P D cA ad KM σ H → va_S (w_A ad KM) s.heap H locs → lv_has ls 6 [(0, .ref (ad 0)), (1, .int x1), (3, .int x3), (4, .int x4), (5, .int x5)] → Wm p l e wsX7_bestHelper 4 93 s m ([.ref (ad 0), .int u1] : List Value).toArray below meth c (w_Qi D cA ad KM r σ') (w_A ad KM) H locs (F0 m 59 ls [.int y0]) := by
        intro x1 x3 x4 x5 y0 σ H locs ls hM hP hS hl
        unfold mX7_bestHelper_b59 at hM
        refine lv_istore_n (lv' := [(2, .int y0), (0, .ref (ad 0)), (1, .int x1), (3, .int x3), (4, .int x4), (5, .int x5)]) hx hb dX7_bestHelper_59 rfl hl (by decide) rfl (fun ls hl => ?_)
        refine lv_iload hx hb dX7_bestHelper_60 (lv_at hl 5 rfl) ?_
        refine lv_iload_n hx hb dX7_bestHelper_62 rfl (lv_at hl 3 rfl) ?_
        refine lv_icmp_le (tgt := 71) hx hb dX7_bestHelper_63 (by decide) (fun c1 => ?_) (fun c1 => ?_)
        · have hM := (if_pos c1).symm.trans hM
          refine lv_iload_n hx hb dX7_bestHelper_71 rfl (lv_at hl 3 rfl) ?_
          refine lv_istore_n (lv' := [(3, .int x3), (2, .int y0), (0, .ref (ad 0)), (1, .int x1), (4, .int x4), (5, .int x5)]) hx hb dX7_bestHelper_72 rfl hl (by decide) rfl (fun ls hl => ?_)
          refine lv_iinc (v := (x4 + 1)) (lv' := [(4, .int (x4 + 1)), (3, .int x3), (2, .int y0), (0, .ref (ad 0)), (1, .int x1), (5, .int x5)]) hx hb dX7_bestHelper_73 hl (k := 4) rfl rfl (by decide) rfl (fun ls hl => ?_)
          refine lv_goto (tgt := 19) hx hb dX7_bestHelper_76 (by decide) ?_
          exact ih19 _ _ _ _ _ _ _ _ hM hP hS (lv_sub hl [3, 4, 2, 1, 0] rfl)
        · have hM := (if_neg c1).symm.trans hM
          refine lv_iload hx hb dX7_bestHelper_66 (lv_at hl 5 rfl) ?_
          refine lv_goto (tgt := 72) hx hb dX7_bestHelper_68 (by decide) ?_
          refine lv_istore_n (lv' := [(3, .int x5), (2, .int y0), (0, .ref (ad 0)), (1, .int x1), (4, .int x4), (5, .int x5)]) hx hb dX7_bestHelper_72 rfl hl (by decide) rfl (fun ls hl => ?_)
          refine lv_iinc (v := (x4 + 1)) (lv' := [(4, .int (x4 + 1)), (3, .int x5), (2, .int y0), (0, .ref (ad 0)), (1, .int x1), (5, .int x5)]) hx hb dX7_bestHelper_73 hl (k := 4) rfl rfl (by decide) rfl (fun ls hl => ?_)
          refine lv_goto (tgt := 19) hx hb dX7_bestHelper_76 (by decide) ?_
          exact ih19 _ _ _ _ _ _ _ _ hM hP hS (lv_sub hl [3, 4, 2, 1, 0] rfl)
      have b45 : ∀ (x1 x2 x3 x4 y0 : Int32) (σ : St) (H : Heap) (locs : List Loc) (ls : Array Slot), mX7_bestHelper_b45 (mX7_bestHelper_L19 n19) x1 x2 x3 x4 y0 σ = some (r, σ') → w_P D cA ad KM σ H → va_S (w_A ad KM) s.heap H locs → lv_has ls 6 [(0, .ref (ad 0)), (1, .int x1), (2, .int x2), (3, .int x3), (4, .int x4)] → Wm p l e wsX7_bestHelper 4 93 s m ([.ref (ad 0), .int u1] : List Value).toArray below meth c (w_Qi D cA ad KM r σ') (w_A ad KM) H locs (F0 m 45 ls [.int y0]) := by
        intro x1 x2 x3 x4 y0 σ H locs ls hM hP hS hl
        unfold mX7_bestHelper_b45 at hM
        refine lv_istore (lv' := [(5, .int y0), (0, .ref (ad 0)), (1, .int x1), (2, .int x2), (3, .int x3), (4, .int x4)]) hx hb dX7_bestHelper_45 hl (by decide) rfl (fun ls hl => ?_)
        refine lv_iload hx hb dX7_bestHelper_47 (lv_at hl 0 rfl) ?_
        refine lv_iload_n hx hb dX7_bestHelper_49 rfl (lv_at hl 4 rfl) ?_
        refine lv_icmp_le (tgt := 58) hx hb dX7_bestHelper_50 (by decide) (fun c2 => ?_) (fun c2 => ?_)
        · have hM := (if_pos c2).symm.trans hM
          refine lv_iload_n hx hb dX7_bestHelper_58 rfl (lv_at hl 3 rfl) ?_
          exact b59 _ _ _ _ _ _ _ _ _ hM hP hS (lv_sub hl [1, 2, 4, 5, 0] rfl)
        · have hM := (if_neg c2).symm.trans hM
          refine lv_iload hx hb dX7_bestHelper_53 (lv_at hl 5 rfl) ?_
          refine lv_goto (tgt := 59) hx hb dX7_bestHelper_55 (by decide) ?_
          exact b59 _ _ _ _ _ _ _ _ _ hM hP hS (lv_sub hl [1, 2, 4, 5, 0] rfl)
      intro x1 x2 x3 x4 σ H locs ls hM hP hS hl
      rw [mX7_bestHelper_L19] at hM
      refine lv_iload hx hb dX7_bestHelper_19 (lv_at hl 4 rfl) ?_
      refine lv_aload_n hx hb dX7_bestHelper_21 rfl (lv_at hl 0 rfl) ?_
      refine x_geti (own := RX7) (C := RX7) (T := TX7) (N := 14) hx hb hts hinX7_X7_bestHelper hown hK hP KM_obj rfl 0 (by decide) (hts (.fieldLink RX7 7 "StrokeBoardModel" "sites" "I") (by decide +kernel)) rfl dX7_bestHelper_22 ?_
      refine lv_icmp_ge (tgt := 79) hx hb dX7_bestHelper_25 (by decide) (fun c3 => ?_) (fun c3 => ?_)
      · have hM := (if_pos c3).symm.trans hM
        refine lv_iload_n hx hb dX7_bestHelper_79 rfl (lv_at hl 2 rfl) ?_
        exact x_iret hx hb hr hlk hP hS hM dX7_bestHelper_80
      · have hM := (if_neg c3).symm.trans hM
        refine lv_iload hx hb dX7_bestHelper_28 (lv_at hl 4 rfl) ?_
        refine lv_iload_n hx hb dX7_bestHelper_30 rfl (lv_at hl 1 rfl) ?_
        refine lv_icmp_ne (tgt := 38) hx hb dX7_bestHelper_31 (by decide) (fun c4 => ?_) (fun c4 => ?_)
        · have hM := (if_neg c4).symm.trans hM
          refine lv_aload_n hx hb dX7_bestHelper_38 rfl (lv_at hl 0 rfl) ?_
          refine lv_iload_n hx hb dX7_bestHelper_39 rfl (lv_at hl 1 rfl) ?_
          refine lv_iload hx hb dX7_bestHelper_40 (lv_at hl 4 rfl) ?_
          obtain ⟨r7, σ6, h5, hM⟩ := bnd_i hM
          refine x_callV (As := [.int x1, .int x4]) (rest := []) hA ⟨hx, hb, hml, hown, hts⟩ (tX7_givenMany l D cA ad hJ x1 x4 σ _ _ h5) (cwV 2 hts gX7_bestHelper_X7_givenMany rfl rfl rfl (by decide +kernel) ⟨(Nat.le_of_ble_eq_true rfl), (Nat.le_of_ble_eq_true rfl)⟩) hK hP hS KM_obj rfl rfl hl.1 rfl (Nat.le_of_ble_eq_true rfl) ⟨Nat.zero_le _, Nat.zero_le _⟩ dX7_bestHelper_42 (fun H locs hP hS _ _ => ?_)
          exact b45 _ _ _ _ _ _ _ _ _ hM hP hS (lv_sub hl [0, 1, 2, 3, 4] rfl)
        · have hM := (if_pos c4).symm.trans hM
          refine lv_iconst (v := 0) hx hb dX7_bestHelper_34 (by decide) ?_
          refine lv_goto (tgt := 45) hx hb dX7_bestHelper_35 (by decide) ?_
          exact b45 _ _ _ _ _ _ _ _ _ hM hP hS (lv_sub hl [0, 1, 2, 3, 4] rfl)
  unfold mX7_bestHelper at hM
  refine lv_aload_n hx hb dX7_bestHelper_0 rfl (lv_at hl 0 rfl) ?_
  refine lv_iload_n hx hb dX7_bestHelper_1 rfl (lv_at hl 1 rfl) ?_
  obtain ⟨r10, σ9, h8, hM⟩ := bnd_i hM
  refine x_callV (As := [.int u1]) (rest := []) hA ⟨hx, hb, hml, hown, hts⟩ (tX7_isSite l D cA ad hJ u1 σ _ _ h8) (cwV 1 hts gX7_bestHelper_X7_isSite rfl rfl rfl (by decide +kernel) ⟨(Nat.le_of_ble_eq_true rfl), (Nat.le_of_ble_eq_true rfl)⟩) hK hP hS KM_obj rfl rfl hl.1 rfl (Nat.le_of_ble_eq_true rfl) ⟨Nat.zero_le _, Nat.zero_le _⟩ dX7_bestHelper_2 (fun H locs hP hS _ _ => ?_)
  refine lv_if_ne (tgt := 11) hx hb dX7_bestHelper_5 (by decide) (fun c11 => ?_) (fun c11 => ?_)
  · have hM := (if_neg c11).symm.trans hM
    refine lv_ldc (own := RX7) (v := (-1000000004)) hx hb hown (hts (.constant RX7 109 (-1000000004)) (by decide +kernel)) dX7_bestHelper_11 ?_
    refine lv_istore_n (lv' := [(2, .int (-1000000004)), (0, .ref (ad 0)), (1, .int u1)]) hx hb dX7_bestHelper_13 rfl hl (by decide) rfl (fun ls hl => ?_)
    refine lv_iconst (v := 0) hx hb dX7_bestHelper_14 (by decide) ?_
    refine lv_istore_n (lv' := [(3, .int 0), (2, .int (-1000000004)), (0, .ref (ad 0)), (1, .int u1)]) hx hb dX7_bestHelper_15 rfl hl (by decide) rfl (fun ls hl => ?_)
    refine lv_iconst (v := 0) hx hb dX7_bestHelper_16 (by decide) ?_
    refine lv_istore (lv' := [(4, .int 0), (3, .int 0), (2, .int (-1000000004)), (0, .ref (ad 0)), (1, .int u1)]) hx hb dX7_bestHelper_17 hl (by decide) rfl (fun ls hl => ?_)
    exact L19 fu _ _ _ _ _ _ _ _ hM hP hS (lv_sub hl [3, 4, 2, 1, 0] rfl)
  · have hM := (if_pos c11).symm.trans hM
    refine lv_ldc (own := RX7) (v := (-1000000001)) hx hb hown (hts (.constant RX7 89 (-1000000001)) (by decide +kernel)) dX7_bestHelper_8 ?_
    exact x_iret hx hb hr hlk hP hS hM dX7_bestHelper_10
theorem hinX7_X7_isSafe : ∀ w ∈ u_ws RX7 TX7 14, w ∈ wsX7_isSafe := by decide +kernel
set_option maxHeartbeats 4000000 in
set_option maxRecDepth 100000 in
theorem tX7_isSafe (l : Launch) (D : va_G) (cA : ClassId) (ad : Nat → Nat) (hJ : w_J ad KM) (u1 u2 : Int32) (σ σ' : St) (r : Int32) (hM : mX7_isSafe u1 u2 σ = some (r, σ')) : Ct l yX7_isSafe wsX7_isSafe 1 22 D cA ad KM [.ref (ad 0), .int u1, .int u2] σ r σ' := by
  unfold Ct
  refine Met_of (cc := cX7_isSafe) (maxL := 6) (ret := (some .boolean)) hJ (by decide +kernel) rfl (Nat.le_of_ble_eq_true rfl) ?_
  intro p e s m below meth c Z H locs ls hP hS hl
  obtain ⟨hx, hb, hml, hown, hts, hr, hlk, hK, -⟩ := Z
  have hown : s.vm.findClass RX7 = some m.cls := hown
  have hl : lv_has ls 6 [(0, .ref (ad 0)), (1, .int u1), (2, .int u2)] := hl
  have hA : ∀ q, w_A ad KM q → w_A ad KM q := fun _ h => h
  have L5 : ∀ (n : Nat) (x1 x2 x3 x4 : Int32) (σ : St) (H : Heap) (locs : List Loc) (ls : Array Slot), mX7_isSafe_L5 n x1 x2 x3 x4 σ = some (r, σ') → w_P D cA ad KM σ H → va_S (w_A ad KM) s.heap H locs → lv_has ls 6 [(0, .ref (ad 0)), (1, .int x1), (2, .int x2), (3, .int x3), (4, .int x4)] → Wm p l e wsX7_isSafe 1 22 s m ([.ref (ad 0), .int u1, .int u2] : List Value).toArray below meth c (w_Qi D cA ad KM r σ') (w_A ad KM) H locs (F0 m 5 ls []) := by
    intro n5
    induction n5 with
    | zero =>
      intro x1 x2 x3 x4 σ H locs ls hM hP hS hl
      rw [mX7_isSafe_L5] at hM
      cases hM
    | succ n5 ih5 =>
      have L47 : ∀ (n : Nat) (x1 x2 x3 x4 x5 : Int32) (σ : St) (H : Heap) (locs : List Loc) (ls : Array Slot), mX7_isSafe_L47 (mX7_isSafe_L5 n5) n x1 x2 x3 x4 x5 σ = some (r, σ') → w_P D cA ad KM σ H → va_S (w_A ad KM) s.heap H locs → lv_has ls 6 [(0, .ref (ad 0)), (1, .int x1), (2, .int x2), (3, .int x3), (4, .int x4), (5, .int x5)] → Wm p l e wsX7_isSafe 1 22 s m ([.ref (ad 0), .int u1, .int u2] : List Value).toArray below meth c (w_Qi D cA ad KM r σ') (w_A ad KM) H locs (F0 m 47 ls []) := by
        intro n47
        induction n47 with
        | zero =>
          intro x1 x2 x3 x4 x5 σ H locs ls hM hP hS hl
          rw [mX7_isSafe_L47] at hM
          cases hM
        | succ n47 ih47 =>
          intro x1 x2 x3 x4 x5 σ H locs ls hM hP hS hl
          rw [mX7_isSafe_L47] at hM
          refine lv_iload hx hb dX7_isSafe_47 (lv_at hl 5 rfl) ?_
          refine lv_aload_n hx hb dX7_isSafe_49 rfl (lv_at hl 0 rfl) ?_
          refine x_getr (own := RX7) (C := RX7) (T := TX7) (N := 14) hx hb hts hinX7_X7_isSafe hown hK hP KM_obj rfl 7 (by decide) (hts (.fieldLink RX7 32 "StrokeBoardModel" "linkMany" "[I") (by decide +kernel)) rfl dX7_isSafe_50 ?_
          refine lv_iconst (v := 5) hx hb dX7_isSafe_53 (by decide) ?_
          refine lv_iload_n hx hb dX7_isSafe_54 rfl (lv_at hl 1 rfl) ?_
          refine lv_imul hx hb dX7_isSafe_55 ?_
          refine lv_iload hx hb dX7_isSafe_56 (lv_at hl 4 rfl) ?_
          refine lv_iadd hx hb dX7_isSafe_58 ?_
          obtain ⟨h1, hM⟩ := ix_i hM
          refine x_iald hx hb hK hP rfl h1 dX7_isSafe_59 ?_
          refine lv_icmp_ge (tgt := 100) hx hb dX7_isSafe_60 (by decide) (fun c2 => ?_) (fun c2 => ?_)
          · have hM := (if_pos c2).symm.trans hM
            refine lv_iinc (v := (x4 + 1)) (lv' := [(4, .int (x4 + 1)), (0, .ref (ad 0)), (1, .int x1), (2, .int x2), (3, .int x3), (5, .int x5)]) hx hb dX7_isSafe_100 hl (k := 4) rfl rfl (by decide) rfl (fun ls hl => ?_)
            refine lv_goto (tgt := 5) hx hb dX7_isSafe_103 (by decide) ?_
            exact ih5 _ _ _ _ _ _ _ _ hM hP hS (lv_sub hl [1, 2, 3, 4, 0] rfl)
          · have hM := (if_neg c2).symm.trans hM
            refine lv_iload_n hx hb dX7_isSafe_63 rfl (lv_at hl 3 rfl) ?_
            refine lv_if_ne (tgt := 88) hx hb dX7_isSafe_64 (by decide) (fun c3 => ?_) (fun c3 => ?_)
            · have hM := (if_neg c3).symm.trans hM
              refine lv_iconst (v := 1) hx hb dX7_isSafe_88 (by decide) ?_
              refine lv_goto (tgt := 93) hx hb dX7_isSafe_89 (by decide) ?_
              refine lv_istore_n (lv' := [(3, .int 1), (0, .ref (ad 0)), (1, .int x1), (2, .int x2), (4, .int x4), (5, .int x5)]) hx hb dX7_isSafe_93 rfl hl (by decide) rfl (fun ls hl => ?_)
              refine lv_iinc (v := (x5 + 1)) (lv' := [(5, .int (x5 + 1)), (3, .int 1), (0, .ref (ad 0)), (1, .int x1), (2, .int x2), (4, .int x4)]) hx hb dX7_isSafe_94 hl (k := 5) rfl rfl (by decide) rfl (fun ls hl => ?_)
              refine lv_goto (tgt := 47) hx hb dX7_isSafe_97 (by decide) ?_
              exact ih47 _ _ _ _ _ _ _ _ _ hM hP hS (lv_sub hl [2, 3, 4, 1, 5, 0] rfl)
            · have hM := (if_pos c3).symm.trans hM
              refine lv_aload_n hx hb dX7_isSafe_67 rfl (lv_at hl 0 rfl) ?_
              refine x_getr (own := RX7) (C := RX7) (T := TX7) (N := 14) hx hb hts hinX7_X7_isSafe hown hK hP KM_obj rfl 6 (by decide) (hts (.fieldLink RX7 29 "StrokeBoardModel" "links" "[I") (by decide +kernel)) rfl dX7_isSafe_68 ?_
              refine lv_bipush (v := 10) hx hb dX7_isSafe_71 (by decide) ?_
              refine lv_iconst (v := 5) hx hb dX7_isSafe_73 (by decide) ?_
              refine lv_iload_n hx hb dX7_isSafe_74 rfl (lv_at hl 1 rfl) ?_
              refine lv_imul hx hb dX7_isSafe_75 ?_
              refine lv_iload hx hb dX7_isSafe_76 (lv_at hl 4 rfl) ?_
              refine lv_iadd hx hb dX7_isSafe_78 ?_
              refine lv_imul hx hb dX7_isSafe_79 ?_
              refine lv_iload hx hb dX7_isSafe_80 (lv_at hl 5 rfl) ?_
              refine lv_iadd hx hb dX7_isSafe_82 ?_
              obtain ⟨h4, hM⟩ := ix_i hM
              refine x_iald hx hb hK hP rfl h4 dX7_isSafe_83 ?_
              refine lv_iload_n hx hb dX7_isSafe_84 rfl (lv_at hl 2 rfl) ?_
              refine lv_icmp_ne (tgt := 92) hx hb dX7_isSafe_85 (by decide) (fun c5 => ?_) (fun c5 => ?_)
              · have hM := (if_neg c5).symm.trans hM
                refine lv_iconst (v := 0) hx hb dX7_isSafe_92 (by decide) ?_
                refine lv_istore_n (lv' := [(3, .int 0), (0, .ref (ad 0)), (1, .int x1), (2, .int x2), (4, .int x4), (5, .int x5)]) hx hb dX7_isSafe_93 rfl hl (by decide) rfl (fun ls hl => ?_)
                refine lv_iinc (v := (x5 + 1)) (lv' := [(5, .int (x5 + 1)), (3, .int 0), (0, .ref (ad 0)), (1, .int x1), (2, .int x2), (4, .int x4)]) hx hb dX7_isSafe_94 hl (k := 5) rfl rfl (by decide) rfl (fun ls hl => ?_)
                refine lv_goto (tgt := 47) hx hb dX7_isSafe_97 (by decide) ?_
                exact ih47 _ _ _ _ _ _ _ _ _ hM hP hS (lv_sub hl [2, 3, 4, 1, 5, 0] rfl)
              · have hM := (if_pos c5).symm.trans hM
                refine lv_iconst (v := 1) hx hb dX7_isSafe_88 (by decide) ?_
                refine lv_goto (tgt := 93) hx hb dX7_isSafe_89 (by decide) ?_
                refine lv_istore_n (lv' := [(3, .int 1), (0, .ref (ad 0)), (1, .int x1), (2, .int x2), (4, .int x4), (5, .int x5)]) hx hb dX7_isSafe_93 rfl hl (by decide) rfl (fun ls hl => ?_)
                refine lv_iinc (v := (x5 + 1)) (lv' := [(5, .int (x5 + 1)), (3, .int 1), (0, .ref (ad 0)), (1, .int x1), (2, .int x2), (4, .int x4)]) hx hb dX7_isSafe_94 hl (k := 5) rfl rfl (by decide) rfl (fun ls hl => ?_)
                refine lv_goto (tgt := 47) hx hb dX7_isSafe_97 (by decide) ?_
                exact ih47 _ _ _ _ _ _ _ _ _ hM hP hS (lv_sub hl [2, 3, 4, 1, 5, 0] rfl)
      intro x1 x2 x3 x4 σ H locs ls hM hP hS hl
      rw [mX7_isSafe_L5] at hM
      refine lv_iload hx hb dX7_isSafe_5 (lv_at hl 4 rfl) ?_
      refine lv_aload_n hx hb dX7_isSafe_7 rfl (lv_at hl 0 rfl) ?_
      refine x_geti (own := RX7) (C := RX7) (T := TX7) (N := 14) hx hb hts hinX7_X7_isSafe hown hK hP KM_obj rfl 0 (by decide) (hts (.fieldLink RX7 7 "StrokeBoardModel" "sites" "I") (by decide +kernel)) rfl dX7_isSafe_8 ?_
      refine lv_icmp_ge (tgt := 106) hx hb dX7_isSafe_11 (by decide) (fun c6 => ?_) (fun c6 => ?_)
      · have hM := (if_pos c6).symm.trans hM
        refine lv_iload_n hx hb dX7_isSafe_106 rfl (lv_at hl 3 rfl) ?_
        exact x_zret hx hb hr hlk hP hS hM dX7_isSafe_107
      · have hM := (if_neg c6).symm.trans hM
        refine lv_iload_n hx hb dX7_isSafe_14 rfl (lv_at hl 3 rfl) ?_
        refine lv_if_ne (tgt := 38) hx hb dX7_isSafe_15 (by decide) (fun c7 => ?_) (fun c7 => ?_)
        · have hM := (if_neg c7).symm.trans hM
          refine lv_iconst (v := 1) hx hb dX7_isSafe_38 (by decide) ?_
          refine lv_goto (tgt := 43) hx hb dX7_isSafe_39 (by decide) ?_
          refine lv_istore_n (lv' := [(3, .int 1), (0, .ref (ad 0)), (1, .int x1), (2, .int x2), (4, .int x4)]) hx hb dX7_isSafe_43 rfl hl (by decide) rfl (fun ls hl => ?_)
          refine lv_iconst (v := 0) hx hb dX7_isSafe_44 (by decide) ?_
          refine lv_istore (lv' := [(5, .int 0), (3, .int 1), (0, .ref (ad 0)), (1, .int x1), (2, .int x2), (4, .int x4)]) hx hb dX7_isSafe_45 hl (by decide) rfl (fun ls hl => ?_)
          exact L47 fu _ _ _ _ _ _ _ _ _ hM hP hS (lv_sub hl [2, 3, 4, 1, 5, 0] rfl)
        · have hM := (if_pos c7).symm.trans hM
          refine lv_iload hx hb dX7_isSafe_18 (lv_at hl 4 rfl) ?_
          refine lv_iload_n hx hb dX7_isSafe_20 rfl (lv_at hl 1 rfl) ?_
          refine lv_icmp_eq (tgt := 42) hx hb dX7_isSafe_21 (by decide) (fun c8 => ?_) (fun c8 => ?_)
          · have hM := (if_pos c8).symm.trans hM
            refine lv_iconst (v := 0) hx hb dX7_isSafe_42 (by decide) ?_
            refine lv_istore_n (lv' := [(3, .int 0), (0, .ref (ad 0)), (1, .int x1), (2, .int x2), (4, .int x4)]) hx hb dX7_isSafe_43 rfl hl (by decide) rfl (fun ls hl => ?_)
            refine lv_iconst (v := 0) hx hb dX7_isSafe_44 (by decide) ?_
            refine lv_istore (lv' := [(5, .int 0), (3, .int 0), (0, .ref (ad 0)), (1, .int x1), (2, .int x2), (4, .int x4)]) hx hb dX7_isSafe_45 hl (by decide) rfl (fun ls hl => ?_)
            exact L47 fu _ _ _ _ _ _ _ _ _ hM hP hS (lv_sub hl [2, 3, 4, 1, 5, 0] rfl)
          · have hM := (if_neg c8).symm.trans hM
            refine lv_aload_n hx hb dX7_isSafe_24 rfl (lv_at hl 0 rfl) ?_
            refine lv_iload hx hb dX7_isSafe_25 (lv_at hl 4 rfl) ?_
            refine lv_iload_n hx hb dX7_isSafe_27 rfl (lv_at hl 1 rfl) ?_
            refine lv_iload_n hx hb dX7_isSafe_28 rfl (lv_at hl 2 rfl) ?_
            obtain ⟨r11, σ10, h9, hM⟩ := bnd_i hM
            refine x_callS (As := [.int x1, .int x2]) (rest := [.int x4, .ref (ad 0)]) hA ⟨hx, hb, hml, hown, hts⟩ (tX7_place l D cA ad hJ x1 x2 σ _ _ h9) (va_cwS 2 hts gX7_isSafe_X7_place rfl rfl rfl (by decide +kernel) ⟨(Nat.le_of_ble_eq_true rfl), (Nat.le_of_ble_eq_true rfl)⟩) hK hP hS rfl hl.1 rfl (Nat.le_of_ble_eq_true rfl) ⟨Nat.zero_le _, Nat.zero_le _⟩ dX7_isSafe_29 (fun H locs hP hS => ?_)
            obtain ⟨r14, σ13, h12, hM⟩ := bnd_i hM
            refine x_callV (As := [.int x4, .int r11]) (rest := []) hA ⟨hx, hb, hml, hown, hts⟩ (tX7_doesKnow l D cA ad hJ x4 r11 σ10 _ _ h12) (cwV 2 hts gX7_isSafe_X7_doesKnow rfl rfl rfl (by decide +kernel) ⟨(Nat.le_of_ble_eq_true rfl), (Nat.le_of_ble_eq_true rfl)⟩) hK hP hS KM_obj rfl rfl hl.1 rfl (Nat.le_of_ble_eq_true rfl) ⟨Nat.zero_le _, Nat.zero_le _⟩ dX7_isSafe_32 (fun H locs hP hS _ _ => ?_)
            refine lv_if_eq (tgt := 42) hx hb dX7_isSafe_35 (by decide) (fun c15 => ?_) (fun c15 => ?_)
            · have hM := (if_pos c15).symm.trans hM
              refine lv_iconst (v := 0) hx hb dX7_isSafe_42 (by decide) ?_
              refine lv_istore_n (lv' := [(3, .int 0), (0, .ref (ad 0)), (1, .int x1), (2, .int x2), (4, .int x4)]) hx hb dX7_isSafe_43 rfl hl (by decide) rfl (fun ls hl => ?_)
              refine lv_iconst (v := 0) hx hb dX7_isSafe_44 (by decide) ?_
              refine lv_istore (lv' := [(5, .int 0), (3, .int 0), (0, .ref (ad 0)), (1, .int x1), (2, .int x2), (4, .int x4)]) hx hb dX7_isSafe_45 hl (by decide) rfl (fun ls hl => ?_)
              exact L47 fu _ _ _ _ _ _ _ _ _ hM hP hS (lv_sub hl [2, 3, 4, 1, 5, 0] rfl)
            · have hM := (if_neg c15).symm.trans hM
              refine lv_iconst (v := 1) hx hb dX7_isSafe_38 (by decide) ?_
              refine lv_goto (tgt := 43) hx hb dX7_isSafe_39 (by decide) ?_
              refine lv_istore_n (lv' := [(3, .int 1), (0, .ref (ad 0)), (1, .int x1), (2, .int x2), (4, .int x4)]) hx hb dX7_isSafe_43 rfl hl (by decide) rfl (fun ls hl => ?_)
              refine lv_iconst (v := 0) hx hb dX7_isSafe_44 (by decide) ?_
              refine lv_istore (lv' := [(5, .int 0), (3, .int 1), (0, .ref (ad 0)), (1, .int x1), (2, .int x2), (4, .int x4)]) hx hb dX7_isSafe_45 hl (by decide) rfl (fun ls hl => ?_)
              exact L47 fu _ _ _ _ _ _ _ _ _ hM hP hS (lv_sub hl [2, 3, 4, 1, 5, 0] rfl)
  unfold mX7_isSafe at hM
  refine lv_iconst (v := 0) hx hb dX7_isSafe_0 (by decide) ?_
  refine lv_istore_n (lv' := [(3, .int 0), (0, .ref (ad 0)), (1, .int u1), (2, .int u2)]) hx hb dX7_isSafe_1 rfl hl (by decide) rfl (fun ls hl => ?_)
  refine lv_iconst (v := 0) hx hb dX7_isSafe_2 (by decide) ?_
  refine lv_istore (lv' := [(4, .int 0), (3, .int 0), (0, .ref (ad 0)), (1, .int u1), (2, .int u2)]) hx hb dX7_isSafe_3 hl (by decide) rfl (fun ls hl => ?_)
  exact L5 fu _ _ _ _ _ _ _ _ hM hP hS (lv_sub hl [2, 3, 4, 1, 0] rfl)
theorem hinX7_X7_endangered : ∀ w ∈ u_ws RX7 TX7 14, w ∈ wsX7_endangered := by decide +kernel
set_option maxHeartbeats 4000000 in
set_option maxRecDepth 100000 in
theorem tX7_endangered (l : Launch) (D : va_G) (cA : ClassId) (ad : Nat → Nat) (hJ : w_J ad KM) (u1 : Int32) (σ σ' : St) (r : Int32) (hM : mX7_endangered u1 σ = some (r, σ')) : Ct l yX7_endangered wsX7_endangered 2 47 D cA ad KM [.ref (ad 0), .int u1] σ r σ' := by
  unfold Ct
  refine Met_of (cc := cX7_endangered) (maxL := 4) (ret := (some .int)) hJ (by decide +kernel) rfl (Nat.le_of_ble_eq_true rfl) ?_
  intro p e s m below meth c Z H locs ls hP hS hl
  obtain ⟨hx, hb, hml, hown, hts, hr, hlk, hK, -⟩ := Z
  have hown : s.vm.findClass RX7 = some m.cls := hown
  have hl : lv_has ls 4 [(0, .ref (ad 0)), (1, .int u1)] := hl
  have hA : ∀ q, w_A ad KM q → w_A ad KM q := fun _ h => h
  have L15 : ∀ (n : Nat) (x1 x2 x3 : Int32) (σ : St) (H : Heap) (locs : List Loc) (ls : Array Slot), mX7_endangered_L15 n x1 x2 x3 σ = some (r, σ') → w_P D cA ad KM σ H → va_S (w_A ad KM) s.heap H locs → lv_has ls 4 [(0, .ref (ad 0)), (1, .int x1), (2, .int x2), (3, .int x3)] → Wm p l e wsX7_endangered 2 47 s m ([.ref (ad 0), .int u1] : List Value).toArray below meth c (w_Qi D cA ad KM r σ') (w_A ad KM) H locs (F0 m 15 ls []) := by
    intro n15
    induction n15 with
    | zero =>
      intro x1 x2 x3 σ H locs ls hM hP hS hl
      rw [mX7_endangered_L15] at hM
      cases hM
    | succ n15 ih15 =>
      intro x1 x2 x3 σ H locs ls hM hP hS hl
      rw [mX7_endangered_L15] at hM
      refine lv_iload_n hx hb dX7_endangered_15 rfl (lv_at hl 3 rfl) ?_
      refine lv_aload_n hx hb dX7_endangered_16 rfl (lv_at hl 0 rfl) ?_
      refine x_getr (own := RX7) (C := RX7) (T := TX7) (N := 14) hx hb hts hinX7_X7_endangered hown hK hP KM_obj rfl 2 (by decide) (hts (.fieldLink RX7 17 "StrokeBoardModel" "made" "[I") (by decide +kernel)) rfl dX7_endangered_17 ?_
      refine lv_iload_n hx hb dX7_endangered_20 rfl (lv_at hl 1 rfl) ?_
      obtain ⟨h1, hM⟩ := ix_i hM
      refine x_iald hx hb hK hP rfl h1 dX7_endangered_21 ?_
      refine lv_icmp_gt (tgt := 48) hx hb dX7_endangered_22 (by decide) (fun c2 => ?_) (fun c2 => ?_)
      · have hM := (if_pos c2).symm.trans hM
        refine lv_iload_n hx hb dX7_endangered_48 rfl (lv_at hl 2 rfl) ?_
        exact x_iret hx hb hr hlk hP hS hM dX7_endangered_49
      · have hM := (if_neg c2).symm.trans hM
        refine lv_iload_n hx hb dX7_endangered_25 rfl (lv_at hl 2 rfl) ?_
        refine lv_aload_n hx hb dX7_endangered_26 rfl (lv_at hl 0 rfl) ?_
        refine lv_iload_n hx hb dX7_endangered_27 rfl (lv_at hl 1 rfl) ?_
        refine lv_iload_n hx hb dX7_endangered_28 rfl (lv_at hl 3 rfl) ?_
        obtain ⟨r5, σ4, h3, hM⟩ := bnd_i hM
        refine x_callV (As := [.int x1, .int x3]) (rest := [.int x2]) hA ⟨hx, hb, hml, hown, hts⟩ (tX7_isSafe l D cA ad hJ x1 x3 σ _ _ h3) (cwV 2 hts gX7_endangered_X7_isSafe rfl rfl rfl (by decide +kernel) ⟨(Nat.le_of_ble_eq_true rfl), (Nat.le_of_ble_eq_true rfl)⟩) hK hP hS KM_obj rfl rfl hl.1 rfl (Nat.le_of_ble_eq_true rfl) ⟨Nat.zero_le _, Nat.zero_le _⟩ dX7_endangered_29 (fun H locs hP hS _ _ => ?_)
        refine lv_if_eq (tgt := 39) hx hb dX7_endangered_32 (by decide) (fun c6 => ?_) (fun c6 => ?_)
        · have hM := (if_pos c6).symm.trans hM
          refine lv_iconst (v := 1) hx hb dX7_endangered_39 (by decide) ?_
          refine lv_iadd hx hb dX7_endangered_40 ?_
          refine lv_istore_n (lv' := [(2, .int (x2 + 1)), (0, .ref (ad 0)), (1, .int x1), (3, .int x3)]) hx hb dX7_endangered_41 rfl hl (by decide) rfl (fun ls hl => ?_)
          refine lv_iinc (v := (x3 + 1)) (lv' := [(3, .int (x3 + 1)), (2, .int (x2 + 1)), (0, .ref (ad 0)), (1, .int x1)]) hx hb dX7_endangered_42 hl (k := 3) rfl rfl (by decide) rfl (fun ls hl => ?_)
          refine lv_goto (tgt := 15) hx hb dX7_endangered_45 (by decide) ?_
          exact ih15 _ _ _ _ _ _ _ hM hP hS (lv_sub hl [2, 3, 1, 0] rfl)
        · have hM := (if_neg c6).symm.trans hM
          refine lv_iconst (v := 0) hx hb dX7_endangered_35 (by decide) ?_
          refine lv_goto (tgt := 40) hx hb dX7_endangered_36 (by decide) ?_
          refine lv_iadd hx hb dX7_endangered_40 ?_
          refine lv_istore_n (lv' := [(2, .int (x2 + 0)), (0, .ref (ad 0)), (1, .int x1), (3, .int x3)]) hx hb dX7_endangered_41 rfl hl (by decide) rfl (fun ls hl => ?_)
          refine lv_iinc (v := (x3 + 1)) (lv' := [(3, .int (x3 + 1)), (2, .int (x2 + 0)), (0, .ref (ad 0)), (1, .int x1)]) hx hb dX7_endangered_42 hl (k := 3) rfl rfl (by decide) rfl (fun ls hl => ?_)
          refine lv_goto (tgt := 15) hx hb dX7_endangered_45 (by decide) ?_
          exact ih15 _ _ _ _ _ _ _ hM hP hS (lv_sub hl [2, 3, 1, 0] rfl)
  unfold mX7_endangered at hM
  refine lv_aload_n hx hb dX7_endangered_0 rfl (lv_at hl 0 rfl) ?_
  refine lv_iload_n hx hb dX7_endangered_1 rfl (lv_at hl 1 rfl) ?_
  obtain ⟨r9, σ8, h7, hM⟩ := bnd_i hM
  refine x_callV (As := [.int u1]) (rest := []) hA ⟨hx, hb, hml, hown, hts⟩ (tX7_isSite l D cA ad hJ u1 σ _ _ h7) (cwV 1 hts gX7_endangered_X7_isSite rfl rfl rfl (by decide +kernel) ⟨(Nat.le_of_ble_eq_true rfl), (Nat.le_of_ble_eq_true rfl)⟩) hK hP hS KM_obj rfl rfl hl.1 rfl (Nat.le_of_ble_eq_true rfl) ⟨Nat.zero_le _, Nat.zero_le _⟩ dX7_endangered_2 (fun H locs hP hS _ _ => ?_)
  refine lv_if_ne (tgt := 11) hx hb dX7_endangered_5 (by decide) (fun c10 => ?_) (fun c10 => ?_)
  · have hM := (if_neg c10).symm.trans hM
    refine lv_iconst (v := 0) hx hb dX7_endangered_11 (by decide) ?_
    refine lv_istore_n (lv' := [(2, .int 0), (0, .ref (ad 0)), (1, .int u1)]) hx hb dX7_endangered_12 rfl hl (by decide) rfl (fun ls hl => ?_)
    refine lv_iconst (v := 1) hx hb dX7_endangered_13 (by decide) ?_
    refine lv_istore_n (lv' := [(3, .int 1), (2, .int 0), (0, .ref (ad 0)), (1, .int u1)]) hx hb dX7_endangered_14 rfl hl (by decide) rfl (fun ls hl => ?_)
    exact L15 fu _ _ _ _ _ _ _ hM hP hS (lv_sub hl [2, 3, 1, 0] rfl)
  · have hM := (if_pos c10).symm.trans hM
    refine lv_ldc (own := RX7) (v := (-1000000001)) hx hb hown (hts (.constant RX7 89 (-1000000001)) (by decide +kernel)) dX7_endangered_8 ?_
    exact x_iret hx hb hr hlk hP hS hM dX7_endangered_10
