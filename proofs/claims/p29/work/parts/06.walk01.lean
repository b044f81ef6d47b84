/-! The walks of the law, laid by wip/p29/gen.py. -/
set_option maxHeartbeats 4000000 in
set_option maxRecDepth 100000 in
theorem tL_repairs (l : Launch) (D : va_G) (cA : ClassId) (ad : Nat → Nat) (hJ : w_J ad KC) (u1 u2 : Int32) (σ σ' : St) (r : Int32) (hM : mL_repairs u1 u2 σ = some (r, σ')) : Ct l yL_repairs wsL_repairs 7 161 D cA ad KC [.ref (ad 62), .int u1, .int u2] σ r σ' := by
  unfold Ct
  refine Met_of (cc := cL_repairs) (maxL := 10) (ret := (some .boolean)) hJ (by decide +kernel) rfl (Nat.le_of_ble_eq_true rfl) ?_
  intro p e s m below meth c Z H locs ls hP hS hl
  obtain ⟨hx, hb, hml, hown, hts, hr, hlk, hK, -⟩ := Z
  have hown : s.vm.findClass RL = some m.cls := hown
  have hl : lv_has ls 10 [(0, .ref (ad 62)), (1, .int u1), (2, .int u2)] := hl
  have hA : ∀ q, w_A ad KC q → w_A ad KC q := fun _ h => h
  have b153 : ∀ (x1 x2 : Int32) (σ : St) (H : Heap) (locs : List Loc) (ls : Array Slot), mL_repairs_b153 x1 x2 σ = some (r, σ') → w_P D cA ad KC σ H → va_S (w_A ad KC) s.heap H locs → lv_has ls 10 [(0, .ref (ad 62)), (1, .int x1), (2, .int x2)] → Wm p l e wsL_repairs 7 161 s m ([.ref (ad 62), .int u1, .int u2] : List Value).toArray below meth c (w_Qi D cA ad KC r σ') (w_A ad KC) H locs (F0 m 153 ls []) := by
    intro x1 x2 σ H locs ls hM hP hS hl
    unfold mL_repairs_b153 at hM
    refine lv_aload_n hx hb dL_repairs_153 rfl (lv_at hl 0 rfl) ?_
    refine lv_iload_n hx hb dL_repairs_154 rfl (lv_at hl 1 rfl) ?_
    refine lv_iload_n hx hb dL_repairs_155 rfl (lv_at hl 2 rfl) ?_
    obtain ⟨r3, σ2, h1, hM⟩ := bnd_i hM
    refine x_callV (As := [.int x1, .int x2]) (rest := []) hA ⟨hx, hb, hml, hown, hts⟩ (tX6_repair l D cA ad hJ x1 x2 σ _ _ h1) (cwV 2 hts gL_repairs_X6_repair rfl rfl rfl (by decide +kernel) ⟨(Nat.le_of_ble_eq_true rfl), (Nat.le_of_ble_eq_true rfl)⟩) hK hP hS KC_sb rfl rfl hl.1 rfl (Nat.le_of_ble_eq_true rfl) ⟨Nat.zero_le _, Nat.zero_le _⟩ dL_repairs_156 (fun H locs hP hS _ _ => ?_)
    refine lv_if_ne (tgt := 166) hx hb dL_repairs_159 (by decide) (fun c4 => ?_) (fun c4 => ?_)
    · have hM := (if_neg c4).symm.trans hM
      refine lv_iconst (v := 0) hx hb dL_repairs_166 (by decide) ?_
      exact x_zret hx hb hr hlk hP hS hM dL_repairs_167
    · have hM := (if_pos c4).symm.trans hM
      refine lv_iconst (v := 1) hx hb dL_repairs_162 (by decide) ?_
      refine lv_goto (tgt := 167) hx hb dL_repairs_163 (by decide) ?_
      exact x_zret hx hb hr hlk hP hS hM dL_repairs_167
  have L57 : ∀ (n : Nat) (x1 x2 x6 : Int32) (σ : St) (H : Heap) (locs : List Loc) (ls : Array Slot), mL_repairs_L57 n x1 x2 x6 σ = some (r, σ') → w_P D cA ad KC σ H → va_S (w_A ad KC) s.heap H locs → lv_has ls 10 [(0, .ref (ad 62)), (1, .int x1), (2, .int x2), (6, .int x6)] → Wm p l e wsL_repairs 7 161 s m ([.ref (ad 62), .int u1, .int u2] : List Value).toArray below meth c (w_Qi D cA ad KC r σ') (w_A ad KC) H locs (F0 m 57 ls []) := by
    intro n57
    induction n57 with
    | zero =>
      intro x1 x2 x6 σ H locs ls hM hP hS hl
      rw [mL_repairs_L57] at hM
      cases hM
    | succ n57 ih57 =>
      have L69 : ∀ (n : Nat) (x1 x2 x6 x7 : Int32) (σ : St) (H : Heap) (locs : List Loc) (ls : Array Slot), mL_repairs_L69 (mL_repairs_L57 n57) n x1 x2 x6 x7 σ = some (r, σ') → w_P D cA ad KC σ H → va_S (w_A ad KC) s.heap H locs → lv_has ls 10 [(0, .ref (ad 62)), (1, .int x1), (2, .int x2), (6, .int x6), (7, .int x7)] → Wm p l e wsL_repairs 7 161 s m ([.ref (ad 62), .int u1, .int u2] : List Value).toArray below meth c (w_Qi D cA ad KC r σ') (w_A ad KC) H locs (F0 m 69 ls []) := by
        intro n69
        induction n69 with
        | zero =>
          intro x1 x2 x6 x7 σ H locs ls hM hP hS hl
          rw [mL_repairs_L69] at hM
          cases hM
        | succ n69 ih69 =>
          have L99 : ∀ (n : Nat) (x1 x2 x6 x7 x8 x9 : Int32) (σ : St) (H : Heap) (locs : List Loc) (ls : Array Slot), mL_repairs_L99 (mL_repairs_L57 n57) (mL_repairs_L69 (mL_repairs_L57 n57) n69) n x1 x2 x6 x7 x8 x9 σ = some (r, σ') → w_P D cA ad KC σ H → va_S (w_A ad KC) s.heap H locs → lv_has ls 10 [(0, .ref (ad 62)), (1, .int x1), (2, .int x2), (6, .int x6), (7, .int x7), (8, .int x8), (9, .int x9)] → Wm p l e wsL_repairs 7 161 s m ([.ref (ad 62), .int u1, .int u2] : List Value).toArray below meth c (w_Qi D cA ad KC r σ') (w_A ad KC) H locs (F0 m 99 ls []) := by
            intro n99
            induction n99 with
            | zero =>
              intro x1 x2 x6 x7 x8 x9 σ H locs ls hM hP hS hl
              rw [mL_repairs_L99] at hM
              cases hM
            | succ n99 ih99 =>
              intro x1 x2 x6 x7 x8 x9 σ H locs ls hM hP hS hl
              rw [mL_repairs_L99] at hM
              refine lv_iload hx hb dL_repairs_99 (lv_at hl 6 rfl) ?_
              refine lv_iload hx hb dL_repairs_101 (lv_at hl 5 rfl) ?_
              refine lv_bipush (v := 100) hx hb dL_repairs_103 (by decide) ?_
              refine lv_irem hx hb dL_repairs_105 (by decide) ?_
              refine lv_icmp_gt (tgt := 141) hx hb dL_repairs_106 (by decide) (fun c5 => ?_) (fun c5 => ?_)
              · have hM := (if_pos c5).symm.trans hM
                refine lv_iinc (v := (x7 + 1)) (lv' := [(7, .int (x7 + 1)), (0, .ref (ad 62)), (1, .int x1), (2, .int x2), (6, .int x6), (8, .int x8), (9, .int x9)]) hx hb dL_repairs_141 hl (k := 4) rfl rfl (by decide) rfl (fun ls hl => ?_)
                refine lv_goto (tgt := 69) hx hb dL_repairs_144 (by decide) ?_
                exact ih69 _ _ _ _ _ _ _ _ hM hP hS (lv_sub hl [1, 2, 3, 4, 0] rfl)
              · have hM := (if_neg c5).symm.trans hM
                refine lv_aload_n hx hb dL_repairs_109 rfl (lv_at hl 0 rfl) ?_
                refine lv_iload_n hx hb dL_repairs_110 rfl (lv_at hl 1 rfl) ?_
                refine lv_iload hx hb dL_repairs_111 (lv_at hl 3 rfl) ?_
                refine lv_iload hx hb dL_repairs_113 (lv_at hl 6 rfl) ?_
                obtain ⟨r8, σ7, h6, hM⟩ := bnd_i hM
                refine x_callV (As := [.int x1, .int x6, .int x9]) (rest := []) hA ⟨hx, hb, hml, hown, hts⟩ (tX6_knows l D cA ad hJ x1 x6 x9 σ _ _ h6) (cwV 3 hts gL_repairs_X6_knows rfl rfl rfl (by decide +kernel) ⟨(Nat.le_of_ble_eq_true rfl), (Nat.le_of_ble_eq_true rfl)⟩) hK hP hS KC_sb rfl rfl hl.1 rfl (Nat.le_of_ble_eq_true rfl) ⟨Nat.zero_le _, Nat.zero_le _⟩ dL_repairs_115 (fun H locs hP hS _ _ => ?_)
                refine lv_if_ne (tgt := 133) hx hb dL_repairs_118 (by decide) (fun c9 => ?_) (fun c9 => ?_)
                · have hM := (if_neg c9).symm.trans hM
                  refine lv_iconst (v := 0) hx hb dL_repairs_133 (by decide) ?_
                  exact x_zret hx hb hr hlk hP hS hM dL_repairs_134
                · have hM := (if_pos c9).symm.trans hM
                  refine lv_aload_n hx hb dL_repairs_121 rfl (lv_at hl 0 rfl) ?_
                  refine lv_iload_n hx hb dL_repairs_122 rfl (lv_at hl 2 rfl) ?_
                  refine lv_iload hx hb dL_repairs_123 (lv_at hl 3 rfl) ?_
                  refine lv_iload hx hb dL_repairs_125 (lv_at hl 6 rfl) ?_
                  obtain ⟨r12, σ11, h10, hM⟩ := bnd_i hM
                  refine x_callV (As := [.int x2, .int x6, .int x9]) (rest := []) hA ⟨hx, hb, hml, hown, hts⟩ (tX6_knows l D cA ad hJ x2 x6 x9 σ7 _ _ h10) (cwV 3 hts gL_repairs_X6_knows rfl rfl rfl (by decide +kernel) ⟨(Nat.le_of_ble_eq_true rfl), (Nat.le_of_ble_eq_true rfl)⟩) hK hP hS KC_sb rfl rfl hl.1 rfl (Nat.le_of_ble_eq_true rfl) ⟨Nat.zero_le _, Nat.zero_le _⟩ dL_repairs_127 (fun H locs hP hS _ _ => ?_)
                  refine lv_if_eq (tgt := 135) hx hb dL_repairs_130 (by decide) (fun c13 => ?_) (fun c13 => ?_)
                  · have hM := (if_pos c13).symm.trans hM
                    refine lv_iinc (v := (x9 + 1)) (lv' := [(9, .int (x9 + 1)), (0, .ref (ad 62)), (1, .int x1), (2, .int x2), (6, .int x6), (7, .int x7), (8, .int x8)]) hx hb dL_repairs_135 hl (k := 6) rfl rfl (by decide) rfl (fun ls hl => ?_)
                    refine lv_goto (tgt := 99) hx hb dL_repairs_138 (by decide) ?_
                    exact ih99 _ _ _ _ _ _ _ _ _ _ hM hP hS (lv_sub hl [1, 2, 3, 4, 5, 6, 0] rfl)
                  · have hM := (if_neg c13).symm.trans hM
                    refine lv_iconst (v := 0) hx hb dL_repairs_133 (by decide) ?_
                    exact x_zret hx hb hr hlk hP hS hM dL_repairs_134
          intro x1 x2 x6 x7 σ H locs ls hM hP hS hl
          rw [mL_repairs_L69] at hM
          refine lv_aload_n hx hb dL_repairs_69 rfl (lv_at hl 0 rfl) ?_
          refine lv_iload_n hx hb dL_repairs_70 rfl (lv_at hl 1 rfl) ?_
          refine lv_iload hx hb dL_repairs_71 (lv_at hl 3 rfl) ?_
          refine lv_iload hx hb dL_repairs_73 (lv_at hl 4 rfl) ?_
          obtain ⟨r16, σ15, h14, hM⟩ := bnd_i hM
          refine x_callV (As := [.int x1, .int x6, .int x7]) (rest := []) hA ⟨hx, hb, hml, hown, hts⟩ (tX6_gap l D cA ad hJ x1 x6 x7 σ _ _ h14) (cwV 3 hts gL_repairs_X6_gap rfl rfl rfl (by decide +kernel) ⟨(Nat.le_of_ble_eq_true rfl), (Nat.le_of_ble_eq_true rfl)⟩) hK hP hS KC_sb rfl rfl hl.1 rfl (Nat.le_of_ble_eq_true rfl) ⟨Nat.zero_le _, Nat.zero_le _⟩ dL_repairs_75 (fun H locs hP hS _ _ => ?_)
          refine lv_if_lt (tgt := 147) hx hb dL_repairs_78 (by decide) (fun c17 => ?_) (fun c17 => ?_)
          · have hM := (if_pos c17).symm.trans hM
            refine lv_iinc (v := (x6 + 1)) (lv' := [(6, .int (x6 + 1)), (0, .ref (ad 62)), (1, .int x1), (2, .int x2), (7, .int x7)]) hx hb dL_repairs_147 hl (k := 3) rfl rfl (by decide) rfl (fun ls hl => ?_)
            refine lv_goto (tgt := 57) hx hb dL_repairs_150 (by decide) ?_
            exact ih57 _ _ _ _ _ _ _ hM hP hS (lv_sub hl [1, 2, 3, 0] rfl)
          · have hM := (if_neg c17).symm.trans hM
            refine lv_aload_n hx hb dL_repairs_81 rfl (lv_at hl 0 rfl) ?_
            refine lv_iload_n hx hb dL_repairs_82 rfl (lv_at hl 1 rfl) ?_
            refine lv_iload hx hb dL_repairs_83 (lv_at hl 3 rfl) ?_
            refine lv_iload hx hb dL_repairs_85 (lv_at hl 4 rfl) ?_
            obtain ⟨r20, σ19, h18, hM⟩ := bnd_i hM
            refine x_callV (As := [.int x1, .int x6, .int x7]) (rest := []) hA ⟨hx, hb, hml, hown, hts⟩ (tX6_gap l D cA ad hJ x1 x6 x7 σ15 _ _ h18) (cwV 3 hts gL_repairs_X6_gap rfl rfl rfl (by decide +kernel) ⟨(Nat.le_of_ble_eq_true rfl), (Nat.le_of_ble_eq_true rfl)⟩) hK hP hS KC_sb rfl rfl hl.1 rfl (Nat.le_of_ble_eq_true rfl) ⟨Nat.zero_le _, Nat.zero_le _⟩ dL_repairs_87 (fun H locs hP hS _ _ => ?_)
            refine lv_istore (lv' := [(8, .int r20), (0, .ref (ad 62)), (1, .int x1), (2, .int x2), (6, .int x6), (7, .int x7)]) hx hb dL_repairs_90 hl (by decide) rfl (fun ls hl => ?_)
            refine lv_iload hx hb dL_repairs_92 (lv_at hl 0 rfl) ?_
            refine lv_bipush (v := 100) hx hb dL_repairs_94 (by decide) ?_
            refine lv_idiv hx hb dL_repairs_96 (by decide) ?_
            refine lv_istore (lv' := [(9, .int (r20 / 100)), (8, .int r20), (0, .ref (ad 62)), (1, .int x1), (2, .int x2), (6, .int x6), (7, .int x7)]) hx hb dL_repairs_97 hl (by decide) rfl (fun ls hl => ?_)
            exact L99 fu _ _ _ _ _ _ _ _ _ _ hM hP hS (lv_sub hl [2, 3, 4, 5, 6, 1, 0] rfl)
      intro x1 x2 x6 σ H locs ls hM hP hS hl
      rw [mL_repairs_L57] at hM
      refine lv_iload hx hb dL_repairs_57 (lv_at hl 3 rfl) ?_
      refine lv_aload_n hx hb dL_repairs_59 rfl (lv_at hl 0 rfl) ?_
      obtain ⟨r23, σ22, h21, hM⟩ := bnd_i hM
      refine x_callV (As := []) (rest := [.int x6]) hA ⟨hx, hb, hml, hown, hts⟩ (tX6_sites l D cA ad hJ σ _ _ h21) (cwV 0 hts gL_repairs_X6_sites rfl rfl rfl (by decide +kernel) ⟨(Nat.le_of_ble_eq_true rfl), (Nat.le_of_ble_eq_true rfl)⟩) hK hP hS KC_sb rfl rfl hl.1 rfl (Nat.le_of_ble_eq_true rfl) ⟨Nat.zero_le _, Nat.zero_le _⟩ dL_repairs_60 (fun H locs hP hS _ _ => ?_)
      refine lv_icmp_ge (tgt := 153) hx hb dL_repairs_63 (by decide) (fun c24 => ?_) (fun c24 => ?_)
      · have hM := (if_pos c24).symm.trans hM
        exact b153 _ _ _ _ _ _ hM hP hS (lv_sub hl [0, 1, 2] rfl)
      · have hM := (if_neg c24).symm.trans hM
        refine lv_iconst (v := 0) hx hb dL_repairs_66 (by decide) ?_
        refine lv_istore (lv' := [(7, .int 0), (0, .ref (ad 62)), (1, .int x1), (2, .int x2), (6, .int x6)]) hx hb dL_repairs_67 hl (by decide) rfl (fun ls hl => ?_)
        exact L69 fu _ _ _ _ _ _ _ _ hM hP hS (lv_sub hl [1, 2, 3, 4, 0] rfl)
  unfold mL_repairs at hM
  refine lv_aload_n hx hb dL_repairs_0 rfl (lv_at hl 0 rfl) ?_
  refine lv_iload_n hx hb dL_repairs_1 rfl (lv_at hl 1 rfl) ?_
  refine lv_iconst (v := 1) hx hb dL_repairs_2 (by decide) ?_
  obtain ⟨r27, σ26, h25, hM⟩ := bnd_i hM
  refine x_callV (As := [.int u1, .int 1]) (rest := []) hA ⟨hx, hb, hml, hown, hts⟩ (tX6_siteInfo l D cA ad hJ u1 1 σ _ _ h25) (cwV 2 hts gL_repairs_X6_siteInfo rfl rfl rfl (by decide +kernel) ⟨(Nat.le_of_ble_eq_true rfl), (Nat.le_of_ble_eq_true rfl)⟩) hK hP hS KC_sb rfl rfl hl.1 rfl (Nat.le_of_ble_eq_true rfl) ⟨Nat.zero_le _, Nat.zero_le _⟩ dL_repairs_3 (fun H locs hP hS _ _ => ?_)
  refine lv_istore_n (lv' := [(3, .int r27), (0, .ref (ad 62)), (1, .int u1), (2, .int u2)]) hx hb dL_repairs_6 rfl hl (by decide) rfl (fun ls hl => ?_)
  refine lv_aload_n hx hb dL_repairs_7 rfl (lv_at hl 1 rfl) ?_
  refine lv_iload_n hx hb dL_repairs_8 rfl (lv_at hl 2 rfl) ?_
  obtain ⟨r30, σ29, h28, hM⟩ := bnd_i hM
  refine x_callV (As := [.int u1]) (rest := []) hA ⟨hx, hb, hml, hown, hts⟩ (tX6_bestHelper l D cA ad hJ u1 σ26 _ _ h28) (cwV 1 hts gL_repairs_X6_bestHelper rfl rfl rfl (by decide +kernel) ⟨(Nat.le_of_ble_eq_true rfl), (Nat.le_of_ble_eq_true rfl)⟩) hK hP hS KC_sb rfl rfl hl.1 rfl (Nat.le_of_ble_eq_true rfl) ⟨Nat.zero_le _, Nat.zero_le _⟩ dL_repairs_9 (fun H locs hP hS _ _ => ?_)
  refine lv_istore (lv' := [(4, .int r30), (3, .int r27), (0, .ref (ad 62)), (1, .int u1), (2, .int u2)]) hx hb dL_repairs_12 hl (by decide) rfl (fun ls hl => ?_)
  refine lv_aload_n hx hb dL_repairs_14 rfl (lv_at hl 2 rfl) ?_
  refine lv_iload_n hx hb dL_repairs_15 rfl (lv_at hl 3 rfl) ?_
  refine lv_iload_n hx hb dL_repairs_16 rfl (lv_at hl 4 rfl) ?_
  obtain ⟨r33, σ32, h31, hM⟩ := bnd_i hM
  refine x_callV (As := [.int u1, .int u2]) (rest := []) hA ⟨hx, hb, hml, hown, hts⟩ (tX6_repair l D cA ad hJ u1 u2 σ29 _ _ h31) (cwV 2 hts gL_repairs_X6_repair rfl rfl rfl (by decide +kernel) ⟨(Nat.le_of_ble_eq_true rfl), (Nat.le_of_ble_eq_true rfl)⟩) hK hP hS KC_sb rfl rfl hl.1 rfl (Nat.le_of_ble_eq_true rfl) ⟨Nat.zero_le _, Nat.zero_le _⟩ dL_repairs_17 (fun H locs hP hS _ _ => ?_)
  refine lv_istore (lv' := [(5, .int r33), (4, .int r30), (3, .int r27), (0, .ref (ad 62)), (1, .int u1), (2, .int u2)]) hx hb dL_repairs_20 hl (by decide) rfl (fun ls hl => ?_)
  refine lv_iload hx hb dL_repairs_22 (lv_at hl 0 rfl) ?_
  refine lv_if_lt (tgt := 52) hx hb dL_repairs_24 (by decide) (fun c34 => ?_) (fun c34 => ?_)
  · have hM := (if_pos c34).symm.trans hM
    refine lv_iconst (v := 0) hx hb dL_repairs_52 (by decide) ?_
    exact x_zret hx hb hr hlk hP hS hM dL_repairs_53
  · have hM := (if_neg c34).symm.trans hM
    refine lv_aload_n hx hb dL_repairs_27 rfl (lv_at hl 3 rfl) ?_
    refine lv_iload_n hx hb dL_repairs_28 rfl (lv_at hl 4 rfl) ?_
    refine lv_iconst (v := 1) hx hb dL_repairs_29 (by decide) ?_
    obtain ⟨r37, σ36, h35, hM⟩ := bnd_i hM
    refine x_callV (As := [.int u1, .int 1]) (rest := []) hA ⟨hx, hb, hml, hown, hts⟩ (tX6_siteInfo l D cA ad hJ u1 1 σ32 _ _ h35) (cwV 2 hts gL_repairs_X6_siteInfo rfl rfl rfl (by decide +kernel) ⟨(Nat.le_of_ble_eq_true rfl), (Nat.le_of_ble_eq_true rfl)⟩) hK hP hS KC_sb rfl rfl hl.1 rfl (Nat.le_of_ble_eq_true rfl) ⟨Nat.zero_le _, Nat.zero_le _⟩ dL_repairs_30 (fun H locs hP hS _ _ => ?_)
    refine lv_iload_n hx hb dL_repairs_33 rfl (lv_at hl 2 rfl) ?_
    refine lv_iload hx hb dL_repairs_34 (lv_at hl 0 rfl) ?_
    refine lv_iadd hx hb dL_repairs_36 ?_
    refine lv_icmp_ne (tgt := 52) hx hb dL_repairs_37 (by decide) (fun c38 => ?_) (fun c38 => ?_)
    · have hM := (if_neg c38).symm.trans hM
      refine lv_iconst (v := 0) hx hb dL_repairs_52 (by decide) ?_
      exact x_zret hx hb hr hlk hP hS hM dL_repairs_53
    · have hM := (if_pos c38).symm.trans hM
      refine lv_iload hx hb dL_repairs_40 (lv_at hl 1 rfl) ?_
      refine lv_ldc (own := RL) (v := (-1000000004)) hx hb hown (hts (.constant RL 34 (-1000000004)) (by decide +kernel)) dL_repairs_42 ?_
      refine lv_icmp_ne (tgt := 54) hx hb dL_repairs_44 (by decide) (fun c39 => ?_) (fun c39 => ?_)
      · have hM := (if_neg c39).symm.trans hM
        refine lv_iconst (v := 0) hx hb dL_repairs_54 (by decide) ?_
        refine lv_istore (lv' := [(6, .int 0), (5, .int r33), (4, .int r30), (3, .int r27), (0, .ref (ad 62)), (1, .int u1), (2, .int u2)]) hx hb dL_repairs_55 hl (by decide) rfl (fun ls hl => ?_)
        exact L57 fu _ _ _ _ _ _ _ hM hP hS (lv_sub hl [4, 5, 6, 0] rfl)
      · have hM := (if_pos c39).symm.trans hM
        refine lv_iload hx hb dL_repairs_47 (lv_at hl 0 rfl) ?_
        refine lv_if_le (tgt := 54) hx hb dL_repairs_49 (by decide) (fun c40 => ?_) (fun c40 => ?_)
        · have hM := (if_pos c40).symm.trans hM
          refine lv_iconst (v := 0) hx hb dL_repairs_54 (by decide) ?_
          refine lv_istore (lv' := [(6, .int 0), (5, .int r33), (4, .int r30), (3, .int r27), (0, .ref (ad 62)), (1, .int u1), (2, .int u2)]) hx hb dL_repairs_55 hl (by decide) rfl (fun ls hl => ?_)
          exact L57 fu _ _ _ _ _ _ _ hM hP hS (lv_sub hl [4, 5, 6, 0] rfl)
        · have hM := (if_neg c40).symm.trans hM
          refine lv_iconst (v := 0) hx hb dL_repairs_52 (by decide) ?_
          exact x_zret hx hb hr hlk hP hS hM dL_repairs_53
set_option maxHeartbeats 4000000 in
set_option maxRecDepth 100000 in
theorem tL_transfers (l : Launch) (D : va_G) (cA : ClassId) (ad : Nat → Nat) (hJ : w_J ad KC) (u1 u2 : Int32) (σ σ' : St) (r : Int32) (hM : mL_transfers u1 u2 σ = some (r, σ')) : Ct l yL_transfers wsL_transfers 5 118 D cA ad KC [.ref (ad 62), .int u1, .int u2] σ r σ' := by
  unfold Ct
  refine Met_of (cc := cL_transfers) (maxL := 6) (ret := (some .boolean)) hJ (by decide +kernel) rfl (Nat.le_of_ble_eq_true rfl) ?_
  intro p e s m below meth c Z H locs ls hP hS hl
  obtain ⟨hx, hb, hml, hown, hts, hr, hlk, hK, -⟩ := Z
  have hown : s.vm.findClass RL = some m.cls := hown
  have hl : lv_has ls 6 [(0, .ref (ad 62)), (1, .int u1), (2, .int u2)] := hl
  have hA : ∀ q, w_A ad KC q → w_A ad KC q := fun _ h => h
  have b176 : ∀ (x1 x2 : Int32) (σ : St) (H : Heap) (locs : List Loc) (ls : Array Slot), mL_transfers_b176 x1 x2 σ = some (r, σ') → w_P D cA ad KC σ H → va_S (w_A ad KC) s.heap H locs → lv_has ls 6 [(0, .ref (ad 62)), (1, .int x1), (2, .int x2)] → Wm p l e wsL_transfers 5 118 s m ([.ref (ad 62), .int u1, .int u2] : List Value).toArray below meth c (w_Qi D cA ad KC r σ') (w_A ad KC) H locs (F0 m 176 ls []) := by
    intro x1 x2 σ H locs ls hM hP hS hl
    unfold mL_transfers_b176 at hM
    refine lv_aload_n hx hb dL_transfers_176 rfl (lv_at hl 0 rfl) ?_
    refine lv_iload_n hx hb dL_transfers_177 rfl (lv_at hl 1 rfl) ?_
    refine lv_iload_n hx hb dL_transfers_178 rfl (lv_at hl 2 rfl) ?_
    obtain ⟨r3, σ2, h1, hM⟩ := bnd_i hM
    refine x_callV (As := [.int x1, .int x2]) (rest := []) hA ⟨hx, hb, hml, hown, hts⟩ (tX6_transfer l D cA ad hJ x1 x2 σ _ _ h1) (cwV 2 hts gL_transfers_X6_transfer rfl rfl rfl (by decide +kernel) ⟨(Nat.le_of_ble_eq_true rfl), (Nat.le_of_ble_eq_true rfl)⟩) hK hP hS KC_sb rfl rfl hl.1 rfl (Nat.le_of_ble_eq_true rfl) ⟨Nat.zero_le _, Nat.zero_le _⟩ dL_transfers_179 (fun H locs hP hS _ _ => ?_)
    refine lv_if_ne (tgt := 189) hx hb dL_transfers_182 (by decide) (fun c4 => ?_) (fun c4 => ?_)
    · have hM := (if_neg c4).symm.trans hM
      refine lv_iconst (v := 0) hx hb dL_transfers_189 (by decide) ?_
      exact x_zret hx hb hr hlk hP hS hM dL_transfers_190
    · have hM := (if_pos c4).symm.trans hM
      refine lv_iconst (v := 1) hx hb dL_transfers_185 (by decide) ?_
      refine lv_goto (tgt := 190) hx hb dL_transfers_186 (by decide) ?_
      exact x_zret hx hb hr hlk hP hS hM dL_transfers_190
  have L112 : ∀ (n : Nat) (x1 x2 x4 : Int32) (σ : St) (H : Heap) (locs : List Loc) (ls : Array Slot), mL_transfers_L112 n x1 x2 x4 σ = some (r, σ') → w_P D cA ad KC σ H → va_S (w_A ad KC) s.heap H locs → lv_has ls 6 [(0, .ref (ad 62)), (1, .int x1), (2, .int x2), (4, .int x4)] → Wm p l e wsL_transfers 5 118 s m ([.ref (ad 62), .int u1, .int u2] : List Value).toArray below meth c (w_Qi D cA ad KC r σ') (w_A ad KC) H locs (F0 m 112 ls []) := by
    intro n112
    induction n112 with
    | zero =>
      intro x1 x2 x4 σ H locs ls hM hP hS hl
      rw [mL_transfers_L112] at hM
      cases hM
    | succ n112 ih112 =>
      have L124 : ∀ (n : Nat) (x1 x2 x4 x5 : Int32) (σ : St) (H : Heap) (locs : List Loc) (ls : Array Slot), mL_transfers_L124 (mL_transfers_L112 n112) n x1 x2 x4 x5 σ = some (r, σ') → w_P D cA ad KC σ H → va_S (w_A ad KC) s.heap H locs → lv_has ls 6 [(0, .ref (ad 62)), (1, .int x1), (2, .int x2), (4, .int x4), (5, .int x5)] → Wm p l e wsL_transfers 5 118 s m ([.ref (ad 62), .int u1, .int u2] : List Value).toArray below meth c (w_Qi D cA ad KC r σ') (w_A ad KC) H locs (F0 m 124 ls []) := by
        intro n124
        induction n124 with
        | zero =>
          intro x1 x2 x4 x5 σ H locs ls hM hP hS hl
          rw [mL_transfers_L124] at hM
          cases hM
        | succ n124 ih124 =>
          intro x1 x2 x4 x5 σ H locs ls hM hP hS hl
          rw [mL_transfers_L124] at hM
          refine lv_iload hx hb dL_transfers_124 (lv_at hl 4 rfl) ?_
          refine lv_aload_n hx hb dL_transfers_126 rfl (lv_at hl 0 rfl) ?_
          refine lv_iload hx hb dL_transfers_127 (lv_at hl 3 rfl) ?_
          refine lv_iconst (v := 2) hx hb dL_transfers_129 (by decide) ?_
          obtain ⟨r7, σ6, h5, hM⟩ := bnd_i hM
          refine x_callV (As := [.int x4, .int 2]) (rest := [.int x5]) hA ⟨hx, hb, hml, hown, hts⟩ (tX6_siteInfo l D cA ad hJ x4 2 σ _ _ h5) (cwV 2 hts gL_transfers_X6_siteInfo rfl rfl rfl (by decide +kernel) ⟨(Nat.le_of_ble_eq_true rfl), (Nat.le_of_ble_eq_true rfl)⟩) hK hP hS KC_sb rfl rfl hl.1 rfl (Nat.le_of_ble_eq_true rfl) ⟨Nat.zero_le _, Nat.zero_le _⟩ dL_transfers_130 (fun H locs hP hS _ _ => ?_)
          refine lv_icmp_gt (tgt := 170) hx hb dL_transfers_133 (by decide) (fun c8 => ?_) (fun c8 => ?_)
          · have hM := (if_pos c8).symm.trans hM
            refine lv_iinc (v := (x4 + 1)) (lv' := [(4, .int (x4 + 1)), (0, .ref (ad 62)), (1, .int x1), (2, .int x2), (5, .int x5)]) hx hb dL_transfers_170 hl (k := 3) rfl rfl (by decide) rfl (fun ls hl => ?_)
            refine lv_goto (tgt := 112) hx hb dL_transfers_173 (by decide) ?_
            exact ih112 _ _ _ _ _ _ _ hM hP hS (lv_sub hl [1, 2, 3, 0] rfl)
          · have hM := (if_neg c8).symm.trans hM
            refine lv_aload_n hx hb dL_transfers_136 rfl (lv_at hl 0 rfl) ?_
            refine lv_iload_n hx hb dL_transfers_137 rfl (lv_at hl 2 rfl) ?_
            refine lv_iload hx hb dL_transfers_138 (lv_at hl 3 rfl) ?_
            refine lv_iload hx hb dL_transfers_140 (lv_at hl 4 rfl) ?_
            obtain ⟨r11, σ10, h9, hM⟩ := bnd_i hM
            refine x_callV (As := [.int x2, .int x4, .int x5]) (rest := []) hA ⟨hx, hb, hml, hown, hts⟩ (tX6_knows l D cA ad hJ x2 x4 x5 σ6 _ _ h9) (cwV 3 hts gL_transfers_X6_knows rfl rfl rfl (by decide +kernel) ⟨(Nat.le_of_ble_eq_true rfl), (Nat.le_of_ble_eq_true rfl)⟩) hK hP hS KC_sb rfl rfl hl.1 rfl (Nat.le_of_ble_eq_true rfl) ⟨Nat.zero_le _, Nat.zero_le _⟩ dL_transfers_142 (fun H locs hP hS _ _ => ?_)
            refine lv_iconst (v := 1) hx hb dL_transfers_145 (by decide) ?_
            refine lv_icmp_ne (tgt := 164) hx hb dL_transfers_146 (by decide) (fun c12 => ?_) (fun c12 => ?_)
            · have hM := (if_neg c12).symm.trans hM
              refine lv_iinc (v := (x5 + 1)) (lv' := [(5, .int (x5 + 1)), (0, .ref (ad 62)), (1, .int x1), (2, .int x2), (4, .int x4)]) hx hb dL_transfers_164 hl (k := 4) rfl rfl (by decide) rfl (fun ls hl => ?_)
              refine lv_goto (tgt := 124) hx hb dL_transfers_167 (by decide) ?_
              exact ih124 _ _ _ _ _ _ _ _ hM hP hS (lv_sub hl [1, 2, 3, 4, 0] rfl)
            · have hM := (if_pos c12).symm.trans hM
              refine lv_aload_n hx hb dL_transfers_149 rfl (lv_at hl 0 rfl) ?_
              refine lv_iload_n hx hb dL_transfers_150 rfl (lv_at hl 1 rfl) ?_
              refine lv_iload hx hb dL_transfers_151 (lv_at hl 3 rfl) ?_
              refine lv_iload hx hb dL_transfers_153 (lv_at hl 4 rfl) ?_
              obtain ⟨r15, σ14, h13, hM⟩ := bnd_i hM
              refine x_callV (As := [.int x1, .int x4, .int x5]) (rest := []) hA ⟨hx, hb, hml, hown, hts⟩ (tX6_knows l D cA ad hJ x1 x4 x5 σ10 _ _ h13) (cwV 3 hts gL_transfers_X6_knows rfl rfl rfl (by decide +kernel) ⟨(Nat.le_of_ble_eq_true rfl), (Nat.le_of_ble_eq_true rfl)⟩) hK hP hS KC_sb rfl rfl hl.1 rfl (Nat.le_of_ble_eq_true rfl) ⟨Nat.zero_le _, Nat.zero_le _⟩ dL_transfers_155 (fun H locs hP hS _ _ => ?_)
              refine lv_iconst (v := 1) hx hb dL_transfers_158 (by decide) ?_
              refine lv_icmp_eq (tgt := 164) hx hb dL_transfers_159 (by decide) (fun c16 => ?_) (fun c16 => ?_)
              · have hM := (if_pos c16).symm.trans hM
                refine lv_iinc (v := (x5 + 1)) (lv' := [(5, .int (x5 + 1)), (0, .ref (ad 62)), (1, .int x1), (2, .int x2), (4, .int x4)]) hx hb dL_transfers_164 hl (k := 4) rfl rfl (by decide) rfl (fun ls hl => ?_)
                refine lv_goto (tgt := 124) hx hb dL_transfers_167 (by decide) ?_
                exact ih124 _ _ _ _ _ _ _ _ hM hP hS (lv_sub hl [1, 2, 3, 4, 0] rfl)
              · have hM := (if_neg c16).symm.trans hM
                refine lv_iconst (v := 0) hx hb dL_transfers_162 (by decide) ?_
                exact x_zret hx hb hr hlk hP hS hM dL_transfers_163
      intro x1 x2 x4 σ H locs ls hM hP hS hl
      rw [mL_transfers_L112] at hM
      refine lv_iload hx hb dL_transfers_112 (lv_at hl 3 rfl) ?_
      refine lv_aload_n hx hb dL_transfers_114 rfl (lv_at hl 0 rfl) ?_
      obtain ⟨r19, σ18, h17, hM⟩ := bnd_i hM
      refine x_callV (As := []) (rest := [.int x4]) hA ⟨hx, hb, hml, hown, hts⟩ (tX6_sites l D cA ad hJ σ _ _ h17) (cwV 0 hts gL_transfers_X6_sites rfl rfl rfl (by decide +kernel) ⟨(Nat.le_of_ble_eq_true rfl), (Nat.le_of_ble_eq_true rfl)⟩) hK hP hS KC_sb rfl rfl hl.1 rfl (Nat.le_of_ble_eq_true rfl) ⟨Nat.zero_le _, Nat.zero_le _⟩ dL_transfers_115 (fun H locs hP hS _ _ => ?_)
      refine lv_icmp_ge (tgt := 176) hx hb dL_transfers_118 (by decide) (fun c20 => ?_) (fun c20 => ?_)
      · have hM := (if_pos c20).symm.trans hM
        exact b176 _ _ _ _ _ _ hM hP hS (lv_sub hl [0, 1, 2] rfl)
      · have hM := (if_neg c20).symm.trans hM
        refine lv_iconst (v := 1) hx hb dL_transfers_121 (by decide) ?_
        refine lv_istore (lv' := [(5, .int 1), (0, .ref (ad 62)), (1, .int x1), (2, .int x2), (4, .int x4)]) hx hb dL_transfers_122 hl (by decide) rfl (fun ls hl => ?_)
        exact L124 fu _ _ _ _ _ _ _ _ hM hP hS (lv_sub hl [1, 2, 3, 4, 0] rfl)
  have b82 : ∀ (x1 x2 x3 : Int32) (σ : St) (H : Heap) (locs : List Loc) (ls : Array Slot), mL_transfers_b82 x1 x2 x3 σ = some (r, σ') → w_P D cA ad KC σ H → va_S (w_A ad KC) s.heap H locs → lv_has ls 6 [(0, .ref (ad 62)), (1, .int x1), (2, .int x2), (3, .int x3)] → Wm p l e wsL_transfers 5 118 s m ([.ref (ad 62), .int u1, .int u2] : List Value).toArray below meth c (w_Qi D cA ad KC r σ') (w_A ad KC) H locs (F0 m 82 ls []) := by
    intro x1 x2 x3 σ H locs ls hM hP hS hl
    unfold mL_transfers_b82 at hM
    refine lv_aload_n hx hb dL_transfers_82 rfl (lv_at hl 0 rfl) ?_
    refine lv_iload_n hx hb dL_transfers_83 rfl (lv_at hl 1 rfl) ?_
    refine lv_iload_n hx hb dL_transfers_84 rfl (lv_at hl 2 rfl) ?_
    obtain ⟨r23, σ22, h21, hM⟩ := bnd_i hM
    refine x_callV (As := [.int x1, .int x2]) (rest := []) hA ⟨hx, hb, hml, hown, hts⟩ (tX6_transfer l D cA ad hJ x1 x2 σ _ _ h21) (cwV 2 hts gL_transfers_X6_transfer rfl rfl rfl (by decide +kernel) ⟨(Nat.le_of_ble_eq_true rfl), (Nat.le_of_ble_eq_true rfl)⟩) hK hP hS KC_sb rfl rfl hl.1 rfl (Nat.le_of_ble_eq_true rfl) ⟨Nat.zero_le _, Nat.zero_le _⟩ dL_transfers_85 (fun H locs hP hS _ _ => ?_)
    refine lv_iload_n hx hb dL_transfers_88 rfl (lv_at hl 3 rfl) ?_
    refine lv_icmp_ne (tgt := 107) hx hb dL_transfers_89 (by decide) (fun c24 => ?_) (fun c24 => ?_)
    · have hM := (if_neg c24).symm.trans hM
      refine lv_iconst (v := 0) hx hb dL_transfers_107 (by decide) ?_
      exact x_zret hx hb hr hlk hP hS hM dL_transfers_108
    · have hM := (if_pos c24).symm.trans hM
      refine lv_aload_n hx hb dL_transfers_92 rfl (lv_at hl 0 rfl) ?_
      refine lv_iload_n hx hb dL_transfers_93 rfl (lv_at hl 1 rfl) ?_
      refine lv_iconst (v := 0) hx hb dL_transfers_94 (by decide) ?_
      obtain ⟨r27, σ26, h25, hM⟩ := bnd_i hM
      refine x_callV (As := [.int x1, .int 0]) (rest := []) hA ⟨hx, hb, hml, hown, hts⟩ (tX6_siteInfo l D cA ad hJ x1 0 σ22 _ _ h25) (cwV 2 hts gL_transfers_X6_siteInfo rfl rfl rfl (by decide +kernel) ⟨(Nat.le_of_ble_eq_true rfl), (Nat.le_of_ble_eq_true rfl)⟩) hK hP hS KC_sb rfl rfl hl.1 rfl (Nat.le_of_ble_eq_true rfl) ⟨Nat.zero_le _, Nat.zero_le _⟩ dL_transfers_95 (fun H locs hP hS _ _ => ?_)
      refine lv_aload_n hx hb dL_transfers_98 rfl (lv_at hl 0 rfl) ?_
      refine lv_iload_n hx hb dL_transfers_99 rfl (lv_at hl 2 rfl) ?_
      refine lv_iconst (v := 0) hx hb dL_transfers_100 (by decide) ?_
      obtain ⟨r30, σ29, h28, hM⟩ := bnd_i hM
      refine x_callV (As := [.int x2, .int 0]) (rest := [.int r27]) hA ⟨hx, hb, hml, hown, hts⟩ (tX6_siteInfo l D cA ad hJ x2 0 σ26 _ _ h28) (cwV 2 hts gL_transfers_X6_siteInfo rfl rfl rfl (by decide +kernel) ⟨(Nat.le_of_ble_eq_true rfl), (Nat.le_of_ble_eq_true rfl)⟩) hK hP hS KC_sb rfl rfl hl.1 rfl (Nat.le_of_ble_eq_true rfl) ⟨Nat.zero_le _, Nat.zero_le _⟩ dL_transfers_101 (fun H locs hP hS _ _ => ?_)
      refine lv_icmp_ge (tgt := 109) hx hb dL_transfers_104 (by decide) (fun c31 => ?_) (fun c31 => ?_)
      · have hM := (if_pos c31).symm.trans hM
        refine lv_iconst (v := 0) hx hb dL_transfers_109 (by decide) ?_
        refine lv_istore (lv' := [(4, .int 0), (0, .ref (ad 62)), (1, .int x1), (2, .int x2), (3, .int x3)]) hx hb dL_transfers_110 hl (by decide) rfl (fun ls hl => ?_)
        exact L112 fu _ _ _ _ _ _ _ hM hP hS (lv_sub hl [1, 2, 3, 0] rfl)
      · have hM := (if_neg c31).symm.trans hM
        refine lv_iconst (v := 0) hx hb dL_transfers_107 (by decide) ?_
        exact x_zret hx hb hr hlk hP hS hM dL_transfers_108
  have L5 : ∀ (n : Nat) (x1 x2 x3 x4 : Int32) (σ : St) (H : Heap) (locs : List Loc) (ls : Array Slot), mL_transfers_L5 n x1 x2 x3 x4 σ = some (r, σ') → w_P D cA ad KC σ H → va_S (w_A ad KC) s.heap H locs → lv_has ls 6 [(0, .ref (ad 62)), (1, .int x1), (2, .int x2), (3, .int x3), (4, .int x4)] → Wm p l e wsL_transfers 5 118 s m ([.ref (ad 62), .int u1, .int u2] : List Value).toArray below meth c (w_Qi D cA ad KC r σ') (w_A ad KC) H locs (F0 m 5 ls []) := by
    intro n5
    induction n5 with
    | zero =>
      intro x1 x2 x3 x4 σ H locs ls hM hP hS hl
      rw [mL_transfers_L5] at hM
      cases hM
    | succ n5 ih5 =>
      have L17 : ∀ (n : Nat) (x1 x2 x3 x4 x5 : Int32) (σ : St) (H : Heap) (locs : List Loc) (ls : Array Slot), mL_transfers_L17 (mL_transfers_L5 n5) n x1 x2 x3 x4 x5 σ = some (r, σ') → w_P D cA ad KC σ H → va_S (w_A ad KC) s.heap H locs → lv_has ls 6 [(0, .ref (ad 62)), (1, .int x1), (2, .int x2), (3, .int x3), (4, .int x4), (5, .int x5)] → Wm p l e wsL_transfers 5 118 s m ([.ref (ad 62), .int u1, .int u2] : List Value).toArray below meth c (w_Qi D cA ad KC r σ') (w_A ad KC) H locs (F0 m 17 ls []) := by
        intro n17
        induction n17 with
        | zero =>
          intro x1 x2 x3 x4 x5 σ H locs ls hM hP hS hl
          rw [mL_transfers_L17] at hM
          cases hM
        | succ n17 ih17 =>
          intro x1 x2 x3 x4 x5 σ H locs ls hM hP hS hl
          rw [mL_transfers_L17] at hM
          refine lv_iload hx hb dL_transfers_17 (lv_at hl 5 rfl) ?_
          refine lv_aload_n hx hb dL_transfers_19 rfl (lv_at hl 0 rfl) ?_
          refine lv_iload hx hb dL_transfers_20 (lv_at hl 4 rfl) ?_
          refine lv_iconst (v := 2) hx hb dL_transfers_22 (by decide) ?_
          obtain ⟨r34, σ33, h32, hM⟩ := bnd_i hM
          refine x_callV (As := [.int x4, .int 2]) (rest := [.int x5]) hA ⟨hx, hb, hml, hown, hts⟩ (tX6_siteInfo l D cA ad hJ x4 2 σ _ _ h32) (cwV 2 hts gL_transfers_X6_siteInfo rfl rfl rfl (by decide +kernel) ⟨(Nat.le_of_ble_eq_true rfl), (Nat.le_of_ble_eq_true rfl)⟩) hK hP hS KC_sb rfl rfl hl.1 rfl (Nat.le_of_ble_eq_true rfl) ⟨Nat.zero_le _, Nat.zero_le _⟩ dL_transfers_23 (fun H locs hP hS _ _ => ?_)
          refine lv_icmp_gt (tgt := 76) hx hb dL_transfers_26 (by decide) (fun c35 => ?_) (fun c35 => ?_)
          · have hM := (if_pos c35).symm.trans hM
            refine lv_iinc (v := (x4 + 1)) (lv' := [(4, .int (x4 + 1)), (0, .ref (ad 62)), (1, .int x1), (2, .int x2), (3, .int x3), (5, .int x5)]) hx hb dL_transfers_76 hl (k := 4) rfl rfl (by decide) rfl (fun ls hl => ?_)
            refine lv_goto (tgt := 5) hx hb dL_transfers_79 (by decide) ?_
            exact ih5 _ _ _ _ _ _ _ _ hM hP hS (lv_sub hl [1, 2, 3, 4, 0] rfl)
          · have hM := (if_neg c35).symm.trans hM
            refine lv_iload_n hx hb dL_transfers_29 rfl (lv_at hl 3 rfl) ?_
            refine lv_aload_n hx hb dL_transfers_30 rfl (lv_at hl 0 rfl) ?_
            refine lv_iload_n hx hb dL_transfers_31 rfl (lv_at hl 2 rfl) ?_
            refine lv_iload hx hb dL_transfers_32 (lv_at hl 4 rfl) ?_
            refine lv_iload hx hb dL_transfers_34 (lv_at hl 5 rfl) ?_
            obtain ⟨r38, σ37, h36, hM⟩ := bnd_i hM
            refine x_callV (As := [.int x2, .int x4, .int x5]) (rest := [.int x3]) hA ⟨hx, hb, hml, hown, hts⟩ (tX6_knows l D cA ad hJ x2 x4 x5 σ33 _ _ h36) (cwV 3 hts gL_transfers_X6_knows rfl rfl rfl (by decide +kernel) ⟨(Nat.le_of_ble_eq_true rfl), (Nat.le_of_ble_eq_true rfl)⟩) hK hP hS KC_sb rfl rfl hl.1 rfl (Nat.le_of_ble_eq_true rfl) ⟨Nat.zero_le _, Nat.zero_le _⟩ dL_transfers_36 (fun H locs hP hS _ _ => ?_)
            refine lv_iconst (v := 1) hx hb dL_transfers_39 (by decide) ?_
            refine lv_icmp_ne (tgt := 67) hx hb dL_transfers_40 (by decide) (fun c39 => ?_) (fun c39 => ?_)
            · have hM := (if_neg c39).symm.trans hM
              refine lv_iconst (v := 0) hx hb dL_transfers_67 (by decide) ?_
              refine lv_iadd hx hb dL_transfers_68 ?_
              refine lv_istore_n (lv' := [(3, .int (x3 + 0)), (0, .ref (ad 62)), (1, .int x1), (2, .int x2), (4, .int x4), (5, .int x5)]) hx hb dL_transfers_69 rfl hl (by decide) rfl (fun ls hl => ?_)
              refine lv_iinc (v := (x5 + 1)) (lv' := [(5, .int (x5 + 1)), (3, .int (x3 + 0)), (0, .ref (ad 62)), (1, .int x1), (2, .int x2), (4, .int x4)]) hx hb dL_transfers_70 hl (k := 5) rfl rfl (by decide) rfl (fun ls hl => ?_)
              refine lv_goto (tgt := 17) hx hb dL_transfers_73 (by decide) ?_
              exact ih17 _ _ _ _ _ _ _ _ _ hM hP hS (lv_sub hl [2, 3, 4, 1, 5, 0] rfl)
            · have hM := (if_pos c39).symm.trans hM
              refine lv_aload_n hx hb dL_transfers_43 rfl (lv_at hl 0 rfl) ?_
              refine lv_iload_n hx hb dL_transfers_44 rfl (lv_at hl 1 rfl) ?_
              refine lv_iload hx hb dL_transfers_45 (lv_at hl 4 rfl) ?_
              refine lv_iload hx hb dL_transfers_47 (lv_at hl 5 rfl) ?_
              obtain ⟨r42, σ41, h40, hM⟩ := bnd_i hM
              refine x_callV (As := [.int x1, .int x4, .int x5]) (rest := [.int x3]) hA ⟨hx, hb, hml, hown, hts⟩ (tX6_knows l D cA ad hJ x1 x4 x5 σ37 _ _ h40) (cwV 3 hts gL_transfers_X6_knows rfl rfl rfl (by decide +kernel) ⟨(Nat.le_of_ble_eq_true rfl), (Nat.le_of_ble_eq_true rfl)⟩) hK hP hS KC_sb rfl rfl hl.1 rfl (Nat.le_of_ble_eq_true rfl) ⟨Nat.zero_le _, Nat.zero_le _⟩ dL_transfers_49 (fun H locs hP hS _ _ => ?_)
              refine lv_if_ne (tgt := 67) hx hb dL_transfers_52 (by decide) (fun c43 => ?_) (fun c43 => ?_)
              · have hM := (if_neg c43).symm.trans hM
                refine lv_iconst (v := 0) hx hb dL_transfers_67 (by decide) ?_
                refine lv_iadd hx hb dL_transfers_68 ?_
                refine lv_istore_n (lv' := [(3, .int (x3 + 0)), (0, .ref (ad 62)), (1, .int x1), (2, .int x2), (4, .int x4), (5, .int x5)]) hx hb dL_transfers_69 rfl hl (by decide) rfl (fun ls hl => ?_)
                refine lv_iinc (v := (x5 + 1)) (lv' := [(5, .int (x5 + 1)), (3, .int (x3 + 0)), (0, .ref (ad 62)), (1, .int x1), (2, .int x2), (4, .int x4)]) hx hb dL_transfers_70 hl (k := 5) rfl rfl (by decide) rfl (fun ls hl => ?_)
                refine lv_goto (tgt := 17) hx hb dL_transfers_73 (by decide) ?_
                exact ih17 _ _ _ _ _ _ _ _ _ hM hP hS (lv_sub hl [2, 3, 4, 1, 5, 0] rfl)
              · have hM := (if_pos c43).symm.trans hM
                refine lv_aload_n hx hb dL_transfers_55 rfl (lv_at hl 0 rfl) ?_
                refine lv_iload hx hb dL_transfers_56 (lv_at hl 4 rfl) ?_
                refine lv_iload hx hb dL_transfers_58 (lv_at hl 5 rfl) ?_
                refine lv_iconst (v := 2) hx hb dL_transfers_60 (by decide) ?_
                obtain ⟨r46, σ45, h44, hM⟩ := bnd_i hM
                refine x_callV (As := [.int x4, .int x5, .int 2]) (rest := [.int x3]) hA ⟨hx, hb, hml, hown, hts⟩ (tX6_operation l D cA ad hJ x4 x5 2 σ41 _ _ h44) (cwV 3 hts gL_transfers_X6_operation rfl rfl rfl (by decide +kernel) ⟨(Nat.le_of_ble_eq_true rfl), (Nat.le_of_ble_eq_true rfl)⟩) hK hP hS KC_sb rfl rfl hl.1 rfl (Nat.le_of_ble_eq_true rfl) ⟨Nat.zero_le _, Nat.zero_le _⟩ dL_transfers_61 (fun H locs hP hS _ _ => ?_)
                refine lv_goto (tgt := 68) hx hb dL_transfers_64 (by decide) ?_
                refine lv_iadd hx hb dL_transfers_68 ?_
                refine lv_istore_n (lv' := [(3, .int (x3 + r46)), (0, .ref (ad 62)), (1, .int x1), (2, .int x2), (4, .int x4), (5, .int x5)]) hx hb dL_transfers_69 rfl hl (by decide) rfl (fun ls hl => ?_)
                refine lv_iinc (v := (x5 + 1)) (lv' := [(5, .int (x5 + 1)), (3, .int (x3 + r46)), (0, .ref (ad 62)), (1, .int x1), (2, .int x2), (4, .int x4)]) hx hb dL_transfers_70 hl (k := 5) rfl rfl (by decide) rfl (fun ls hl => ?_)
                refine lv_goto (tgt := 17) hx hb dL_transfers_73 (by decide) ?_
                exact ih17 _ _ _ _ _ _ _ _ _ hM hP hS (lv_sub hl [2, 3, 4, 1, 5, 0] rfl)
      intro x1 x2 x3 x4 σ H locs ls hM hP hS hl
      rw [mL_transfers_L5] at hM
      refine lv_iload hx hb dL_transfers_5 (lv_at hl 4 rfl) ?_
      refine lv_aload_n hx hb dL_transfers_7 rfl (lv_at hl 0 rfl) ?_
      obtain ⟨r49, σ48, h47, hM⟩ := bnd_i hM
      refine x_callV (As := []) (rest := [.int x4]) hA ⟨hx, hb, hml, hown, hts⟩ (tX6_sites l D cA ad hJ σ _ _ h47) (cwV 0 hts gL_transfers_X6_sites rfl rfl rfl (by decide +kernel) ⟨(Nat.le_of_ble_eq_true rfl), (Nat.le_of_ble_eq_true rfl)⟩) hK hP hS KC_sb rfl rfl hl.1 rfl (Nat.le_of_ble_eq_true rfl) ⟨Nat.zero_le _, Nat.zero_le _⟩ dL_transfers_8 (fun H locs hP hS _ _ => ?_)
      refine lv_icmp_ge (tgt := 82) hx hb dL_transfers_11 (by decide) (fun c50 => ?_) (fun c50 => ?_)
      · have hM := (if_pos c50).symm.trans hM
        exact b82 _ _ _ _ _ _ _ hM hP hS (lv_sub hl [0, 1, 2, 3] rfl)
      · have hM := (if_neg c50).symm.trans hM
        refine lv_iconst (v := 1) hx hb dL_transfers_14 (by decide) ?_
        refine lv_istore (lv' := [(5, .int 1), (0, .ref (ad 62)), (1, .int x1), (2, .int x2), (3, .int x3), (4, .int x4)]) hx hb dL_transfers_15 hl (by decide) rfl (fun ls hl => ?_)
        exact L17 fu _ _ _ _ _ _ _ _ _ hM hP hS (lv_sub hl [1, 2, 3, 4, 5, 0] rfl)
  unfold mL_transfers at hM
  refine lv_iconst (v := 0) hx hb dL_transfers_0 (by decide) ?_
  refine lv_istore_n (lv' := [(3, .int 0), (0, .ref (ad 62)), (1, .int u1), (2, .int u2)]) hx hb dL_transfers_1 rfl hl (by decide) rfl (fun ls hl => ?_)
  refine lv_iconst (v := 0) hx hb dL_transfers_2 (by decide) ?_
  refine lv_istore (lv' := [(4, .int 0), (3, .int 0), (0, .ref (ad 62)), (1, .int u1), (2, .int u2)]) hx hb dL_transfers_3 hl (by decide) rfl (fun ls hl => ?_)
  exact L5 fu _ _ _ _ _ _ _ _ hM hP hS (lv_sub hl [2, 3, 4, 1, 0] rfl)
set_option maxHeartbeats 4000000 in
set_option maxRecDepth 100000 in
theorem tL_turns (l : Launch) (D : va_G) (cA : ClassId) (ad : Nat → Nat) (hJ : w_J ad KC) (u1 : Int32) (σ σ' : St) (r : Int32) (hM : mL_turns u1 σ = some (r, σ')) : Ct l yL_turns wsL_turns 7 161 D cA ad KC [.ref (ad 62), .int u1] σ r σ' := by
  unfold Ct
  refine Met_of (cc := cL_turns) (maxL := 7) (ret := (some .boolean)) hJ (by decide +kernel) rfl (Nat.le_of_ble_eq_true rfl) ?_
  intro p e s m below meth c Z H locs ls hP hS hl
  obtain ⟨hx, hb, hml, hown, hts, hr, hlk, hK, -⟩ := Z
  have hown : s.vm.findClass RL = some m.cls := hown
  have hl : lv_has ls 7 [(0, .ref (ad 62)), (1, .int u1)] := hl
  have hA : ∀ q, w_A ad KC q → w_A ad KC q := fun _ h => h
  have b53 : ∀ (x1 x2 x3 : Int32) (σ : St) (H : Heap) (locs : List Loc) (ls : Array Slot), mL_turns_b53 x1 x2 x3 σ = some (r, σ') → w_P D cA ad KC σ H → va_S (w_A ad KC) s.heap H locs → lv_has ls 7 [(0, .ref (ad 62)), (1, .int x1), (2, .int x2), (3, .int x3)] → Wm p l e wsL_turns 7 161 s m ([.ref (ad 62), .int u1] : List Value).toArray below meth c (w_Qi D cA ad KC r σ') (w_A ad KC) H locs (F0 m 53 ls []) := by
    intro x1 x2 x3 σ H locs ls hM hP hS hl
    unfold mL_turns_b53 at hM
    refine lv_aload_n hx hb dL_turns_53 rfl (lv_at hl 0 rfl) ?_
    refine lv_iload_n hx hb dL_turns_54 rfl (lv_at hl 1 rfl) ?_
    obtain ⟨r3, σ2, h1, hM⟩ := bnd_i hM
    refine x_callV (As := [.int x1]) (rest := []) hA ⟨hx, hb, hml, hown, hts⟩ (tX6_digest l D cA ad hJ x1 σ _ _ h1) (cwV 1 hts gL_turns_X6_digest rfl rfl rfl (by decide +kernel) ⟨(Nat.le_of_ble_eq_true rfl), (Nat.le_of_ble_eq_true rfl)⟩) hK hP hS KC_sb rfl rfl hl.1 rfl (Nat.le_of_ble_eq_true rfl) ⟨Nat.zero_le _, Nat.zero_le _⟩ dL_turns_55 (fun H locs hP hS _ _ => ?_)
    refine lv_iload_n hx hb dL_turns_58 rfl (lv_at hl 2 rfl) ?_
    refine lv_icmp_ne (tgt := 76) hx hb dL_turns_59 (by decide) (fun c4 => ?_) (fun c4 => ?_)
    · have hM := (if_neg c4).symm.trans hM
      refine lv_iconst (v := 0) hx hb dL_turns_76 (by decide) ?_
      exact x_zret hx hb hr hlk hP hS hM dL_turns_77
    · have hM := (if_pos c4).symm.trans hM
      refine lv_aload_n hx hb dL_turns_62 rfl (lv_at hl 0 rfl) ?_
      refine lv_iload_n hx hb dL_turns_63 rfl (lv_at hl 1 rfl) ?_
      refine lv_iconst (v := 2) hx hb dL_turns_64 (by decide) ?_
      obtain ⟨r7, σ6, h5, hM⟩ := bnd_i hM
      refine x_callV (As := [.int x1, .int 2]) (rest := []) hA ⟨hx, hb, hml, hown, hts⟩ (tX6_siteInfo l D cA ad hJ x1 2 σ2 _ _ h5) (cwV 2 hts gL_turns_X6_siteInfo rfl rfl rfl (by decide +kernel) ⟨(Nat.le_of_ble_eq_true rfl), (Nat.le_of_ble_eq_true rfl)⟩) hK hP hS KC_sb rfl rfl hl.1 rfl (Nat.le_of_ble_eq_true rfl) ⟨Nat.zero_le _, Nat.zero_le _⟩ dL_turns_65 (fun H locs hP hS _ _ => ?_)
      refine lv_iload_n hx hb dL_turns_68 rfl (lv_at hl 3 rfl) ?_
      refine lv_icmp_ne (tgt := 76) hx hb dL_turns_69 (by decide) (fun c8 => ?_) (fun c8 => ?_)
      · have hM := (if_neg c8).symm.trans hM
        refine lv_iconst (v := 0) hx hb dL_turns_76 (by decide) ?_
        exact x_zret hx hb hr hlk hP hS hM dL_turns_77
      · have hM := (if_pos c8).symm.trans hM
        refine lv_iconst (v := 1) hx hb dL_turns_72 (by decide) ?_
        refine lv_goto (tgt := 77) hx hb dL_turns_73 (by decide) ?_
        exact x_zret hx hb hr hlk hP hS hM dL_turns_77
  unfold mL_turns at hM
  refine lv_aload_n hx hb dL_turns_0 rfl (lv_at hl 0 rfl) ?_
  refine lv_iload_n hx hb dL_turns_1 rfl (lv_at hl 1 rfl) ?_
  obtain ⟨r11, σ10, h9, hM⟩ := bnd_i hM
  refine x_callV (As := [.int u1]) (rest := []) hA ⟨hx, hb, hml, hown, hts⟩ (tX6_digest l D cA ad hJ u1 σ _ _ h9) (cwV 1 hts gL_turns_X6_digest rfl rfl rfl (by decide +kernel) ⟨(Nat.le_of_ble_eq_true rfl), (Nat.le_of_ble_eq_true rfl)⟩) hK hP hS KC_sb rfl rfl hl.1 rfl (Nat.le_of_ble_eq_true rfl) ⟨Nat.zero_le _, Nat.zero_le _⟩ dL_turns_2 (fun H locs hP hS _ _ => ?_)
  refine lv_istore_n (lv' := [(2, .int r11), (0, .ref (ad 62)), (1, .int u1)]) hx hb dL_turns_5 rfl hl (by decide) rfl (fun ls hl => ?_)
  refine lv_aload_n hx hb dL_turns_6 rfl (lv_at hl 1 rfl) ?_
  refine lv_iload_n hx hb dL_turns_7 rfl (lv_at hl 2 rfl) ?_
  refine lv_iconst (v := 2) hx hb dL_turns_8 (by decide) ?_
  obtain ⟨r14, σ13, h12, hM⟩ := bnd_i hM
  refine x_callV (As := [.int u1, .int 2]) (rest := []) hA ⟨hx, hb, hml, hown, hts⟩ (tX6_siteInfo l D cA ad hJ u1 2 σ10 _ _ h12) (cwV 2 hts gL_turns_X6_siteInfo rfl rfl rfl (by decide +kernel) ⟨(Nat.le_of_ble_eq_true rfl), (Nat.le_of_ble_eq_true rfl)⟩) hK hP hS KC_sb rfl rfl hl.1 rfl (Nat.le_of_ble_eq_true rfl) ⟨Nat.zero_le _, Nat.zero_le _⟩ dL_turns_9 (fun H locs hP hS _ _ => ?_)
  refine lv_istore_n (lv' := [(3, .int r14), (2, .int r11), (0, .ref (ad 62)), (1, .int u1)]) hx hb dL_turns_12 rfl hl (by decide) rfl (fun ls hl => ?_)
  refine lv_aload_n hx hb dL_turns_13 rfl (lv_at hl 2 rfl) ?_
  refine lv_iload_n hx hb dL_turns_14 rfl (lv_at hl 3 rfl) ?_
  refine lv_iconst (v := 3) hx hb dL_turns_15 (by decide) ?_
  obtain ⟨r17, σ16, h15, hM⟩ := bnd_i hM
  refine x_callV (As := [.int u1, .int 3]) (rest := []) hA ⟨hx, hb, hml, hown, hts⟩ (tX6_siteInfo l D cA ad hJ u1 3 σ13 _ _ h15) (cwV 2 hts gL_turns_X6_siteInfo rfl rfl rfl (by decide +kernel) ⟨(Nat.le_of_ble_eq_true rfl), (Nat.le_of_ble_eq_true rfl)⟩) hK hP hS KC_sb rfl rfl hl.1 rfl (Nat.le_of_ble_eq_true rfl) ⟨Nat.zero_le _, Nat.zero_le _⟩ dL_turns_16 (fun H locs hP hS _ _ => ?_)
  refine lv_istore (lv' := [(4, .int r17), (3, .int r14), (2, .int r11), (0, .ref (ad 62)), (1, .int u1)]) hx hb dL_turns_19 hl (by decide) rfl (fun ls hl => ?_)
  refine lv_aload_n hx hb dL_turns_21 rfl (lv_at hl 3 rfl) ?_
  refine lv_iload_n hx hb dL_turns_22 rfl (lv_at hl 4 rfl) ?_
  obtain ⟨r20, σ19, h18, hM⟩ := bnd_i hM
  refine x_callV (As := [.int u1]) (rest := []) hA ⟨hx, hb, hml, hown, hts⟩ (tX6_undo l D cA ad hJ u1 σ16 _ _ h18) (cwV 1 hts gL_turns_X6_undo rfl rfl rfl (by decide +kernel) ⟨(Nat.le_of_ble_eq_true rfl), (Nat.le_of_ble_eq_true rfl)⟩) hK hP hS KC_sb rfl rfl hl.1 rfl (Nat.le_of_ble_eq_true rfl) ⟨Nat.zero_le _, Nat.zero_le _⟩ dL_turns_23 (fun H locs hP hS _ _ => ?_)
  refine lv_istore (lv' := [(5, .int r20), (4, .int r17), (3, .int r14), (2, .int r11), (0, .ref (ad 62)), (1, .int u1)]) hx hb dL_turns_26 hl (by decide) rfl (fun ls hl => ?_)
  refine lv_iload hx hb dL_turns_28 (lv_at hl 0 rfl) ?_
  refine lv_if_ge (tgt := 78) hx hb dL_turns_30 (by decide) (fun c21 => ?_) (fun c21 => ?_)
  · have hM := (if_pos c21).symm.trans hM
    refine lv_aload_n hx hb dL_turns_78 rfl (lv_at hl 4 rfl) ?_
    refine lv_iload_n hx hb dL_turns_79 rfl (lv_at hl 5 rfl) ?_
    refine lv_iconst (v := 3) hx hb dL_turns_80 (by decide) ?_
    obtain ⟨r24, σ23, h22, hM⟩ := bnd_i hM
    refine x_callV (As := [.int u1, .int 3]) (rest := []) hA ⟨hx, hb, hml, hown, hts⟩ (tX6_siteInfo l D cA ad hJ u1 3 σ19 _ _ h22) (cwV 2 hts gL_turns_X6_siteInfo rfl rfl rfl (by decide +kernel) ⟨(Nat.le_of_ble_eq_true rfl), (Nat.le_of_ble_eq_true rfl)⟩) hK hP hS KC_sb rfl rfl hl.1 rfl (Nat.le_of_ble_eq_true rfl) ⟨Nat.zero_le _, Nat.zero_le _⟩ dL_turns_81 (fun H locs hP hS _ _ => ?_)
    refine lv_iload hx hb dL_turns_84 (lv_at hl 1 rfl) ?_
    refine lv_iconst (v := 1) hx hb dL_turns_86 (by decide) ?_
    refine lv_isub hx hb dL_turns_87 ?_
    refine lv_icmp_ne (tgt := 118) hx hb dL_turns_88 (by decide) (fun c25 => ?_) (fun c25 => ?_)
    · have hM := (if_neg c25).symm.trans hM
      refine lv_iconst (v := 0) hx hb dL_turns_118 (by decide) ?_
      exact x_zret hx hb hr hlk hP hS hM dL_turns_119
    · have hM := (if_pos c25).symm.trans hM
      refine lv_aload_n hx hb dL_turns_91 rfl (lv_at hl 4 rfl) ?_
      refine lv_iload_n hx hb dL_turns_92 rfl (lv_at hl 5 rfl) ?_
      refine lv_iload_n hx hb dL_turns_93 rfl (lv_at hl 2 rfl) ?_
      refine lv_iconst (v := 1) hx hb dL_turns_94 (by decide) ?_
      refine lv_iadd hx hb dL_turns_95 ?_
      refine lv_iconst (v := 0) hx hb dL_turns_96 (by decide) ?_
      obtain ⟨r28, σ27, h26, hM⟩ := bnd_i hM
      refine x_callV (As := [.int u1, .int (r14 + 1), .int 0]) (rest := []) hA ⟨hx, hb, hml, hown, hts⟩ (tX6_operation l D cA ad hJ u1 (r14 + 1) 0 σ23 _ _ h26) (cwV 3 hts gL_turns_X6_operation rfl rfl rfl (by decide +kernel) ⟨(Nat.le_of_ble_eq_true rfl), (Nat.le_of_ble_eq_true rfl)⟩) hK hP hS KC_sb rfl rfl hl.1 rfl (Nat.le_of_ble_eq_true rfl) ⟨Nat.zero_le _, Nat.zero_le _⟩ dL_turns_97 (fun H locs hP hS _ _ => ?_)
      refine lv_iconst (v := 1) hx hb dL_turns_100 (by decide) ?_
      refine lv_icmp_ne (tgt := 118) hx hb dL_turns_101 (by decide) (fun c29 => ?_) (fun c29 => ?_)
      · have hM := (if_neg c29).symm.trans hM
        refine lv_iconst (v := 0) hx hb dL_turns_118 (by decide) ?_
        exact x_zret hx hb hr hlk hP hS hM dL_turns_119
      · have hM := (if_pos c29).symm.trans hM
        refine lv_aload_n hx hb dL_turns_104 rfl (lv_at hl 4 rfl) ?_
        refine lv_iload_n hx hb dL_turns_105 rfl (lv_at hl 5 rfl) ?_
        refine lv_iload_n hx hb dL_turns_106 rfl (lv_at hl 2 rfl) ?_
        refine lv_iconst (v := 1) hx hb dL_turns_107 (by decide) ?_
        refine lv_iadd hx hb dL_turns_108 ?_
        refine lv_iconst (v := 3) hx hb dL_turns_109 (by decide) ?_
        obtain ⟨r32, σ31, h30, hM⟩ := bnd_i hM
        refine x_callV (As := [.int u1, .int (r14 + 1), .int 3]) (rest := []) hA ⟨hx, hb, hml, hown, hts⟩ (tX6_operation l D cA ad hJ u1 (r14 + 1) 3 σ27 _ _ h30) (cwV 3 hts gL_turns_X6_operation rfl rfl rfl (by decide +kernel) ⟨(Nat.le_of_ble_eq_true rfl), (Nat.le_of_ble_eq_true rfl)⟩) hK hP hS KC_sb rfl rfl hl.1 rfl (Nat.le_of_ble_eq_true rfl) ⟨Nat.zero_le _, Nat.zero_le _⟩ dL_turns_110 (fun H locs hP hS _ _ => ?_)
        refine lv_iload hx hb dL_turns_113 (lv_at hl 0 rfl) ?_
        refine lv_icmp_eq (tgt := 120) hx hb dL_turns_115 (by decide) (fun c33 => ?_) (fun c33 => ?_)
        · have hM := (if_pos c33).symm.trans hM
          refine lv_aload_n hx hb dL_turns_120 rfl (lv_at hl 4 rfl) ?_
          refine lv_iload_n hx hb dL_turns_121 rfl (lv_at hl 5 rfl) ?_
          obtain ⟨r36, σ35, h34, hM⟩ := bnd_i hM
          refine x_callV (As := [.int u1]) (rest := []) hA ⟨hx, hb, hml, hown, hts⟩ (tX6_redo l D cA ad hJ u1 σ31 _ _ h34) (cwV 1 hts gL_turns_X6_redo rfl rfl rfl (by decide +kernel) ⟨(Nat.le_of_ble_eq_true rfl), (Nat.le_of_ble_eq_true rfl)⟩) hK hP hS KC_sb rfl rfl hl.1 rfl (Nat.le_of_ble_eq_true rfl) ⟨Nat.zero_le _, Nat.zero_le _⟩ dL_turns_122 (fun H locs hP hS _ _ => ?_)
          refine lv_istore (lv' := [(6, .int r36), (5, .int r20), (4, .int r17), (3, .int r14), (2, .int r11), (0, .ref (ad 62)), (1, .int u1)]) hx hb dL_turns_125 hl (by decide) rfl (fun ls hl => ?_)
          refine lv_iload_n hx hb dL_turns_127 rfl (lv_at hl 3 rfl) ?_
          refine lv_bipush (v := 19) hx hb dL_turns_128 (by decide) ?_
          refine lv_icmp_ne (tgt := 148) hx hb dL_turns_130 (by decide) (fun c37 => ?_) (fun c37 => ?_)
          · have hM := (if_neg c37).symm.trans hM
            refine lv_iload hx hb dL_turns_148 (lv_at hl 0 rfl) ?_
            refine lv_iload hx hb dL_turns_150 (lv_at hl 1 rfl) ?_
            refine lv_icmp_ne (tgt := 179) hx hb dL_turns_152 (by decide) (fun c38 => ?_) (fun c38 => ?_)
            · have hM := (if_neg c38).symm.trans hM
              refine lv_iconst (v := 0) hx hb dL_turns_179 (by decide) ?_
              exact x_zret hx hb hr hlk hP hS hM dL_turns_180
            · have hM := (if_pos c38).symm.trans hM
              refine lv_aload_n hx hb dL_turns_155 rfl (lv_at hl 5 rfl) ?_
              refine lv_iload_n hx hb dL_turns_156 rfl (lv_at hl 6 rfl) ?_
              obtain ⟨r41, σ40, h39, hM⟩ := bnd_i hM
              refine x_callV (As := [.int u1]) (rest := []) hA ⟨hx, hb, hml, hown, hts⟩ (tX6_digest l D cA ad hJ u1 σ35 _ _ h39) (cwV 1 hts gL_turns_X6_digest rfl rfl rfl (by decide +kernel) ⟨(Nat.le_of_ble_eq_true rfl), (Nat.le_of_ble_eq_true rfl)⟩) hK hP hS KC_sb rfl rfl hl.1 rfl (Nat.le_of_ble_eq_true rfl) ⟨Nat.zero_le _, Nat.zero_le _⟩ dL_turns_157 (fun H locs hP hS _ _ => ?_)
              refine lv_iload_n hx hb dL_turns_160 rfl (lv_at hl 4 rfl) ?_
              refine lv_icmp_ne (tgt := 179) hx hb dL_turns_161 (by decide) (fun c42 => ?_) (fun c42 => ?_)
              · have hM := (if_neg c42).symm.trans hM
                refine lv_iconst (v := 0) hx hb dL_turns_179 (by decide) ?_
                exact x_zret hx hb hr hlk hP hS hM dL_turns_180
              · have hM := (if_pos c42).symm.trans hM
                refine lv_aload_n hx hb dL_turns_164 rfl (lv_at hl 5 rfl) ?_
                refine lv_iload_n hx hb dL_turns_165 rfl (lv_at hl 6 rfl) ?_
                refine lv_iconst (v := 3) hx hb dL_turns_166 (by decide) ?_
                obtain ⟨r45, σ44, h43, hM⟩ := bnd_i hM
                refine x_callV (As := [.int u1, .int 3]) (rest := []) hA ⟨hx, hb, hml, hown, hts⟩ (tX6_siteInfo l D cA ad hJ u1 3 σ40 _ _ h43) (cwV 2 hts gL_turns_X6_siteInfo rfl rfl rfl (by decide +kernel) ⟨(Nat.le_of_ble_eq_true rfl), (Nat.le_of_ble_eq_true rfl)⟩) hK hP hS KC_sb rfl rfl hl.1 rfl (Nat.le_of_ble_eq_true rfl) ⟨Nat.zero_le _, Nat.zero_le _⟩ dL_turns_167 (fun H locs hP hS _ _ => ?_)
                refine lv_iload hx hb dL_turns_170 (lv_at hl 2 rfl) ?_
                refine lv_icmp_ne (tgt := 179) hx hb dL_turns_172 (by decide) (fun c46 => ?_) (fun c46 => ?_)
                · have hM := (if_neg c46).symm.trans hM
                  refine lv_iconst (v := 0) hx hb dL_turns_179 (by decide) ?_
                  exact x_zret hx hb hr hlk hP hS hM dL_turns_180
                · have hM := (if_pos c46).symm.trans hM
                  refine lv_iconst (v := 1) hx hb dL_turns_175 (by decide) ?_
                  refine lv_goto (tgt := 180) hx hb dL_turns_176 (by decide) ?_
                  exact x_zret hx hb hr hlk hP hS hM dL_turns_180
          · have hM := (if_pos c37).symm.trans hM
            refine lv_iload hx hb dL_turns_133 (lv_at hl 0 rfl) ?_
            refine lv_ldc (own := RL) (v := (-1000000003)) hx hb hown (hts (.constant RL 65 (-1000000003)) (by decide +kernel)) dL_turns_135 ?_
            refine lv_icmp_ne (tgt := 144) hx hb dL_turns_137 (by decide) (fun c47 => ?_) (fun c47 => ?_)
            · have hM := (if_neg c47).symm.trans hM
              refine lv_iconst (v := 0) hx hb dL_turns_144 (by decide) ?_
              refine lv_goto (tgt := 180) hx hb dL_turns_145 (by decide) ?_
              exact x_zret hx hb hr hlk hP hS hM dL_turns_180
            · have hM := (if_pos c47).symm.trans hM
              refine lv_iconst (v := 1) hx hb dL_turns_140 (by decide) ?_
              refine lv_goto (tgt := 180) hx hb dL_turns_141 (by decide) ?_
              exact x_zret hx hb hr hlk hP hS hM dL_turns_180
        · have hM := (if_neg c33).symm.trans hM
          refine lv_iconst (v := 0) hx hb dL_turns_118 (by decide) ?_
          exact x_zret hx hb hr hlk hP hS hM dL_turns_119
  · have hM := (if_neg c21).symm.trans hM
    refine lv_iload hx hb dL_turns_33 (lv_at hl 0 rfl) ?_
    refine lv_ldc (own := RL) (v := (-1000000002)) hx hb hown (hts (.constant RL 64 (-1000000002)) (by decide +kernel)) dL_turns_35 ?_
    refine lv_icmp_eq (tgt := 53) hx hb dL_turns_37 (by decide) (fun c48 => ?_) (fun c48 => ?_)
    · have hM := (if_pos c48).symm.trans hM
      exact b53 _ _ _ _ _ _ _ hM hP hS (lv_sub hl [4, 5, 3, 2] rfl)
    · have hM := (if_neg c48).symm.trans hM
      refine lv_iload hx hb dL_turns_40 (lv_at hl 0 rfl) ?_
      refine lv_ldc (own := RL) (v := (-1000000003)) hx hb hown (hts (.constant RL 65 (-1000000003)) (by decide +kernel)) dL_turns_42 ?_
      refine lv_icmp_ne (tgt := 76) hx hb dL_turns_44 (by decide) (fun c49 => ?_) (fun c49 => ?_)
      · have hM := (if_neg c49).symm.trans hM
        refine lv_iconst (v := 0) hx hb dL_turns_76 (by decide) ?_
        exact x_zret hx hb hr hlk hP hS hM dL_turns_77
      · have hM := (if_pos c49).symm.trans hM
        refine lv_iload_n hx hb dL_turns_47 rfl (lv_at hl 2 rfl) ?_
        refine lv_bipush (v := 20) hx hb dL_turns_48 (by decide) ?_
        refine lv_icmp_ne (tgt := 76) hx hb dL_turns_50 (by decide) (fun c50 => ?_) (fun c50 => ?_)
        · have hM := (if_neg c50).symm.trans hM
          refine lv_iconst (v := 0) hx hb dL_turns_76 (by decide) ?_
          exact x_zret hx hb hr hlk hP hS hM dL_turns_77
        · have hM := (if_pos c50).symm.trans hM
          exact b53 _ _ _ _ _ _ _ hM hP hS (lv_sub hl [4, 5, 3, 2] rfl)
