/-! The walks of the law, laid by wip/p29/gen.py. -/
set_option maxHeartbeats 4000000 in
set_option maxRecDepth 100000 in
theorem tL_low (l : Launch) (D : va_G) (cA : ClassId) (ad : Nat → Nat) (hJ : w_J ad KC) (u0 u1 : Int32) (σ σ' : St) (r : Int32) (hM : mL_low u0 u1 σ = some (r, σ')) : Ct l yL_low wsL_low 0 0 D cA ad KC [.int u0, .int u1] σ r σ' := by
  unfold Ct
  refine Met_of (cc := cL_low) (maxL := 2) (ret := (some .int)) hJ (by decide +kernel) rfl (Nat.le_of_ble_eq_true rfl) ?_
  intro p e s m below meth c Z H locs ls hP hS hl
  obtain ⟨hx, hb, hml, hown, hts, hr, hlk, hK, -⟩ := Z
  have hown : s.vm.findClass RL = some m.cls := hown
  have hl : lv_has ls 2 [(0, .int u0), (1, .int u1)] := hl
  have hA : ∀ q, w_A ad KC q → w_A ad KC q := fun _ h => h
  unfold mL_low at hM
  refine lv_iload_n hx hb dL_low_0 rfl (lv_at hl 0 rfl) ?_
  refine lv_ldc (own := RL) (v := (2147483647)) hx hb hown (hts (.constant RL 8 (2147483647)) (by decide +kernel)) dL_low_1 ?_
  refine lv_iand hx hb dL_low_3 ?_
  refine lv_iload_n hx hb dL_low_4 rfl (lv_at hl 1 rfl) ?_
  obtain ⟨h1, hM⟩ := dz_i hM
  refine lv_irem hx hb dL_low_5 h1 ?_
  exact x_iret hx hb hr hlk hP hS hM dL_low_6
set_option maxHeartbeats 4000000 in
set_option maxRecDepth 100000 in
theorem tL_sound (l : Launch) (D : va_G) (cA : ClassId) (ad : Nat → Nat) (hJ : w_J ad KC) (u1 u2 : Int32) (σ σ' : St) (r : Int32) (hM : mL_sound u1 u2 σ = some (r, σ')) : Ct l yL_sound wsL_sound 7 161 D cA ad KC [.ref (ad 62), .int u1, .int u2] σ r σ' := by
  unfold Ct
  refine Met_of (cc := cL_sound) (maxL := 9) (ret := (some .boolean)) hJ (by decide +kernel) rfl (Nat.le_of_ble_eq_true rfl) ?_
  intro p e s m below meth c Z H locs ls hP hS hl
  obtain ⟨hx, hb, hml, hown, hts, hr, hlk, hK, -⟩ := Z
  have hown : s.vm.findClass RL = some m.cls := hown
  have hl : lv_has ls 9 [(0, .ref (ad 62)), (1, .int u1), (2, .int u2)] := hl
  have hA : ∀ q, w_A ad KC q → w_A ad KC q := fun _ h => h
  have b185 : ∀ (x1 x2 x3 : Int32) (σ : St) (H : Heap) (locs : List Loc) (ls : Array Slot), mL_sound_b185 x1 x2 x3 σ = some (r, σ') → w_P D cA ad KC σ H → va_S (w_A ad KC) s.heap H locs → lv_has ls 9 [(0, .ref (ad 62)), (1, .int x1), (2, .int x2), (3, .int x3)] → Wm p l e wsL_sound 7 161 s m ([.ref (ad 62), .int u1, .int u2] : List Value).toArray below meth c (w_Qi D cA ad KC r σ') (w_A ad KC) H locs (F0 m 185 ls []) := by
    intro x1 x2 x3 σ H locs ls hM hP hS hl
    unfold mL_sound_b185 at hM
    refine lv_aload_n hx hb dL_sound_185 rfl (lv_at hl 0 rfl) ?_
    refine lv_iload_n hx hb dL_sound_186 rfl (lv_at hl 1 rfl) ?_
    obtain ⟨r3, σ2, h1, hM⟩ := bnd_i hM
    refine x_callV (As := [.int x1]) (rest := []) hA ⟨hx, hb, hml, hown, hts⟩ (tX6_endangered l D cA ad hJ x1 σ _ _ h1) (cwV 1 hts gL_sound_X6_endangered rfl rfl rfl (by decide +kernel) ⟨(Nat.le_of_ble_eq_true rfl), (Nat.le_of_ble_eq_true rfl)⟩) hK hP hS KC_sb rfl rfl hl.1 rfl (Nat.le_of_ble_eq_true rfl) ⟨Nat.zero_le _, Nat.zero_le _⟩ dL_sound_187 (fun H locs hP hS _ _ => ?_)
    refine lv_istore (lv' := [(6, .int r3), (0, .ref (ad 62)), (1, .int x1), (2, .int x2), (3, .int x3)]) hx hb dL_sound_190 hl (by decide) rfl (fun ls hl => ?_)
    refine lv_aload_n hx hb dL_sound_192 rfl (lv_at hl 1 rfl) ?_
    refine lv_iload_n hx hb dL_sound_193 rfl (lv_at hl 2 rfl) ?_
    refine lv_iconst (v := 0) hx hb dL_sound_194 (by decide) ?_
    obtain ⟨r6, σ5, h4, hM⟩ := bnd_i hM
    refine x_callV (As := [.int x1, .int 0]) (rest := []) hA ⟨hx, hb, hml, hown, hts⟩ (tX6_siteInfo l D cA ad hJ x1 0 σ2 _ _ h4) (cwV 2 hts gL_sound_X6_siteInfo rfl rfl rfl (by decide +kernel) ⟨(Nat.le_of_ble_eq_true rfl), (Nat.le_of_ble_eq_true rfl)⟩) hK hP hS KC_sb rfl rfl hl.1 rfl (Nat.le_of_ble_eq_true rfl) ⟨Nat.zero_le _, Nat.zero_le _⟩ dL_sound_195 (fun H locs hP hS _ _ => ?_)
    refine lv_iload_n hx hb dL_sound_198 rfl (lv_at hl 3 rfl) ?_
    refine lv_icmp_lt (tgt := 264) hx hb dL_sound_199 (by decide) (fun c7 => ?_) (fun c7 => ?_)
    · have hM := (if_pos c7).symm.trans hM
      refine lv_iconst (v := 0) hx hb dL_sound_264 (by decide) ?_
      exact x_zret hx hb hr hlk hP hS hM dL_sound_265
    · have hM := (if_neg c7).symm.trans hM
      refine lv_iload_n hx hb dL_sound_202 rfl (lv_at hl 4 rfl) ?_
      refine lv_bipush (v := 20) hx hb dL_sound_203 (by decide) ?_
      refine lv_icmp_gt (tgt := 264) hx hb dL_sound_205 (by decide) (fun c8 => ?_) (fun c8 => ?_)
      · have hM := (if_pos c8).symm.trans hM
        refine lv_iconst (v := 0) hx hb dL_sound_264 (by decide) ?_
        exact x_zret hx hb hr hlk hP hS hM dL_sound_265
      · have hM := (if_neg c8).symm.trans hM
        refine lv_iload_n hx hb dL_sound_208 rfl (lv_at hl 4 rfl) ?_
        refine lv_aload_n hx hb dL_sound_209 rfl (lv_at hl 1 rfl) ?_
        refine lv_iload_n hx hb dL_sound_210 rfl (lv_at hl 2 rfl) ?_
        refine lv_iconst (v := 1) hx hb dL_sound_211 (by decide) ?_
        obtain ⟨r11, σ10, h9, hM⟩ := bnd_i hM
        refine x_callV (As := [.int x1, .int 1]) (rest := [.int x3]) hA ⟨hx, hb, hml, hown, hts⟩ (tX6_siteInfo l D cA ad hJ x1 1 σ5 _ _ h9) (cwV 2 hts gL_sound_X6_siteInfo rfl rfl rfl (by decide +kernel) ⟨(Nat.le_of_ble_eq_true rfl), (Nat.le_of_ble_eq_true rfl)⟩) hK hP hS KC_sb rfl rfl hl.1 rfl (Nat.le_of_ble_eq_true rfl) ⟨Nat.zero_le _, Nat.zero_le _⟩ dL_sound_212 (fun H locs hP hS _ _ => ?_)
        refine lv_icmp_gt (tgt := 264) hx hb dL_sound_215 (by decide) (fun c12 => ?_) (fun c12 => ?_)
        · have hM := (if_pos c12).symm.trans hM
          refine lv_iconst (v := 0) hx hb dL_sound_264 (by decide) ?_
          exact x_zret hx hb hr hlk hP hS hM dL_sound_265
        · have hM := (if_neg c12).symm.trans hM
          refine lv_aload_n hx hb dL_sound_218 rfl (lv_at hl 1 rfl) ?_
          refine lv_iload_n hx hb dL_sound_219 rfl (lv_at hl 2 rfl) ?_
          refine lv_iload_n hx hb dL_sound_220 rfl (lv_at hl 2 rfl) ?_
          refine lv_iconst (v := 0) hx hb dL_sound_221 (by decide) ?_
          obtain ⟨r15, σ14, h13, hM⟩ := bnd_i hM
          refine x_callV (As := [.int x1, .int x1, .int 0]) (rest := []) hA ⟨hx, hb, hml, hown, hts⟩ (tX6_gap l D cA ad hJ x1 x1 0 σ10 _ _ h13) (cwV 3 hts gL_sound_X6_gap rfl rfl rfl (by decide +kernel) ⟨(Nat.le_of_ble_eq_true rfl), (Nat.le_of_ble_eq_true rfl)⟩) hK hP hS KC_sb rfl rfl hl.1 rfl (Nat.le_of_ble_eq_true rfl) ⟨Nat.zero_le _, Nat.zero_le _⟩ dL_sound_222 (fun H locs hP hS _ _ => ?_)
          refine lv_ldc (own := RL) (v := (-1000000004)) hx hb hown (hts (.constant RL 34 (-1000000004)) (by decide +kernel)) dL_sound_225 ?_
          refine lv_icmp_ne (tgt := 264) hx hb dL_sound_227 (by decide) (fun c16 => ?_) (fun c16 => ?_)
          · have hM := (if_neg c16).symm.trans hM
            refine lv_iconst (v := 0) hx hb dL_sound_264 (by decide) ?_
            exact x_zret hx hb hr hlk hP hS hM dL_sound_265
          · have hM := (if_pos c16).symm.trans hM
            refine lv_iload hx hb dL_sound_230 (lv_at hl 0 rfl) ?_
            refine lv_if_lt (tgt := 264) hx hb dL_sound_232 (by decide) (fun c17 => ?_) (fun c17 => ?_)
            · have hM := (if_pos c17).symm.trans hM
              refine lv_iconst (v := 0) hx hb dL_sound_264 (by decide) ?_
              exact x_zret hx hb hr hlk hP hS hM dL_sound_265
            · have hM := (if_neg c17).symm.trans hM
              refine lv_iload hx hb dL_sound_235 (lv_at hl 0 rfl) ?_
              refine lv_iload_n hx hb dL_sound_237 rfl (lv_at hl 4 rfl) ?_
              refine lv_icmp_gt (tgt := 264) hx hb dL_sound_238 (by decide) (fun c18 => ?_) (fun c18 => ?_)
              · have hM := (if_pos c18).symm.trans hM
                refine lv_iconst (v := 0) hx hb dL_sound_264 (by decide) ?_
                exact x_zret hx hb hr hlk hP hS hM dL_sound_265
              · have hM := (if_neg c18).symm.trans hM
                refine lv_aload_n hx hb dL_sound_241 rfl (lv_at hl 1 rfl) ?_
                refine lv_iload_n hx hb dL_sound_242 rfl (lv_at hl 2 rfl) ?_
                obtain ⟨r21, σ20, h19, hM⟩ := bnd_i hM
                refine x_callV (As := [.int x1]) (rest := []) hA ⟨hx, hb, hml, hown, hts⟩ (tX6_bestHelper l D cA ad hJ x1 σ14 _ _ h19) (cwV 1 hts gL_sound_X6_bestHelper rfl rfl rfl (by decide +kernel) ⟨(Nat.le_of_ble_eq_true rfl), (Nat.le_of_ble_eq_true rfl)⟩) hK hP hS KC_sb rfl rfl hl.1 rfl (Nat.le_of_ble_eq_true rfl) ⟨Nat.zero_le _, Nat.zero_le _⟩ dL_sound_243 (fun H locs hP hS _ _ => ?_)
                refine lv_iload_n hx hb dL_sound_246 rfl (lv_at hl 2 rfl) ?_
                refine lv_icmp_eq (tgt := 264) hx hb dL_sound_247 (by decide) (fun c22 => ?_) (fun c22 => ?_)
                · have hM := (if_pos c22).symm.trans hM
                  refine lv_iconst (v := 0) hx hb dL_sound_264 (by decide) ?_
                  exact x_zret hx hb hr hlk hP hS hM dL_sound_265
                · have hM := (if_neg c22).symm.trans hM
                  refine lv_aload_n hx hb dL_sound_250 rfl (lv_at hl 1 rfl) ?_
                  refine lv_iload_n hx hb dL_sound_251 rfl (lv_at hl 2 rfl) ?_
                  refine lv_iload_n hx hb dL_sound_252 rfl (lv_at hl 2 rfl) ?_
                  obtain ⟨r25, σ24, h23, hM⟩ := bnd_i hM
                  refine x_callV (As := [.int x1, .int x1]) (rest := []) hA ⟨hx, hb, hml, hown, hts⟩ (tX6_areSame l D cA ad hJ x1 x1 σ20 _ _ h23) (cwV 2 hts gL_sound_X6_areSame rfl rfl rfl (by decide +kernel) ⟨(Nat.le_of_ble_eq_true rfl), (Nat.le_of_ble_eq_true rfl)⟩) hK hP hS KC_sb rfl rfl hl.1 rfl (Nat.le_of_ble_eq_true rfl) ⟨Nat.zero_le _, Nat.zero_le _⟩ dL_sound_253 (fun H locs hP hS _ _ => ?_)
                  refine lv_iconst (v := 1) hx hb dL_sound_256 (by decide) ?_
                  refine lv_icmp_ne (tgt := 264) hx hb dL_sound_257 (by decide) (fun c26 => ?_) (fun c26 => ?_)
                  · have hM := (if_neg c26).symm.trans hM
                    refine lv_iconst (v := 0) hx hb dL_sound_264 (by decide) ?_
                    exact x_zret hx hb hr hlk hP hS hM dL_sound_265
                  · have hM := (if_pos c26).symm.trans hM
                    refine lv_iconst (v := 1) hx hb dL_sound_260 (by decide) ?_
                    refine lv_goto (tgt := 265) hx hb dL_sound_261 (by decide) ?_
                    exact x_zret hx hb hr hlk hP hS hM dL_sound_265
  have L82 : ∀ (n : Nat) (x1 x2 x3 x5 x6 : Int32) (σ : St) (H : Heap) (locs : List Loc) (ls : Array Slot), mL_sound_L82 n x1 x2 x3 x5 x6 σ = some (r, σ') → w_P D cA ad KC σ H → va_S (w_A ad KC) s.heap H locs → lv_has ls 9 [(0, .ref (ad 62)), (1, .int x1), (2, .int x2), (3, .int x3), (5, .int x5), (6, .int x6)] → Wm p l e wsL_sound 7 161 s m ([.ref (ad 62), .int u1, .int u2] : List Value).toArray below meth c (w_Qi D cA ad KC r σ') (w_A ad KC) H locs (F0 m 82 ls []) := by
    intro n82
    induction n82 with
    | zero =>
      intro x1 x2 x3 x5 x6 σ H locs ls hM hP hS hl
      rw [mL_sound_L82] at hM
      cases hM
    | succ n82 ih82 =>
      intro x1 x2 x3 x5 x6 σ H locs ls hM hP hS hl
      rw [mL_sound_L82] at hM
      refine lv_iload hx hb dL_sound_82 (lv_at hl 5 rfl) ?_
      refine lv_iload hx hb dL_sound_84 (lv_at hl 4 rfl) ?_
      refine lv_icmp_ge (tgt := 185) hx hb dL_sound_86 (by decide) (fun c27 => ?_) (fun c27 => ?_)
      · have hM := (if_pos c27).symm.trans hM
        exact b185 _ _ _ _ _ _ _ hM hP hS (lv_sub hl [0, 1, 2, 3] rfl)
      · have hM := (if_neg c27).symm.trans hM
        refine lv_aload_n hx hb dL_sound_89 rfl (lv_at hl 0 rfl) ?_
        refine lv_iload_n hx hb dL_sound_90 rfl (lv_at hl 1 rfl) ?_
        refine lv_iload hx hb dL_sound_91 (lv_at hl 5 rfl) ?_
        refine lv_iconst (v := 0) hx hb dL_sound_93 (by decide) ?_
        obtain ⟨r30, σ29, h28, hM⟩ := bnd_i hM
        refine x_callV (As := [.int x1, .int x6, .int 0]) (rest := []) hA ⟨hx, hb, hml, hown, hts⟩ (tX6_stroke l D cA ad hJ x1 x6 0 σ _ _ h28) (cwV 3 hts gL_sound_X6_stroke rfl rfl rfl (by decide +kernel) ⟨(Nat.le_of_ble_eq_true rfl), (Nat.le_of_ble_eq_true rfl)⟩) hK hP hS KC_sb rfl rfl hl.1 rfl (Nat.le_of_ble_eq_true rfl) ⟨Nat.zero_le _, Nat.zero_le _⟩ dL_sound_94 (fun H locs hP hS _ _ => ?_)
        refine lv_istore (lv' := [(7, .int r30), (0, .ref (ad 62)), (1, .int x1), (2, .int x2), (3, .int x3), (5, .int x5), (6, .int x6)]) hx hb dL_sound_97 hl (by decide) rfl (fun ls hl => ?_)
        refine lv_aload_n hx hb dL_sound_99 rfl (lv_at hl 1 rfl) ?_
        refine lv_iload_n hx hb dL_sound_100 rfl (lv_at hl 2 rfl) ?_
        refine lv_iload hx hb dL_sound_101 (lv_at hl 6 rfl) ?_
        refine lv_iconst (v := 1) hx hb dL_sound_103 (by decide) ?_
        obtain ⟨r33, σ32, h31, hM⟩ := bnd_i hM
        refine x_callV (As := [.int x1, .int x6, .int 1]) (rest := []) hA ⟨hx, hb, hml, hown, hts⟩ (tX6_stroke l D cA ad hJ x1 x6 1 σ29 _ _ h31) (cwV 3 hts gL_sound_X6_stroke rfl rfl rfl (by decide +kernel) ⟨(Nat.le_of_ble_eq_true rfl), (Nat.le_of_ble_eq_true rfl)⟩) hK hP hS KC_sb rfl rfl hl.1 rfl (Nat.le_of_ble_eq_true rfl) ⟨Nat.zero_le _, Nat.zero_le _⟩ dL_sound_104 (fun H locs hP hS _ _ => ?_)
        refine lv_istore (lv' := [(8, .int r33), (7, .int r30), (0, .ref (ad 62)), (1, .int x1), (2, .int x2), (3, .int x3), (5, .int x5), (6, .int x6)]) hx hb dL_sound_107 hl (by decide) rfl (fun ls hl => ?_)
        refine lv_aload_n hx hb dL_sound_109 rfl (lv_at hl 2 rfl) ?_
        refine lv_iload hx hb dL_sound_110 (lv_at hl 1 rfl) ?_
        refine lv_iload hx hb dL_sound_112 (lv_at hl 0 rfl) ?_
        refine lv_iconst (v := 0) hx hb dL_sound_114 (by decide) ?_
        obtain ⟨r36, σ35, h34, hM⟩ := bnd_i hM
        refine x_callV (As := [.int r30, .int r33, .int 0]) (rest := []) hA ⟨hx, hb, hml, hown, hts⟩ (tX6_operation l D cA ad hJ r30 r33 0 σ32 _ _ h34) (cwV 3 hts gL_sound_X6_operation rfl rfl rfl (by decide +kernel) ⟨(Nat.le_of_ble_eq_true rfl), (Nat.le_of_ble_eq_true rfl)⟩) hK hP hS KC_sb rfl rfl hl.1 rfl (Nat.le_of_ble_eq_true rfl) ⟨Nat.zero_le _, Nat.zero_le _⟩ dL_sound_115 (fun H locs hP hS _ _ => ?_)
        refine lv_if_ne (tgt := 177) hx hb dL_sound_118 (by decide) (fun c37 => ?_) (fun c37 => ?_)
        · have hM := (if_neg c37).symm.trans hM
          refine lv_iconst (v := 0) hx hb dL_sound_177 (by decide) ?_
          exact x_zret hx hb hr hlk hP hS hM dL_sound_178
        · have hM := (if_pos c37).symm.trans hM
          refine lv_aload_n hx hb dL_sound_121 rfl (lv_at hl 2 rfl) ?_
          refine lv_iload_n hx hb dL_sound_122 rfl (lv_at hl 3 rfl) ?_
          refine lv_iload hx hb dL_sound_123 (lv_at hl 1 rfl) ?_
          refine lv_iload hx hb dL_sound_125 (lv_at hl 0 rfl) ?_
          obtain ⟨r40, σ39, h38, hM⟩ := bnd_i hM
          refine x_callV (As := [.int x1, .int r30, .int r33]) (rest := []) hA ⟨hx, hb, hml, hown, hts⟩ (tX6_knows l D cA ad hJ x1 r30 r33 σ35 _ _ h38) (cwV 3 hts gL_sound_X6_knows rfl rfl rfl (by decide +kernel) ⟨(Nat.le_of_ble_eq_true rfl), (Nat.le_of_ble_eq_true rfl)⟩) hK hP hS KC_sb rfl rfl hl.1 rfl (Nat.le_of_ble_eq_true rfl) ⟨Nat.zero_le _, Nat.zero_le _⟩ dL_sound_127 (fun H locs hP hS _ _ => ?_)
          refine lv_iconst (v := 1) hx hb dL_sound_130 (by decide) ?_
          refine lv_icmp_ne (tgt := 177) hx hb dL_sound_131 (by decide) (fun c41 => ?_) (fun c41 => ?_)
          · have hM := (if_neg c41).symm.trans hM
            refine lv_iconst (v := 0) hx hb dL_sound_177 (by decide) ?_
            exact x_zret hx hb hr hlk hP hS hM dL_sound_178
          · have hM := (if_pos c41).symm.trans hM
            refine lv_aload_n hx hb dL_sound_134 rfl (lv_at hl 2 rfl) ?_
            refine lv_iload_n hx hb dL_sound_135 rfl (lv_at hl 3 rfl) ?_
            refine lv_iload hx hb dL_sound_136 (lv_at hl 7 rfl) ?_
            refine lv_iconst (v := 4) hx hb dL_sound_138 (by decide) ?_
            obtain ⟨r44, σ43, h42, hM⟩ := bnd_i hM
            refine x_callV (As := [.int x1, .int x6, .int 4]) (rest := []) hA ⟨hx, hb, hml, hown, hts⟩ (tX6_stroke l D cA ad hJ x1 x6 4 σ39 _ _ h42) (cwV 3 hts gL_sound_X6_stroke rfl rfl rfl (by decide +kernel) ⟨(Nat.le_of_ble_eq_true rfl), (Nat.le_of_ble_eq_true rfl)⟩) hK hP hS KC_sb rfl rfl hl.1 rfl (Nat.le_of_ble_eq_true rfl) ⟨Nat.zero_le _, Nat.zero_le _⟩ dL_sound_139 (fun H locs hP hS _ _ => ?_)
            refine lv_aload_n hx hb dL_sound_142 rfl (lv_at hl 2 rfl) ?_
            refine lv_iload hx hb dL_sound_143 (lv_at hl 1 rfl) ?_
            refine lv_iload hx hb dL_sound_145 (lv_at hl 0 rfl) ?_
            refine lv_iconst (v := 3) hx hb dL_sound_147 (by decide) ?_
            obtain ⟨r47, σ46, h45, hM⟩ := bnd_i hM
            refine x_callV (As := [.int r30, .int r33, .int 3]) (rest := [.int r44]) hA ⟨hx, hb, hml, hown, hts⟩ (tX6_operation l D cA ad hJ r30 r33 3 σ43 _ _ h45) (cwV 3 hts gL_sound_X6_operation rfl rfl rfl (by decide +kernel) ⟨(Nat.le_of_ble_eq_true rfl), (Nat.le_of_ble_eq_true rfl)⟩) hK hP hS KC_sb rfl rfl hl.1 rfl (Nat.le_of_ble_eq_true rfl) ⟨Nat.zero_le _, Nat.zero_le _⟩ dL_sound_148 (fun H locs hP hS _ _ => ?_)
            refine lv_icmp_ne (tgt := 177) hx hb dL_sound_151 (by decide) (fun c48 => ?_) (fun c48 => ?_)
            · have hM := (if_neg c48).symm.trans hM
              refine lv_iconst (v := 0) hx hb dL_sound_177 (by decide) ?_
              exact x_zret hx hb hr hlk hP hS hM dL_sound_178
            · have hM := (if_pos c48).symm.trans hM
              refine lv_aload_n hx hb dL_sound_154 rfl (lv_at hl 2 rfl) ?_
              refine lv_iload_n hx hb dL_sound_155 rfl (lv_at hl 3 rfl) ?_
              refine lv_iload hx hb dL_sound_156 (lv_at hl 7 rfl) ?_
              refine lv_iconst (v := 2) hx hb dL_sound_158 (by decide) ?_
              obtain ⟨r51, σ50, h49, hM⟩ := bnd_i hM
              refine x_callV (As := [.int x1, .int x6, .int 2]) (rest := []) hA ⟨hx, hb, hml, hown, hts⟩ (tX6_stroke l D cA ad hJ x1 x6 2 σ46 _ _ h49) (cwV 3 hts gL_sound_X6_stroke rfl rfl rfl (by decide +kernel) ⟨(Nat.le_of_ble_eq_true rfl), (Nat.le_of_ble_eq_true rfl)⟩) hK hP hS KC_sb rfl rfl hl.1 rfl (Nat.le_of_ble_eq_true rfl) ⟨Nat.zero_le _, Nat.zero_le _⟩ dL_sound_159 (fun H locs hP hS _ _ => ?_)
              refine lv_if_lt (tgt := 177) hx hb dL_sound_162 (by decide) (fun c52 => ?_) (fun c52 => ?_)
              · have hM := (if_pos c52).symm.trans hM
                refine lv_iconst (v := 0) hx hb dL_sound_177 (by decide) ?_
                exact x_zret hx hb hr hlk hP hS hM dL_sound_178
              · have hM := (if_neg c52).symm.trans hM
                refine lv_aload_n hx hb dL_sound_165 rfl (lv_at hl 2 rfl) ?_
                refine lv_iload_n hx hb dL_sound_166 rfl (lv_at hl 3 rfl) ?_
                refine lv_iload hx hb dL_sound_167 (lv_at hl 7 rfl) ?_
                refine lv_iconst (v := 2) hx hb dL_sound_169 (by decide) ?_
                obtain ⟨r55, σ54, h53, hM⟩ := bnd_i hM
                refine x_callV (As := [.int x1, .int x6, .int 2]) (rest := []) hA ⟨hx, hb, hml, hown, hts⟩ (tX6_stroke l D cA ad hJ x1 x6 2 σ50 _ _ h53) (cwV 3 hts gL_sound_X6_stroke rfl rfl rfl (by decide +kernel) ⟨(Nat.le_of_ble_eq_true rfl), (Nat.le_of_ble_eq_true rfl)⟩) hK hP hS KC_sb rfl rfl hl.1 rfl (Nat.le_of_ble_eq_true rfl) ⟨Nat.zero_le _, Nat.zero_le _⟩ dL_sound_170 (fun H locs hP hS _ _ => ?_)
                refine lv_iconst (v := 3) hx hb dL_sound_173 (by decide) ?_
                refine lv_icmp_le (tgt := 179) hx hb dL_sound_174 (by decide) (fun c56 => ?_) (fun c56 => ?_)
                · have hM := (if_pos c56).symm.trans hM
                  refine lv_iinc (v := (x6 + 1)) (lv' := [(6, .int (x6 + 1)), (8, .int r33), (7, .int r30), (0, .ref (ad 62)), (1, .int x1), (2, .int x2), (3, .int x3), (5, .int x5)]) hx hb dL_sound_179 hl (k := 7) rfl rfl (by decide) rfl (fun ls hl => ?_)
                  refine lv_goto (tgt := 82) hx hb dL_sound_182 (by decide) ?_
                  exact ih82 _ _ _ _ _ _ _ _ _ hM hP hS (lv_sub hl [3, 4, 5, 6, 7, 0] rfl)
                · have hM := (if_neg c56).symm.trans hM
                  refine lv_iconst (v := 0) hx hb dL_sound_177 (by decide) ?_
                  exact x_zret hx hb hr hlk hP hS hM dL_sound_178
  have b71 : ∀ (x1 x2 x3 : Int32) (σ : St) (H : Heap) (locs : List Loc) (ls : Array Slot), mL_sound_b71 x1 x2 x3 σ = some (r, σ') → w_P D cA ad KC σ H → va_S (w_A ad KC) s.heap H locs → lv_has ls 9 [(0, .ref (ad 62)), (1, .int x1), (2, .int x2), (3, .int x3)] → Wm p l e wsL_sound 7 161 s m ([.ref (ad 62), .int u1, .int u2] : List Value).toArray below meth c (w_Qi D cA ad KC r σ') (w_A ad KC) H locs (F0 m 71 ls []) := by
    intro x1 x2 x3 σ H locs ls hM hP hS hl
    unfold mL_sound_b71 at hM
    refine lv_aload_n hx hb dL_sound_71 rfl (lv_at hl 0 rfl) ?_
    refine lv_iload_n hx hb dL_sound_72 rfl (lv_at hl 1 rfl) ?_
    refine lv_iconst (v := 3) hx hb dL_sound_73 (by decide) ?_
    obtain ⟨r59, σ58, h57, hM⟩ := bnd_i hM
    refine x_callV (As := [.int x1, .int 3]) (rest := []) hA ⟨hx, hb, hml, hown, hts⟩ (tX6_siteInfo l D cA ad hJ x1 3 σ _ _ h57) (cwV 2 hts gL_sound_X6_siteInfo rfl rfl rfl (by decide +kernel) ⟨(Nat.le_of_ble_eq_true rfl), (Nat.le_of_ble_eq_true rfl)⟩) hK hP hS KC_sb rfl rfl hl.1 rfl (Nat.le_of_ble_eq_true rfl) ⟨Nat.zero_le _, Nat.zero_le _⟩ dL_sound_74 (fun H locs hP hS _ _ => ?_)
    refine lv_istore (lv' := [(5, .int r59), (0, .ref (ad 62)), (1, .int x1), (2, .int x2), (3, .int x3)]) hx hb dL_sound_77 hl (by decide) rfl (fun ls hl => ?_)
    refine lv_iconst (v := 0) hx hb dL_sound_79 (by decide) ?_
    refine lv_istore (lv' := [(6, .int 0), (5, .int r59), (0, .ref (ad 62)), (1, .int x1), (2, .int x2), (3, .int x3)]) hx hb dL_sound_80 hl (by decide) rfl (fun ls hl => ?_)
    exact L82 fu _ _ _ _ _ _ _ _ _ hM hP hS (lv_sub hl [2, 3, 4, 5, 1, 0] rfl)
  have L13 : ∀ (n : Nat) (x1 x2 x3 x4 x5 : Int32) (σ : St) (H : Heap) (locs : List Loc) (ls : Array Slot), mL_sound_L13 n x1 x2 x3 x4 x5 σ = some (r, σ') → w_P D cA ad KC σ H → va_S (w_A ad KC) s.heap H locs → lv_has ls 9 [(0, .ref (ad 62)), (1, .int x1), (2, .int x2), (3, .int x3), (4, .int x4), (5, .int x5)] → Wm p l e wsL_sound 7 161 s m ([.ref (ad 62), .int u1, .int u2] : List Value).toArray below meth c (w_Qi D cA ad KC r σ') (w_A ad KC) H locs (F0 m 13 ls []) := by
    intro n13
    induction n13 with
    | zero =>
      intro x1 x2 x3 x4 x5 σ H locs ls hM hP hS hl
      rw [mL_sound_L13] at hM
      cases hM
    | succ n13 ih13 =>
      intro x1 x2 x3 x4 x5 σ H locs ls hM hP hS hl
      rw [mL_sound_L13] at hM
      refine lv_iload hx hb dL_sound_13 (lv_at hl 5 rfl) ?_
      refine lv_iload_n hx hb dL_sound_15 rfl (lv_at hl 3 rfl) ?_
      refine lv_icmp_gt (tgt := 71) hx hb dL_sound_16 (by decide) (fun c60 => ?_) (fun c60 => ?_)
      · have hM := (if_pos c60).symm.trans hM
        exact b71 _ _ _ _ _ _ _ hM hP hS (lv_sub hl [0, 1, 2, 3] rfl)
      · have hM := (if_neg c60).symm.trans hM
        refine lv_aload_n hx hb dL_sound_19 rfl (lv_at hl 0 rfl) ?_
        refine lv_iload_n hx hb dL_sound_20 rfl (lv_at hl 1 rfl) ?_
        refine lv_iload hx hb dL_sound_21 (lv_at hl 5 rfl) ?_
        refine lv_iconst (v := 1) hx hb dL_sound_23 (by decide) ?_
        obtain ⟨r63, σ62, h61, hM⟩ := bnd_i hM
        refine x_callV (As := [.int x1, .int x5, .int 1]) (rest := []) hA ⟨hx, hb, hml, hown, hts⟩ (tX6_operation l D cA ad hJ x1 x5 1 σ _ _ h61) (cwV 3 hts gL_sound_X6_operation rfl rfl rfl (by decide +kernel) ⟨(Nat.le_of_ble_eq_true rfl), (Nat.le_of_ble_eq_true rfl)⟩) hK hP hS KC_sb rfl rfl hl.1 rfl (Nat.le_of_ble_eq_true rfl) ⟨Nat.zero_le _, Nat.zero_le _⟩ dL_sound_24 (fun H locs hP hS _ _ => ?_)
        refine lv_istore (lv' := [(6, .int r63), (0, .ref (ad 62)), (1, .int x1), (2, .int x2), (3, .int x3), (4, .int x4), (5, .int x5)]) hx hb dL_sound_27 hl (by decide) rfl (fun ls hl => ?_)
        refine lv_aload_n hx hb dL_sound_29 rfl (lv_at hl 1 rfl) ?_
        refine lv_iload_n hx hb dL_sound_30 rfl (lv_at hl 2 rfl) ?_
        refine lv_iload_n hx hb dL_sound_31 rfl (lv_at hl 2 rfl) ?_
        refine lv_iload hx hb dL_sound_32 (lv_at hl 6 rfl) ?_
        obtain ⟨r66, σ65, h64, hM⟩ := bnd_i hM
        refine x_callV (As := [.int x1, .int x1, .int x5]) (rest := []) hA ⟨hx, hb, hml, hown, hts⟩ (tX6_knows l D cA ad hJ x1 x1 x5 σ62 _ _ h64) (cwV 3 hts gL_sound_X6_knows rfl rfl rfl (by decide +kernel) ⟨(Nat.le_of_ble_eq_true rfl), (Nat.le_of_ble_eq_true rfl)⟩) hK hP hS KC_sb rfl rfl hl.1 rfl (Nat.le_of_ble_eq_true rfl) ⟨Nat.zero_le _, Nat.zero_le _⟩ dL_sound_34 (fun H locs hP hS _ _ => ?_)
        refine lv_iconst (v := 1) hx hb dL_sound_37 (by decide) ?_
        refine lv_icmp_ne (tgt := 59) hx hb dL_sound_38 (by decide) (fun c67 => ?_) (fun c67 => ?_)
        · have hM := (if_neg c67).symm.trans hM
          refine lv_iconst (v := 0) hx hb dL_sound_59 (by decide) ?_
          exact x_zret hx hb hr hlk hP hS hM dL_sound_60
        · have hM := (if_pos c67).symm.trans hM
          refine lv_iload hx hb dL_sound_41 (lv_at hl 0 rfl) ?_
          refine lv_iload hx hb dL_sound_43 (lv_at hl 5 rfl) ?_
          refine lv_icmp_le (tgt := 59) hx hb dL_sound_45 (by decide) (fun c68 => ?_) (fun c68 => ?_)
          · have hM := (if_pos c68).symm.trans hM
            refine lv_iconst (v := 0) hx hb dL_sound_59 (by decide) ?_
            exact x_zret hx hb hr hlk hP hS hM dL_sound_60
          · have hM := (if_neg c68).symm.trans hM
            refine lv_iload hx hb dL_sound_48 (lv_at hl 0 rfl) ?_
            refine lv_aload_n hx hb dL_sound_50 rfl (lv_at hl 1 rfl) ?_
            refine lv_iload_n hx hb dL_sound_51 rfl (lv_at hl 2 rfl) ?_
            refine lv_iconst (v := 0) hx hb dL_sound_52 (by decide) ?_
            obtain ⟨r71, σ70, h69, hM⟩ := bnd_i hM
            refine x_callV (As := [.int x1, .int 0]) (rest := [.int r63]) hA ⟨hx, hb, hml, hown, hts⟩ (tX6_siteInfo l D cA ad hJ x1 0 σ65 _ _ h69) (cwV 2 hts gL_sound_X6_siteInfo rfl rfl rfl (by decide +kernel) ⟨(Nat.le_of_ble_eq_true rfl), (Nat.le_of_ble_eq_true rfl)⟩) hK hP hS KC_sb rfl rfl hl.1 rfl (Nat.le_of_ble_eq_true rfl) ⟨Nat.zero_le _, Nat.zero_le _⟩ dL_sound_53 (fun H locs hP hS _ _ => ?_)
            refine lv_icmp_le (tgt := 61) hx hb dL_sound_56 (by decide) (fun c72 => ?_) (fun c72 => ?_)
            · have hM := (if_pos c72).symm.trans hM
              refine lv_iload hx hb dL_sound_61 (lv_at hl 0 rfl) ?_
              refine lv_istore (lv' := [(4, .int r63), (6, .int r63), (0, .ref (ad 62)), (1, .int x1), (2, .int x2), (3, .int x3), (5, .int x5)]) hx hb dL_sound_63 hl (by decide) rfl (fun ls hl => ?_)
              refine lv_iinc (v := (x5 + 1)) (lv' := [(5, .int (x5 + 1)), (4, .int r63), (6, .int r63), (0, .ref (ad 62)), (1, .int x1), (2, .int x2), (3, .int x3)]) hx hb dL_sound_65 hl (k := 6) rfl rfl (by decide) rfl (fun ls hl => ?_)
              refine lv_goto (tgt := 13) hx hb dL_sound_68 (by decide) ?_
              exact ih13 _ _ _ _ _ _ _ _ _ hM hP hS (lv_sub hl [3, 4, 5, 6, 1, 0] rfl)
            · have hM := (if_neg c72).symm.trans hM
              refine lv_iconst (v := 0) hx hb dL_sound_59 (by decide) ?_
              exact x_zret hx hb hr hlk hP hS hM dL_sound_60
  unfold mL_sound at hM
  refine lv_aload_n hx hb dL_sound_0 rfl (lv_at hl 0 rfl) ?_
  refine lv_iload_n hx hb dL_sound_1 rfl (lv_at hl 1 rfl) ?_
  refine lv_iconst (v := 2) hx hb dL_sound_2 (by decide) ?_
  obtain ⟨r75, σ74, h73, hM⟩ := bnd_i hM
  refine x_callV (As := [.int u1, .int 2]) (rest := []) hA ⟨hx, hb, hml, hown, hts⟩ (tX6_siteInfo l D cA ad hJ u1 2 σ _ _ h73) (cwV 2 hts gL_sound_X6_siteInfo rfl rfl rfl (by decide +kernel) ⟨(Nat.le_of_ble_eq_true rfl), (Nat.le_of_ble_eq_true rfl)⟩) hK hP hS KC_sb rfl rfl hl.1 rfl (Nat.le_of_ble_eq_true rfl) ⟨Nat.zero_le _, Nat.zero_le _⟩ dL_sound_3 (fun H locs hP hS _ _ => ?_)
  refine lv_istore_n (lv' := [(3, .int r75), (0, .ref (ad 62)), (1, .int u1), (2, .int u2)]) hx hb dL_sound_6 rfl hl (by decide) rfl (fun ls hl => ?_)
  refine lv_iconst (v := 0) hx hb dL_sound_7 (by decide) ?_
  refine lv_istore (lv' := [(4, .int 0), (3, .int r75), (0, .ref (ad 62)), (1, .int u1), (2, .int u2)]) hx hb dL_sound_8 hl (by decide) rfl (fun ls hl => ?_)
  refine lv_iconst (v := 1) hx hb dL_sound_10 (by decide) ?_
  refine lv_istore (lv' := [(5, .int 1), (4, .int 0), (3, .int r75), (0, .ref (ad 62)), (1, .int u1), (2, .int u2)]) hx hb dL_sound_11 hl (by decide) rfl (fun ls hl => ?_)
  exact L13 fu _ _ _ _ _ _ _ _ _ hM hP hS (lv_sub hl [3, 4, 5, 2, 1, 0] rfl)
set_option maxHeartbeats 4000000 in
set_option maxRecDepth 100000 in
theorem tL_knowSame (l : Launch) (D : va_G) (cA : ClassId) (ad : Nat → Nat) (hJ : w_J ad KC) (u1 u2 : Int32) (σ σ' : St) (r : Int32) (hM : mL_knowSame u1 u2 σ = some (r, σ')) : Ct l yL_knowSame wsL_knowSame 5 118 D cA ad KC [.ref (ad 62), .int u1, .int u2] σ r σ' := by
  unfold Ct
  refine Met_of (cc := cL_knowSame) (maxL := 6) (ret := (some .boolean)) hJ (by decide +kernel) rfl (Nat.le_of_ble_eq_true rfl) ?_
  intro p e s m below meth c Z H locs ls hP hS hl
  obtain ⟨hx, hb, hml, hown, hts, hr, hlk, hK, -⟩ := Z
  have hown : s.vm.findClass RL = some m.cls := hown
  have hl : lv_has ls 6 [(0, .ref (ad 62)), (1, .int u1), (2, .int u2)] := hl
  have hA : ∀ q, w_A ad KC q → w_A ad KC q := fun _ h => h
  have L5 : ∀ (n : Nat) (x1 x2 x3 x4 : Int32) (σ : St) (H : Heap) (locs : List Loc) (ls : Array Slot), mL_knowSame_L5 n x1 x2 x3 x4 σ = some (r, σ') → w_P D cA ad KC σ H → va_S (w_A ad KC) s.heap H locs → lv_has ls 6 [(0, .ref (ad 62)), (1, .int x1), (2, .int x2), (3, .int x3), (4, .int x4)] → Wm p l e wsL_knowSame 5 118 s m ([.ref (ad 62), .int u1, .int u2] : List Value).toArray below meth c (w_Qi D cA ad KC r σ') (w_A ad KC) H locs (F0 m 5 ls []) := by
    intro n5
    induction n5 with
    | zero =>
      intro x1 x2 x3 x4 σ H locs ls hM hP hS hl
      rw [mL_knowSame_L5] at hM
      cases hM
    | succ n5 ih5 =>
      have L17 : ∀ (n : Nat) (x1 x2 x3 x4 x5 : Int32) (σ : St) (H : Heap) (locs : List Loc) (ls : Array Slot), mL_knowSame_L17 (mL_knowSame_L5 n5) n x1 x2 x3 x4 x5 σ = some (r, σ') → w_P D cA ad KC σ H → va_S (w_A ad KC) s.heap H locs → lv_has ls 6 [(0, .ref (ad 62)), (1, .int x1), (2, .int x2), (3, .int x3), (4, .int x4), (5, .int x5)] → Wm p l e wsL_knowSame 5 118 s m ([.ref (ad 62), .int u1, .int u2] : List Value).toArray below meth c (w_Qi D cA ad KC r σ') (w_A ad KC) H locs (F0 m 17 ls []) := by
        intro n17
        induction n17 with
        | zero =>
          intro x1 x2 x3 x4 x5 σ H locs ls hM hP hS hl
          rw [mL_knowSame_L17] at hM
          cases hM
        | succ n17 ih17 =>
          intro x1 x2 x3 x4 x5 σ H locs ls hM hP hS hl
          rw [mL_knowSame_L17] at hM
          refine lv_iload hx hb dL_knowSame_17 (lv_at hl 5 rfl) ?_
          refine lv_aload_n hx hb dL_knowSame_19 rfl (lv_at hl 0 rfl) ?_
          refine lv_iload hx hb dL_knowSame_20 (lv_at hl 4 rfl) ?_
          refine lv_iconst (v := 2) hx hb dL_knowSame_22 (by decide) ?_
          obtain ⟨r3, σ2, h1, hM⟩ := bnd_i hM
          refine x_callV (As := [.int x4, .int 2]) (rest := [.int x5]) hA ⟨hx, hb, hml, hown, hts⟩ (tX6_siteInfo l D cA ad hJ x4 2 σ _ _ h1) (cwV 2 hts gL_knowSame_X6_siteInfo rfl rfl rfl (by decide +kernel) ⟨(Nat.le_of_ble_eq_true rfl), (Nat.le_of_ble_eq_true rfl)⟩) hK hP hS KC_sb rfl rfl hl.1 rfl (Nat.le_of_ble_eq_true rfl) ⟨Nat.zero_le _, Nat.zero_le _⟩ dL_knowSame_23 (fun H locs hP hS _ _ => ?_)
          refine lv_icmp_gt (tgt := 66) hx hb dL_knowSame_26 (by decide) (fun c4 => ?_) (fun c4 => ?_)
          · have hM := (if_pos c4).symm.trans hM
            refine lv_iinc (v := (x4 + 1)) (lv' := [(4, .int (x4 + 1)), (0, .ref (ad 62)), (1, .int x1), (2, .int x2), (3, .int x3), (5, .int x5)]) hx hb dL_knowSame_66 hl (k := 4) rfl rfl (by decide) rfl (fun ls hl => ?_)
            refine lv_goto (tgt := 5) hx hb dL_knowSame_69 (by decide) ?_
            exact ih5 _ _ _ _ _ _ _ _ hM hP hS (lv_sub hl [1, 2, 3, 4, 0] rfl)
          · have hM := (if_neg c4).symm.trans hM
            refine lv_iload_n hx hb dL_knowSame_29 rfl (lv_at hl 3 rfl) ?_
            refine lv_if_eq (tgt := 58) hx hb dL_knowSame_30 (by decide) (fun c5 => ?_) (fun c5 => ?_)
            · have hM := (if_pos c5).symm.trans hM
              refine lv_iconst (v := 0) hx hb dL_knowSame_58 (by decide) ?_
              refine lv_istore_n (lv' := [(3, .int 0), (0, .ref (ad 62)), (1, .int x1), (2, .int x2), (4, .int x4), (5, .int x5)]) hx hb dL_knowSame_59 rfl hl (by decide) rfl (fun ls hl => ?_)
              refine lv_iinc (v := (x5 + 1)) (lv' := [(5, .int (x5 + 1)), (3, .int 0), (0, .ref (ad 62)), (1, .int x1), (2, .int x2), (4, .int x4)]) hx hb dL_knowSame_60 hl (k := 5) rfl rfl (by decide) rfl (fun ls hl => ?_)
              refine lv_goto (tgt := 17) hx hb dL_knowSame_63 (by decide) ?_
              exact ih17 _ _ _ _ _ _ _ _ _ hM hP hS (lv_sub hl [2, 3, 4, 1, 5, 0] rfl)
            · have hM := (if_neg c5).symm.trans hM
              refine lv_aload_n hx hb dL_knowSame_33 rfl (lv_at hl 0 rfl) ?_
              refine lv_iload_n hx hb dL_knowSame_34 rfl (lv_at hl 1 rfl) ?_
              refine lv_iload hx hb dL_knowSame_35 (lv_at hl 4 rfl) ?_
              refine lv_iload hx hb dL_knowSame_37 (lv_at hl 5 rfl) ?_
              obtain ⟨r8, σ7, h6, hM⟩ := bnd_i hM
              refine x_callV (As := [.int x1, .int x4, .int x5]) (rest := []) hA ⟨hx, hb, hml, hown, hts⟩ (tX6_knows l D cA ad hJ x1 x4 x5 σ2 _ _ h6) (cwV 3 hts gL_knowSame_X6_knows rfl rfl rfl (by decide +kernel) ⟨(Nat.le_of_ble_eq_true rfl), (Nat.le_of_ble_eq_true rfl)⟩) hK hP hS KC_sb rfl rfl hl.1 rfl (Nat.le_of_ble_eq_true rfl) ⟨Nat.zero_le _, Nat.zero_le _⟩ dL_knowSame_39 (fun H locs hP hS _ _ => ?_)
              refine lv_aload_n hx hb dL_knowSame_42 rfl (lv_at hl 0 rfl) ?_
              refine lv_iload_n hx hb dL_knowSame_43 rfl (lv_at hl 2 rfl) ?_
              refine lv_iload hx hb dL_knowSame_44 (lv_at hl 4 rfl) ?_
              refine lv_iload hx hb dL_knowSame_46 (lv_at hl 5 rfl) ?_
              obtain ⟨r11, σ10, h9, hM⟩ := bnd_i hM
              refine x_callV (As := [.int x2, .int x4, .int x5]) (rest := [.int r8]) hA ⟨hx, hb, hml, hown, hts⟩ (tX6_knows l D cA ad hJ x2 x4 x5 σ7 _ _ h9) (cwV 3 hts gL_knowSame_X6_knows rfl rfl rfl (by decide +kernel) ⟨(Nat.le_of_ble_eq_true rfl), (Nat.le_of_ble_eq_true rfl)⟩) hK hP hS KC_sb rfl rfl hl.1 rfl (Nat.le_of_ble_eq_true rfl) ⟨Nat.zero_le _, Nat.zero_le _⟩ dL_knowSame_48 (fun H locs hP hS _ _ => ?_)
              refine lv_icmp_ne (tgt := 58) hx hb dL_knowSame_51 (by decide) (fun c12 => ?_) (fun c12 => ?_)
              · have hM := (if_neg c12).symm.trans hM
                refine lv_iconst (v := 0) hx hb dL_knowSame_58 (by decide) ?_
                refine lv_istore_n (lv' := [(3, .int 0), (0, .ref (ad 62)), (1, .int x1), (2, .int x2), (4, .int x4), (5, .int x5)]) hx hb dL_knowSame_59 rfl hl (by decide) rfl (fun ls hl => ?_)
                refine lv_iinc (v := (x5 + 1)) (lv' := [(5, .int (x5 + 1)), (3, .int 0), (0, .ref (ad 62)), (1, .int x1), (2, .int x2), (4, .int x4)]) hx hb dL_knowSame_60 hl (k := 5) rfl rfl (by decide) rfl (fun ls hl => ?_)
                refine lv_goto (tgt := 17) hx hb dL_knowSame_63 (by decide) ?_
                exact ih17 _ _ _ _ _ _ _ _ _ hM hP hS (lv_sub hl [2, 3, 4, 1, 5, 0] rfl)
              · have hM := (if_pos c12).symm.trans hM
                refine lv_iconst (v := 1) hx hb dL_knowSame_54 (by decide) ?_
                refine lv_goto (tgt := 59) hx hb dL_knowSame_55 (by decide) ?_
                refine lv_istore_n (lv' := [(3, .int 1), (0, .ref (ad 62)), (1, .int x1), (2, .int x2), (4, .int x4), (5, .int x5)]) hx hb dL_knowSame_59 rfl hl (by decide) rfl (fun ls hl => ?_)
                refine lv_iinc (v := (x5 + 1)) (lv' := [(5, .int (x5 + 1)), (3, .int 1), (0, .ref (ad 62)), (1, .int x1), (2, .int x2), (4, .int x4)]) hx hb dL_knowSame_60 hl (k := 5) rfl rfl (by decide) rfl (fun ls hl => ?_)
                refine lv_goto (tgt := 17) hx hb dL_knowSame_63 (by decide) ?_
                exact ih17 _ _ _ _ _ _ _ _ _ hM hP hS (lv_sub hl [2, 3, 4, 1, 5, 0] rfl)
      intro x1 x2 x3 x4 σ H locs ls hM hP hS hl
      rw [mL_knowSame_L5] at hM
      refine lv_iload hx hb dL_knowSame_5 (lv_at hl 4 rfl) ?_
      refine lv_aload_n hx hb dL_knowSame_7 rfl (lv_at hl 0 rfl) ?_
      obtain ⟨r15, σ14, h13, hM⟩ := bnd_i hM
      refine x_callV (As := []) (rest := [.int x4]) hA ⟨hx, hb, hml, hown, hts⟩ (tX6_sites l D cA ad hJ σ _ _ h13) (cwV 0 hts gL_knowSame_X6_sites rfl rfl rfl (by decide +kernel) ⟨(Nat.le_of_ble_eq_true rfl), (Nat.le_of_ble_eq_true rfl)⟩) hK hP hS KC_sb rfl rfl hl.1 rfl (Nat.le_of_ble_eq_true rfl) ⟨Nat.zero_le _, Nat.zero_le _⟩ dL_knowSame_8 (fun H locs hP hS _ _ => ?_)
      refine lv_icmp_ge (tgt := 72) hx hb dL_knowSame_11 (by decide) (fun c16 => ?_) (fun c16 => ?_)
      · have hM := (if_pos c16).symm.trans hM
        refine lv_iload_n hx hb dL_knowSame_72 rfl (lv_at hl 3 rfl) ?_
        exact x_zret hx hb hr hlk hP hS hM dL_knowSame_73
      · have hM := (if_neg c16).symm.trans hM
        refine lv_iconst (v := 1) hx hb dL_knowSame_14 (by decide) ?_
        refine lv_istore (lv' := [(5, .int 1), (0, .ref (ad 62)), (1, .int x1), (2, .int x2), (3, .int x3), (4, .int x4)]) hx hb dL_knowSame_15 hl (by decide) rfl (fun ls hl => ?_)
        exact L17 fu _ _ _ _ _ _ _ _ _ hM hP hS (lv_sub hl [1, 2, 3, 4, 5, 0] rfl)
  unfold mL_knowSame at hM
  refine lv_iconst (v := 1) hx hb dL_knowSame_0 (by decide) ?_
  refine lv_istore_n (lv' := [(3, .int 1), (0, .ref (ad 62)), (1, .int u1), (2, .int u2)]) hx hb dL_knowSame_1 rfl hl (by decide) rfl (fun ls hl => ?_)
  refine lv_iconst (v := 0) hx hb dL_knowSame_2 (by decide) ?_
  refine lv_istore (lv' := [(4, .int 0), (3, .int 1), (0, .ref (ad 62)), (1, .int u1), (2, .int u2)]) hx hb dL_knowSame_3 hl (by decide) rfl (fun ls hl => ?_)
  exact L5 fu _ _ _ _ _ _ _ _ hM hP hS (lv_sub hl [2, 3, 4, 1, 0] rfl)
set_option maxHeartbeats 4000000 in
set_option maxRecDepth 100000 in
theorem tL_pairs (l : Launch) (D : va_G) (cA : ClassId) (ad : Nat → Nat) (hJ : w_J ad KC) (σ σ' : St) (r : Int32) (hM : mL_pairs σ = some (r, σ')) : Ct l yL_pairs wsL_pairs 6 143 D cA ad KC [.ref (ad 62)] σ r σ' := by
  unfold Ct
  refine Met_of (cc := cL_pairs) (maxL := 4) (ret := (some .boolean)) hJ (by decide +kernel) rfl (Nat.le_of_ble_eq_true rfl) ?_
  intro p e s m below meth c Z H locs ls hP hS hl
  obtain ⟨hx, hb, hml, hown, hts, hr, hlk, hK, -⟩ := Z
  have hown : s.vm.findClass RL = some m.cls := hown
  have hl : lv_has ls 4 [(0, .ref (ad 62))] := hl
  have hA : ∀ q, w_A ad KC q → w_A ad KC q := fun _ h => h
  have L2 : ∀ (n : Nat) (x1 : Int32) (σ : St) (H : Heap) (locs : List Loc) (ls : Array Slot), mL_pairs_L2 n x1 σ = some (r, σ') → w_P D cA ad KC σ H → va_S (w_A ad KC) s.heap H locs → lv_has ls 4 [(0, .ref (ad 62)), (1, .int x1)] → Wm p l e wsL_pairs 6 143 s m ([.ref (ad 62)] : List Value).toArray below meth c (w_Qi D cA ad KC r σ') (w_A ad KC) H locs (F0 m 2 ls []) := by
    intro n2
    induction n2 with
    | zero =>
      intro x1 σ H locs ls hM hP hS hl
      rw [mL_pairs_L2] at hM
      cases hM
    | succ n2 ih2 =>
      have L12 : ∀ (n : Nat) (x1 x2 : Int32) (σ : St) (H : Heap) (locs : List Loc) (ls : Array Slot), mL_pairs_L12 (mL_pairs_L2 n2) n x1 x2 σ = some (r, σ') → w_P D cA ad KC σ H → va_S (w_A ad KC) s.heap H locs → lv_has ls 4 [(0, .ref (ad 62)), (1, .int x1), (2, .int x2)] → Wm p l e wsL_pairs 6 143 s m ([.ref (ad 62)] : List Value).toArray below meth c (w_Qi D cA ad KC r σ') (w_A ad KC) H locs (F0 m 12 ls []) := by
        intro n12
        induction n12 with
        | zero =>
          intro x1 x2 σ H locs ls hM hP hS hl
          rw [mL_pairs_L12] at hM
          cases hM
        | succ n12 ih12 =>
          have b66 : ∀ (x1 x2 : Int32) (σ : St) (H : Heap) (locs : List Loc) (ls : Array Slot), mL_pairs_b66 (mL_pairs_L2 n2) (mL_pairs_L12 (mL_pairs_L2 n2) n12) x1 x2 σ = some (r, σ') → w_P D cA ad KC σ H → va_S (w_A ad KC) s.heap H locs → lv_has ls 4 [(0, .ref (ad 62)), (1, .int x1), (2, .int x2)] → Wm p l e wsL_pairs 6 143 s m ([.ref (ad 62)] : List Value).toArray below meth c (w_Qi D cA ad KC r σ') (w_A ad KC) H locs (F0 m 66 ls []) := by
            intro x1 x2 σ H locs ls hM hP hS hl
            unfold mL_pairs_b66 at hM
            refine lv_iload_n hx hb dL_pairs_66 rfl (lv_at hl 1 rfl) ?_
            refine lv_iload_n hx hb dL_pairs_67 rfl (lv_at hl 2 rfl) ?_
            refine lv_icmp_eq (tgt := 93) hx hb dL_pairs_68 (by decide) (fun c1 => ?_) (fun c1 => ?_)
            · have hM := (if_pos c1).symm.trans hM
              refine lv_iinc (v := (x2 + 1)) (lv' := [(2, .int (x2 + 1)), (0, .ref (ad 62)), (1, .int x1)]) hx hb dL_pairs_93 hl (k := 2) rfl rfl (by decide) rfl (fun ls hl => ?_)
              refine lv_goto (tgt := 12) hx hb dL_pairs_96 (by decide) ?_
              exact ih12 _ _ _ _ _ _ hM hP hS (lv_sub hl [1, 2, 0] rfl)
            · have hM := (if_neg c1).symm.trans hM
              refine lv_aload_n hx hb dL_pairs_71 rfl (lv_at hl 0 rfl) ?_
              refine lv_iload_n hx hb dL_pairs_72 rfl (lv_at hl 1 rfl) ?_
              refine lv_iload_n hx hb dL_pairs_73 rfl (lv_at hl 2 rfl) ?_
              obtain ⟨r4, σ3, h2, hM⟩ := bnd_i hM
              refine x_callV (As := [.int x1, .int x2]) (rest := []) hA ⟨hx, hb, hml, hown, hts⟩ (tX6_waiting l D cA ad hJ x1 x2 σ _ _ h2) (cwV 2 hts gL_pairs_X6_waiting rfl rfl rfl (by decide +kernel) ⟨(Nat.le_of_ble_eq_true rfl), (Nat.le_of_ble_eq_true rfl)⟩) hK hP hS KC_sb rfl rfl hl.1 rfl (Nat.le_of_ble_eq_true rfl) ⟨Nat.zero_le _, Nat.zero_le _⟩ dL_pairs_74 (fun H locs hP hS _ _ => ?_)
              refine lv_if_lt (tgt := 91) hx hb dL_pairs_77 (by decide) (fun c5 => ?_) (fun c5 => ?_)
              · have hM := (if_pos c5).symm.trans hM
                refine lv_iconst (v := 0) hx hb dL_pairs_91 (by decide) ?_
                exact x_zret hx hb hr hlk hP hS hM dL_pairs_92
              · have hM := (if_neg c5).symm.trans hM
                refine lv_aload_n hx hb dL_pairs_80 rfl (lv_at hl 0 rfl) ?_
                refine lv_iload_n hx hb dL_pairs_81 rfl (lv_at hl 1 rfl) ?_
                refine lv_iload_n hx hb dL_pairs_82 rfl (lv_at hl 2 rfl) ?_
                obtain ⟨r8, σ7, h6, hM⟩ := bnd_i hM
                refine x_callV (As := [.int x1, .int x2]) (rest := []) hA ⟨hx, hb, hml, hown, hts⟩ (tX6_waiting l D cA ad hJ x1 x2 σ3 _ _ h6) (cwV 2 hts gL_pairs_X6_waiting rfl rfl rfl (by decide +kernel) ⟨(Nat.le_of_ble_eq_true rfl), (Nat.le_of_ble_eq_true rfl)⟩) hK hP hS KC_sb rfl rfl hl.1 rfl (Nat.le_of_ble_eq_true rfl) ⟨Nat.zero_le _, Nat.zero_le _⟩ dL_pairs_83 (fun H locs hP hS _ _ => ?_)
                refine lv_bipush (v := 10) hx hb dL_pairs_86 (by decide) ?_
                refine lv_icmp_le (tgt := 93) hx hb dL_pairs_88 (by decide) (fun c9 => ?_) (fun c9 => ?_)
                · have hM := (if_pos c9).symm.trans hM
                  refine lv_iinc (v := (x2 + 1)) (lv' := [(2, .int (x2 + 1)), (0, .ref (ad 62)), (1, .int x1)]) hx hb dL_pairs_93 hl (k := 2) rfl rfl (by decide) rfl (fun ls hl => ?_)
                  refine lv_goto (tgt := 12) hx hb dL_pairs_96 (by decide) ?_
                  exact ih12 _ _ _ _ _ _ hM hP hS (lv_sub hl [1, 2, 0] rfl)
                · have hM := (if_neg c9).symm.trans hM
                  refine lv_iconst (v := 0) hx hb dL_pairs_91 (by decide) ?_
                  exact x_zret hx hb hr hlk hP hS hM dL_pairs_92
          have b49 : ∀ (x1 x2 x3 : Int32) (σ : St) (H : Heap) (locs : List Loc) (ls : Array Slot), mL_pairs_b49 (mL_pairs_L2 n2) (mL_pairs_L12 (mL_pairs_L2 n2) n12) x1 x2 x3 σ = some (r, σ') → w_P D cA ad KC σ H → va_S (w_A ad KC) s.heap H locs → lv_has ls 4 [(0, .ref (ad 62)), (1, .int x1), (2, .int x2), (3, .int x3)] → Wm p l e wsL_pairs 6 143 s m ([.ref (ad 62)] : List Value).toArray below meth c (w_Qi D cA ad KC r σ') (w_A ad KC) H locs (F0 m 49 ls []) := by
            intro x1 x2 x3 σ H locs ls hM hP hS hl
            unfold mL_pairs_b49 at hM
            refine lv_iload_n hx hb dL_pairs_49 rfl (lv_at hl 3 rfl) ?_
            refine lv_if_eq (tgt := 66) hx hb dL_pairs_50 (by decide) (fun c10 => ?_) (fun c10 => ?_)
            · have hM := (if_pos c10).symm.trans hM
              exact b66 _ _ _ _ _ _ hM hP hS (lv_sub hl [0, 1, 2] rfl)
            · have hM := (if_neg c10).symm.trans hM
              refine lv_aload_n hx hb dL_pairs_53 rfl (lv_at hl 0 rfl) ?_
              refine lv_iload_n hx hb dL_pairs_54 rfl (lv_at hl 1 rfl) ?_
              obtain ⟨r13, σ12, h11, hM⟩ := bnd_i hM
              refine x_callV (As := [.int x1]) (rest := []) hA ⟨hx, hb, hml, hown, hts⟩ (tX6_digest l D cA ad hJ x1 σ _ _ h11) (cwV 1 hts gL_pairs_X6_digest rfl rfl rfl (by decide +kernel) ⟨(Nat.le_of_ble_eq_true rfl), (Nat.le_of_ble_eq_true rfl)⟩) hK hP hS KC_sb rfl rfl hl.1 rfl (Nat.le_of_ble_eq_true rfl) ⟨Nat.zero_le _, Nat.zero_le _⟩ dL_pairs_55 (fun H locs hP hS _ _ => ?_)
              refine lv_aload_n hx hb dL_pairs_58 rfl (lv_at hl 0 rfl) ?_
              refine lv_iload_n hx hb dL_pairs_59 rfl (lv_at hl 2 rfl) ?_
              obtain ⟨r16, σ15, h14, hM⟩ := bnd_i hM
              refine x_callV (As := [.int x2]) (rest := [.int r13]) hA ⟨hx, hb, hml, hown, hts⟩ (tX6_digest l D cA ad hJ x2 σ12 _ _ h14) (cwV 1 hts gL_pairs_X6_digest rfl rfl rfl (by decide +kernel) ⟨(Nat.le_of_ble_eq_true rfl), (Nat.le_of_ble_eq_true rfl)⟩) hK hP hS KC_sb rfl rfl hl.1 rfl (Nat.le_of_ble_eq_true rfl) ⟨Nat.zero_le _, Nat.zero_le _⟩ dL_pairs_60 (fun H locs hP hS _ _ => ?_)
              refine lv_icmp_ne (tgt := 91) hx hb dL_pairs_63 (by decide) (fun c17 => ?_) (fun c17 => ?_)
              · have hM := (if_neg c17).symm.trans hM
                refine lv_iconst (v := 0) hx hb dL_pairs_91 (by decide) ?_
                exact x_zret hx hb hr hlk hP hS hM dL_pairs_92
              · have hM := (if_pos c17).symm.trans hM
                exact b66 _ _ _ _ _ _ hM hP hS (lv_sub hl [0, 1, 2] rfl)
          have b35 : ∀ (x1 x2 y0 : Int32) (σ : St) (H : Heap) (locs : List Loc) (ls : Array Slot), mL_pairs_b35 (mL_pairs_L2 n2) (mL_pairs_L12 (mL_pairs_L2 n2) n12) x1 x2 y0 σ = some (r, σ') → w_P D cA ad KC σ H → va_S (w_A ad KC) s.heap H locs → lv_has ls 4 [(0, .ref (ad 62)), (1, .int x1), (2, .int x2)] → Wm p l e wsL_pairs 6 143 s m ([.ref (ad 62)] : List Value).toArray below meth c (w_Qi D cA ad KC r σ') (w_A ad KC) H locs (F0 m 35 ls [.int y0]) := by
            intro x1 x2 y0 σ H locs ls hM hP hS hl
            unfold mL_pairs_b35 at hM
            refine lv_istore_n (lv' := [(3, .int y0), (0, .ref (ad 62)), (1, .int x1), (2, .int x2)]) hx hb dL_pairs_35 rfl hl (by decide) rfl (fun ls hl => ?_)
            refine lv_aload_n hx hb dL_pairs_36 rfl (lv_at hl 1 rfl) ?_
            refine lv_iload_n hx hb dL_pairs_37 rfl (lv_at hl 2 rfl) ?_
            refine lv_iload_n hx hb dL_pairs_38 rfl (lv_at hl 3 rfl) ?_
            obtain ⟨r20, σ19, h18, hM⟩ := bnd_i hM
            refine x_callS (As := [.ref (ad 62), .int x1, .int x2]) (rest := []) hA ⟨hx, hb, hml, hown, hts⟩ (tL_knowSame l D cA ad hJ x1 x2 σ _ _ h18) (va_cwS 3 hts gL_pairs_L_knowSame rfl rfl rfl (by decide +kernel) ⟨(Nat.le_of_ble_eq_true rfl), (Nat.le_of_ble_eq_true rfl)⟩) hK hP hS rfl hl.1 rfl (Nat.le_of_ble_eq_true rfl) ⟨Nat.zero_le _, Nat.zero_le _⟩ dL_pairs_39 (fun H locs hP hS => ?_)
            refine lv_if_eq (tgt := 49) hx hb dL_pairs_42 (by decide) (fun c21 => ?_) (fun c21 => ?_)
            · have hM := (if_pos c21).symm.trans hM
              exact b49 _ _ _ _ _ _ _ hM hP hS (lv_sub hl [1, 2, 3, 0] rfl)
            · have hM := (if_neg c21).symm.trans hM
              refine lv_iload_n hx hb dL_pairs_45 rfl (lv_at hl 0 rfl) ?_
              refine lv_if_eq (tgt := 91) hx hb dL_pairs_46 (by decide) (fun c22 => ?_) (fun c22 => ?_)
              · have hM := (if_pos c22).symm.trans hM
                refine lv_iconst (v := 0) hx hb dL_pairs_91 (by decide) ?_
                exact x_zret hx hb hr hlk hP hS hM dL_pairs_92
              · have hM := (if_neg c22).symm.trans hM
                exact b49 _ _ _ _ _ _ _ hM hP hS (lv_sub hl [1, 2, 3, 0] rfl)
          intro x1 x2 σ H locs ls hM hP hS hl
          rw [mL_pairs_L12] at hM
          refine lv_iload_n hx hb dL_pairs_12 rfl (lv_at hl 2 rfl) ?_
          refine lv_aload_n hx hb dL_pairs_13 rfl (lv_at hl 0 rfl) ?_
          obtain ⟨r25, σ24, h23, hM⟩ := bnd_i hM
          refine x_callV (As := []) (rest := [.int x2]) hA ⟨hx, hb, hml, hown, hts⟩ (tX6_sites l D cA ad hJ σ _ _ h23) (cwV 0 hts gL_pairs_X6_sites rfl rfl rfl (by decide +kernel) ⟨(Nat.le_of_ble_eq_true rfl), (Nat.le_of_ble_eq_true rfl)⟩) hK hP hS KC_sb rfl rfl hl.1 rfl (Nat.le_of_ble_eq_true rfl) ⟨Nat.zero_le _, Nat.zero_le _⟩ dL_pairs_14 (fun H locs hP hS _ _ => ?_)
          refine lv_icmp_ge (tgt := 99) hx hb dL_pairs_17 (by decide) (fun c26 => ?_) (fun c26 => ?_)
          · have hM := (if_pos c26).symm.trans hM
            refine lv_iinc (v := (x1 + 1)) (lv' := [(1, .int (x1 + 1)), (0, .ref (ad 62)), (2, .int x2)]) hx hb dL_pairs_99 hl (k := 1) rfl rfl (by decide) rfl (fun ls hl => ?_)
            refine lv_goto (tgt := 2) hx hb dL_pairs_102 (by decide) ?_
            exact ih2 _ _ _ _ _ hM hP hS (lv_sub hl [1, 0] rfl)
          · have hM := (if_neg c26).symm.trans hM
            refine lv_aload_n hx hb dL_pairs_20 rfl (lv_at hl 0 rfl) ?_
            refine lv_iload_n hx hb dL_pairs_21 rfl (lv_at hl 1 rfl) ?_
            refine lv_iload_n hx hb dL_pairs_22 rfl (lv_at hl 2 rfl) ?_
            obtain ⟨r29, σ28, h27, hM⟩ := bnd_i hM
            refine x_callV (As := [.int x1, .int x2]) (rest := []) hA ⟨hx, hb, hml, hown, hts⟩ (tX6_areSame l D cA ad hJ x1 x2 σ24 _ _ h27) (cwV 2 hts gL_pairs_X6_areSame rfl rfl rfl (by decide +kernel) ⟨(Nat.le_of_ble_eq_true rfl), (Nat.le_of_ble_eq_true rfl)⟩) hK hP hS KC_sb rfl rfl hl.1 rfl (Nat.le_of_ble_eq_true rfl) ⟨Nat.zero_le _, Nat.zero_le _⟩ dL_pairs_23 (fun H locs hP hS _ _ => ?_)
            refine lv_iconst (v := 1) hx hb dL_pairs_26 (by decide) ?_
            refine lv_icmp_ne (tgt := 34) hx hb dL_pairs_27 (by decide) (fun c30 => ?_) (fun c30 => ?_)
            · have hM := (if_neg c30).symm.trans hM
              refine lv_iconst (v := 0) hx hb dL_pairs_34 (by decide) ?_
              exact b35 _ _ _ _ _ _ _ hM hP hS (lv_sub hl [0, 1, 2] rfl)
            · have hM := (if_pos c30).symm.trans hM
              refine lv_iconst (v := 1) hx hb dL_pairs_30 (by decide) ?_
              refine lv_goto (tgt := 35) hx hb dL_pairs_31 (by decide) ?_
              exact b35 _ _ _ _ _ _ _ hM hP hS (lv_sub hl [0, 1, 2] rfl)
      intro x1 σ H locs ls hM hP hS hl
      rw [mL_pairs_L2] at hM
      refine lv_iload_n hx hb dL_pairs_2 rfl (lv_at hl 1 rfl) ?_
      refine lv_aload_n hx hb dL_pairs_3 rfl (lv_at hl 0 rfl) ?_
      obtain ⟨r33, σ32, h31, hM⟩ := bnd_i hM
      refine x_callV (As := []) (rest := [.int x1]) hA ⟨hx, hb, hml, hown, hts⟩ (tX6_sites l D cA ad hJ σ _ _ h31) (cwV 0 hts gL_pairs_X6_sites rfl rfl rfl (by decide +kernel) ⟨(Nat.le_of_ble_eq_true rfl), (Nat.le_of_ble_eq_true rfl)⟩) hK hP hS KC_sb rfl rfl hl.1 rfl (Nat.le_of_ble_eq_true rfl) ⟨Nat.zero_le _, Nat.zero_le _⟩ dL_pairs_4 (fun H locs hP hS _ _ => ?_)
      refine lv_icmp_ge (tgt := 105) hx hb dL_pairs_7 (by decide) (fun c34 => ?_) (fun c34 => ?_)
      · have hM := (if_pos c34).symm.trans hM
        refine lv_iconst (v := 1) hx hb dL_pairs_105 (by decide) ?_
        exact x_zret hx hb hr hlk hP hS hM dL_pairs_106
      · have hM := (if_neg c34).symm.trans hM
        refine lv_iconst (v := 0) hx hb dL_pairs_10 (by decide) ?_
        refine lv_istore_n (lv' := [(2, .int 0), (0, .ref (ad 62)), (1, .int x1)]) hx hb dL_pairs_11 rfl hl (by decide) rfl (fun ls hl => ?_)
        exact L12 fu _ _ _ _ _ _ hM hP hS (lv_sub hl [1, 2, 0] rfl)
  unfold mL_pairs at hM
  refine lv_iconst (v := 0) hx hb dL_pairs_0 (by decide) ?_
  refine lv_istore_n (lv' := [(1, .int 0), (0, .ref (ad 62))]) hx hb dL_pairs_1 rfl hl (by decide) rfl (fun ls hl => ?_)
  exact L2 fu _ _ _ _ _ hM hP hS (lv_sub hl [1, 0] rfl)
