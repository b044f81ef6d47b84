/-! The walks of the law, laid by wip/p29/gen.py. -/
set_option maxHeartbeats 4000000 in
set_option maxRecDepth 100000 in
theorem tL_law {p : Program} {e : Env} {s : State} {m : MethodId} {below : List Frame} {meth : Method} {c : Code} (l : Launch) {b0 L : Nat} {xs : Nat → Int32} {D : va_G} {cA : ClassId} {ad : Nat → Nat} {A : Nat → Prop} (hx : p.tables.exec = Jvm.exec) (hb : c.code = cL_law) (hr : meth.sig.returnType = ret) (hml : c.maxLocals = 14) (hown : s.vm.findClass RL = some m.cls) (hts : ∀ w ∈ wsL_law, w.before #[Value.ref b0] s = true) (hlk : meth.locks = false) (hK : w_K D cA s) (hJ : w_J ad KC) (hX : va_X b0 L xs s s.heap) (hbl : b0 < s.heap.size) (hbA : ¬ A b0) (hA : ∀ q, w_A ad KC q → A q) (hA' : ∀ q, A q → s.heap.size ≤ q) {σ' : St} : ∀ (σ : St) (H : Heap) (locs : List Loc) (ls : Array Slot), mL_law xs L σ = some (1, σ') → w_P D cA ad KC σ H → va_S A s.heap H locs → lv_has ls 14 [(1, .ref (ad 62)), (0, .ref b0)] → W p l e room_1 s m #[Value.ref b0] below meth c H locs 63 4446 (lw_Z below #[Value.ref b0] s) (F0 m 8 ls []) := by
  have b890 : ∀ (σ : St) (H : Heap) (locs : List Loc) (ls : Array Slot), mL_law_b890 xs L σ = some (1, σ') → w_P D cA ad KC σ H → va_S A s.heap H locs → lv_has ls 14 [(1, .ref (ad 62)), (0, .ref b0)] → W p l e room_1 s m #[Value.ref b0] below meth c H locs 63 4446 (lw_Z below #[Value.ref b0] s) (F0 m 890 ls []) := by
    intro  σ H locs ls hM hP hS hl
    unfold mL_law_b890 at hM
    refine lv_aload_n hx hb dL_law_890 rfl (lv_at hl 0 rfl) ?_
    obtain ⟨r3, σ2, h1, hM⟩ := bnd_i hM
    refine x_callS (As := [.ref (ad 62)]) (rest := []) hA ⟨hx, hb, hml, hown, hts⟩ (tL_pairs l D cA ad hJ σ _ _ h1) (va_cwS 1 hts gL_law_L_pairs rfl rfl rfl (by decide +kernel) ⟨(Nat.le_of_ble_eq_true rfl), (Nat.le_of_ble_eq_true rfl)⟩) hK hP hS rfl hl.1 rfl (Nat.le_of_ble_eq_true rfl) ⟨(Nat.le_of_ble_eq_true rfl), (Nat.le_of_ble_eq_true rfl)⟩ dL_law_891 (fun H locs hP hS => ?_)
    refine lv_if_eq (tgt := 908) hx hb dL_law_894 (by decide) (fun c4 => ?_) (fun c4 => ?_)
    · have hM := (if_pos c4).symm.trans hM
      refine lv_iconst (v := 0) hx hb dL_law_908 (by decide) ?_
      exact lw_end hx hb hr hlk hA' hS hM dL_law_909
    · have hM := (if_neg c4).symm.trans hM
      refine lv_aload_n hx hb dL_law_897 rfl (lv_at hl 0 rfl) ?_
      obtain ⟨r7, σ6, h5, hM⟩ := bnd_i hM
      refine x_callS (As := [.ref (ad 62)]) (rest := []) hA ⟨hx, hb, hml, hown, hts⟩ (tL_refuses l D cA ad hJ σ2 _ _ h5) (va_cwS 1 hts gL_law_L_refuses rfl rfl rfl (by decide +kernel) ⟨(Nat.le_of_ble_eq_true rfl), (Nat.le_of_ble_eq_true rfl)⟩) hK hP hS rfl hl.1 rfl (Nat.le_of_ble_eq_true rfl) ⟨(Nat.le_of_ble_eq_true rfl), (Nat.le_of_ble_eq_true rfl)⟩ dL_law_898 (fun H locs hP hS => ?_)
      refine lv_if_eq (tgt := 908) hx hb dL_law_901 (by decide) (fun c8 => ?_) (fun c8 => ?_)
      · have hM := (if_pos c8).symm.trans hM
        refine lv_iconst (v := 0) hx hb dL_law_908 (by decide) ?_
        exact lw_end hx hb hr hlk hA' hS hM dL_law_909
      · have hM := (if_neg c8).symm.trans hM
        refine lv_iconst (v := 1) hx hb dL_law_904 (by decide) ?_
        refine lv_goto (tgt := 909) hx hb dL_law_905 (by decide) ?_
        exact lw_end hx hb hr hlk hA' hS hM dL_law_909
  have b869 : ∀ (x3 x4 x5 x6 : Int32) (σ : St) (H : Heap) (locs : List Loc) (ls : Array Slot), mL_law_b869 xs L x3 x4 x5 x6 σ = some (1, σ') → w_P D cA ad KC σ H → va_S A s.heap H locs → lv_has ls 14 [(1, .ref (ad 62)), (0, .ref b0), (3, .int x3), (4, .int x4), (5, .int x5), (6, .int x6)] → W p l e room_1 s m #[Value.ref b0] below meth c H locs 63 4446 (lw_Z below #[Value.ref b0] s) (F0 m 869 ls []) := by
    intro x3 x4 x5 x6 σ H locs ls hM hP hS hl
    unfold mL_law_b869 at hM
    refine lv_iload hx hb dL_law_869 (lv_at hl 4 rfl) ?_
    refine lv_if_lt (tgt := 908) hx hb dL_law_871 (by decide) (fun c9 => ?_) (fun c9 => ?_)
    · have hM := (if_pos c9).symm.trans hM
      refine lv_iconst (v := 0) hx hb dL_law_908 (by decide) ?_
      exact lw_end hx hb hr hlk hA' hS hM dL_law_909
    · have hM := (if_neg c9).symm.trans hM
      refine lv_iload hx hb dL_law_874 (lv_at hl 3 rfl) ?_
      refine lv_iload hx hb dL_law_876 (lv_at hl 5 rfl) ?_
      refine lv_icmp_ne (tgt := 908) hx hb dL_law_878 (by decide) (fun c10 => ?_) (fun c10 => ?_)
      · have hM := (if_neg c10).symm.trans hM
        refine lv_iconst (v := 0) hx hb dL_law_908 (by decide) ?_
        exact lw_end hx hb hr hlk hA' hS hM dL_law_909
      · have hM := (if_pos c10).symm.trans hM
        refine lv_iload_n hx hb dL_law_881 rfl (lv_at hl 2 rfl) ?_
        refine lv_if_ne (tgt := 890) hx hb dL_law_882 (by decide) (fun c11 => ?_) (fun c11 => ?_)
        · have hM := (if_neg c11).symm.trans hM
          exact b890 _ _ _ _ hM hP hS (lv_sub hl [0, 1] rfl)
        · have hM := (if_pos c11).symm.trans hM
          refine lv_iload hx hb dL_law_885 (lv_at hl 5 rfl) ?_
          refine lv_if_ne (tgt := 908) hx hb dL_law_887 (by decide) (fun c12 => ?_) (fun c12 => ?_)
          · have hM := (if_neg c12).symm.trans hM
            refine lv_iconst (v := 0) hx hb dL_law_908 (by decide) ?_
            exact lw_end hx hb hr hlk hA' hS hM dL_law_909
          · have hM := (if_pos c12).symm.trans hM
            exact b890 _ _ _ _ hM hP hS (lv_sub hl [0, 1] rfl)
  have L826 : ∀ (n : Nat) (x2 x3 x4 x5 x6 x7 : Int32) (σ : St) (H : Heap) (locs : List Loc) (ls : Array Slot), mL_law_L826 xs L n x2 x3 x4 x5 x6 x7 σ = some (1, σ') → w_P D cA ad KC σ H → va_S A s.heap H locs → lv_has ls 14 [(1, .ref (ad 62)), (0, .ref b0), (2, .int x2), (3, .int x3), (4, .int x4), (5, .int x5), (6, .int x6), (7, .int x7)] → W p l e room_1 s m #[Value.ref b0] below meth c H locs 63 4446 (lw_Z below #[Value.ref b0] s) (F0 m 826 ls []) := by
    intro n826
    induction n826 with
    | zero =>
      intro x2 x3 x4 x5 x6 x7 σ H locs ls hM hP hS hl
      rw [mL_law_L826] at hM
      cases hM
    | succ n826 ih826 =>
      have L835 : ∀ (n : Nat) (x2 x3 x4 x5 x6 x7 x8 : Int32) (σ : St) (H : Heap) (locs : List Loc) (ls : Array Slot), mL_law_L835 xs L (mL_law_L826 xs L n826) n x2 x3 x4 x5 x6 x7 x8 σ = some (1, σ') → w_P D cA ad KC σ H → va_S A s.heap H locs → lv_has ls 14 [(1, .ref (ad 62)), (0, .ref b0), (2, .int x2), (3, .int x3), (4, .int x4), (5, .int x5), (6, .int x6), (7, .int x7), (8, .int x8)] → W p l e room_1 s m #[Value.ref b0] below meth c H locs 63 4446 (lw_Z below #[Value.ref b0] s) (F0 m 835 ls []) := by
        intro n835
        induction n835 with
        | zero =>
          intro x2 x3 x4 x5 x6 x7 x8 σ H locs ls hM hP hS hl
          rw [mL_law_L835] at hM
          cases hM
        | succ n835 ih835 =>
          intro x2 x3 x4 x5 x6 x7 x8 σ H locs ls hM hP hS hl
          rw [mL_law_L835] at hM
          refine lv_iload hx hb dL_law_835 (lv_at hl 8 rfl) ?_
          refine lv_iload hx hb dL_law_837 (lv_at hl 7 rfl) ?_
          refine lv_icmp_ge (tgt := 863) hx hb dL_law_839 (by decide) (fun c13 => ?_) (fun c13 => ?_)
          · have hM := (if_pos c13).symm.trans hM
            refine lv_iinc (v := (x7 + 1)) (lv' := [(7, .int (x7 + 1)), (1, .ref (ad 62)), (0, .ref b0), (2, .int x2), (3, .int x3), (4, .int x4), (5, .int x5), (6, .int x6), (8, .int x8)]) hx hb dL_law_863 hl (k := 7) rfl rfl (by decide) rfl (fun ls hl => ?_)
            refine lv_goto (tgt := 826) hx hb dL_law_866 (by decide) ?_
            exact ih826 _ _ _ _ _ _ _ _ _ _ hM hP hS (lv_sub hl [1, 2, 3, 4, 5, 6, 7, 0] rfl)
          · have hM := (if_neg c13).symm.trans hM
            refine lv_iload hx hb dL_law_842 (lv_at hl 6 rfl) ?_
            refine lv_iconst (v := 1) hx hb dL_law_844 (by decide) ?_
            refine lv_aload_n hx hb dL_law_845 rfl (lv_at hl 0 rfl) ?_
            refine lv_iload hx hb dL_law_846 (lv_at hl 7 rfl) ?_
            refine lv_iload hx hb dL_law_848 (lv_at hl 8 rfl) ?_
            obtain ⟨r16, σ15, h14, hM⟩ := bnd_i hM
            refine x_callV (As := [.int x7, .int x8]) (rest := [.int 1, .int x6]) hA ⟨hx, hb, hml, hown, hts⟩ (tX6_areSame l D cA ad hJ x7 x8 σ _ _ h14) (cwV 2 hts gL_law_X6_areSame rfl rfl rfl (by decide +kernel) ⟨(Nat.le_of_ble_eq_true rfl), (Nat.le_of_ble_eq_true rfl)⟩) hK hP hS KC_sb rfl rfl hl.1 rfl (Nat.le_of_ble_eq_true rfl) ⟨(Nat.le_of_ble_eq_true rfl), (Nat.le_of_ble_eq_true rfl)⟩ dL_law_850 (fun H locs hP hS _ _ => ?_)
            refine lv_isub hx hb dL_law_853 ?_
            refine lv_iadd hx hb dL_law_854 ?_
            refine lv_istore (lv' := [(6, .int (x6 + (1 - r16))), (1, .ref (ad 62)), (0, .ref b0), (2, .int x2), (3, .int x3), (4, .int x4), (5, .int x5), (7, .int x7), (8, .int x8)]) hx hb dL_law_855 hl (by decide) rfl (fun ls hl => ?_)
            refine lv_iinc (v := (x8 + 1)) (lv' := [(8, .int (x8 + 1)), (6, .int (x6 + (1 - r16))), (1, .ref (ad 62)), (0, .ref b0), (2, .int x2), (3, .int x3), (4, .int x4), (5, .int x5), (7, .int x7)]) hx hb dL_law_857 hl (k := 8) rfl rfl (by decide) rfl (fun ls hl => ?_)
            refine lv_goto (tgt := 835) hx hb dL_law_860 (by decide) ?_
            exact ih835 _ _ _ _ _ _ _ _ _ _ _ hM hP hS (lv_sub hl [2, 3, 4, 5, 6, 7, 1, 8, 0] rfl)
      intro x2 x3 x4 x5 x6 x7 σ H locs ls hM hP hS hl
      rw [mL_law_L826] at hM
      refine lv_iload hx hb dL_law_826 (lv_at hl 7 rfl) ?_
      refine lv_iload_n hx hb dL_law_828 rfl (lv_at hl 2 rfl) ?_
      refine lv_icmp_ge (tgt := 869) hx hb dL_law_829 (by decide) (fun c17 => ?_) (fun c17 => ?_)
      · have hM := (if_pos c17).symm.trans hM
        exact b869 _ _ _ _ _ _ _ _ hM hP hS (lv_sub hl [0, 1, 3, 4, 5, 6] rfl)
      · have hM := (if_neg c17).symm.trans hM
        refine lv_iconst (v := 0) hx hb dL_law_832 (by decide) ?_
        refine lv_istore (lv' := [(8, .int 0), (1, .ref (ad 62)), (0, .ref b0), (2, .int x2), (3, .int x3), (4, .int x4), (5, .int x5), (6, .int x6), (7, .int x7)]) hx hb dL_law_833 hl (by decide) rfl (fun ls hl => ?_)
        exact L835 fu _ _ _ _ _ _ _ _ _ _ _ hM hP hS (lv_sub hl [1, 2, 3, 4, 5, 6, 7, 8, 0] rfl)
  have b808 : ∀ (x2 x3 : Int32) (σ : St) (H : Heap) (locs : List Loc) (ls : Array Slot), mL_law_b808 xs L x2 x3 σ = some (1, σ') → w_P D cA ad KC σ H → va_S A s.heap H locs → lv_has ls 14 [(1, .ref (ad 62)), (0, .ref b0), (2, .int x2), (3, .int x3)] → W p l e room_1 s m #[Value.ref b0] below meth c H locs 63 4446 (lw_Z below #[Value.ref b0] s) (F0 m 808 ls []) := by
    intro x2 x3 σ H locs ls hM hP hS hl
    unfold mL_law_b808 at hM
    refine lv_aload_n hx hb dL_law_808 rfl (lv_at hl 0 rfl) ?_
    obtain ⟨r20, σ19, h18, hM⟩ := bnd_i hM
    refine x_callV (As := []) (rest := []) hA ⟨hx, hb, hml, hown, hts⟩ (tX6_differing l D cA ad hJ σ _ _ h18) (cwV 0 hts gL_law_X6_differing rfl rfl rfl (by decide +kernel) ⟨(Nat.le_of_ble_eq_true rfl), (Nat.le_of_ble_eq_true rfl)⟩) hK hP hS KC_sb rfl rfl hl.1 rfl (Nat.le_of_ble_eq_true rfl) ⟨(Nat.le_of_ble_eq_true rfl), (Nat.le_of_ble_eq_true rfl)⟩ dL_law_809 (fun H locs hP hS _ _ => ?_)
    refine lv_istore (lv' := [(4, .int r20), (1, .ref (ad 62)), (0, .ref b0), (2, .int x2), (3, .int x3)]) hx hb dL_law_812 hl (by decide) rfl (fun ls hl => ?_)
    refine lv_aload_n hx hb dL_law_814 rfl (lv_at hl 1 rfl) ?_
    obtain ⟨r23, σ22, h21, hM⟩ := bnd_i hM
    refine x_callV (As := []) (rest := []) hA ⟨hx, hb, hml, hown, hts⟩ (tX6_deliverAll l D cA ad hJ σ19 _ _ h21) (cwV 0 hts gL_law_X6_deliverAll rfl rfl rfl (by decide +kernel) ⟨(Nat.le_of_ble_eq_true rfl), (Nat.le_of_ble_eq_true rfl)⟩) hK hP hS KC_sb rfl rfl hl.1 rfl (Nat.le_of_ble_eq_true rfl) ⟨(Nat.le_of_ble_eq_true rfl), (Nat.le_of_ble_eq_true rfl)⟩ dL_law_815 (fun H locs hP hS _ _ => ?_)
    refine lv_istore (lv' := [(5, .int r23), (4, .int r20), (1, .ref (ad 62)), (0, .ref b0), (2, .int x2), (3, .int x3)]) hx hb dL_law_818 hl (by decide) rfl (fun ls hl => ?_)
    refine lv_iconst (v := 0) hx hb dL_law_820 (by decide) ?_
    refine lv_istore (lv' := [(6, .int 0), (5, .int r23), (4, .int r20), (1, .ref (ad 62)), (0, .ref b0), (2, .int x2), (3, .int x3)]) hx hb dL_law_821 hl (by decide) rfl (fun ls hl => ?_)
    refine lv_iconst (v := 0) hx hb dL_law_823 (by decide) ?_
    refine lv_istore (lv' := [(7, .int 0), (6, .int 0), (5, .int r23), (4, .int r20), (1, .ref (ad 62)), (0, .ref b0), (2, .int x2), (3, .int x3)]) hx hb dL_law_824 hl (by decide) rfl (fun ls hl => ?_)
    exact L826 fu _ _ _ _ _ _ _ _ _ _ hM hP hS (lv_sub hl [4, 5, 6, 7, 3, 2, 1, 0] rfl)
  have L57 : ∀ (n : Nat) (x2 x3 x4 : Int32) (σ : St) (H : Heap) (locs : List Loc) (ls : Array Slot), mL_law_L57 xs L n x2 x3 x4 σ = some (1, σ') → w_P D cA ad KC σ H → va_S A s.heap H locs → lv_has ls 14 [(1, .ref (ad 62)), (0, .ref b0), (2, .int x2), (3, .int x3), (4, .int x4)] → W p l e room_1 s m #[Value.ref b0] below meth c H locs 63 4446 (lw_Z below #[Value.ref b0] s) (F0 m 57 ls []) := by
    intro n57
    induction n57 with
    | zero =>
      intro x2 x3 x4 σ H locs ls hM hP hS hl
      rw [mL_law_L57] at hM
      cases hM
    | succ n57 ih57 =>
      have b766 : ∀ (x2 x3 x4 x6 x9 x11 : Int32) (σ : St) (H : Heap) (locs : List Loc) (ls : Array Slot), mL_law_b766 xs L (mL_law_L57 xs L n57) x2 x3 x4 x6 x9 x11 σ = some (1, σ') → w_P D cA ad KC σ H → va_S A s.heap H locs → lv_has ls 14 [(1, .ref (ad 62)), (0, .ref b0), (2, .int x2), (3, .int x3), (4, .int x4), (6, .int x6), (9, .int x9), (11, .int x11)] → W p l e room_1 s m #[Value.ref b0] below meth c H locs 63 4446 (lw_Z below #[Value.ref b0] s) (F0 m 766 ls []) := by
        intro x2 x3 x4 x6 x9 x11 σ H locs ls hM hP hS hl
        unfold mL_law_b766 at hM
        refine lv_iload hx hb dL_law_766 (lv_at hl 7 rfl) ?_
        refine lv_if_eq (tgt := 800) hx hb dL_law_768 (by decide) (fun c24 => ?_) (fun c24 => ?_)
        · have hM := (if_pos c24).symm.trans hM
          refine lv_iconst (v := 0) hx hb dL_law_800 (by decide) ?_
          exact lw_end hx hb hr hlk hA' hS hM dL_law_801
        · have hM := (if_neg c24).symm.trans hM
          refine lv_aload_n hx hb dL_law_771 rfl (lv_at hl 0 rfl) ?_
          refine lv_iload hx hb dL_law_772 (lv_at hl 5 rfl) ?_
          refine lv_iload hx hb dL_law_774 (lv_at hl 6 rfl) ?_
          obtain ⟨r27, σ26, h25, hM⟩ := bnd_i hM
          refine x_callS (As := [.ref (ad 62), .int x6, .int x9]) (rest := []) hA ⟨hx, hb, hml, hown, hts⟩ (tL_sound l D cA ad hJ x6 x9 σ _ _ h25) (va_cwS 3 hts gL_law_L_sound rfl rfl rfl (by decide +kernel) ⟨(Nat.le_of_ble_eq_true rfl), (Nat.le_of_ble_eq_true rfl)⟩) hK hP hS rfl hl.1 rfl (Nat.le_of_ble_eq_true rfl) ⟨(Nat.le_of_ble_eq_true rfl), (Nat.le_of_ble_eq_true rfl)⟩ dL_law_776 (fun H locs hP hS => ?_)
          refine lv_if_eq (tgt := 800) hx hb dL_law_779 (by decide) (fun c28 => ?_) (fun c28 => ?_)
          · have hM := (if_pos c28).symm.trans hM
            refine lv_iconst (v := 0) hx hb dL_law_800 (by decide) ?_
            exact lw_end hx hb hr hlk hA' hS hM dL_law_801
          · have hM := (if_neg c28).symm.trans hM
            refine lv_aload_n hx hb dL_law_782 rfl (lv_at hl 0 rfl) ?_
            obtain ⟨r31, σ30, h29, hM⟩ := bnd_i hM
            refine x_callS (As := [.ref (ad 62)]) (rest := []) hA ⟨hx, hb, hml, hown, hts⟩ (tL_pairs l D cA ad hJ σ26 _ _ h29) (va_cwS 1 hts gL_law_L_pairs rfl rfl rfl (by decide +kernel) ⟨(Nat.le_of_ble_eq_true rfl), (Nat.le_of_ble_eq_true rfl)⟩) hK hP hS rfl hl.1 rfl (Nat.le_of_ble_eq_true rfl) ⟨(Nat.le_of_ble_eq_true rfl), (Nat.le_of_ble_eq_true rfl)⟩ dL_law_783 (fun H locs hP hS => ?_)
            refine lv_if_eq (tgt := 800) hx hb dL_law_786 (by decide) (fun c32 => ?_) (fun c32 => ?_)
            · have hM := (if_pos c32).symm.trans hM
              refine lv_iconst (v := 0) hx hb dL_law_800 (by decide) ?_
              exact lw_end hx hb hr hlk hA' hS hM dL_law_801
            · have hM := (if_neg c32).symm.trans hM
              refine lv_iload_n hx hb dL_law_789 rfl (lv_at hl 3 rfl) ?_
              refine lv_if_ne (tgt := 802) hx hb dL_law_790 (by decide) (fun c33 => ?_) (fun c33 => ?_)
              · have hM := (if_neg c33).symm.trans hM
                refine lv_iinc (v := (x4 + 1)) (lv' := [(4, .int (x4 + 1)), (1, .ref (ad 62)), (0, .ref b0), (2, .int x2), (3, .int x3), (6, .int x6), (9, .int x9), (11, .int x11)]) hx hb dL_law_802 hl (k := 4) rfl rfl (by decide) rfl (fun ls hl => ?_)
                refine lv_goto (tgt := 57) hx hb dL_law_805 (by decide) ?_
                exact ih57 _ _ _ _ _ _ _ hM hP hS (lv_sub hl [1, 2, 3, 4, 0] rfl)
              · have hM := (if_pos c33).symm.trans hM
                refine lv_aload_n hx hb dL_law_793 rfl (lv_at hl 0 rfl) ?_
                obtain ⟨r36, σ35, h34, hM⟩ := bnd_i hM
                refine x_callV (As := []) (rest := []) hA ⟨hx, hb, hml, hown, hts⟩ (tX6_differing l D cA ad hJ σ30 _ _ h34) (cwV 0 hts gL_law_X6_differing rfl rfl rfl (by decide +kernel) ⟨(Nat.le_of_ble_eq_true rfl), (Nat.le_of_ble_eq_true rfl)⟩) hK hP hS KC_sb rfl rfl hl.1 rfl (Nat.le_of_ble_eq_true rfl) ⟨(Nat.le_of_ble_eq_true rfl), (Nat.le_of_ble_eq_true rfl)⟩ dL_law_794 (fun H locs hP hS _ _ => ?_)
                refine lv_if_eq (tgt := 802) hx hb dL_law_797 (by decide) (fun c37 => ?_) (fun c37 => ?_)
                · have hM := (if_pos c37).symm.trans hM
                  refine lv_iinc (v := (x4 + 1)) (lv' := [(4, .int (x4 + 1)), (1, .ref (ad 62)), (0, .ref b0), (2, .int x2), (3, .int x3), (6, .int x6), (9, .int x9), (11, .int x11)]) hx hb dL_law_802 hl (k := 4) rfl rfl (by decide) rfl (fun ls hl => ?_)
                  refine lv_goto (tgt := 57) hx hb dL_law_805 (by decide) ?_
                  exact ih57 _ _ _ _ _ _ _ hM hP hS (lv_sub hl [1, 2, 3, 4, 0] rfl)
                · have hM := (if_neg c37).symm.trans hM
                  refine lv_iconst (v := 0) hx hb dL_law_800 (by decide) ?_
                  exact lw_end hx hb hr hlk hA' hS hM dL_law_801
      have b764 : ∀ (x2 x3 x4 x6 x9 y0 : Int32) (σ : St) (H : Heap) (locs : List Loc) (ls : Array Slot), mL_law_b764 xs L (mL_law_L57 xs L n57) x2 x3 x4 x6 x9 y0 σ = some (1, σ') → w_P D cA ad KC σ H → va_S A s.heap H locs → lv_has ls 14 [(1, .ref (ad 62)), (0, .ref b0), (2, .int x2), (3, .int x3), (4, .int x4), (6, .int x6), (9, .int x9)] → W p l e room_1 s m #[Value.ref b0] below meth c H locs 63 4446 (lw_Z below #[Value.ref b0] s) (F0 m 764 ls [.int y0]) := by
        intro x2 x3 x4 x6 x9 y0 σ H locs ls hM hP hS hl
        unfold mL_law_b764 at hM
        refine lv_istore (lv' := [(11, .int y0), (1, .ref (ad 62)), (0, .ref b0), (2, .int x2), (3, .int x3), (4, .int x4), (6, .int x6), (9, .int x9)]) hx hb dL_law_764 hl (by decide) rfl (fun ls hl => ?_)
        exact b766 _ _ _ _ _ _ _ _ _ _ hM hP hS (lv_sub hl [1, 2, 3, 4, 5, 6, 7, 0] rfl)
      have b709 : ∀ (x2 x3 x4 x6 x7 x8 x9 x11 : Int32) (σ : St) (H : Heap) (locs : List Loc) (ls : Array Slot), mL_law_b709 xs L (mL_law_L57 xs L n57) x2 x3 x4 x6 x7 x8 x9 x11 σ = some (1, σ') → w_P D cA ad KC σ H → va_S A s.heap H locs → lv_has ls 14 [(1, .ref (ad 62)), (0, .ref b0), (2, .int x2), (3, .int x3), (4, .int x4), (6, .int x6), (7, .int x7), (8, .int x8), (9, .int x9), (11, .int x11)] → W p l e room_1 s m #[Value.ref b0] below meth c H locs 63 4446 (lw_Z below #[Value.ref b0] s) (F0 m 709 ls []) := by
        intro x2 x3 x4 x6 x7 x8 x9 x11 σ H locs ls hM hP hS hl
        unfold mL_law_b709 at hM
        refine lv_iload hx hb dL_law_709 (lv_at hl 5 rfl) ?_
        refine lv_iload hx hb dL_law_711 (lv_at hl 6 rfl) ?_
        refine lv_icmp_eq (tgt := 766) hx hb dL_law_713 (by decide) (fun c38 => ?_) (fun c38 => ?_)
        · have hM := (if_pos c38).symm.trans hM
          exact b766 _ _ _ _ _ _ _ _ _ _ hM hP hS (lv_sub hl [0, 1, 2, 3, 4, 5, 8, 9] rfl)
        · have hM := (if_neg c38).symm.trans hM
          refine lv_iload hx hb dL_law_716 (lv_at hl 7 rfl) ?_
          refine lv_bipush (v := 11) hx hb dL_law_718 (by decide) ?_
          refine lv_icmp_ne (tgt := 734) hx hb dL_law_720 (by decide) (fun c39 => ?_) (fun c39 => ?_)
          · have hM := (if_neg c39).symm.trans hM
            refine lv_iload hx hb dL_law_734 (lv_at hl 7 rfl) ?_
            refine lv_bipush (v := 12) hx hb dL_law_736 (by decide) ?_
            refine lv_icmp_ne (tgt := 752) hx hb dL_law_738 (by decide) (fun c40 => ?_) (fun c40 => ?_)
            · have hM := (if_neg c40).symm.trans hM
              refine lv_aload_n hx hb dL_law_752 rfl (lv_at hl 0 rfl) ?_
              obtain ⟨r43, σ42, h41, hM⟩ := bnd_i hM
              refine x_callV (As := []) (rest := []) hA ⟨hx, hb, hml, hown, hts⟩ (tX6_deliverAll l D cA ad hJ σ _ _ h41) (cwV 0 hts gL_law_X6_deliverAll rfl rfl rfl (by decide +kernel) ⟨(Nat.le_of_ble_eq_true rfl), (Nat.le_of_ble_eq_true rfl)⟩) hK hP hS KC_sb rfl rfl hl.1 rfl (Nat.le_of_ble_eq_true rfl) ⟨(Nat.le_of_ble_eq_true rfl), (Nat.le_of_ble_eq_true rfl)⟩ dL_law_753 (fun H locs hP hS _ _ => ?_)
              refine lv_if_lt (tgt := 763) hx hb dL_law_756 (by decide) (fun c44 => ?_) (fun c44 => ?_)
              · have hM := (if_pos c44).symm.trans hM
                refine lv_iconst (v := 0) hx hb dL_law_763 (by decide) ?_
                exact b764 _ _ _ _ _ _ _ _ _ _ hM hP hS (lv_sub hl [0, 1, 2, 3, 4, 5, 8] rfl)
              · have hM := (if_neg c44).symm.trans hM
                refine lv_iconst (v := 1) hx hb dL_law_759 (by decide) ?_
                refine lv_goto (tgt := 764) hx hb dL_law_760 (by decide) ?_
                exact b764 _ _ _ _ _ _ _ _ _ _ hM hP hS (lv_sub hl [0, 1, 2, 3, 4, 5, 8] rfl)
            · have hM := (if_pos c40).symm.trans hM
              refine lv_aload_n hx hb dL_law_741 rfl (lv_at hl 0 rfl) ?_
              refine lv_iload hx hb dL_law_742 (lv_at hl 5 rfl) ?_
              refine lv_iload hx hb dL_law_744 (lv_at hl 6 rfl) ?_
              obtain ⟨r47, σ46, h45, hM⟩ := bnd_i hM
              refine x_callS (As := [.ref (ad 62), .int x6, .int x7]) (rest := []) hA ⟨hx, hb, hml, hown, hts⟩ (tL_transfers l D cA ad hJ x6 x7 σ _ _ h45) (va_cwS 3 hts gL_law_L_transfers rfl rfl rfl (by decide +kernel) ⟨(Nat.le_of_ble_eq_true rfl), (Nat.le_of_ble_eq_true rfl)⟩) hK hP hS rfl hl.1 rfl (Nat.le_of_ble_eq_true rfl) ⟨(Nat.le_of_ble_eq_true rfl), (Nat.le_of_ble_eq_true rfl)⟩ dL_law_746 (fun H locs hP hS => ?_)
              refine lv_goto (tgt := 764) hx hb dL_law_749 (by decide) ?_
              exact b764 _ _ _ _ _ _ _ _ _ _ hM hP hS (lv_sub hl [0, 1, 2, 3, 4, 5, 8] rfl)
          · have hM := (if_pos c39).symm.trans hM
            refine lv_aload_n hx hb dL_law_723 rfl (lv_at hl 0 rfl) ?_
            refine lv_iload hx hb dL_law_724 (lv_at hl 5 rfl) ?_
            refine lv_iload hx hb dL_law_726 (lv_at hl 6 rfl) ?_
            obtain ⟨r50, σ49, h48, hM⟩ := bnd_i hM
            refine x_callS (As := [.ref (ad 62), .int x6, .int x7]) (rest := []) hA ⟨hx, hb, hml, hown, hts⟩ (tL_repairs l D cA ad hJ x6 x7 σ _ _ h48) (va_cwS 3 hts gL_law_L_repairs rfl rfl rfl (by decide +kernel) ⟨(Nat.le_of_ble_eq_true rfl), (Nat.le_of_ble_eq_true rfl)⟩) hK hP hS rfl hl.1 rfl (Nat.le_of_ble_eq_true rfl) ⟨(Nat.le_of_ble_eq_true rfl), (Nat.le_of_ble_eq_true rfl)⟩ dL_law_728 (fun H locs hP hS => ?_)
            refine lv_goto (tgt := 764) hx hb dL_law_731 (by decide) ?_
            exact b764 _ _ _ _ _ _ _ _ _ _ hM hP hS (lv_sub hl [0, 1, 2, 3, 4, 5, 8] rfl)
      have b705 : ∀ (x2 x4 x6 x9 x11 y0 : Int32) (σ : St) (H : Heap) (locs : List Loc) (ls : Array Slot), mL_law_b705 xs L (mL_law_L57 xs L n57) x2 x4 x6 x9 x11 y0 σ = some (1, σ') → w_P D cA ad KC σ H → va_S A s.heap H locs → lv_has ls 14 [(1, .ref (ad 62)), (0, .ref b0), (2, .int x2), (4, .int x4), (6, .int x6), (9, .int x9), (11, .int x11)] → W p l e room_1 s m #[Value.ref b0] below meth c H locs 63 4446 (lw_Z below #[Value.ref b0] s) (F0 m 705 ls [.int y0]) := by
        intro x2 x4 x6 x9 x11 y0 σ H locs ls hM hP hS hl
        unfold mL_law_b705 at hM
        refine lv_istore_n (lv' := [(3, .int y0), (1, .ref (ad 62)), (0, .ref b0), (2, .int x2), (4, .int x4), (6, .int x6), (9, .int x9), (11, .int x11)]) hx hb dL_law_705 rfl hl (by decide) rfl (fun ls hl => ?_)
        refine lv_goto (tgt := 766) hx hb dL_law_706 (by decide) ?_
        exact b766 _ _ _ _ _ _ _ _ _ _ hM hP hS (lv_sub hl [1, 2, 3, 0, 4, 5, 6, 7] rfl)
      have b704 : ∀ (x2 x4 x6 x9 x11 : Int32) (σ : St) (H : Heap) (locs : List Loc) (ls : Array Slot), mL_law_b704 xs L (mL_law_L57 xs L n57) x2 x4 x6 x9 x11 σ = some (1, σ') → w_P D cA ad KC σ H → va_S A s.heap H locs → lv_has ls 14 [(1, .ref (ad 62)), (0, .ref b0), (2, .int x2), (4, .int x4), (6, .int x6), (9, .int x9), (11, .int x11)] → W p l e room_1 s m #[Value.ref b0] below meth c H locs 63 4446 (lw_Z below #[Value.ref b0] s) (F0 m 704 ls []) := by
        intro x2 x4 x6 x9 x11 σ H locs ls hM hP hS hl
        unfold mL_law_b704 at hM
        refine lv_iconst (v := 0) hx hb dL_law_704 (by decide) ?_
        exact b705 _ _ _ _ _ _ _ _ _ _ hM hP hS (lv_sub hl [0, 1, 2, 3, 4, 5, 6] rfl)
      have b700 : ∀ (x2 x4 x6 x9 x11 : Int32) (σ : St) (H : Heap) (locs : List Loc) (ls : Array Slot), mL_law_b700 xs L (mL_law_L57 xs L n57) x2 x4 x6 x9 x11 σ = some (1, σ') → w_P D cA ad KC σ H → va_S A s.heap H locs → lv_has ls 14 [(1, .ref (ad 62)), (0, .ref b0), (2, .int x2), (4, .int x4), (6, .int x6), (9, .int x9), (11, .int x11)] → W p l e room_1 s m #[Value.ref b0] below meth c H locs 63 4446 (lw_Z below #[Value.ref b0] s) (F0 m 700 ls []) := by
        intro x2 x4 x6 x9 x11 σ H locs ls hM hP hS hl
        unfold mL_law_b700 at hM
        refine lv_iconst (v := 1) hx hb dL_law_700 (by decide) ?_
        refine lv_goto (tgt := 705) hx hb dL_law_701 (by decide) ?_
        exact b705 _ _ _ _ _ _ _ _ _ _ hM hP hS (lv_sub hl [0, 1, 2, 3, 4, 5, 6] rfl)
      have b682 : ∀ (x2 x3 x4 x6 x8 x9 x12 y0 : Int32) (σ : St) (H : Heap) (locs : List Loc) (ls : Array Slot), mL_law_b682 xs L (mL_law_L57 xs L n57) x2 x3 x4 x6 x8 x9 x12 y0 σ = some (1, σ') → w_P D cA ad KC σ H → va_S A s.heap H locs → lv_has ls 14 [(1, .ref (ad 62)), (0, .ref b0), (2, .int x2), (3, .int x3), (4, .int x4), (6, .int x6), (8, .int x8), (9, .int x9), (12, .int x12)] → W p l e room_1 s m #[Value.ref b0] below meth c H locs 63 4446 (lw_Z below #[Value.ref b0] s) (F0 m 682 ls [.int y0]) := by
        intro x2 x3 x4 x6 x8 x9 x12 y0 σ H locs ls hM hP hS hl
        unfold mL_law_b682 at hM
        refine lv_istore (lv' := [(11, .int y0), (1, .ref (ad 62)), (0, .ref b0), (2, .int x2), (3, .int x3), (4, .int x4), (6, .int x6), (8, .int x8), (9, .int x9), (12, .int x12)]) hx hb dL_law_682 hl (by decide) rfl (fun ls hl => ?_)
        refine lv_iload_n hx hb dL_law_684 rfl (lv_at hl 4 rfl) ?_
        refine lv_if_ne (tgt := 700) hx hb dL_law_685 (by decide) (fun c51 => ?_) (fun c51 => ?_)
        · have hM := (if_neg c51).symm.trans hM
          exact b700 _ _ _ _ _ _ _ _ _ hM hP hS (lv_sub hl [1, 2, 3, 5, 6, 8, 0] rfl)
        · have hM := (if_pos c51).symm.trans hM
          refine lv_iload hx hb dL_law_688 (lv_at hl 7 rfl) ?_
          refine lv_bipush (v := 8) hx hb dL_law_690 (by decide) ?_
          refine lv_icmp_ne (tgt := 704) hx hb dL_law_692 (by decide) (fun c52 => ?_) (fun c52 => ?_)
          · have hM := (if_neg c52).symm.trans hM
            exact b704 _ _ _ _ _ _ _ _ _ hM hP hS (lv_sub hl [1, 2, 3, 5, 6, 8, 0] rfl)
          · have hM := (if_pos c52).symm.trans hM
            refine lv_iload hx hb dL_law_695 (lv_at hl 9 rfl) ?_
            refine lv_if_le (tgt := 704) hx hb dL_law_697 (by decide) (fun c53 => ?_) (fun c53 => ?_)
            · have hM := (if_pos c53).symm.trans hM
              exact b704 _ _ _ _ _ _ _ _ _ hM hP hS (lv_sub hl [1, 2, 3, 5, 6, 8, 0] rfl)
            · have hM := (if_neg c53).symm.trans hM
              exact b700 _ _ _ _ _ _ _ _ _ hM hP hS (lv_sub hl [1, 2, 3, 5, 6, 8, 0] rfl)
      have b681 : ∀ (x2 x3 x4 x6 x8 x9 x12 : Int32) (σ : St) (H : Heap) (locs : List Loc) (ls : Array Slot), mL_law_b681 xs L (mL_law_L57 xs L n57) x2 x3 x4 x6 x8 x9 x12 σ = some (1, σ') → w_P D cA ad KC σ H → va_S A s.heap H locs → lv_has ls 14 [(1, .ref (ad 62)), (0, .ref b0), (2, .int x2), (3, .int x3), (4, .int x4), (6, .int x6), (8, .int x8), (9, .int x9), (12, .int x12)] → W p l e room_1 s m #[Value.ref b0] below meth c H locs 63 4446 (lw_Z below #[Value.ref b0] s) (F0 m 681 ls []) := by
        intro x2 x3 x4 x6 x8 x9 x12 σ H locs ls hM hP hS hl
        unfold mL_law_b681 at hM
        refine lv_iconst (v := 0) hx hb dL_law_681 (by decide) ?_
        exact b682 _ _ _ _ _ _ _ _ _ _ _ _ hM hP hS (lv_sub hl [0, 1, 2, 3, 4, 5, 6, 7, 8] rfl)
      have b589 : ∀ (x2 x3 x4 x6 x7 x8 x9 x12 y0 : Int32) (σ : St) (H : Heap) (locs : List Loc) (ls : Array Slot), mL_law_b589 xs L (mL_law_L57 xs L n57) x2 x3 x4 x6 x7 x8 x9 x12 y0 σ = some (1, σ') → w_P D cA ad KC σ H → va_S A s.heap H locs → lv_has ls 14 [(1, .ref (ad 62)), (0, .ref b0), (2, .int x2), (3, .int x3), (4, .int x4), (6, .int x6), (7, .int x7), (8, .int x8), (9, .int x9), (12, .int x12)] → W p l e room_1 s m #[Value.ref b0] below meth c H locs 63 4446 (lw_Z below #[Value.ref b0] s) (F0 m 589 ls [.int y0]) := by
        intro x2 x3 x4 x6 x7 x8 x9 x12 y0 σ H locs ls hM hP hS hl
        unfold mL_law_b589 at hM
        refine lv_istore (lv' := [(13, .int y0), (1, .ref (ad 62)), (0, .ref b0), (2, .int x2), (3, .int x3), (4, .int x4), (6, .int x6), (7, .int x7), (8, .int x8), (9, .int x9), (12, .int x12)]) hx hb dL_law_589 hl (by decide) rfl (fun ls hl => ?_)
        refine lv_iload hx hb dL_law_591 (lv_at hl 10 rfl) ?_
        refine lv_if_ne (tgt := 611) hx hb dL_law_593 (by decide) (fun c54 => ?_) (fun c54 => ?_)
        · have hM := (if_neg c54).symm.trans hM
          refine lv_iload hx hb dL_law_611 (lv_at hl 8 rfl) ?_
          refine lv_bipush (v := 8) hx hb dL_law_613 (by decide) ?_
          refine lv_icmp_ne (tgt := 635) hx hb dL_law_615 (by decide) (fun c55 => ?_) (fun c55 => ?_)
          · have hM := (if_neg c55).symm.trans hM
            refine lv_iload hx hb dL_law_635 (lv_at hl 0 rfl) ?_
            refine lv_bipush (v := 100) hx hb dL_law_637 (by decide) ?_
            refine lv_idiv hx hb dL_law_639 (by decide) ?_
            refine lv_iload hx hb dL_law_640 (lv_at hl 6 rfl) ?_
            refine lv_icmp_ne (tgt := 681) hx hb dL_law_642 (by decide) (fun c56 => ?_) (fun c56 => ?_)
            · have hM := (if_neg c56).symm.trans hM
              exact b681 _ _ _ _ _ _ _ _ _ _ _ hM hP hS (lv_sub hl [1, 2, 3, 4, 5, 6, 8, 9, 10] rfl)
            · have hM := (if_pos c56).symm.trans hM
              refine lv_aload_n hx hb dL_law_645 rfl (lv_at hl 1 rfl) ?_
              refine lv_iload hx hb dL_law_646 (lv_at hl 7 rfl) ?_
              refine lv_iload hx hb dL_law_648 (lv_at hl 6 rfl) ?_
              refine lv_iload hx hb dL_law_650 (lv_at hl 0 rfl) ?_
              refine lv_bipush (v := 100) hx hb dL_law_652 (by decide) ?_
              refine lv_irem hx hb dL_law_654 (by decide) ?_
              obtain ⟨r59, σ58, h57, hM⟩ := bnd_i hM
              refine x_callV (As := [.int x7, .int x6, .int (y0 - y0 / 100 * 100)]) (rest := []) hA ⟨hx, hb, hml, hown, hts⟩ (tX6_knows l D cA ad hJ x7 x6 (y0 - y0 / 100 * 100) σ _ _ h57) (cwV 3 hts gL_law_X6_knows rfl rfl rfl (by decide +kernel) ⟨(Nat.le_of_ble_eq_true rfl), (Nat.le_of_ble_eq_true rfl)⟩) hK hP hS KC_sb rfl rfl hl.1 rfl (Nat.le_of_ble_eq_true rfl) ⟨(Nat.le_of_ble_eq_true rfl), (Nat.le_of_ble_eq_true rfl)⟩ dL_law_655 (fun H locs hP hS _ _ => ?_)
              refine lv_iconst (v := 1) hx hb dL_law_658 (by decide) ?_
              refine lv_icmp_ne (tgt := 681) hx hb dL_law_659 (by decide) (fun c60 => ?_) (fun c60 => ?_)
              · have hM := (if_neg c60).symm.trans hM
                exact b681 _ _ _ _ _ _ _ _ _ _ _ hM hP hS (lv_sub hl [1, 2, 3, 4, 5, 6, 8, 9, 10] rfl)
              · have hM := (if_pos c60).symm.trans hM
                refine lv_aload_n hx hb dL_law_662 rfl (lv_at hl 1 rfl) ?_
                refine lv_iload hx hb dL_law_663 (lv_at hl 6 rfl) ?_
                refine lv_iload hx hb dL_law_665 (lv_at hl 7 rfl) ?_
                obtain ⟨r63, σ62, h61, hM⟩ := bnd_i hM
                refine x_callV (As := [.int x6, .int x7]) (rest := []) hA ⟨hx, hb, hml, hown, hts⟩ (tX6_waiting l D cA ad hJ x6 x7 σ58 _ _ h61) (cwV 2 hts gL_law_X6_waiting rfl rfl rfl (by decide +kernel) ⟨(Nat.le_of_ble_eq_true rfl), (Nat.le_of_ble_eq_true rfl)⟩) hK hP hS KC_sb rfl rfl hl.1 rfl (Nat.le_of_ble_eq_true rfl) ⟨(Nat.le_of_ble_eq_true rfl), (Nat.le_of_ble_eq_true rfl)⟩ dL_law_667 (fun H locs hP hS _ _ => ?_)
                refine lv_iload hx hb dL_law_670 (lv_at hl 10 rfl) ?_
                refine lv_iconst (v := 1) hx hb dL_law_672 (by decide) ?_
                refine lv_isub hx hb dL_law_673 ?_
                refine lv_icmp_ne (tgt := 681) hx hb dL_law_674 (by decide) (fun c64 => ?_) (fun c64 => ?_)
                · have hM := (if_neg c64).symm.trans hM
                  exact b681 _ _ _ _ _ _ _ _ _ _ _ hM hP hS (lv_sub hl [1, 2, 3, 4, 5, 6, 8, 9, 10] rfl)
                · have hM := (if_pos c64).symm.trans hM
                  refine lv_iconst (v := 1) hx hb dL_law_677 (by decide) ?_
                  refine lv_goto (tgt := 682) hx hb dL_law_678 (by decide) ?_
                  exact b682 _ _ _ _ _ _ _ _ _ _ _ _ hM hP hS (lv_sub hl [1, 2, 3, 4, 5, 6, 8, 9, 10] rfl)
          · have hM := (if_pos c55).symm.trans hM
            refine lv_iload hx hb dL_law_618 (lv_at hl 0 rfl) ?_
            refine lv_iload hx hb dL_law_620 (lv_at hl 10 rfl) ?_
            refine lv_iconst (v := 1) hx hb dL_law_622 (by decide) ?_
            refine lv_isub hx hb dL_law_623 ?_
            refine lv_icmp_ne (tgt := 631) hx hb dL_law_624 (by decide) (fun c65 => ?_) (fun c65 => ?_)
            · have hM := (if_neg c65).symm.trans hM
              refine lv_iconst (v := 0) hx hb dL_law_631 (by decide) ?_
              refine lv_goto (tgt := 682) hx hb dL_law_632 (by decide) ?_
              exact b682 _ _ _ _ _ _ _ _ _ _ _ _ hM hP hS (lv_sub hl [1, 2, 3, 4, 5, 6, 8, 9, 10] rfl)
            · have hM := (if_pos c65).symm.trans hM
              refine lv_iconst (v := 1) hx hb dL_law_627 (by decide) ?_
              refine lv_goto (tgt := 682) hx hb dL_law_628 (by decide) ?_
              exact b682 _ _ _ _ _ _ _ _ _ _ _ _ hM hP hS (lv_sub hl [1, 2, 3, 4, 5, 6, 8, 9, 10] rfl)
        · have hM := (if_pos c54).symm.trans hM
          refine lv_iload hx hb dL_law_596 (lv_at hl 0 rfl) ?_
          refine lv_ldc (own := RL) (v := (-1000000004)) hx hb hown (hts (.constant RL 34 (-1000000004)) (by decide +kernel)) dL_law_598 ?_
          refine lv_icmp_ne (tgt := 607) hx hb dL_law_600 (by decide) (fun c66 => ?_) (fun c66 => ?_)
          · have hM := (if_neg c66).symm.trans hM
            refine lv_iconst (v := 0) hx hb dL_law_607 (by decide) ?_
            refine lv_goto (tgt := 682) hx hb dL_law_608 (by decide) ?_
            exact b682 _ _ _ _ _ _ _ _ _ _ _ _ hM hP hS (lv_sub hl [1, 2, 3, 4, 5, 6, 8, 9, 10] rfl)
          · have hM := (if_pos c66).symm.trans hM
            refine lv_iconst (v := 1) hx hb dL_law_603 (by decide) ?_
            refine lv_goto (tgt := 682) hx hb dL_law_604 (by decide) ?_
            exact b682 _ _ _ _ _ _ _ _ _ _ _ _ hM hP hS (lv_sub hl [1, 2, 3, 4, 5, 6, 8, 9, 10] rfl)
      have b535 : ∀ (x2 x4 x6 x9 x11 y0 : Int32) (σ : St) (H : Heap) (locs : List Loc) (ls : Array Slot), mL_law_b535 xs L (mL_law_L57 xs L n57) x2 x4 x6 x9 x11 y0 σ = some (1, σ') → w_P D cA ad KC σ H → va_S A s.heap H locs → lv_has ls 14 [(1, .ref (ad 62)), (0, .ref b0), (2, .int x2), (4, .int x4), (6, .int x6), (9, .int x9), (11, .int x11)] → W p l e room_1 s m #[Value.ref b0] below meth c H locs 63 4446 (lw_Z below #[Value.ref b0] s) (F0 m 535 ls [.int y0]) := by
        intro x2 x4 x6 x9 x11 y0 σ H locs ls hM hP hS hl
        unfold mL_law_b535 at hM
        refine lv_istore_n (lv' := [(3, .int y0), (1, .ref (ad 62)), (0, .ref b0), (2, .int x2), (4, .int x4), (6, .int x6), (9, .int x9), (11, .int x11)]) hx hb dL_law_535 rfl hl (by decide) rfl (fun ls hl => ?_)
        refine lv_goto (tgt := 766) hx hb dL_law_536 (by decide) ?_
        exact b766 _ _ _ _ _ _ _ _ _ _ hM hP hS (lv_sub hl [1, 2, 3, 0, 4, 5, 6, 7] rfl)
      have b530 : ∀ (x2 x4 x6 x9 x11 : Int32) (σ : St) (H : Heap) (locs : List Loc) (ls : Array Slot), mL_law_b530 xs L (mL_law_L57 xs L n57) x2 x4 x6 x9 x11 σ = some (1, σ') → w_P D cA ad KC σ H → va_S A s.heap H locs → lv_has ls 14 [(1, .ref (ad 62)), (0, .ref b0), (2, .int x2), (4, .int x4), (6, .int x6), (9, .int x9), (11, .int x11)] → W p l e room_1 s m #[Value.ref b0] below meth c H locs 63 4446 (lw_Z below #[Value.ref b0] s) (F0 m 530 ls []) := by
        intro x2 x4 x6 x9 x11 σ H locs ls hM hP hS hl
        unfold mL_law_b530 at hM
        refine lv_iconst (v := 1) hx hb dL_law_530 (by decide) ?_
        refine lv_goto (tgt := 535) hx hb dL_law_531 (by decide) ?_
        exact b535 _ _ _ _ _ _ _ _ _ _ hM hP hS (lv_sub hl [0, 1, 2, 3, 4, 5, 6] rfl)
      have b519 : ∀ (x2 x3 x4 x6 x9 x10 y0 : Int32) (σ : St) (H : Heap) (locs : List Loc) (ls : Array Slot), mL_law_b519 xs L (mL_law_L57 xs L n57) x2 x3 x4 x6 x9 x10 y0 σ = some (1, σ') → w_P D cA ad KC σ H → va_S A s.heap H locs → lv_has ls 14 [(1, .ref (ad 62)), (0, .ref b0), (2, .int x2), (3, .int x3), (4, .int x4), (6, .int x6), (9, .int x9), (10, .int x10)] → W p l e room_1 s m #[Value.ref b0] below meth c H locs 63 4446 (lw_Z below #[Value.ref b0] s) (F0 m 519 ls [.int y0]) := by
        intro x2 x3 x4 x6 x9 x10 y0 σ H locs ls hM hP hS hl
        unfold mL_law_b519 at hM
        refine lv_istore (lv' := [(11, .int y0), (1, .ref (ad 62)), (0, .ref b0), (2, .int x2), (3, .int x3), (4, .int x4), (6, .int x6), (9, .int x9), (10, .int x10)]) hx hb dL_law_519 hl (by decide) rfl (fun ls hl => ?_)
        refine lv_iload_n hx hb dL_law_521 rfl (lv_at hl 4 rfl) ?_
        refine lv_if_ne (tgt := 530) hx hb dL_law_522 (by decide) (fun c67 => ?_) (fun c67 => ?_)
        · have hM := (if_neg c67).symm.trans hM
          exact b530 _ _ _ _ _ _ _ _ _ hM hP hS (lv_sub hl [1, 2, 3, 5, 6, 7, 0] rfl)
        · have hM := (if_pos c67).symm.trans hM
          refine lv_iload hx hb dL_law_525 (lv_at hl 8 rfl) ?_
          refine lv_if_le (tgt := 534) hx hb dL_law_527 (by decide) (fun c68 => ?_) (fun c68 => ?_)
          · have hM := (if_pos c68).symm.trans hM
            refine lv_iconst (v := 0) hx hb dL_law_534 (by decide) ?_
            exact b535 _ _ _ _ _ _ _ _ _ _ hM hP hS (lv_sub hl [1, 2, 3, 5, 6, 7, 0] rfl)
          · have hM := (if_neg c68).symm.trans hM
            exact b530 _ _ _ _ _ _ _ _ _ hM hP hS (lv_sub hl [1, 2, 3, 5, 6, 7, 0] rfl)
      have b514 : ∀ (x2 x3 x4 x6 x9 x10 : Int32) (σ : St) (H : Heap) (locs : List Loc) (ls : Array Slot), mL_law_b514 xs L (mL_law_L57 xs L n57) x2 x3 x4 x6 x9 x10 σ = some (1, σ') → w_P D cA ad KC σ H → va_S A s.heap H locs → lv_has ls 14 [(1, .ref (ad 62)), (0, .ref b0), (2, .int x2), (3, .int x3), (4, .int x4), (6, .int x6), (9, .int x9), (10, .int x10)] → W p l e room_1 s m #[Value.ref b0] below meth c H locs 63 4446 (lw_Z below #[Value.ref b0] s) (F0 m 514 ls []) := by
        intro x2 x3 x4 x6 x9 x10 σ H locs ls hM hP hS hl
        unfold mL_law_b514 at hM
        refine lv_iconst (v := 1) hx hb dL_law_514 (by decide) ?_
        refine lv_goto (tgt := 519) hx hb dL_law_515 (by decide) ?_
        exact b519 _ _ _ _ _ _ _ _ _ _ _ hM hP hS (lv_sub hl [0, 1, 2, 3, 4, 5, 6, 7] rfl)
      have b476 : ∀ (x2 x4 x6 x9 x11 y0 : Int32) (σ : St) (H : Heap) (locs : List Loc) (ls : Array Slot), mL_law_b476 xs L (mL_law_L57 xs L n57) x2 x4 x6 x9 x11 y0 σ = some (1, σ') → w_P D cA ad KC σ H → va_S A s.heap H locs → lv_has ls 14 [(1, .ref (ad 62)), (0, .ref b0), (2, .int x2), (4, .int x4), (6, .int x6), (9, .int x9), (11, .int x11)] → W p l e room_1 s m #[Value.ref b0] below meth c H locs 63 4446 (lw_Z below #[Value.ref b0] s) (F0 m 476 ls [.int y0]) := by
        intro x2 x4 x6 x9 x11 y0 σ H locs ls hM hP hS hl
        unfold mL_law_b476 at hM
        refine lv_istore_n (lv' := [(3, .int y0), (1, .ref (ad 62)), (0, .ref b0), (2, .int x2), (4, .int x4), (6, .int x6), (9, .int x9), (11, .int x11)]) hx hb dL_law_476 rfl hl (by decide) rfl (fun ls hl => ?_)
        refine lv_goto (tgt := 766) hx hb dL_law_477 (by decide) ?_
        exact b766 _ _ _ _ _ _ _ _ _ _ hM hP hS (lv_sub hl [1, 2, 3, 0, 4, 5, 6, 7] rfl)
      have b471 : ∀ (x2 x4 x6 x9 x11 : Int32) (σ : St) (H : Heap) (locs : List Loc) (ls : Array Slot), mL_law_b471 xs L (mL_law_L57 xs L n57) x2 x4 x6 x9 x11 σ = some (1, σ') → w_P D cA ad KC σ H → va_S A s.heap H locs → lv_has ls 14 [(1, .ref (ad 62)), (0, .ref b0), (2, .int x2), (4, .int x4), (6, .int x6), (9, .int x9), (11, .int x11)] → W p l e room_1 s m #[Value.ref b0] below meth c H locs 63 4446 (lw_Z below #[Value.ref b0] s) (F0 m 471 ls []) := by
        intro x2 x4 x6 x9 x11 σ H locs ls hM hP hS hl
        unfold mL_law_b471 at hM
        refine lv_iconst (v := 1) hx hb dL_law_471 (by decide) ?_
        refine lv_goto (tgt := 476) hx hb dL_law_472 (by decide) ?_
        exact b476 _ _ _ _ _ _ _ _ _ _ hM hP hS (lv_sub hl [0, 1, 2, 3, 4, 5, 6] rfl)
      have b460 : ∀ (x2 x3 x4 x6 x9 x10 y0 : Int32) (σ : St) (H : Heap) (locs : List Loc) (ls : Array Slot), mL_law_b460 xs L (mL_law_L57 xs L n57) x2 x3 x4 x6 x9 x10 y0 σ = some (1, σ') → w_P D cA ad KC σ H → va_S A s.heap H locs → lv_has ls 14 [(1, .ref (ad 62)), (0, .ref b0), (2, .int x2), (3, .int x3), (4, .int x4), (6, .int x6), (9, .int x9), (10, .int x10)] → W p l e room_1 s m #[Value.ref b0] below meth c H locs 63 4446 (lw_Z below #[Value.ref b0] s) (F0 m 460 ls [.int y0]) := by
        intro x2 x3 x4 x6 x9 x10 y0 σ H locs ls hM hP hS hl
        unfold mL_law_b460 at hM
        refine lv_istore (lv' := [(11, .int y0), (1, .ref (ad 62)), (0, .ref b0), (2, .int x2), (3, .int x3), (4, .int x4), (6, .int x6), (9, .int x9), (10, .int x10)]) hx hb dL_law_460 hl (by decide) rfl (fun ls hl => ?_)
        refine lv_iload_n hx hb dL_law_462 rfl (lv_at hl 4 rfl) ?_
        refine lv_if_ne (tgt := 471) hx hb dL_law_463 (by decide) (fun c69 => ?_) (fun c69 => ?_)
        · have hM := (if_neg c69).symm.trans hM
          exact b471 _ _ _ _ _ _ _ _ _ hM hP hS (lv_sub hl [1, 2, 3, 5, 6, 7, 0] rfl)
        · have hM := (if_pos c69).symm.trans hM
          refine lv_iload hx hb dL_law_466 (lv_at hl 8 rfl) ?_
          refine lv_if_le (tgt := 475) hx hb dL_law_468 (by decide) (fun c70 => ?_) (fun c70 => ?_)
          · have hM := (if_pos c70).symm.trans hM
            refine lv_iconst (v := 0) hx hb dL_law_475 (by decide) ?_
            exact b476 _ _ _ _ _ _ _ _ _ _ hM hP hS (lv_sub hl [1, 2, 3, 5, 6, 7, 0] rfl)
          · have hM := (if_neg c70).symm.trans hM
            exact b471 _ _ _ _ _ _ _ _ _ hM hP hS (lv_sub hl [1, 2, 3, 5, 6, 7, 0] rfl)
      have b455 : ∀ (x2 x3 x4 x6 x9 x10 : Int32) (σ : St) (H : Heap) (locs : List Loc) (ls : Array Slot), mL_law_b455 xs L (mL_law_L57 xs L n57) x2 x3 x4 x6 x9 x10 σ = some (1, σ') → w_P D cA ad KC σ H → va_S A s.heap H locs → lv_has ls 14 [(1, .ref (ad 62)), (0, .ref b0), (2, .int x2), (3, .int x3), (4, .int x4), (6, .int x6), (9, .int x9), (10, .int x10)] → W p l e room_1 s m #[Value.ref b0] below meth c H locs 63 4446 (lw_Z below #[Value.ref b0] s) (F0 m 455 ls []) := by
        intro x2 x3 x4 x6 x9 x10 σ H locs ls hM hP hS hl
        unfold mL_law_b455 at hM
        refine lv_iconst (v := 1) hx hb dL_law_455 (by decide) ?_
        refine lv_goto (tgt := 460) hx hb dL_law_456 (by decide) ?_
        exact b460 _ _ _ _ _ _ _ _ _ _ _ hM hP hS (lv_sub hl [0, 1, 2, 3, 4, 5, 6, 7] rfl)
      have b399 : ∀ (x2 x4 x6 x9 x11 y0 : Int32) (σ : St) (H : Heap) (locs : List Loc) (ls : Array Slot), mL_law_b399 xs L (mL_law_L57 xs L n57) x2 x4 x6 x9 x11 y0 σ = some (1, σ') → w_P D cA ad KC σ H → va_S A s.heap H locs → lv_has ls 14 [(1, .ref (ad 62)), (0, .ref b0), (2, .int x2), (4, .int x4), (6, .int x6), (9, .int x9), (11, .int x11)] → W p l e room_1 s m #[Value.ref b0] below meth c H locs 63 4446 (lw_Z below #[Value.ref b0] s) (F0 m 399 ls [.int y0]) := by
        intro x2 x4 x6 x9 x11 y0 σ H locs ls hM hP hS hl
        unfold mL_law_b399 at hM
        refine lv_istore_n (lv' := [(3, .int y0), (1, .ref (ad 62)), (0, .ref b0), (2, .int x2), (4, .int x4), (6, .int x6), (9, .int x9), (11, .int x11)]) hx hb dL_law_399 rfl hl (by decide) rfl (fun ls hl => ?_)
        refine lv_goto (tgt := 766) hx hb dL_law_400 (by decide) ?_
        exact b766 _ _ _ _ _ _ _ _ _ _ hM hP hS (lv_sub hl [1, 2, 3, 0, 4, 5, 6, 7] rfl)
      have b394 : ∀ (x2 x4 x6 x9 x11 : Int32) (σ : St) (H : Heap) (locs : List Loc) (ls : Array Slot), mL_law_b394 xs L (mL_law_L57 xs L n57) x2 x4 x6 x9 x11 σ = some (1, σ') → w_P D cA ad KC σ H → va_S A s.heap H locs → lv_has ls 14 [(1, .ref (ad 62)), (0, .ref b0), (2, .int x2), (4, .int x4), (6, .int x6), (9, .int x9), (11, .int x11)] → W p l e room_1 s m #[Value.ref b0] below meth c H locs 63 4446 (lw_Z below #[Value.ref b0] s) (F0 m 394 ls []) := by
        intro x2 x4 x6 x9 x11 σ H locs ls hM hP hS hl
        unfold mL_law_b394 at hM
        refine lv_iconst (v := 1) hx hb dL_law_394 (by decide) ?_
        refine lv_goto (tgt := 399) hx hb dL_law_395 (by decide) ?_
        exact b399 _ _ _ _ _ _ _ _ _ _ hM hP hS (lv_sub hl [0, 1, 2, 3, 4, 5, 6] rfl)
      have b367 : ∀ (x2 x4 x6 x9 x11 y0 : Int32) (σ : St) (H : Heap) (locs : List Loc) (ls : Array Slot), mL_law_b367 xs L (mL_law_L57 xs L n57) x2 x4 x6 x9 x11 y0 σ = some (1, σ') → w_P D cA ad KC σ H → va_S A s.heap H locs → lv_has ls 14 [(1, .ref (ad 62)), (0, .ref b0), (2, .int x2), (4, .int x4), (6, .int x6), (9, .int x9), (11, .int x11)] → W p l e room_1 s m #[Value.ref b0] below meth c H locs 63 4446 (lw_Z below #[Value.ref b0] s) (F0 m 367 ls [.int y0]) := by
        intro x2 x4 x6 x9 x11 y0 σ H locs ls hM hP hS hl
        unfold mL_law_b367 at hM
        refine lv_istore_n (lv' := [(3, .int y0), (1, .ref (ad 62)), (0, .ref b0), (2, .int x2), (4, .int x4), (6, .int x6), (9, .int x9), (11, .int x11)]) hx hb dL_law_367 rfl hl (by decide) rfl (fun ls hl => ?_)
        refine lv_goto (tgt := 766) hx hb dL_law_368 (by decide) ?_
        exact b766 _ _ _ _ _ _ _ _ _ _ hM hP hS (lv_sub hl [1, 2, 3, 0, 4, 5, 6, 7] rfl)
      have b362 : ∀ (x2 x4 x6 x9 x11 : Int32) (σ : St) (H : Heap) (locs : List Loc) (ls : Array Slot), mL_law_b362 xs L (mL_law_L57 xs L n57) x2 x4 x6 x9 x11 σ = some (1, σ') → w_P D cA ad KC σ H → va_S A s.heap H locs → lv_has ls 14 [(1, .ref (ad 62)), (0, .ref b0), (2, .int x2), (4, .int x4), (6, .int x6), (9, .int x9), (11, .int x11)] → W p l e room_1 s m #[Value.ref b0] below meth c H locs 63 4446 (lw_Z below #[Value.ref b0] s) (F0 m 362 ls []) := by
        intro x2 x4 x6 x9 x11 σ H locs ls hM hP hS hl
        unfold mL_law_b362 at hM
        refine lv_iconst (v := 1) hx hb dL_law_362 (by decide) ?_
        refine lv_goto (tgt := 367) hx hb dL_law_363 (by decide) ?_
        exact b367 _ _ _ _ _ _ _ _ _ _ hM hP hS (lv_sub hl [0, 1, 2, 3, 4, 5, 6] rfl)
      have b351 : ∀ (x2 x3 x4 x6 x9 x10 y0 : Int32) (σ : St) (H : Heap) (locs : List Loc) (ls : Array Slot), mL_law_b351 xs L (mL_law_L57 xs L n57) x2 x3 x4 x6 x9 x10 y0 σ = some (1, σ') → w_P D cA ad KC σ H → va_S A s.heap H locs → lv_has ls 14 [(1, .ref (ad 62)), (0, .ref b0), (2, .int x2), (3, .int x3), (4, .int x4), (6, .int x6), (9, .int x9), (10, .int x10)] → W p l e room_1 s m #[Value.ref b0] below meth c H locs 63 4446 (lw_Z below #[Value.ref b0] s) (F0 m 351 ls [.int y0]) := by
        intro x2 x3 x4 x6 x9 x10 y0 σ H locs ls hM hP hS hl
        unfold mL_law_b351 at hM
        refine lv_istore (lv' := [(11, .int y0), (1, .ref (ad 62)), (0, .ref b0), (2, .int x2), (3, .int x3), (4, .int x4), (6, .int x6), (9, .int x9), (10, .int x10)]) hx hb dL_law_351 hl (by decide) rfl (fun ls hl => ?_)
        refine lv_iload_n hx hb dL_law_353 rfl (lv_at hl 4 rfl) ?_
        refine lv_if_ne (tgt := 362) hx hb dL_law_354 (by decide) (fun c71 => ?_) (fun c71 => ?_)
        · have hM := (if_neg c71).symm.trans hM
          exact b362 _ _ _ _ _ _ _ _ _ hM hP hS (lv_sub hl [1, 2, 3, 5, 6, 7, 0] rfl)
        · have hM := (if_pos c71).symm.trans hM
          refine lv_iload hx hb dL_law_357 (lv_at hl 8 rfl) ?_
          refine lv_if_le (tgt := 366) hx hb dL_law_359 (by decide) (fun c72 => ?_) (fun c72 => ?_)
          · have hM := (if_pos c72).symm.trans hM
            refine lv_iconst (v := 0) hx hb dL_law_366 (by decide) ?_
            exact b367 _ _ _ _ _ _ _ _ _ _ hM hP hS (lv_sub hl [1, 2, 3, 5, 6, 7, 0] rfl)
          · have hM := (if_neg c72).symm.trans hM
            exact b362 _ _ _ _ _ _ _ _ _ hM hP hS (lv_sub hl [1, 2, 3, 5, 6, 7, 0] rfl)
      have b350 : ∀ (x2 x3 x4 x6 x9 x10 : Int32) (σ : St) (H : Heap) (locs : List Loc) (ls : Array Slot), mL_law_b350 xs L (mL_law_L57 xs L n57) x2 x3 x4 x6 x9 x10 σ = some (1, σ') → w_P D cA ad KC σ H → va_S A s.heap H locs → lv_has ls 14 [(1, .ref (ad 62)), (0, .ref b0), (2, .int x2), (3, .int x3), (4, .int x4), (6, .int x6), (9, .int x9), (10, .int x10)] → W p l e room_1 s m #[Value.ref b0] below meth c H locs 63 4446 (lw_Z below #[Value.ref b0] s) (F0 m 350 ls []) := by
        intro x2 x3 x4 x6 x9 x10 σ H locs ls hM hP hS hl
        unfold mL_law_b350 at hM
        refine lv_iconst (v := 0) hx hb dL_law_350 (by decide) ?_
        exact b351 _ _ _ _ _ _ _ _ _ _ _ hM hP hS (lv_sub hl [0, 1, 2, 3, 4, 5, 6, 7] rfl)
      have b346 : ∀ (x2 x3 x4 x6 x9 x10 : Int32) (σ : St) (H : Heap) (locs : List Loc) (ls : Array Slot), mL_law_b346 xs L (mL_law_L57 xs L n57) x2 x3 x4 x6 x9 x10 σ = some (1, σ') → w_P D cA ad KC σ H → va_S A s.heap H locs → lv_has ls 14 [(1, .ref (ad 62)), (0, .ref b0), (2, .int x2), (3, .int x3), (4, .int x4), (6, .int x6), (9, .int x9), (10, .int x10)] → W p l e room_1 s m #[Value.ref b0] below meth c H locs 63 4446 (lw_Z below #[Value.ref b0] s) (F0 m 346 ls []) := by
        intro x2 x3 x4 x6 x9 x10 σ H locs ls hM hP hS hl
        unfold mL_law_b346 at hM
        refine lv_iconst (v := 1) hx hb dL_law_346 (by decide) ?_
        refine lv_goto (tgt := 351) hx hb dL_law_347 (by decide) ?_
        exact b351 _ _ _ _ _ _ _ _ _ _ _ hM hP hS (lv_sub hl [0, 1, 2, 3, 4, 5, 6, 7] rfl)
      have b309 : ∀ (x2 x3 x4 x6 x9 x10 x11 : Int32) (σ : St) (H : Heap) (locs : List Loc) (ls : Array Slot), mL_law_b309 xs L (mL_law_L57 xs L n57) x2 x3 x4 x6 x9 x10 x11 σ = some (1, σ') → w_P D cA ad KC σ H → va_S A s.heap H locs → lv_has ls 14 [(1, .ref (ad 62)), (0, .ref b0), (2, .int x2), (3, .int x3), (4, .int x4), (6, .int x6), (9, .int x9), (10, .int x10), (11, .int x11)] → W p l e room_1 s m #[Value.ref b0] below meth c H locs 63 4446 (lw_Z below #[Value.ref b0] s) (F0 m 309 ls []) := by
        intro x2 x3 x4 x6 x9 x10 x11 σ H locs ls hM hP hS hl
        unfold mL_law_b309 at hM
        refine lv_aload_n hx hb dL_law_309 rfl (lv_at hl 0 rfl) ?_
        refine lv_iload hx hb dL_law_310 (lv_at hl 5 rfl) ?_
        obtain ⟨r75, σ74, h73, hM⟩ := bnd_i hM
        refine x_callV (As := [.int x6]) (rest := []) hA ⟨hx, hb, hml, hown, hts⟩ (tX6_penUp l D cA ad hJ x6 σ _ _ h73) (cwV 1 hts gL_law_X6_penUp rfl rfl rfl (by decide +kernel) ⟨(Nat.le_of_ble_eq_true rfl), (Nat.le_of_ble_eq_true rfl)⟩) hK hP hS KC_sb rfl rfl hl.1 rfl (Nat.le_of_ble_eq_true rfl) ⟨(Nat.le_of_ble_eq_true rfl), (Nat.le_of_ble_eq_true rfl)⟩ dL_law_312 (fun H locs hP hS _ _ => ?_)
        refine lv_istore (lv' := [(12, .int r75), (1, .ref (ad 62)), (0, .ref b0), (2, .int x2), (3, .int x3), (4, .int x4), (6, .int x6), (9, .int x9), (10, .int x10), (11, .int x11)]) hx hb dL_law_315 hl (by decide) rfl (fun ls hl => ?_)
        refine lv_iload hx hb dL_law_317 (lv_at hl 9 rfl) ?_
        refine lv_if_eq (tgt := 350) hx hb dL_law_319 (by decide) (fun c76 => ?_) (fun c76 => ?_)
        · have hM := (if_pos c76).symm.trans hM
          exact b350 _ _ _ _ _ _ _ _ _ _ hM hP hS (lv_sub hl [1, 2, 3, 4, 5, 6, 7, 8] rfl)
        · have hM := (if_neg c76).symm.trans hM
          refine lv_iload hx hb dL_law_322 (lv_at hl 0 rfl) ?_
          refine lv_if_gt (tgt := 346) hx hb dL_law_324 (by decide) (fun c77 => ?_) (fun c77 => ?_)
          · have hM := (if_pos c77).symm.trans hM
            exact b346 _ _ _ _ _ _ _ _ _ _ hM hP hS (lv_sub hl [1, 2, 3, 4, 5, 6, 7, 8] rfl)
          · have hM := (if_neg c77).symm.trans hM
            refine lv_iload hx hb dL_law_327 (lv_at hl 0 rfl) ?_
            refine lv_ldc (own := RL) (v := (-1000000003)) hx hb hown (hts (.constant RL 65 (-1000000003)) (by decide +kernel)) dL_law_329 ?_
            refine lv_icmp_ne (tgt := 350) hx hb dL_law_331 (by decide) (fun c78 => ?_) (fun c78 => ?_)
            · have hM := (if_neg c78).symm.trans hM
              exact b350 _ _ _ _ _ _ _ _ _ _ hM hP hS (lv_sub hl [1, 2, 3, 4, 5, 6, 7, 8] rfl)
            · have hM := (if_pos c78).symm.trans hM
              refine lv_aload_n hx hb dL_law_334 rfl (lv_at hl 1 rfl) ?_
              refine lv_iload hx hb dL_law_335 (lv_at hl 6 rfl) ?_
              refine lv_iconst (v := 2) hx hb dL_law_337 (by decide) ?_
              obtain ⟨r81, σ80, h79, hM⟩ := bnd_i hM
              refine x_callV (As := [.int x6, .int 2]) (rest := []) hA ⟨hx, hb, hml, hown, hts⟩ (tX6_siteInfo l D cA ad hJ x6 2 σ74 _ _ h79) (cwV 2 hts gL_law_X6_siteInfo rfl rfl rfl (by decide +kernel) ⟨(Nat.le_of_ble_eq_true rfl), (Nat.le_of_ble_eq_true rfl)⟩) hK hP hS KC_sb rfl rfl hl.1 rfl (Nat.le_of_ble_eq_true rfl) ⟨(Nat.le_of_ble_eq_true rfl), (Nat.le_of_ble_eq_true rfl)⟩ dL_law_338 (fun H locs hP hS _ _ => ?_)
              refine lv_bipush (v := 20) hx hb dL_law_341 (by decide) ?_
              refine lv_icmp_ne (tgt := 350) hx hb dL_law_343 (by decide) (fun c82 => ?_) (fun c82 => ?_)
              · have hM := (if_neg c82).symm.trans hM
                exact b350 _ _ _ _ _ _ _ _ _ _ hM hP hS (lv_sub hl [1, 2, 3, 4, 5, 6, 7, 8] rfl)
              · have hM := (if_pos c82).symm.trans hM
                exact b346 _ _ _ _ _ _ _ _ _ _ hM hP hS (lv_sub hl [1, 2, 3, 4, 5, 6, 7, 8] rfl)
      have L234 : ∀ (n : Nat) (x2 x3 x4 x5 x6 x9 x10 x11 x12 : Int32) (σ : St) (H : Heap) (locs : List Loc) (ls : Array Slot), mL_law_L234 xs L (mL_law_L57 xs L n57) n x2 x3 x4 x5 x6 x9 x10 x11 x12 σ = some (1, σ') → w_P D cA ad KC σ H → va_S A s.heap H locs → lv_has ls 14 [(1, .ref (ad 62)), (0, .ref b0), (2, .int x2), (3, .int x3), (4, .int x4), (5, .int x5), (6, .int x6), (9, .int x9), (10, .int x10), (11, .int x11), (12, .int x12)] → W p l e room_1 s m #[Value.ref b0] below meth c H locs 63 4446 (lw_Z below #[Value.ref b0] s) (F0 m 234 ls []) := by
        intro n234
        induction n234 with
        | zero =>
          intro x2 x3 x4 x5 x6 x9 x10 x11 x12 σ H locs ls hM hP hS hl
          rw [mL_law_L234] at hM
          cases hM
        | succ n234 ih234 =>
          intro x2 x3 x4 x5 x6 x9 x10 x11 x12 σ H locs ls hM hP hS hl
          rw [mL_law_L234] at hM
          refine lv_iload hx hb dL_law_234 (lv_at hl 10 rfl) ?_
          refine lv_iload hx hb dL_law_236 (lv_at hl 5 rfl) ?_
          refine lv_bipush (v := 18) hx hb dL_law_238 (by decide) ?_
          refine lv_ishr hx hb dL_law_240 ?_
          refine lv_iconst (v := 4) hx hb dL_law_241 (by decide) ?_
          obtain ⟨r85, σ84, h83, hM⟩ := bnd_i hM
          refine x_callS (As := [.int (x5 >>> (18 &&& 31)), .int 4]) (rest := [.int x12]) hA ⟨hx, hb, hml, hown, hts⟩ (tL_low l D cA ad hJ (x5 >>> (18 &&& 31)) 4 σ _ _ h83) (va_cwS 2 hts gL_law_L_low rfl rfl rfl (by decide +kernel) ⟨(Nat.le_of_ble_eq_true rfl), (Nat.le_of_ble_eq_true rfl)⟩) hK hP hS rfl hl.1 rfl (Nat.le_of_ble_eq_true rfl) ⟨(Nat.le_of_ble_eq_true rfl), (Nat.le_of_ble_eq_true rfl)⟩ dL_law_242 (fun H locs hP hS => ?_)
          refine lv_icmp_ge (tgt := 309) hx hb dL_law_245 (by decide) (fun c86 => ?_) (fun c86 => ?_)
          · have hM := (if_pos c86).symm.trans hM
            exact b309 _ _ _ _ _ _ _ _ _ _ _ hM hP hS (lv_sub hl [0, 1, 2, 3, 4, 6, 7, 8, 9] rfl)
          · have hM := (if_neg c86).symm.trans hM
            refine lv_iload hx hb dL_law_248 (lv_at hl 9 rfl) ?_
            refine lv_if_eq (tgt := 300) hx hb dL_law_250 (by decide) (fun c87 => ?_) (fun c87 => ?_)
            · have hM := (if_pos c87).symm.trans hM
              refine lv_iconst (v := 0) hx hb dL_law_300 (by decide) ?_
              refine lv_istore (lv' := [(11, .int 0), (1, .ref (ad 62)), (0, .ref b0), (2, .int x2), (3, .int x3), (4, .int x4), (5, .int x5), (6, .int x6), (9, .int x9), (10, .int x10), (12, .int x12)]) hx hb dL_law_301 hl (by decide) rfl (fun ls hl => ?_)
              refine lv_iinc (v := (x12 + 1)) (lv' := [(12, .int (x12 + 1)), (11, .int 0), (1, .ref (ad 62)), (0, .ref b0), (2, .int x2), (3, .int x3), (4, .int x4), (5, .int x5), (6, .int x6), (9, .int x9), (10, .int x10)]) hx hb dL_law_303 hl (k := 10) rfl rfl (by decide) rfl (fun ls hl => ?_)
              refine lv_goto (tgt := 234) hx hb dL_law_306 (by decide) ?_
              exact ih234 _ _ _ _ _ _ _ _ _ _ _ _ _ hM hP hS (lv_sub hl [2, 3, 4, 5, 6, 7, 8, 9, 10, 1, 0] rfl)
            · have hM := (if_neg c87).symm.trans hM
              refine lv_aload_n hx hb dL_law_253 rfl (lv_at hl 0 rfl) ?_
              refine lv_iload hx hb dL_law_254 (lv_at hl 6 rfl) ?_
              refine lv_iload hx hb dL_law_256 (lv_at hl 5 rfl) ?_
              refine lv_bipush (v := 20) hx hb dL_law_258 (by decide) ?_
              refine lv_iload hx hb dL_law_260 (lv_at hl 10 rfl) ?_
              refine lv_iadd hx hb dL_law_262 ?_
              refine lv_ishr hx hb dL_law_263 ?_
              refine lv_bipush (v := 17) hx hb dL_law_264 (by decide) ?_
              obtain ⟨r90, σ89, h88, hM⟩ := bnd_i hM
              refine x_callS (As := [.int (x5 >>> ((20 + x12) &&& 31)), .int 17]) (rest := [.int x6, .ref (ad 62)]) hA ⟨hx, hb, hml, hown, hts⟩ (tL_low l D cA ad hJ (x5 >>> ((20 + x12) &&& 31)) 17 σ84 _ _ h88) (va_cwS 2 hts gL_law_L_low rfl rfl rfl (by decide +kernel) ⟨(Nat.le_of_ble_eq_true rfl), (Nat.le_of_ble_eq_true rfl)⟩) hK hP hS rfl hl.1 rfl (Nat.le_of_ble_eq_true rfl) ⟨(Nat.le_of_ble_eq_true rfl), (Nat.le_of_ble_eq_true rfl)⟩ dL_law_266 (fun H locs hP hS => ?_)
              refine lv_bipush (v := 8) hx hb dL_law_269 (by decide) ?_
              refine lv_isub hx hb dL_law_271 ?_
              refine lv_iload hx hb dL_law_272 (lv_at hl 5 rfl) ?_
              refine lv_bipush (v := 22) hx hb dL_law_274 (by decide) ?_
              refine lv_iload hx hb dL_law_276 (lv_at hl 10 rfl) ?_
              refine lv_iadd hx hb dL_law_278 ?_
              refine lv_ishr hx hb dL_law_279 ?_
              refine lv_iconst (v := 5) hx hb dL_law_280 (by decide) ?_
              obtain ⟨r93, σ92, h91, hM⟩ := bnd_i hM
              refine x_callS (As := [.int (x5 >>> ((22 + x12) &&& 31)), .int 5]) (rest := [.int (r90 - 8), .int x6, .ref (ad 62)]) hA ⟨hx, hb, hml, hown, hts⟩ (tL_low l D cA ad hJ (x5 >>> ((22 + x12) &&& 31)) 5 σ89 _ _ h91) (va_cwS 2 hts gL_law_L_low rfl rfl rfl (by decide +kernel) ⟨(Nat.le_of_ble_eq_true rfl), (Nat.le_of_ble_eq_true rfl)⟩) hK hP hS rfl hl.1 rfl (Nat.le_of_ble_eq_true rfl) ⟨(Nat.le_of_ble_eq_true rfl), (Nat.le_of_ble_eq_true rfl)⟩ dL_law_281 (fun H locs hP hS => ?_)
              refine lv_iconst (v := 2) hx hb dL_law_284 (by decide) ?_
              refine lv_isub hx hb dL_law_285 ?_
              obtain ⟨r96, σ95, h94, hM⟩ := bnd_i hM
              refine x_callV (As := [.int x6, .int (r90 - 8), .int (r93 - 2)]) (rest := []) hA ⟨hx, hb, hml, hown, hts⟩ (tX6_penMove l D cA ad hJ x6 (r90 - 8) (r93 - 2) σ92 _ _ h94) (cwV 3 hts gL_law_X6_penMove rfl rfl rfl (by decide +kernel) ⟨(Nat.le_of_ble_eq_true rfl), (Nat.le_of_ble_eq_true rfl)⟩) hK hP hS KC_sb rfl rfl hl.1 rfl (Nat.le_of_ble_eq_true rfl) ⟨(Nat.le_of_ble_eq_true rfl), (Nat.le_of_ble_eq_true rfl)⟩ dL_law_286 (fun H locs hP hS _ _ => ?_)
              refine lv_iload hx hb dL_law_289 (lv_at hl 10 rfl) ?_
              refine lv_iconst (v := 2) hx hb dL_law_291 (by decide) ?_
              refine lv_iadd hx hb dL_law_292 ?_
              refine lv_icmp_ne (tgt := 300) hx hb dL_law_293 (by decide) (fun c97 => ?_) (fun c97 => ?_)
              · have hM := (if_neg c97).symm.trans hM
                refine lv_iconst (v := 0) hx hb dL_law_300 (by decide) ?_
                refine lv_istore (lv' := [(11, .int 0), (1, .ref (ad 62)), (0, .ref b0), (2, .int x2), (3, .int x3), (4, .int x4), (5, .int x5), (6, .int x6), (9, .int x9), (10, .int x10), (12, .int x12)]) hx hb dL_law_301 hl (by decide) rfl (fun ls hl => ?_)
                refine lv_iinc (v := (x12 + 1)) (lv' := [(12, .int (x12 + 1)), (11, .int 0), (1, .ref (ad 62)), (0, .ref b0), (2, .int x2), (3, .int x3), (4, .int x4), (5, .int x5), (6, .int x6), (9, .int x9), (10, .int x10)]) hx hb dL_law_303 hl (k := 10) rfl rfl (by decide) rfl (fun ls hl => ?_)
                refine lv_goto (tgt := 234) hx hb dL_law_306 (by decide) ?_
                exact ih234 _ _ _ _ _ _ _ _ _ _ _ _ _ hM hP hS (lv_sub hl [2, 3, 4, 5, 6, 7, 8, 9, 10, 1, 0] rfl)
              · have hM := (if_pos c97).symm.trans hM
                refine lv_iconst (v := 1) hx hb dL_law_296 (by decide) ?_
                refine lv_goto (tgt := 301) hx hb dL_law_297 (by decide) ?_
                refine lv_istore (lv' := [(11, .int 1), (1, .ref (ad 62)), (0, .ref b0), (2, .int x2), (3, .int x3), (4, .int x4), (5, .int x5), (6, .int x6), (9, .int x9), (10, .int x10), (12, .int x12)]) hx hb dL_law_301 hl (by decide) rfl (fun ls hl => ?_)
                refine lv_iinc (v := (x12 + 1)) (lv' := [(12, .int (x12 + 1)), (11, .int 1), (1, .ref (ad 62)), (0, .ref b0), (2, .int x2), (3, .int x3), (4, .int x4), (5, .int x5), (6, .int x6), (9, .int x9), (10, .int x10)]) hx hb dL_law_303 hl (k := 10) rfl rfl (by decide) rfl (fun ls hl => ?_)
                refine lv_goto (tgt := 234) hx hb dL_law_306 (by decide) ?_
                exact ih234 _ _ _ _ _ _ _ _ _ _ _ _ _ hM hP hS (lv_sub hl [2, 3, 4, 5, 6, 7, 8, 9, 10, 1, 0] rfl)
      have b168 : ∀ (x2 x3 x4 x5 x6 x7 x8 x9 x10 : Int32) (σ : St) (H : Heap) (locs : List Loc) (ls : Array Slot), mL_law_b168 xs L (mL_law_L57 xs L n57) x2 x3 x4 x5 x6 x7 x8 x9 x10 σ = some (1, σ') → w_P D cA ad KC σ H → va_S A s.heap H locs → lv_has ls 14 [(1, .ref (ad 62)), (0, .ref b0), (2, .int x2), (3, .int x3), (4, .int x4), (5, .int x5), (6, .int x6), (7, .int x7), (8, .int x8), (9, .int x9), (10, .int x10)] → W p l e room_1 s m #[Value.ref b0] below meth c H locs 63 4446 (lw_Z below #[Value.ref b0] s) (F0 m 168 ls []) := by
        intro x2 x3 x4 x5 x6 x7 x8 x9 x10 σ H locs ls hM hP hS hl
        unfold mL_law_b168 at hM
        refine lv_iconst (v := 1) hx hb dL_law_168 (by decide) ?_
        refine lv_istore (lv' := [(11, .int 1), (1, .ref (ad 62)), (0, .ref b0), (2, .int x2), (3, .int x3), (4, .int x4), (5, .int x5), (6, .int x6), (7, .int x7), (8, .int x8), (9, .int x9), (10, .int x10)]) hx hb dL_law_169 hl (by decide) rfl (fun ls hl => ?_)
        refine lv_iload hx hb dL_law_171 (lv_at hl 9 rfl) ?_
        refine lv_iconst (v := 5) hx hb dL_law_173 (by decide) ?_
        refine lv_icmp_ge (tgt := 371) hx hb dL_law_174 (by decide) (fun c98 => ?_) (fun c98 => ?_)
        · have hM := (if_pos c98).symm.trans hM
          refine lv_iload hx hb dL_law_371 (lv_at hl 9 rfl) ?_
          refine lv_iconst (v := 5) hx hb dL_law_373 (by decide) ?_
          refine lv_icmp_ne (tgt := 403) hx hb dL_law_374 (by decide) (fun c99 => ?_) (fun c99 => ?_)
          · have hM := (if_neg c99).symm.trans hM
            refine lv_iload hx hb dL_law_403 (lv_at hl 9 rfl) ?_
            refine lv_bipush (v := 6) hx hb dL_law_405 (by decide) ?_
            refine lv_icmp_ne (tgt := 480) hx hb dL_law_407 (by decide) (fun c100 => ?_) (fun c100 => ?_)
            · have hM := (if_neg c100).symm.trans hM
              refine lv_iload hx hb dL_law_480 (lv_at hl 9 rfl) ?_
              refine lv_bipush (v := 7) hx hb dL_law_482 (by decide) ?_
              refine lv_icmp_ne (tgt := 539) hx hb dL_law_484 (by decide) (fun c101 => ?_) (fun c101 => ?_)
              · have hM := (if_neg c101).symm.trans hM
                refine lv_iload hx hb dL_law_539 (lv_at hl 7 rfl) ?_
                refine lv_iload hx hb dL_law_541 (lv_at hl 8 rfl) ?_
                refine lv_icmp_eq (tgt := 709) hx hb dL_law_543 (by decide) (fun c102 => ?_) (fun c102 => ?_)
                · have hM := (if_pos c102).symm.trans hM
                  exact b709 _ _ _ _ _ _ _ _ _ _ _ _ hM hP hS (lv_sub hl [1, 2, 3, 4, 5, 7, 8, 9, 10, 0] rfl)
                · have hM := (if_neg c102).symm.trans hM
                  refine lv_iload hx hb dL_law_546 (lv_at hl 9 rfl) ?_
                  refine lv_bipush (v := 11) hx hb dL_law_548 (by decide) ?_
                  refine lv_icmp_ge (tgt := 709) hx hb dL_law_550 (by decide) (fun c103 => ?_) (fun c103 => ?_)
                  · have hM := (if_pos c103).symm.trans hM
                    exact b709 _ _ _ _ _ _ _ _ _ _ _ _ hM hP hS (lv_sub hl [1, 2, 3, 4, 5, 7, 8, 9, 10, 0] rfl)
                  · have hM := (if_neg c103).symm.trans hM
                    refine lv_aload_n hx hb dL_law_553 rfl (lv_at hl 1 rfl) ?_
                    refine lv_iload hx hb dL_law_554 (lv_at hl 7 rfl) ?_
                    refine lv_iload hx hb dL_law_556 (lv_at hl 8 rfl) ?_
                    obtain ⟨r106, σ105, h104, hM⟩ := bnd_i hM
                    refine x_callV (As := [.int x6, .int x7]) (rest := []) hA ⟨hx, hb, hml, hown, hts⟩ (tX6_waiting l D cA ad hJ x6 x7 σ _ _ h104) (cwV 2 hts gL_law_X6_waiting rfl rfl rfl (by decide +kernel) ⟨(Nat.le_of_ble_eq_true rfl), (Nat.le_of_ble_eq_true rfl)⟩) hK hP hS KC_sb rfl rfl hl.1 rfl (Nat.le_of_ble_eq_true rfl) ⟨(Nat.le_of_ble_eq_true rfl), (Nat.le_of_ble_eq_true rfl)⟩ dL_law_558 (fun H locs hP hS _ _ => ?_)
                    refine lv_istore (lv' := [(12, .int r106), (11, .int 1), (1, .ref (ad 62)), (0, .ref b0), (2, .int x2), (3, .int x3), (4, .int x4), (5, .int x5), (6, .int x6), (7, .int x7), (8, .int x8), (9, .int x9), (10, .int x10)]) hx hb dL_law_561 hl (by decide) rfl (fun ls hl => ?_)
                    refine lv_iload hx hb dL_law_563 (lv_at hl 10 rfl) ?_
                    refine lv_bipush (v := 8) hx hb dL_law_565 (by decide) ?_
                    refine lv_icmp_ne (tgt := 581) hx hb dL_law_567 (by decide) (fun c107 => ?_) (fun c107 => ?_)
                    · have hM := (if_neg c107).symm.trans hM
                      refine lv_aload_n hx hb dL_law_581 rfl (lv_at hl 2 rfl) ?_
                      refine lv_iload hx hb dL_law_582 (lv_at hl 8 rfl) ?_
                      refine lv_iload hx hb dL_law_584 (lv_at hl 9 rfl) ?_
                      obtain ⟨r110, σ109, h108, hM⟩ := bnd_i hM
                      refine x_callV (As := [.int x6, .int x7]) (rest := []) hA ⟨hx, hb, hml, hown, hts⟩ (tX6_deliver l D cA ad hJ x6 x7 σ105 _ _ h108) (cwV 2 hts gL_law_X6_deliver rfl rfl rfl (by decide +kernel) ⟨(Nat.le_of_ble_eq_true rfl), (Nat.le_of_ble_eq_true rfl)⟩) hK hP hS KC_sb rfl rfl hl.1 rfl (Nat.le_of_ble_eq_true rfl) ⟨(Nat.le_of_ble_eq_true rfl), (Nat.le_of_ble_eq_true rfl)⟩ dL_law_586 (fun H locs hP hS _ _ => ?_)
                      exact b589 _ _ _ _ _ _ _ _ _ _ _ _ _ hM hP hS (lv_sub hl [2, 3, 4, 5, 6, 8, 9, 10, 11, 0] rfl)
                    · have hM := (if_pos c107).symm.trans hM
                      refine lv_aload_n hx hb dL_law_570 rfl (lv_at hl 2 rfl) ?_
                      refine lv_iload hx hb dL_law_571 (lv_at hl 8 rfl) ?_
                      refine lv_iload hx hb dL_law_573 (lv_at hl 9 rfl) ?_
                      obtain ⟨r113, σ112, h111, hM⟩ := bnd_i hM
                      refine x_callV (As := [.int x6, .int x7]) (rest := []) hA ⟨hx, hb, hml, hown, hts⟩ (tX6_lose l D cA ad hJ x6 x7 σ105 _ _ h111) (cwV 2 hts gL_law_X6_lose rfl rfl rfl (by decide +kernel) ⟨(Nat.le_of_ble_eq_true rfl), (Nat.le_of_ble_eq_true rfl)⟩) hK hP hS KC_sb rfl rfl hl.1 rfl (Nat.le_of_ble_eq_true rfl) ⟨(Nat.le_of_ble_eq_true rfl), (Nat.le_of_ble_eq_true rfl)⟩ dL_law_575 (fun H locs hP hS _ _ => ?_)
                      refine lv_goto (tgt := 589) hx hb dL_law_578 (by decide) ?_
                      exact b589 _ _ _ _ _ _ _ _ _ _ _ _ _ hM hP hS (lv_sub hl [2, 3, 4, 5, 6, 8, 9, 10, 11, 0] rfl)
              · have hM := (if_pos c101).symm.trans hM
                refine lv_aload_n hx hb dL_law_487 rfl (lv_at hl 1 rfl) ?_
                refine lv_iload hx hb dL_law_488 (lv_at hl 7 rfl) ?_
                obtain ⟨r116, σ115, h114, hM⟩ := bnd_i hM
                refine x_callV (As := [.int x6]) (rest := []) hA ⟨hx, hb, hml, hown, hts⟩ (tX6_redo l D cA ad hJ x6 σ _ _ h114) (cwV 1 hts gL_law_X6_redo rfl rfl rfl (by decide +kernel) ⟨(Nat.le_of_ble_eq_true rfl), (Nat.le_of_ble_eq_true rfl)⟩) hK hP hS KC_sb rfl rfl hl.1 rfl (Nat.le_of_ble_eq_true rfl) ⟨(Nat.le_of_ble_eq_true rfl), (Nat.le_of_ble_eq_true rfl)⟩ dL_law_490 (fun H locs hP hS _ _ => ?_)
                refine lv_istore (lv' := [(12, .int r116), (11, .int 1), (1, .ref (ad 62)), (0, .ref b0), (2, .int x2), (3, .int x3), (4, .int x4), (5, .int x5), (6, .int x6), (7, .int x7), (8, .int x8), (9, .int x9), (10, .int x10)]) hx hb dL_law_493 hl (by decide) rfl (fun ls hl => ?_)
                refine lv_iload hx hb dL_law_495 (lv_at hl 0 rfl) ?_
                refine lv_if_gt (tgt := 514) hx hb dL_law_497 (by decide) (fun c117 => ?_) (fun c117 => ?_)
                · have hM := (if_pos c117).symm.trans hM
                  exact b514 _ _ _ _ _ _ _ _ _ _ hM hP hS (lv_sub hl [2, 3, 4, 5, 6, 8, 11, 12] rfl)
                · have hM := (if_neg c117).symm.trans hM
                  refine lv_iload hx hb dL_law_500 (lv_at hl 0 rfl) ?_
                  refine lv_ldc (own := RL) (v := (-1000000002)) hx hb hown (hts (.constant RL 64 (-1000000002)) (by decide +kernel)) dL_law_502 ?_
                  refine lv_icmp_eq (tgt := 514) hx hb dL_law_504 (by decide) (fun c118 => ?_) (fun c118 => ?_)
                  · have hM := (if_pos c118).symm.trans hM
                    exact b514 _ _ _ _ _ _ _ _ _ _ hM hP hS (lv_sub hl [2, 3, 4, 5, 6, 8, 11, 12] rfl)
                  · have hM := (if_neg c118).symm.trans hM
                    refine lv_iload hx hb dL_law_507 (lv_at hl 0 rfl) ?_
                    refine lv_ldc (own := RL) (v := (-1000000003)) hx hb hown (hts (.constant RL 65 (-1000000003)) (by decide +kernel)) dL_law_509 ?_
                    refine lv_icmp_ne (tgt := 518) hx hb dL_law_511 (by decide) (fun c119 => ?_) (fun c119 => ?_)
                    · have hM := (if_neg c119).symm.trans hM
                      refine lv_iconst (v := 0) hx hb dL_law_518 (by decide) ?_
                      exact b519 _ _ _ _ _ _ _ _ _ _ _ hM hP hS (lv_sub hl [2, 3, 4, 5, 6, 8, 11, 12] rfl)
                    · have hM := (if_pos c119).symm.trans hM
                      exact b514 _ _ _ _ _ _ _ _ _ _ hM hP hS (lv_sub hl [2, 3, 4, 5, 6, 8, 11, 12] rfl)
            · have hM := (if_pos c100).symm.trans hM
              refine lv_aload_n hx hb dL_law_410 rfl (lv_at hl 1 rfl) ?_
              refine lv_iload hx hb dL_law_411 (lv_at hl 7 rfl) ?_
              refine lv_iload hx hb dL_law_413 (lv_at hl 6 rfl) ?_
              refine lv_bipush (v := 9) hx hb dL_law_415 (by decide) ?_
              refine lv_ishr hx hb dL_law_417 ?_
              refine lv_iconst (v := 3) hx hb dL_law_418 (by decide) ?_
              obtain ⟨r122, σ121, h120, hM⟩ := bnd_i hM
              refine x_callS (As := [.int (x5 >>> (9 &&& 31)), .int 3]) (rest := [.int x6, .ref (ad 62)]) hA ⟨hx, hb, hml, hown, hts⟩ (tL_low l D cA ad hJ (x5 >>> (9 &&& 31)) 3 σ _ _ h120) (va_cwS 2 hts gL_law_L_low rfl rfl rfl (by decide +kernel) ⟨(Nat.le_of_ble_eq_true rfl), (Nat.le_of_ble_eq_true rfl)⟩) hK hP hS rfl hl.1 rfl (Nat.le_of_ble_eq_true rfl) ⟨(Nat.le_of_ble_eq_true rfl), (Nat.le_of_ble_eq_true rfl)⟩ dL_law_419 (fun H locs hP hS => ?_)
              refine lv_iload hx hb dL_law_422 (lv_at hl 6 rfl) ?_
              refine lv_bipush (v := 12) hx hb dL_law_424 (by decide) ?_
              refine lv_ishr hx hb dL_law_426 ?_
              refine lv_iconst (v := 4) hx hb dL_law_427 (by decide) ?_
              obtain ⟨r125, σ124, h123, hM⟩ := bnd_i hM
              refine x_callS (As := [.int (x5 >>> (12 &&& 31)), .int 4]) (rest := [.int r122, .int x6, .ref (ad 62)]) hA ⟨hx, hb, hml, hown, hts⟩ (tL_low l D cA ad hJ (x5 >>> (12 &&& 31)) 4 σ121 _ _ h123) (va_cwS 2 hts gL_law_L_low rfl rfl rfl (by decide +kernel) ⟨(Nat.le_of_ble_eq_true rfl), (Nat.le_of_ble_eq_true rfl)⟩) hK hP hS rfl hl.1 rfl (Nat.le_of_ble_eq_true rfl) ⟨(Nat.le_of_ble_eq_true rfl), (Nat.le_of_ble_eq_true rfl)⟩ dL_law_428 (fun H locs hP hS => ?_)
              obtain ⟨r128, σ127, h126, hM⟩ := bnd_i hM
              refine x_callV (As := [.int x6, .int r122, .int r125]) (rest := []) hA ⟨hx, hb, hml, hown, hts⟩ (tX6_lift l D cA ad hJ x6 r122 r125 σ124 _ _ h126) (cwV 3 hts gL_law_X6_lift rfl rfl rfl (by decide +kernel) ⟨(Nat.le_of_ble_eq_true rfl), (Nat.le_of_ble_eq_true rfl)⟩) hK hP hS KC_sb rfl rfl hl.1 rfl (Nat.le_of_ble_eq_true rfl) ⟨(Nat.le_of_ble_eq_true rfl), (Nat.le_of_ble_eq_true rfl)⟩ dL_law_431 (fun H locs hP hS _ _ => ?_)
              refine lv_istore (lv' := [(12, .int r128), (11, .int 1), (1, .ref (ad 62)), (0, .ref b0), (2, .int x2), (3, .int x3), (4, .int x4), (5, .int x5), (6, .int x6), (7, .int x7), (8, .int x8), (9, .int x9), (10, .int x10)]) hx hb dL_law_434 hl (by decide) rfl (fun ls hl => ?_)
              refine lv_iload hx hb dL_law_436 (lv_at hl 0 rfl) ?_
              refine lv_if_gt (tgt := 455) hx hb dL_law_438 (by decide) (fun c129 => ?_) (fun c129 => ?_)
              · have hM := (if_pos c129).symm.trans hM
                exact b455 _ _ _ _ _ _ _ _ _ _ hM hP hS (lv_sub hl [2, 3, 4, 5, 6, 8, 11, 12] rfl)
              · have hM := (if_neg c129).symm.trans hM
                refine lv_iload hx hb dL_law_441 (lv_at hl 0 rfl) ?_
                refine lv_ldc (own := RL) (v := (-1000000002)) hx hb hown (hts (.constant RL 64 (-1000000002)) (by decide +kernel)) dL_law_443 ?_
                refine lv_icmp_eq (tgt := 455) hx hb dL_law_445 (by decide) (fun c130 => ?_) (fun c130 => ?_)
                · have hM := (if_pos c130).symm.trans hM
                  exact b455 _ _ _ _ _ _ _ _ _ _ hM hP hS (lv_sub hl [2, 3, 4, 5, 6, 8, 11, 12] rfl)
                · have hM := (if_neg c130).symm.trans hM
                  refine lv_iload hx hb dL_law_448 (lv_at hl 0 rfl) ?_
                  refine lv_ldc (own := RL) (v := (-1000000003)) hx hb hown (hts (.constant RL 65 (-1000000003)) (by decide +kernel)) dL_law_450 ?_
                  refine lv_icmp_ne (tgt := 459) hx hb dL_law_452 (by decide) (fun c131 => ?_) (fun c131 => ?_)
                  · have hM := (if_neg c131).symm.trans hM
                    refine lv_iconst (v := 0) hx hb dL_law_459 (by decide) ?_
                    exact b460 _ _ _ _ _ _ _ _ _ _ _ hM hP hS (lv_sub hl [2, 3, 4, 5, 6, 8, 11, 12] rfl)
                  · have hM := (if_pos c131).symm.trans hM
                    exact b455 _ _ _ _ _ _ _ _ _ _ hM hP hS (lv_sub hl [2, 3, 4, 5, 6, 8, 11, 12] rfl)
          · have hM := (if_pos c99).symm.trans hM
            refine lv_aload_n hx hb dL_law_377 rfl (lv_at hl 1 rfl) ?_
            refine lv_iload hx hb dL_law_378 (lv_at hl 7 rfl) ?_
            obtain ⟨r134, σ133, h132, hM⟩ := bnd_i hM
            refine x_callS (As := [.ref (ad 62), .int x6]) (rest := []) hA ⟨hx, hb, hml, hown, hts⟩ (tL_turns l D cA ad hJ x6 σ _ _ h132) (va_cwS 2 hts gL_law_L_turns rfl rfl rfl (by decide +kernel) ⟨(Nat.le_of_ble_eq_true rfl), (Nat.le_of_ble_eq_true rfl)⟩) hK hP hS rfl hl.1 rfl (Nat.le_of_ble_eq_true rfl) ⟨(Nat.le_of_ble_eq_true rfl), (Nat.le_of_ble_eq_true rfl)⟩ dL_law_380 (fun H locs hP hS => ?_)
            refine lv_istore (lv' := [(11, .int r134), (1, .ref (ad 62)), (0, .ref b0), (2, .int x2), (3, .int x3), (4, .int x4), (5, .int x5), (6, .int x6), (7, .int x7), (8, .int x8), (9, .int x9), (10, .int x10)]) hx hb dL_law_383 hl (by decide) rfl (fun ls hl => ?_)
            refine lv_iload_n hx hb dL_law_385 rfl (lv_at hl 4 rfl) ?_
            refine lv_if_ne (tgt := 394) hx hb dL_law_386 (by decide) (fun c135 => ?_) (fun c135 => ?_)
            · have hM := (if_neg c135).symm.trans hM
              exact b394 _ _ _ _ _ _ _ _ _ hM hP hS (lv_sub hl [1, 2, 3, 5, 7, 10, 0] rfl)
            · have hM := (if_pos c135).symm.trans hM
              refine lv_iload hx hb dL_law_389 (lv_at hl 11 rfl) ?_
              refine lv_if_le (tgt := 398) hx hb dL_law_391 (by decide) (fun c136 => ?_) (fun c136 => ?_)
              · have hM := (if_pos c136).symm.trans hM
                refine lv_iconst (v := 0) hx hb dL_law_398 (by decide) ?_
                exact b399 _ _ _ _ _ _ _ _ _ _ hM hP hS (lv_sub hl [1, 2, 3, 5, 7, 10, 0] rfl)
              · have hM := (if_neg c136).symm.trans hM
                exact b394 _ _ _ _ _ _ _ _ _ hM hP hS (lv_sub hl [1, 2, 3, 5, 7, 10, 0] rfl)
        · have hM := (if_neg c98).symm.trans hM
          refine lv_aload_n hx hb dL_law_177 rfl (lv_at hl 1 rfl) ?_
          refine lv_iload hx hb dL_law_178 (lv_at hl 7 rfl) ?_
          refine lv_iload hx hb dL_law_180 (lv_at hl 6 rfl) ?_
          refine lv_bipush (v := 9) hx hb dL_law_182 (by decide) ?_
          refine lv_ishr hx hb dL_law_184 ?_
          refine lv_iconst (v := 4) hx hb dL_law_185 (by decide) ?_
          obtain ⟨r139, σ138, h137, hM⟩ := bnd_i hM
          refine x_callS (As := [.int (x5 >>> (9 &&& 31)), .int 4]) (rest := [.int x6, .ref (ad 62)]) hA ⟨hx, hb, hml, hown, hts⟩ (tL_low l D cA ad hJ (x5 >>> (9 &&& 31)) 4 σ _ _ h137) (va_cwS 2 hts gL_law_L_low rfl rfl rfl (by decide +kernel) ⟨(Nat.le_of_ble_eq_true rfl), (Nat.le_of_ble_eq_true rfl)⟩) hK hP hS rfl hl.1 rfl (Nat.le_of_ble_eq_true rfl) ⟨(Nat.le_of_ble_eq_true rfl), (Nat.le_of_ble_eq_true rfl)⟩ dL_law_186 (fun H locs hP hS => ?_)
          refine lv_iload hx hb dL_law_189 (lv_at hl 6 rfl) ?_
          refine lv_bipush (v := 11) hx hb dL_law_191 (by decide) ?_
          refine lv_ishr hx hb dL_law_193 ?_
          refine lv_iconst (v := 4) hx hb dL_law_194 (by decide) ?_
          obtain ⟨r142, σ141, h140, hM⟩ := bnd_i hM
          refine x_callS (As := [.int (x5 >>> (11 &&& 31)), .int 4]) (rest := [.int r139, .int x6, .ref (ad 62)]) hA ⟨hx, hb, hml, hown, hts⟩ (tL_low l D cA ad hJ (x5 >>> (11 &&& 31)) 4 σ138 _ _ h140) (va_cwS 2 hts gL_law_L_low rfl rfl rfl (by decide +kernel) ⟨(Nat.le_of_ble_eq_true rfl), (Nat.le_of_ble_eq_true rfl)⟩) hK hP hS rfl hl.1 rfl (Nat.le_of_ble_eq_true rfl) ⟨(Nat.le_of_ble_eq_true rfl), (Nat.le_of_ble_eq_true rfl)⟩ dL_law_195 (fun H locs hP hS => ?_)
          refine lv_iload hx hb dL_law_198 (lv_at hl 6 rfl) ?_
          refine lv_bipush (v := 13) hx hb dL_law_200 (by decide) ?_
          refine lv_ishr hx hb dL_law_202 ?_
          refine lv_bipush (v := 8) hx hb dL_law_203 (by decide) ?_
          obtain ⟨r145, σ144, h143, hM⟩ := bnd_i hM
          refine x_callS (As := [.int (x5 >>> (13 &&& 31)), .int 8]) (rest := [.int r142, .int r139, .int x6, .ref (ad 62)]) hA ⟨hx, hb, hml, hown, hts⟩ (tL_low l D cA ad hJ (x5 >>> (13 &&& 31)) 8 σ141 _ _ h143) (va_cwS 2 hts gL_law_L_low rfl rfl rfl (by decide +kernel) ⟨(Nat.le_of_ble_eq_true rfl), (Nat.le_of_ble_eq_true rfl)⟩) hK hP hS rfl hl.1 rfl (Nat.le_of_ble_eq_true rfl) ⟨(Nat.le_of_ble_eq_true rfl), (Nat.le_of_ble_eq_true rfl)⟩ dL_law_205 (fun H locs hP hS => ?_)
          refine lv_iload hx hb dL_law_208 (lv_at hl 6 rfl) ?_
          refine lv_bipush (v := 16) hx hb dL_law_210 (by decide) ?_
          refine lv_ishr hx hb dL_law_212 ?_
          refine lv_iconst (v := 4) hx hb dL_law_213 (by decide) ?_
          obtain ⟨r148, σ147, h146, hM⟩ := bnd_i hM
          refine x_callS (As := [.int (x5 >>> (16 &&& 31)), .int 4]) (rest := [.int r145, .int r142, .int r139, .int x6, .ref (ad 62)]) hA ⟨hx, hb, hml, hown, hts⟩ (tL_low l D cA ad hJ (x5 >>> (16 &&& 31)) 4 σ144 _ _ h146) (va_cwS 2 hts gL_law_L_low rfl rfl rfl (by decide +kernel) ⟨(Nat.le_of_ble_eq_true rfl), (Nat.le_of_ble_eq_true rfl)⟩) hK hP hS rfl hl.1 rfl (Nat.le_of_ble_eq_true rfl) ⟨(Nat.le_of_ble_eq_true rfl), (Nat.le_of_ble_eq_true rfl)⟩ dL_law_214 (fun H locs hP hS => ?_)
          obtain ⟨r151, σ150, h149, hM⟩ := bnd_i hM
          refine x_callV (As := [.int x6, .int r139, .int r142, .int r145, .int r148]) (rest := []) hA ⟨hx, hb, hml, hown, hts⟩ (tX6_penDown l D cA ad hJ x6 r139 r142 r145 r148 σ147 _ _ h149) (cwV 5 hts gL_law_X6_penDown rfl rfl rfl (by decide +kernel) ⟨(Nat.le_of_ble_eq_true rfl), (Nat.le_of_ble_eq_true rfl)⟩) hK hP hS KC_sb rfl rfl hl.1 rfl (Nat.le_of_ble_eq_true rfl) ⟨(Nat.le_of_ble_eq_true rfl), (Nat.le_of_ble_eq_true rfl)⟩ dL_law_217 (fun H locs hP hS _ _ => ?_)
          refine lv_iconst (v := 1) hx hb dL_law_220 (by decide) ?_
          refine lv_icmp_ne (tgt := 228) hx hb dL_law_221 (by decide) (fun c152 => ?_) (fun c152 => ?_)
          · have hM := (if_neg c152).symm.trans hM
            refine lv_iconst (v := 0) hx hb dL_law_228 (by decide) ?_
            refine lv_istore (lv' := [(11, .int 0), (1, .ref (ad 62)), (0, .ref b0), (2, .int x2), (3, .int x3), (4, .int x4), (5, .int x5), (6, .int x6), (7, .int x7), (8, .int x8), (9, .int x9), (10, .int x10)]) hx hb dL_law_229 hl (by decide) rfl (fun ls hl => ?_)
            refine lv_iconst (v := 0) hx hb dL_law_231 (by decide) ?_
            refine lv_istore (lv' := [(12, .int 0), (11, .int 0), (1, .ref (ad 62)), (0, .ref b0), (2, .int x2), (3, .int x3), (4, .int x4), (5, .int x5), (6, .int x6), (7, .int x7), (8, .int x8), (9, .int x9), (10, .int x10)]) hx hb dL_law_232 hl (by decide) rfl (fun ls hl => ?_)
            exact L234 fu _ _ _ _ _ _ _ _ _ _ _ _ _ hM hP hS (lv_sub hl [2, 3, 4, 5, 6, 7, 8, 11, 12, 1, 0] rfl)
          · have hM := (if_pos c152).symm.trans hM
            refine lv_iconst (v := 1) hx hb dL_law_224 (by decide) ?_
            refine lv_goto (tgt := 229) hx hb dL_law_225 (by decide) ?_
            refine lv_istore (lv' := [(11, .int 1), (1, .ref (ad 62)), (0, .ref b0), (2, .int x2), (3, .int x3), (4, .int x4), (5, .int x5), (6, .int x6), (7, .int x7), (8, .int x8), (9, .int x9), (10, .int x10)]) hx hb dL_law_229 hl (by decide) rfl (fun ls hl => ?_)
            refine lv_iconst (v := 0) hx hb dL_law_231 (by decide) ?_
            refine lv_istore (lv' := [(12, .int 0), (11, .int 1), (1, .ref (ad 62)), (0, .ref b0), (2, .int x2), (3, .int x3), (4, .int x4), (5, .int x5), (6, .int x6), (7, .int x7), (8, .int x8), (9, .int x9), (10, .int x10)]) hx hb dL_law_232 hl (by decide) rfl (fun ls hl => ?_)
            exact L234 fu _ _ _ _ _ _ _ _ _ _ _ _ _ hM hP hS (lv_sub hl [2, 3, 4, 5, 6, 7, 8, 11, 12, 1, 0] rfl)
      have L126 : ∀ (n : Nat) (x2 x3 x4 x5 x6 x7 x8 x9 x10 x11 : Int32) (σ : St) (H : Heap) (locs : List Loc) (ls : Array Slot), mL_law_L126 xs L (mL_law_L57 xs L n57) n x2 x3 x4 x5 x6 x7 x8 x9 x10 x11 σ = some (1, σ') → w_P D cA ad KC σ H → va_S A s.heap H locs → lv_has ls 14 [(1, .ref (ad 62)), (0, .ref b0), (2, .int x2), (3, .int x3), (4, .int x4), (5, .int x5), (6, .int x6), (7, .int x7), (8, .int x8), (9, .int x9), (10, .int x10), (11, .int x11)] → W p l e room_1 s m #[Value.ref b0] below meth c H locs 63 4446 (lw_Z below #[Value.ref b0] s) (F0 m 126 ls []) := by
        intro n126
        induction n126 with
        | zero =>
          intro x2 x3 x4 x5 x6 x7 x8 x9 x10 x11 σ H locs ls hM hP hS hl
          rw [mL_law_L126] at hM
          cases hM
        | succ n126 ih126 =>
          intro x2 x3 x4 x5 x6 x7 x8 x9 x10 x11 σ H locs ls hM hP hS hl
          rw [mL_law_L126] at hM
          refine lv_iload hx hb dL_law_126 (lv_at hl 11 rfl) ?_
          refine lv_iload_n hx hb dL_law_128 rfl (lv_at hl 2 rfl) ?_
          refine lv_icmp_ge (tgt := 168) hx hb dL_law_129 (by decide) (fun c153 => ?_) (fun c153 => ?_)
          · have hM := (if_pos c153).symm.trans hM
            exact b168 _ _ _ _ _ _ _ _ _ _ _ _ _ hM hP hS (lv_sub hl [0, 1, 2, 3, 4, 5, 6, 7, 8, 9, 10] rfl)
          · have hM := (if_neg c153).symm.trans hM
            refine lv_iload hx hb dL_law_132 (lv_at hl 10 rfl) ?_
            refine lv_iload hx hb dL_law_134 (lv_at hl 11 rfl) ?_
            refine lv_iload hx hb dL_law_136 (lv_at hl 6 rfl) ?_
            refine lv_icmp_eq (tgt := 158) hx hb dL_law_138 (by decide) (fun c154 => ?_) (fun c154 => ?_)
            · have hM := (if_pos c154).symm.trans hM
              refine lv_iconst (v := 0) hx hb dL_law_158 (by decide) ?_
              refine lv_iadd hx hb dL_law_159 ?_
              refine lv_istore (lv' := [(10, .int (x10 + 0)), (1, .ref (ad 62)), (0, .ref b0), (2, .int x2), (3, .int x3), (4, .int x4), (5, .int x5), (6, .int x6), (7, .int x7), (8, .int x8), (9, .int x9), (11, .int x11)]) hx hb dL_law_160 hl (by decide) rfl (fun ls hl => ?_)
              refine lv_iinc (v := (x11 + 1)) (lv' := [(11, .int (x11 + 1)), (10, .int (x10 + 0)), (1, .ref (ad 62)), (0, .ref b0), (2, .int x2), (3, .int x3), (4, .int x4), (5, .int x5), (6, .int x6), (7, .int x7), (8, .int x8), (9, .int x9)]) hx hb dL_law_162 hl (k := 11) rfl rfl (by decide) rfl (fun ls hl => ?_)
              refine lv_goto (tgt := 126) hx hb dL_law_165 (by decide) ?_
              exact ih126 _ _ _ _ _ _ _ _ _ _ _ _ _ _ hM hP hS (lv_sub hl [2, 3, 4, 5, 6, 7, 8, 9, 10, 11, 1, 0] rfl)
            · have hM := (if_neg c154).symm.trans hM
              refine lv_aload_n hx hb dL_law_141 rfl (lv_at hl 0 rfl) ?_
              refine lv_iload hx hb dL_law_142 (lv_at hl 6 rfl) ?_
              refine lv_iload hx hb dL_law_144 (lv_at hl 11 rfl) ?_
              obtain ⟨r157, σ156, h155, hM⟩ := bnd_i hM
              refine x_callV (As := [.int x6, .int x11]) (rest := [.int x10]) hA ⟨hx, hb, hml, hown, hts⟩ (tX6_waiting l D cA ad hJ x6 x11 σ _ _ h155) (cwV 2 hts gL_law_X6_waiting rfl rfl rfl (by decide +kernel) ⟨(Nat.le_of_ble_eq_true rfl), (Nat.le_of_ble_eq_true rfl)⟩) hK hP hS KC_sb rfl rfl hl.1 rfl (Nat.le_of_ble_eq_true rfl) ⟨(Nat.le_of_ble_eq_true rfl), (Nat.le_of_ble_eq_true rfl)⟩ dL_law_146 (fun H locs hP hS _ _ => ?_)
              refine lv_bipush (v := 8) hx hb dL_law_149 (by decide) ?_
              refine lv_icmp_le (tgt := 158) hx hb dL_law_151 (by decide) (fun c158 => ?_) (fun c158 => ?_)
              · have hM := (if_pos c158).symm.trans hM
                refine lv_iconst (v := 0) hx hb dL_law_158 (by decide) ?_
                refine lv_iadd hx hb dL_law_159 ?_
                refine lv_istore (lv' := [(10, .int (x10 + 0)), (1, .ref (ad 62)), (0, .ref b0), (2, .int x2), (3, .int x3), (4, .int x4), (5, .int x5), (6, .int x6), (7, .int x7), (8, .int x8), (9, .int x9), (11, .int x11)]) hx hb dL_law_160 hl (by decide) rfl (fun ls hl => ?_)
                refine lv_iinc (v := (x11 + 1)) (lv' := [(11, .int (x11 + 1)), (10, .int (x10 + 0)), (1, .ref (ad 62)), (0, .ref b0), (2, .int x2), (3, .int x3), (4, .int x4), (5, .int x5), (6, .int x6), (7, .int x7), (8, .int x8), (9, .int x9)]) hx hb dL_law_162 hl (k := 11) rfl rfl (by decide) rfl (fun ls hl => ?_)
                refine lv_goto (tgt := 126) hx hb dL_law_165 (by decide) ?_
                exact ih126 _ _ _ _ _ _ _ _ _ _ _ _ _ _ hM hP hS (lv_sub hl [2, 3, 4, 5, 6, 7, 8, 9, 10, 11, 1, 0] rfl)
              · have hM := (if_neg c158).symm.trans hM
                refine lv_iconst (v := 1) hx hb dL_law_154 (by decide) ?_
                refine lv_goto (tgt := 159) hx hb dL_law_155 (by decide) ?_
                refine lv_iadd hx hb dL_law_159 ?_
                refine lv_istore (lv' := [(10, .int (x10 + 1)), (1, .ref (ad 62)), (0, .ref b0), (2, .int x2), (3, .int x3), (4, .int x4), (5, .int x5), (6, .int x6), (7, .int x7), (8, .int x8), (9, .int x9), (11, .int x11)]) hx hb dL_law_160 hl (by decide) rfl (fun ls hl => ?_)
                refine lv_iinc (v := (x11 + 1)) (lv' := [(11, .int (x11 + 1)), (10, .int (x10 + 1)), (1, .ref (ad 62)), (0, .ref b0), (2, .int x2), (3, .int x3), (4, .int x4), (5, .int x5), (6, .int x6), (7, .int x7), (8, .int x8), (9, .int x9)]) hx hb dL_law_162 hl (k := 11) rfl rfl (by decide) rfl (fun ls hl => ?_)
                refine lv_goto (tgt := 126) hx hb dL_law_165 (by decide) ?_
                exact ih126 _ _ _ _ _ _ _ _ _ _ _ _ _ _ hM hP hS (lv_sub hl [2, 3, 4, 5, 6, 7, 8, 9, 10, 11, 1, 0] rfl)
      intro x2 x3 x4 σ H locs ls hM hP hS hl
      rw [mL_law_L57] at hM
      refine lv_iload hx hb dL_law_57 (lv_at hl 4 rfl) ?_
      refine lv_bipush (v := 26) hx hb dL_law_59 (by decide) ?_
      refine lv_icmp_ge (tgt := 808) hx hb dL_law_61 (by decide) (fun c159 => ?_) (fun c159 => ?_)
      · have hM := (if_pos c159).symm.trans hM
        exact b808 _ _ _ _ _ _ hM hP hS (lv_sub hl [0, 1, 2, 3] rfl)
      · have hM := (if_neg c159).symm.trans hM
        refine lv_aload_n hx hb dL_law_64 rfl (lv_at hl 1 rfl) ?_
        refine lv_iconst (v := 1) hx hb dL_law_65 (by decide) ?_
        refine lv_iload hx hb dL_law_66 (lv_at hl 4 rfl) ?_
        refine lv_iadd hx hb dL_law_68 ?_
        obtain ⟨r161, h160, hM⟩ := bni_i hM
        refine x_cell (rest := []) ⟨hx, hb, hml, hown, hts⟩ hX hbl hbA hP hS h160 hl.1 (Nat.le_of_ble_eq_true rfl) dL_law_69 (fun H locs hP hS => ?_)
        refine lv_istore (lv' := [(5, .int r161), (1, .ref (ad 62)), (0, .ref b0), (2, .int x2), (3, .int x3), (4, .int x4)]) hx hb dL_law_72 hl (by decide) rfl (fun ls hl => ?_)
        refine lv_iload hx hb dL_law_74 (lv_at hl 0 rfl) ?_
        refine lv_iconst (v := 4) hx hb dL_law_76 (by decide) ?_
        refine lv_ishr hx hb dL_law_77 ?_
        refine lv_iload_n hx hb dL_law_78 rfl (lv_at hl 3 rfl) ?_
        obtain ⟨r164, σ163, h162, hM⟩ := bnd_i hM
        refine x_callS (As := [.int (r161 >>> (4 &&& 31)), .int x2]) (rest := []) hA ⟨hx, hb, hml, hown, hts⟩ (tL_low l D cA ad hJ (r161 >>> (4 &&& 31)) x2 σ _ _ h162) (va_cwS 2 hts gL_law_L_low rfl rfl rfl (by decide +kernel) ⟨(Nat.le_of_ble_eq_true rfl), (Nat.le_of_ble_eq_true rfl)⟩) hK hP hS rfl hl.1 rfl (Nat.le_of_ble_eq_true rfl) ⟨(Nat.le_of_ble_eq_true rfl), (Nat.le_of_ble_eq_true rfl)⟩ dL_law_79 (fun H locs hP hS => ?_)
        refine lv_istore (lv' := [(6, .int r164), (5, .int r161), (1, .ref (ad 62)), (0, .ref b0), (2, .int x2), (3, .int x3), (4, .int x4)]) hx hb dL_law_82 hl (by decide) rfl (fun ls hl => ?_)
        refine lv_iload hx hb dL_law_84 (lv_at hl 0 rfl) ?_
        refine lv_iconst (v := 1) hx hb dL_law_86 (by decide) ?_
        refine lv_iadd hx hb dL_law_87 ?_
        refine lv_iload hx hb dL_law_88 (lv_at hl 1 rfl) ?_
        refine lv_bipush (v := 7) hx hb dL_law_90 (by decide) ?_
        refine lv_ishr hx hb dL_law_92 ?_
        refine lv_iconst (v := 4) hx hb dL_law_93 (by decide) ?_
        obtain ⟨r167, σ166, h165, hM⟩ := bnd_i hM
        refine x_callS (As := [.int (r161 >>> (7 &&& 31)), .int 4]) (rest := [.int (r164 + 1)]) hA ⟨hx, hb, hml, hown, hts⟩ (tL_low l D cA ad hJ (r161 >>> (7 &&& 31)) 4 σ163 _ _ h165) (va_cwS 2 hts gL_law_L_low rfl rfl rfl (by decide +kernel) ⟨(Nat.le_of_ble_eq_true rfl), (Nat.le_of_ble_eq_true rfl)⟩) hK hP hS rfl hl.1 rfl (Nat.le_of_ble_eq_true rfl) ⟨(Nat.le_of_ble_eq_true rfl), (Nat.le_of_ble_eq_true rfl)⟩ dL_law_94 (fun H locs hP hS => ?_)
        refine lv_iadd hx hb dL_law_97 ?_
        refine lv_iload_n hx hb dL_law_98 rfl (lv_at hl 4 rfl) ?_
        obtain ⟨h168, hM⟩ := dz_i hM
        refine lv_irem hx hb dL_law_99 h168 ?_
        refine lv_istore (lv' := [(7, .int (rmI ((r164 + 1) + r167) x2)), (6, .int r164), (5, .int r161), (1, .ref (ad 62)), (0, .ref b0), (2, .int x2), (3, .int x3), (4, .int x4)]) hx hb dL_law_100 hl (by decide) rfl (fun ls hl => ?_)
        refine lv_iload hx hb dL_law_102 (lv_at hl 2 rfl) ?_
        refine lv_bipush (v := 14) hx hb dL_law_104 (by decide) ?_
        obtain ⟨r171, σ170, h169, hM⟩ := bnd_i hM
        refine x_callS (As := [.int r161, .int 14]) (rest := []) hA ⟨hx, hb, hml, hown, hts⟩ (tL_low l D cA ad hJ r161 14 σ166 _ _ h169) (va_cwS 2 hts gL_law_L_low rfl rfl rfl (by decide +kernel) ⟨(Nat.le_of_ble_eq_true rfl), (Nat.le_of_ble_eq_true rfl)⟩) hK hP hS rfl hl.1 rfl (Nat.le_of_ble_eq_true rfl) ⟨(Nat.le_of_ble_eq_true rfl), (Nat.le_of_ble_eq_true rfl)⟩ dL_law_106 (fun H locs hP hS => ?_)
        refine lv_istore (lv' := [(8, .int r171), (7, .int (rmI ((r164 + 1) + r167) x2)), (6, .int r164), (5, .int r161), (1, .ref (ad 62)), (0, .ref b0), (2, .int x2), (3, .int x3), (4, .int x4)]) hx hb dL_law_109 hl (by decide) rfl (fun ls hl => ?_)
        refine lv_aload_n hx hb dL_law_111 rfl (lv_at hl 4 rfl) ?_
        refine lv_iload hx hb dL_law_112 (lv_at hl 2 rfl) ?_
        refine lv_iconst (v := 0) hx hb dL_law_114 (by decide) ?_
        obtain ⟨r174, σ173, h172, hM⟩ := bnd_i hM
        refine x_callV (As := [.int r164, .int 0]) (rest := []) hA ⟨hx, hb, hml, hown, hts⟩ (tX6_siteInfo l D cA ad hJ r164 0 σ170 _ _ h172) (cwV 2 hts gL_law_X6_siteInfo rfl rfl rfl (by decide +kernel) ⟨(Nat.le_of_ble_eq_true rfl), (Nat.le_of_ble_eq_true rfl)⟩) hK hP hS KC_sb rfl rfl hl.1 rfl (Nat.le_of_ble_eq_true rfl) ⟨(Nat.le_of_ble_eq_true rfl), (Nat.le_of_ble_eq_true rfl)⟩ dL_law_115 (fun H locs hP hS _ _ => ?_)
        refine lv_istore (lv' := [(9, .int r174), (8, .int r171), (7, .int (rmI ((r164 + 1) + r167) x2)), (6, .int r164), (5, .int r161), (1, .ref (ad 62)), (0, .ref b0), (2, .int x2), (3, .int x3), (4, .int x4)]) hx hb dL_law_118 hl (by decide) rfl (fun ls hl => ?_)
        refine lv_iconst (v := 0) hx hb dL_law_120 (by decide) ?_
        refine lv_istore (lv' := [(10, .int 0), (9, .int r174), (8, .int r171), (7, .int (rmI ((r164 + 1) + r167) x2)), (6, .int r164), (5, .int r161), (1, .ref (ad 62)), (0, .ref b0), (2, .int x2), (3, .int x3), (4, .int x4)]) hx hb dL_law_121 hl (by decide) rfl (fun ls hl => ?_)
        refine lv_iconst (v := 0) hx hb dL_law_123 (by decide) ?_
        refine lv_istore (lv' := [(11, .int 0), (10, .int 0), (9, .int r174), (8, .int r171), (7, .int (rmI ((r164 + 1) + r167) x2)), (6, .int r164), (5, .int r161), (1, .ref (ad 62)), (0, .ref b0), (2, .int x2), (3, .int x3), (4, .int x4)]) hx hb dL_law_124 hl (by decide) rfl (fun ls hl => ?_)
        exact L126 fu _ _ _ _ _ _ _ _ _ _ _ _ _ _ hM hP hS (lv_sub hl [7, 8, 9, 10, 11, 6, 5, 4, 3, 2, 1, 0] rfl)
  intro σ H locs ls hM hP hS hl
  unfold mL_law at hM
  refine lv_iconst (v := 1) hx hb dL_law_8 (by decide) ?_
  refine lv_aload_n hx hb dL_law_9 rfl (lv_at hl 1 rfl) ?_
  refine lv_iconst (v := 0) hx hb dL_law_10 (by decide) ?_
  obtain ⟨r176, h175, hM⟩ := bni_i hM
  refine x_cell (rest := [.int 1]) ⟨hx, hb, hml, hown, hts⟩ hX hbl hbA hP hS h175 hl.1 (Nat.le_of_ble_eq_true rfl) dL_law_11 (fun H locs hP hS => ?_)
  refine lv_iconst (v := 5) hx hb dL_law_14 (by decide) ?_
  obtain ⟨r179, σ178, h177, hM⟩ := bnd_i hM
  refine x_callS (As := [.int r176, .int 5]) (rest := [.int 1]) hA ⟨hx, hb, hml, hown, hts⟩ (tL_low l D cA ad hJ r176 5 σ _ _ h177) (va_cwS 2 hts gL_law_L_low rfl rfl rfl (by decide +kernel) ⟨(Nat.le_of_ble_eq_true rfl), (Nat.le_of_ble_eq_true rfl)⟩) hK hP hS rfl hl.1 rfl (Nat.le_of_ble_eq_true rfl) ⟨(Nat.le_of_ble_eq_true rfl), (Nat.le_of_ble_eq_true rfl)⟩ dL_law_15 (fun H locs hP hS => ?_)
  refine lv_iadd hx hb dL_law_18 ?_
  refine lv_istore_n (lv' := [(2, .int (1 + r179)), (1, .ref (ad 62)), (0, .ref b0)]) hx hb dL_law_19 rfl hl (by decide) rfl (fun ls hl => ?_)
  refine lv_aload_n hx hb dL_law_20 rfl (lv_at hl 1 rfl) ?_
  obtain ⟨r182, σ181, h180, hM⟩ := bnd_i hM
  refine x_callS (As := [.ref (ad 62)]) (rest := []) hA ⟨hx, hb, hml, hown, hts⟩ (tL_refuses l D cA ad hJ σ178 _ _ h180) (va_cwS 1 hts gL_law_L_refuses rfl rfl rfl (by decide +kernel) ⟨(Nat.le_of_ble_eq_true rfl), (Nat.le_of_ble_eq_true rfl)⟩) hK hP hS rfl hl.1 rfl (Nat.le_of_ble_eq_true rfl) ⟨(Nat.le_of_ble_eq_true rfl), (Nat.le_of_ble_eq_true rfl)⟩ dL_law_21 (fun H locs hP hS => ?_)
  refine lv_if_eq (tgt := 50) hx hb dL_law_24 (by decide) (fun c183 => ?_) (fun c183 => ?_)
  · have hM := (if_pos c183).symm.trans hM
    refine lv_iconst (v := 0) hx hb dL_law_50 (by decide) ?_
    exact lw_end hx hb hr hlk hA' hS hM dL_law_51
  · have hM := (if_neg c183).symm.trans hM
    refine lv_aload_n hx hb dL_law_27 rfl (lv_at hl 1 rfl) ?_
    refine lv_iload_n hx hb dL_law_28 rfl (lv_at hl 0 rfl) ?_
    obtain ⟨r186, σ185, h184, hM⟩ := bnd_i hM
    refine x_callV (As := [.int (1 + r179)]) (rest := []) hA ⟨hx, hb, hml, hown, hts⟩ (tX6_reset l D cA ad hJ (1 + r179) σ181 _ _ h184) (cwV 1 hts gL_law_X6_reset rfl rfl rfl (by decide +kernel) ⟨(Nat.le_of_ble_eq_true rfl), (Nat.le_of_ble_eq_true rfl)⟩) hK hP hS KC_sb rfl rfl hl.1 rfl (Nat.le_of_ble_eq_true rfl) ⟨(Nat.le_of_ble_eq_true rfl), (Nat.le_of_ble_eq_true rfl)⟩ dL_law_29 (fun H locs hP hS _ _ => ?_)
    refine lv_iconst (v := 2) hx hb dL_law_32 (by decide) ?_
    refine lv_icmp_ne (tgt := 50) hx hb dL_law_33 (by decide) (fun c187 => ?_) (fun c187 => ?_)
    · have hM := (if_neg c187).symm.trans hM
      refine lv_iconst (v := 0) hx hb dL_law_50 (by decide) ?_
      exact lw_end hx hb hr hlk hA' hS hM dL_law_51
    · have hM := (if_pos c187).symm.trans hM
      refine lv_aload_n hx hb dL_law_36 rfl (lv_at hl 1 rfl) ?_
      obtain ⟨r190, σ189, h188, hM⟩ := bnd_i hM
      refine x_callV (As := []) (rest := []) hA ⟨hx, hb, hml, hown, hts⟩ (tX6_differing l D cA ad hJ σ185 _ _ h188) (cwV 0 hts gL_law_X6_differing rfl rfl rfl (by decide +kernel) ⟨(Nat.le_of_ble_eq_true rfl), (Nat.le_of_ble_eq_true rfl)⟩) hK hP hS KC_sb rfl rfl hl.1 rfl (Nat.le_of_ble_eq_true rfl) ⟨(Nat.le_of_ble_eq_true rfl), (Nat.le_of_ble_eq_true rfl)⟩ dL_law_37 (fun H locs hP hS _ _ => ?_)
      refine lv_if_ne (tgt := 50) hx hb dL_law_40 (by decide) (fun c191 => ?_) (fun c191 => ?_)
      · have hM := (if_neg c191).symm.trans hM
        refine lv_iconst (v := 0) hx hb dL_law_50 (by decide) ?_
        exact lw_end hx hb hr hlk hA' hS hM dL_law_51
      · have hM := (if_pos c191).symm.trans hM
        refine lv_aload_n hx hb dL_law_43 rfl (lv_at hl 1 rfl) ?_
        obtain ⟨r194, σ193, h192, hM⟩ := bnd_i hM
        refine x_callS (As := [.ref (ad 62)]) (rest := []) hA ⟨hx, hb, hml, hown, hts⟩ (tL_refuses l D cA ad hJ σ189 _ _ h192) (va_cwS 1 hts gL_law_L_refuses rfl rfl rfl (by decide +kernel) ⟨(Nat.le_of_ble_eq_true rfl), (Nat.le_of_ble_eq_true rfl)⟩) hK hP hS rfl hl.1 rfl (Nat.le_of_ble_eq_true rfl) ⟨(Nat.le_of_ble_eq_true rfl), (Nat.le_of_ble_eq_true rfl)⟩ dL_law_44 (fun H locs hP hS => ?_)
        refine lv_if_ne (tgt := 52) hx hb dL_law_47 (by decide) (fun c195 => ?_) (fun c195 => ?_)
        · have hM := (if_neg c195).symm.trans hM
          refine lv_iconst (v := 0) hx hb dL_law_52 (by decide) ?_
          refine lv_istore_n (lv' := [(3, .int 0), (2, .int (1 + r179)), (1, .ref (ad 62)), (0, .ref b0)]) hx hb dL_law_53 rfl hl (by decide) rfl (fun ls hl => ?_)
          refine lv_iconst (v := 0) hx hb dL_law_54 (by decide) ?_
          refine lv_istore (lv' := [(4, .int 0), (3, .int 0), (2, .int (1 + r179)), (1, .ref (ad 62)), (0, .ref b0)]) hx hb dL_law_55 hl (by decide) rfl (fun ls hl => ?_)
          exact L57 fu _ _ _ _ _ _ _ hM hP hS (lv_sub hl [3, 4, 2, 1, 0] rfl)
        · have hM := (if_pos c195).symm.trans hM
          refine lv_iconst (v := 0) hx hb dL_law_50 (by decide) ?_
          exact lw_end hx hb hr hlk hA' hS hM dL_law_51
