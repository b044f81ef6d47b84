/-! The walks, laid by wip/whole/gen.py. -/
set_option maxHeartbeats 4000000 in
set_option maxRecDepth 100000 in
theorem tX7_in (l : Launch) (D : va_G) (cA : ClassId) (ad : Nat → Nat) (hJ : w_J ad KM) (u0 u1 u2 : Int32) (σ σ' : St) (r : Int32) (hM : mX7_in u0 u1 u2 σ = some (r, σ')) : Ct l yX7_in wsX7_in 0 0 D cA ad KM [.int u0, .int u1, .int u2] σ r σ' := by
  unfold Ct
  refine Met_of (cc := cX7_in) (maxL := 3) (ret := (some .boolean)) hJ (by decide +kernel) rfl (Nat.le_of_ble_eq_true rfl) ?_
  intro p e s m below meth c Z H locs ls hP hS hl
  obtain ⟨hx, hb, hml, hown, hts, hr, hlk, hK, -⟩ := Z
  have hown : s.vm.findClass RX7 = some m.cls := hown
  have hl : lv_has ls 3 [(0, .int u0), (1, .int u1), (2, .int u2)] := hl
  have hA : ∀ q, w_A ad KM q → w_A ad KM q := fun _ h => h
  unfold mX7_in at hM
  refine lv_iload_n hx hb dX7_in_0 rfl (lv_at hl 0 rfl) ?_
  refine lv_iload_n hx hb dX7_in_1 rfl (lv_at hl 1 rfl) ?_
  refine lv_icmp_lt (tgt := 14) hx hb dX7_in_2 (by decide) (fun c1 => ?_) (fun c1 => ?_)
  · have hM := (if_pos c1).symm.trans hM
    refine lv_iconst (v := 0) hx hb dX7_in_14 (by decide) ?_
    exact x_zret hx hb hr hlk hP hS hM dX7_in_15
  · have hM := (if_neg c1).symm.trans hM
    refine lv_iload_n hx hb dX7_in_5 rfl (lv_at hl 0 rfl) ?_
    refine lv_iload_n hx hb dX7_in_6 rfl (lv_at hl 2 rfl) ?_
    refine lv_icmp_gt (tgt := 14) hx hb dX7_in_7 (by decide) (fun c2 => ?_) (fun c2 => ?_)
    · have hM := (if_pos c2).symm.trans hM
      refine lv_iconst (v := 0) hx hb dX7_in_14 (by decide) ?_
      exact x_zret hx hb hr hlk hP hS hM dX7_in_15
    · have hM := (if_neg c2).symm.trans hM
      refine lv_iconst (v := 1) hx hb dX7_in_10 (by decide) ?_
      refine lv_goto (tgt := 15) hx hb dX7_in_11 (by decide) ?_
      exact x_zret hx hb hr hlk hP hS hM dX7_in_15
theorem hinX7_X7_isSite : ∀ w ∈ u_ws RX7 TX7 14, w ∈ wsX7_isSite := by decide +kernel
set_option maxHeartbeats 4000000 in
set_option maxRecDepth 100000 in
theorem tX7_isSite (l : Launch) (D : va_G) (cA : ClassId) (ad : Nat → Nat) (hJ : w_J ad KM) (u1 : Int32) (σ σ' : St) (r : Int32) (hM : mX7_isSite u1 σ = some (r, σ')) : Ct l yX7_isSite wsX7_isSite 1 22 D cA ad KM [.ref (ad 0), .int u1] σ r σ' := by
  unfold Ct
  refine Met_of (cc := cX7_isSite) (maxL := 2) (ret := (some .boolean)) hJ (by decide +kernel) rfl (Nat.le_of_ble_eq_true rfl) ?_
  intro p e s m below meth c Z H locs ls hP hS hl
  obtain ⟨hx, hb, hml, hown, hts, hr, hlk, hK, -⟩ := Z
  have hown : s.vm.findClass RX7 = some m.cls := hown
  have hl : lv_has ls 2 [(0, .ref (ad 0)), (1, .int u1)] := hl
  have hA : ∀ q, w_A ad KM q → w_A ad KM q := fun _ h => h
  unfold mX7_isSite at hM
  refine lv_iload_n hx hb dX7_isSite_0 rfl (lv_at hl 1 rfl) ?_
  refine lv_iconst (v := 0) hx hb dX7_isSite_1 (by decide) ?_
  refine lv_aload_n hx hb dX7_isSite_2 rfl (lv_at hl 0 rfl) ?_
  refine x_geti (own := RX7) (C := RX7) (T := TX7) (N := 14) hx hb hts hinX7_X7_isSite hown hK hP KM_obj rfl 0 (by decide) (hts (.fieldLink RX7 7 "StrokeBoardModel" "sites" "I") (by decide +kernel)) rfl dX7_isSite_3 ?_
  refine lv_iconst (v := 1) hx hb dX7_isSite_6 (by decide) ?_
  refine lv_isub hx hb dX7_isSite_7 ?_
  obtain ⟨r3, σ2, h1, hM⟩ := bnd_i hM
  refine x_callS (As := [.int u1, .int 0, .int ((σ 12 0) - 1)]) (rest := []) hA ⟨hx, hb, hml, hown, hts⟩ (tX7_in l D cA ad hJ u1 0 ((σ 12 0) - 1) σ _ _ h1) (va_cwS 3 hts gX7_isSite_X7_in rfl rfl rfl (by decide +kernel) ⟨(Nat.le_of_ble_eq_true rfl), (Nat.le_of_ble_eq_true rfl)⟩) hK hP hS rfl hl.1 rfl (Nat.le_of_ble_eq_true rfl) ⟨Nat.zero_le _, Nat.zero_le _⟩ dX7_isSite_8 (fun H locs hP hS => ?_)
  exact x_zret hx hb hr hlk hP hS hM dX7_isSite_11
set_option maxHeartbeats 4000000 in
set_option maxRecDepth 100000 in
theorem tX7_isPair (l : Launch) (D : va_G) (cA : ClassId) (ad : Nat → Nat) (hJ : w_J ad KM) (u1 u2 : Int32) (σ σ' : St) (r : Int32) (hM : mX7_isPair u1 u2 σ = some (r, σ')) : Ct l yX7_isPair wsX7_isPair 2 43 D cA ad KM [.ref (ad 0), .int u1, .int u2] σ r σ' := by
  unfold Ct
  refine Met_of (cc := cX7_isPair) (maxL := 3) (ret := (some .boolean)) hJ (by decide +kernel) rfl (Nat.le_of_ble_eq_true rfl) ?_
  intro p e s m below meth c Z H locs ls hP hS hl
  obtain ⟨hx, hb, hml, hown, hts, hr, hlk, hK, -⟩ := Z
  have hown : s.vm.findClass RX7 = some m.cls := hown
  have hl : lv_has ls 3 [(0, .ref (ad 0)), (1, .int u1), (2, .int u2)] := hl
  have hA : ∀ q, w_A ad KM q → w_A ad KM q := fun _ h => h
  unfold mX7_isPair at hM
  refine lv_aload_n hx hb dX7_isPair_0 rfl (lv_at hl 0 rfl) ?_
  refine lv_iload_n hx hb dX7_isPair_1 rfl (lv_at hl 1 rfl) ?_
  obtain ⟨r3, σ2, h1, hM⟩ := bnd_i hM
  refine x_callV (As := [.int u1]) (rest := []) hA ⟨hx, hb, hml, hown, hts⟩ (tX7_isSite l D cA ad hJ u1 σ _ _ h1) (cwV 1 hts gX7_isPair_X7_isSite rfl rfl rfl (by decide +kernel) ⟨(Nat.le_of_ble_eq_true rfl), (Nat.le_of_ble_eq_true rfl)⟩) hK hP hS KM_obj rfl rfl hl.1 rfl (Nat.le_of_ble_eq_true rfl) ⟨Nat.zero_le _, Nat.zero_le _⟩ dX7_isPair_2 (fun H locs hP hS _ _ => ?_)
  refine lv_if_eq (tgt := 25) hx hb dX7_isPair_5 (by decide) (fun c4 => ?_) (fun c4 => ?_)
  · have hM := (if_pos c4).symm.trans hM
    refine lv_iconst (v := 0) hx hb dX7_isPair_25 (by decide) ?_
    exact x_zret hx hb hr hlk hP hS hM dX7_isPair_26
  · have hM := (if_neg c4).symm.trans hM
    refine lv_aload_n hx hb dX7_isPair_8 rfl (lv_at hl 0 rfl) ?_
    refine lv_iload_n hx hb dX7_isPair_9 rfl (lv_at hl 2 rfl) ?_
    obtain ⟨r7, σ6, h5, hM⟩ := bnd_i hM
    refine x_callV (As := [.int u2]) (rest := []) hA ⟨hx, hb, hml, hown, hts⟩ (tX7_isSite l D cA ad hJ u2 σ2 _ _ h5) (cwV 1 hts gX7_isPair_X7_isSite rfl rfl rfl (by decide +kernel) ⟨(Nat.le_of_ble_eq_true rfl), (Nat.le_of_ble_eq_true rfl)⟩) hK hP hS KM_obj rfl rfl hl.1 rfl (Nat.le_of_ble_eq_true rfl) ⟨Nat.zero_le _, Nat.zero_le _⟩ dX7_isPair_10 (fun H locs hP hS _ _ => ?_)
    refine lv_if_eq (tgt := 25) hx hb dX7_isPair_13 (by decide) (fun c8 => ?_) (fun c8 => ?_)
    · have hM := (if_pos c8).symm.trans hM
      refine lv_iconst (v := 0) hx hb dX7_isPair_25 (by decide) ?_
      exact x_zret hx hb hr hlk hP hS hM dX7_isPair_26
    · have hM := (if_neg c8).symm.trans hM
      refine lv_iload_n hx hb dX7_isPair_16 rfl (lv_at hl 1 rfl) ?_
      refine lv_iload_n hx hb dX7_isPair_17 rfl (lv_at hl 2 rfl) ?_
      refine lv_icmp_eq (tgt := 25) hx hb dX7_isPair_18 (by decide) (fun c9 => ?_) (fun c9 => ?_)
      · have hM := (if_pos c9).symm.trans hM
        refine lv_iconst (v := 0) hx hb dX7_isPair_25 (by decide) ?_
        exact x_zret hx hb hr hlk hP hS hM dX7_isPair_26
      · have hM := (if_neg c9).symm.trans hM
        refine lv_iconst (v := 1) hx hb dX7_isPair_21 (by decide) ?_
        refine lv_goto (tgt := 26) hx hb dX7_isPair_22 (by decide) ?_
        exact x_zret hx hb hr hlk hP hS hM dX7_isPair_26
set_option maxHeartbeats 4000000 in
set_option maxRecDepth 100000 in
theorem tX7_place (l : Launch) (D : va_G) (cA : ClassId) (ad : Nat → Nat) (hJ : w_J ad KM) (u0 u1 : Int32) (σ σ' : St) (r : Int32) (hM : mX7_place u0 u1 σ = some (r, σ')) : Ct l yX7_place wsX7_place 0 0 D cA ad KM [.int u0, .int u1] σ r σ' := by
  unfold Ct
  refine Met_of (cc := cX7_place) (maxL := 2) (ret := (some .int)) hJ (by decide +kernel) rfl (Nat.le_of_ble_eq_true rfl) ?_
  intro p e s m below meth c Z H locs ls hP hS hl
  obtain ⟨hx, hb, hml, hown, hts, hr, hlk, hK, -⟩ := Z
  have hown : s.vm.findClass RX7 = some m.cls := hown
  have hl : lv_has ls 2 [(0, .int u0), (1, .int u1)] := hl
  have hA : ∀ q, w_A ad KM q → w_A ad KM q := fun _ h => h
  unfold mX7_place at hM
  refine lv_bipush (v := 20) hx hb dX7_place_0 (by decide) ?_
  refine lv_iload_n hx hb dX7_place_2 rfl (lv_at hl 0 rfl) ?_
  refine lv_imul hx hb dX7_place_3 ?_
  refine lv_iload_n hx hb dX7_place_4 rfl (lv_at hl 1 rfl) ?_
  refine lv_iadd hx hb dX7_place_5 ?_
  refine lv_iconst (v := 1) hx hb dX7_place_6 (by decide) ?_
  refine lv_isub hx hb dX7_place_7 ?_
  exact x_iret hx hb hr hlk hP hS hM dX7_place_8
theorem hinX7_X7_of : ∀ w ∈ u_ws RX7 TX7 14, w ∈ wsX7_of := by decide +kernel
set_option maxHeartbeats 4000000 in
set_option maxRecDepth 100000 in
theorem tX7_of (l : Launch) (D : va_G) (cA : ClassId) (ad : Nat → Nat) (hJ : w_J ad KM) (u1 u2 : Int32) (σ σ' : St) (r : Int32) (hM : mX7_of u1 u2 σ = some (r, σ')) : Ct l yX7_of wsX7_of 0 0 D cA ad KM [.ref (ad 0), .int u1, .int u2] σ r σ' := by
  unfold Ct
  refine Met_of (cc := cX7_of) (maxL := 3) (ret := (some .int)) hJ (by decide +kernel) rfl (Nat.le_of_ble_eq_true rfl) ?_
  intro p e s m below meth c Z H locs ls hP hS hl
  obtain ⟨hx, hb, hml, hown, hts, hr, hlk, hK, -⟩ := Z
  have hown : s.vm.findClass RX7 = some m.cls := hown
  have hl : lv_has ls 3 [(0, .ref (ad 0)), (1, .int u1), (2, .int u2)] := hl
  have hA : ∀ q, w_A ad KM q → w_A ad KM q := fun _ h => h
  unfold mX7_of at hM
  refine lv_aload_n hx hb dX7_of_0 rfl (lv_at hl 0 rfl) ?_
  refine x_getr (own := RX7) (C := RX7) (T := TX7) (N := 14) hx hb hts hinX7_X7_of hown hK hP KM_obj rfl 1 (by decide) (hts (.fieldLink RX7 13 "StrokeBoardModel" "ops" "[I") (by decide +kernel)) rfl dX7_of_1 ?_
  refine lv_bipush (v := 21) hx hb dX7_of_4 (by decide) ?_
  refine lv_iload_n hx hb dX7_of_6 rfl (lv_at hl 1 rfl) ?_
  refine lv_imul hx hb dX7_of_7 ?_
  refine lv_iload_n hx hb dX7_of_8 rfl (lv_at hl 2 rfl) ?_
  refine lv_iadd hx hb dX7_of_9 ?_
  obtain ⟨h1, hM⟩ := ix_i hM
  refine x_iald hx hb hK hP rfl h1 dX7_of_10 ?_
  exact x_iret hx hb hr hlk hP hS hM dX7_of_11
theorem hinX7_X7_doesKnow : ∀ w ∈ u_ws RX7 TX7 14, w ∈ wsX7_doesKnow := by decide +kernel
set_option maxHeartbeats 4000000 in
set_option maxRecDepth 100000 in
theorem tX7_doesKnow (l : Launch) (D : va_G) (cA : ClassId) (ad : Nat → Nat) (hJ : w_J ad KM) (u1 u2 : Int32) (σ σ' : St) (r : Int32) (hM : mX7_doesKnow u1 u2 σ = some (r, σ')) : Ct l yX7_doesKnow wsX7_doesKnow 0 0 D cA ad KM [.ref (ad 0), .int u1, .int u2] σ r σ' := by
  unfold Ct
  refine Met_of (cc := cX7_doesKnow) (maxL := 3) (ret := (some .boolean)) hJ (by decide +kernel) rfl (Nat.le_of_ble_eq_true rfl) ?_
  intro p e s m below meth c Z H locs ls hP hS hl
  obtain ⟨hx, hb, hml, hown, hts, hr, hlk, hK, -⟩ := Z
  have hown : s.vm.findClass RX7 = some m.cls := hown
  have hl : lv_has ls 3 [(0, .ref (ad 0)), (1, .int u1), (2, .int u2)] := hl
  have hA : ∀ q, w_A ad KM q → w_A ad KM q := fun _ h => h
  unfold mX7_doesKnow at hM
  refine lv_aload_n hx hb dX7_doesKnow_0 rfl (lv_at hl 0 rfl) ?_
  refine x_getr (own := RX7) (C := RX7) (T := TX7) (N := 14) hx hb hts hinX7_X7_doesKnow hown hK hP KM_obj rfl 4 (by decide) (hts (.fieldLink RX7 23 "StrokeBoardModel" "known" "[I") (by decide +kernel)) rfl dX7_doesKnow_1 ?_
  refine lv_bipush (v := 100) hx hb dX7_doesKnow_4 (by decide) ?_
  refine lv_iload_n hx hb dX7_doesKnow_6 rfl (lv_at hl 1 rfl) ?_
  refine lv_imul hx hb dX7_doesKnow_7 ?_
  refine lv_iload_n hx hb dX7_doesKnow_8 rfl (lv_at hl 2 rfl) ?_
  refine lv_iadd hx hb dX7_doesKnow_9 ?_
  obtain ⟨h1, hM⟩ := ix_i hM
  refine x_iald hx hb hK hP rfl h1 dX7_doesKnow_10 ?_
  refine lv_iconst (v := 1) hx hb dX7_doesKnow_11 (by decide) ?_
  refine lv_icmp_ne (tgt := 19) hx hb dX7_doesKnow_12 (by decide) (fun c2 => ?_) (fun c2 => ?_)
  · have hM := (if_neg c2).symm.trans hM
    refine lv_iconst (v := 0) hx hb dX7_doesKnow_19 (by decide) ?_
    exact x_zret hx hb hr hlk hP hS hM dX7_doesKnow_20
  · have hM := (if_pos c2).symm.trans hM
    refine lv_iconst (v := 1) hx hb dX7_doesKnow_15 (by decide) ?_
    refine lv_goto (tgt := 20) hx hb dX7_doesKnow_16 (by decide) ?_
    exact x_zret hx hb hr hlk hP hS hM dX7_doesKnow_20
theorem hinX7_X7_learns : ∀ w ∈ u_ws RX7 TX7 14, w ∈ wsX7_learns := by decide +kernel
set_option maxHeartbeats 4000000 in
set_option maxRecDepth 100000 in
theorem tX7_learns (l : Launch) (D : va_G) (cA : ClassId) (ad : Nat → Nat) (hJ : w_J ad KM) (u1 u2 : Int32) (σ σ' : St) (hM : mX7_learns u1 u2 σ = some σ') : Cv l yX7_learns wsX7_learns 1 22 D cA ad KM [.ref (ad 0), .int u1, .int u2] σ σ' := by
  unfold Cv
  refine Met_of (cc := cX7_learns) (maxL := 3) (ret := none) hJ (by decide +kernel) rfl (Nat.le_of_ble_eq_true rfl) ?_
  intro p e s m below meth c Z H locs ls hP hS hl
  obtain ⟨hx, hb, hml, hown, hts, hr, hlk, hK, -⟩ := Z
  have hown : s.vm.findClass RX7 = some m.cls := hown
  have hl : lv_has ls 3 [(0, .ref (ad 0)), (1, .int u1), (2, .int u2)] := hl
  have hA : ∀ q, w_A ad KM q → w_A ad KM q := fun _ h => h
  have b47 : ∀ (y0 y1 : Int32) (σ : St) (H : Heap) (locs : List Loc) (ls : Array Slot), mX7_learns_b47 y0 y1 σ = some σ' → w_P D cA ad KM σ H → va_S (w_A ad KM) s.heap H locs → lv_has ls 3 [(0, .ref (ad 0))] → Wm p l e wsX7_learns 1 22 s m ([.ref (ad 0), .int u1, .int u2] : List Value).toArray below meth c (w_Qv D cA ad KM σ') (w_A ad KM) H locs (F0 m 47 ls [.int y0, .int y1, .ref (ad 3)]) := by
    intro y0 y1 σ H locs ls hM hP hS hl
    unfold mX7_learns_b47 at hM
    obtain ⟨h1, hM⟩ := ix_i hM
    refine x_iast hx hb KM_ok hJ hK hP hS rfl h1 dX7_learns_47 (fun H locs hP hS => ?_)
    obtain ⟨σ2, eσ2, hM⟩ := lts_i hM
    rw [← eσ2] at hP
    exact x_vret hx hb hr hlk hP hS hM dX7_learns_48
  unfold mX7_learns at hM
  refine lv_aload_n hx hb dX7_learns_0 rfl (lv_at hl 0 rfl) ?_
  refine x_getr (own := RX7) (C := RX7) (T := TX7) (N := 14) hx hb hts hinX7_X7_learns hown hK hP KM_obj rfl 4 (by decide) (hts (.fieldLink RX7 23 "StrokeBoardModel" "known" "[I") (by decide +kernel)) rfl dX7_learns_1 ?_
  refine lv_bipush (v := 100) hx hb dX7_learns_4 (by decide) ?_
  refine lv_iload_n hx hb dX7_learns_6 rfl (lv_at hl 1 rfl) ?_
  refine lv_imul hx hb dX7_learns_7 ?_
  refine lv_iload_n hx hb dX7_learns_8 rfl (lv_at hl 2 rfl) ?_
  refine lv_iadd hx hb dX7_learns_9 ?_
  refine lv_iconst (v := 1) hx hb dX7_learns_10 (by decide) ?_
  obtain ⟨h3, hM⟩ := ix_i hM
  refine x_iast hx hb KM_ok hJ hK hP hS rfl h3 dX7_learns_11 (fun H locs hP hS => ?_)
  obtain ⟨σ4, eσ4, hM⟩ := lts_i hM
  rw [← eσ4] at hP
  refine lv_aload_n hx hb dX7_learns_12 rfl (lv_at hl 0 rfl) ?_
  refine x_getr (own := RX7) (C := RX7) (T := TX7) (N := 14) hx hb hts hinX7_X7_learns hown hK hP KM_obj rfl 3 (by decide) (hts (.fieldLink RX7 20 "StrokeBoardModel" "clock" "[I") (by decide +kernel)) rfl dX7_learns_13 ?_
  refine lv_iload_n hx hb dX7_learns_16 rfl (lv_at hl 1 rfl) ?_
  refine lv_aload_n hx hb dX7_learns_17 rfl (lv_at hl 0 rfl) ?_
  refine lv_iload_n hx hb dX7_learns_18 rfl (lv_at hl 2 rfl) ?_
  refine lv_iconst (v := 1) hx hb dX7_learns_19 (by decide) ?_
  obtain ⟨r7, σ6, h5, hM⟩ := bnd_i hM
  refine x_callV (As := [.int u2, .int 1]) (rest := [.int u1, .ref (ad 3)]) hA ⟨hx, hb, hml, hown, hts⟩ (tX7_of l D cA ad hJ u2 1 σ4 _ _ h5) (cwV 2 hts gX7_learns_X7_of rfl rfl rfl (by decide +kernel) ⟨(Nat.le_of_ble_eq_true rfl), (Nat.le_of_ble_eq_true rfl)⟩) hK hP hS KM_obj rfl rfl hl.1 rfl (Nat.le_of_ble_eq_true rfl) ⟨Nat.zero_le _, Nat.zero_le _⟩ dX7_learns_20 (fun H locs hP hS _ _ => ?_)
  refine lv_aload_n hx hb dX7_learns_23 rfl (lv_at hl 0 rfl) ?_
  refine x_getr (own := RX7) (C := RX7) (T := TX7) (N := 14) hx hb hts hinX7_X7_learns hown hK hP KM_obj rfl 3 (by decide) (hts (.fieldLink RX7 20 "StrokeBoardModel" "clock" "[I") (by decide +kernel)) rfl dX7_learns_24 ?_
  refine lv_iload_n hx hb dX7_learns_27 rfl (lv_at hl 1 rfl) ?_
  obtain ⟨h8, hM⟩ := ix_i hM
  refine x_iald hx hb hK hP rfl h8 dX7_learns_28 ?_
  refine lv_icmp_le (tgt := 41) hx hb dX7_learns_29 (by decide) (fun c9 => ?_) (fun c9 => ?_)
  · have hM := (if_pos c9).symm.trans hM
    refine lv_aload_n hx hb dX7_learns_41 rfl (lv_at hl 0 rfl) ?_
    refine x_getr (own := RX7) (C := RX7) (T := TX7) (N := 14) hx hb hts hinX7_X7_learns hown hK hP KM_obj rfl 3 (by decide) (hts (.fieldLink RX7 20 "StrokeBoardModel" "clock" "[I") (by decide +kernel)) rfl dX7_learns_42 ?_
    refine lv_iload_n hx hb dX7_learns_45 rfl (lv_at hl 1 rfl) ?_
    obtain ⟨h10, hM⟩ := ix_i hM
    refine x_iald hx hb hK hP rfl h10 dX7_learns_46 ?_
    exact b47 _ _ _ _ _ _ hM hP hS (lv_sub hl [0] rfl)
  · have hM := (if_neg c9).symm.trans hM
    refine lv_aload_n hx hb dX7_learns_32 rfl (lv_at hl 0 rfl) ?_
    refine lv_iload_n hx hb dX7_learns_33 rfl (lv_at hl 2 rfl) ?_
    refine lv_iconst (v := 1) hx hb dX7_learns_34 (by decide) ?_
    obtain ⟨r13, σ12, h11, hM⟩ := bnd_i hM
    refine x_callV (As := [.int u2, .int 1]) (rest := [.int u1, .ref (ad 3)]) hA ⟨hx, hb, hml, hown, hts⟩ (tX7_of l D cA ad hJ u2 1 σ6 _ _ h11) (cwV 2 hts gX7_learns_X7_of rfl rfl rfl (by decide +kernel) ⟨(Nat.le_of_ble_eq_true rfl), (Nat.le_of_ble_eq_true rfl)⟩) hK hP hS KM_obj rfl rfl hl.1 rfl (Nat.le_of_ble_eq_true rfl) ⟨Nat.zero_le _, Nat.zero_le _⟩ dX7_learns_35 (fun H locs hP hS _ _ => ?_)
    refine lv_goto (tgt := 47) hx hb dX7_learns_38 (by decide) ?_
    exact b47 _ _ _ _ _ _ hM hP hS (lv_sub hl [0] rfl)
set_option maxHeartbeats 4000000 in
set_option maxRecDepth 100000 in
theorem tX7_isAfter (l : Launch) (D : va_G) (cA : ClassId) (ad : Nat → Nat) (hJ : w_J ad KM) (u1 u2 : Int32) (σ σ' : St) (r : Int32) (hM : mX7_isAfter u1 u2 σ = some (r, σ')) : Ct l yX7_isAfter wsX7_isAfter 1 22 D cA ad KM [.ref (ad 0), .int u1, .int u2] σ r σ' := by
  unfold Ct
  refine Met_of (cc := cX7_isAfter) (maxL := 3) (ret := (some .boolean)) hJ (by decide +kernel) rfl (Nat.le_of_ble_eq_true rfl) ?_
  intro p e s m below meth c Z H locs ls hP hS hl
  obtain ⟨hx, hb, hml, hown, hts, hr, hlk, hK, -⟩ := Z
  have hown : s.vm.findClass RX7 = some m.cls := hown
  have hl : lv_has ls 3 [(0, .ref (ad 0)), (1, .int u1), (2, .int u2)] := hl
  have hA : ∀ q, w_A ad KM q → w_A ad KM q := fun _ h => h
  unfold mX7_isAfter at hM
  refine lv_aload_n hx hb dX7_isAfter_0 rfl (lv_at hl 0 rfl) ?_
  refine lv_iload_n hx hb dX7_isAfter_1 rfl (lv_at hl 1 rfl) ?_
  refine lv_iconst (v := 1) hx hb dX7_isAfter_2 (by decide) ?_
  obtain ⟨r3, σ2, h1, hM⟩ := bnd_i hM
  refine x_callV (As := [.int u1, .int 1]) (rest := []) hA ⟨hx, hb, hml, hown, hts⟩ (tX7_of l D cA ad hJ u1 1 σ _ _ h1) (cwV 2 hts gX7_isAfter_X7_of rfl rfl rfl (by decide +kernel) ⟨(Nat.le_of_ble_eq_true rfl), (Nat.le_of_ble_eq_true rfl)⟩) hK hP hS KM_obj rfl rfl hl.1 rfl (Nat.le_of_ble_eq_true rfl) ⟨Nat.zero_le _, Nat.zero_le _⟩ dX7_isAfter_3 (fun H locs hP hS _ _ => ?_)
  refine lv_aload_n hx hb dX7_isAfter_6 rfl (lv_at hl 0 rfl) ?_
  refine lv_iload_n hx hb dX7_isAfter_7 rfl (lv_at hl 2 rfl) ?_
  refine lv_iconst (v := 1) hx hb dX7_isAfter_8 (by decide) ?_
  obtain ⟨r6, σ5, h4, hM⟩ := bnd_i hM
  refine x_callV (As := [.int u2, .int 1]) (rest := [.int r3]) hA ⟨hx, hb, hml, hown, hts⟩ (tX7_of l D cA ad hJ u2 1 σ2 _ _ h4) (cwV 2 hts gX7_isAfter_X7_of rfl rfl rfl (by decide +kernel) ⟨(Nat.le_of_ble_eq_true rfl), (Nat.le_of_ble_eq_true rfl)⟩) hK hP hS KM_obj rfl rfl hl.1 rfl (Nat.le_of_ble_eq_true rfl) ⟨Nat.zero_le _, Nat.zero_le _⟩ dX7_isAfter_9 (fun H locs hP hS _ _ => ?_)
  refine lv_icmp_eq (tgt := 38) hx hb dX7_isAfter_12 (by decide) (fun c7 => ?_) (fun c7 => ?_)
  · have hM := (if_pos c7).symm.trans hM
    refine lv_iload_n hx hb dX7_isAfter_38 rfl (lv_at hl 1 rfl) ?_
    refine lv_bipush (v := 20) hx hb dX7_isAfter_39 (by decide) ?_
    refine lv_idiv hx hb dX7_isAfter_41 (by decide) ?_
    refine lv_iload_n hx hb dX7_isAfter_42 rfl (lv_at hl 2 rfl) ?_
    refine lv_bipush (v := 20) hx hb dX7_isAfter_43 (by decide) ?_
    refine lv_idiv hx hb dX7_isAfter_45 (by decide) ?_
    refine lv_icmp_le (tgt := 53) hx hb dX7_isAfter_46 (by decide) (fun c8 => ?_) (fun c8 => ?_)
    · have hM := (if_pos c8).symm.trans hM
      refine lv_iconst (v := 0) hx hb dX7_isAfter_53 (by decide) ?_
      exact x_zret hx hb hr hlk hP hS hM dX7_isAfter_54
    · have hM := (if_neg c8).symm.trans hM
      refine lv_iconst (v := 1) hx hb dX7_isAfter_49 (by decide) ?_
      refine lv_goto (tgt := 54) hx hb dX7_isAfter_50 (by decide) ?_
      exact x_zret hx hb hr hlk hP hS hM dX7_isAfter_54
  · have hM := (if_neg c7).symm.trans hM
    refine lv_aload_n hx hb dX7_isAfter_15 rfl (lv_at hl 0 rfl) ?_
    refine lv_iload_n hx hb dX7_isAfter_16 rfl (lv_at hl 1 rfl) ?_
    refine lv_iconst (v := 1) hx hb dX7_isAfter_17 (by decide) ?_
    obtain ⟨r11, σ10, h9, hM⟩ := bnd_i hM
    refine x_callV (As := [.int u1, .int 1]) (rest := []) hA ⟨hx, hb, hml, hown, hts⟩ (tX7_of l D cA ad hJ u1 1 σ5 _ _ h9) (cwV 2 hts gX7_isAfter_X7_of rfl rfl rfl (by decide +kernel) ⟨(Nat.le_of_ble_eq_true rfl), (Nat.le_of_ble_eq_true rfl)⟩) hK hP hS KM_obj rfl rfl hl.1 rfl (Nat.le_of_ble_eq_true rfl) ⟨Nat.zero_le _, Nat.zero_le _⟩ dX7_isAfter_18 (fun H locs hP hS _ _ => ?_)
    refine lv_aload_n hx hb dX7_isAfter_21 rfl (lv_at hl 0 rfl) ?_
    refine lv_iload_n hx hb dX7_isAfter_22 rfl (lv_at hl 2 rfl) ?_
    refine lv_iconst (v := 1) hx hb dX7_isAfter_23 (by decide) ?_
    obtain ⟨r14, σ13, h12, hM⟩ := bnd_i hM
    refine x_callV (As := [.int u2, .int 1]) (rest := [.int r11]) hA ⟨hx, hb, hml, hown, hts⟩ (tX7_of l D cA ad hJ u2 1 σ10 _ _ h12) (cwV 2 hts gX7_isAfter_X7_of rfl rfl rfl (by decide +kernel) ⟨(Nat.le_of_ble_eq_true rfl), (Nat.le_of_ble_eq_true rfl)⟩) hK hP hS KM_obj rfl rfl hl.1 rfl (Nat.le_of_ble_eq_true rfl) ⟨Nat.zero_le _, Nat.zero_le _⟩ dX7_isAfter_24 (fun H locs hP hS _ _ => ?_)
    refine lv_icmp_le (tgt := 34) hx hb dX7_isAfter_27 (by decide) (fun c15 => ?_) (fun c15 => ?_)
    · have hM := (if_pos c15).symm.trans hM
      refine lv_iconst (v := 0) hx hb dX7_isAfter_34 (by decide) ?_
      refine lv_goto (tgt := 54) hx hb dX7_isAfter_35 (by decide) ?_
      exact x_zret hx hb hr hlk hP hS hM dX7_isAfter_54
    · have hM := (if_neg c15).symm.trans hM
      refine lv_iconst (v := 1) hx hb dX7_isAfter_30 (by decide) ?_
      refine lv_goto (tgt := 54) hx hb dX7_isAfter_31 (by decide) ?_
      exact x_zret hx hb hr hlk hP hS hM dX7_isAfter_54
set_option maxHeartbeats 4000000 in
set_option maxRecDepth 100000 in
theorem tX7_aim (l : Launch) (D : va_G) (cA : ClassId) (ad : Nat → Nat) (hJ : w_J ad KM) (u1 : Int32) (σ σ' : St) (r : Int32) (hM : mX7_aim u1 σ = some (r, σ')) : Ct l yX7_aim wsX7_aim 1 22 D cA ad KM [.ref (ad 0), .int u1] σ r σ' := by
  unfold Ct
  refine Met_of (cc := cX7_aim) (maxL := 2) (ret := (some .int)) hJ (by decide +kernel) rfl (Nat.le_of_ble_eq_true rfl) ?_
  intro p e s m below meth c Z H locs ls hP hS hl
  obtain ⟨hx, hb, hml, hown, hts, hr, hlk, hK, -⟩ := Z
  have hown : s.vm.findClass RX7 = some m.cls := hown
  have hl : lv_has ls 2 [(0, .ref (ad 0)), (1, .int u1)] := hl
  have hA : ∀ q, w_A ad KM q → w_A ad KM q := fun _ h => h
  have b23 : ∀ (x1 y0 : Int32) (σ : St) (H : Heap) (locs : List Loc) (ls : Array Slot), mX7_aim_b23 x1 y0 σ = some (r, σ') → w_P D cA ad KM σ H → va_S (w_A ad KM) s.heap H locs → lv_has ls 2 [(0, .ref (ad 0)), (1, .int x1)] → Wm p l e wsX7_aim 1 22 s m ([.ref (ad 0), .int u1] : List Value).toArray below meth c (w_Qi D cA ad KM r σ') (w_A ad KM) H locs (F0 m 23 ls [.int y0]) := by
    intro x1 y0 σ H locs ls hM hP hS hl
    unfold mX7_aim_b23 at hM
    refine lv_aload_n hx hb dX7_aim_23 rfl (lv_at hl 0 rfl) ?_
    refine lv_iload_n hx hb dX7_aim_24 rfl (lv_at hl 1 rfl) ?_
    refine lv_iconst (v := 4) hx hb dX7_aim_25 (by decide) ?_
    obtain ⟨r3, σ2, h1, hM⟩ := bnd_i hM
    refine x_callV (As := [.int x1, .int 4]) (rest := [.int y0]) hA ⟨hx, hb, hml, hown, hts⟩ (tX7_of l D cA ad hJ x1 4 σ _ _ h1) (cwV 2 hts gX7_aim_X7_of rfl rfl rfl (by decide +kernel) ⟨(Nat.le_of_ble_eq_true rfl), (Nat.le_of_ble_eq_true rfl)⟩) hK hP hS KM_obj rfl rfl hl.1 rfl (Nat.le_of_ble_eq_true rfl) ⟨Nat.zero_le _, Nat.zero_le _⟩ dX7_aim_26 (fun H locs hP hS _ _ => ?_)
    obtain ⟨r6, σ5, h4, hM⟩ := bnd_i hM
    refine x_callS (As := [.int y0, .int r3]) (rest := []) hA ⟨hx, hb, hml, hown, hts⟩ (tX7_place l D cA ad hJ y0 r3 σ2 _ _ h4) (va_cwS 2 hts gX7_aim_X7_place rfl rfl rfl (by decide +kernel) ⟨(Nat.le_of_ble_eq_true rfl), (Nat.le_of_ble_eq_true rfl)⟩) hK hP hS rfl hl.1 rfl (Nat.le_of_ble_eq_true rfl) ⟨Nat.zero_le _, Nat.zero_le _⟩ dX7_aim_29 (fun H locs hP hS => ?_)
    exact x_iret hx hb hr hlk hP hS hM dX7_aim_32
  unfold mX7_aim at hM
  refine lv_aload_n hx hb dX7_aim_0 rfl (lv_at hl 0 rfl) ?_
  refine lv_iload_n hx hb dX7_aim_1 rfl (lv_at hl 1 rfl) ?_
  refine lv_iconst (v := 0) hx hb dX7_aim_2 (by decide) ?_
  obtain ⟨r9, σ8, h7, hM⟩ := bnd_i hM
  refine x_callV (As := [.int u1, .int 0]) (rest := []) hA ⟨hx, hb, hml, hown, hts⟩ (tX7_of l D cA ad hJ u1 0 σ _ _ h7) (cwV 2 hts gX7_aim_X7_of rfl rfl rfl (by decide +kernel) ⟨(Nat.le_of_ble_eq_true rfl), (Nat.le_of_ble_eq_true rfl)⟩) hK hP hS KM_obj rfl rfl hl.1 rfl (Nat.le_of_ble_eq_true rfl) ⟨Nat.zero_le _, Nat.zero_le _⟩ dX7_aim_3 (fun H locs hP hS _ _ => ?_)
  refine lv_iconst (v := 3) hx hb dX7_aim_6 (by decide) ?_
  refine lv_icmp_ne (tgt := 19) hx hb dX7_aim_7 (by decide) (fun c10 => ?_) (fun c10 => ?_)
  · have hM := (if_neg c10).symm.trans hM
    refine lv_iload_n hx hb dX7_aim_19 rfl (lv_at hl 1 rfl) ?_
    refine lv_bipush (v := 20) hx hb dX7_aim_20 (by decide) ?_
    refine lv_idiv hx hb dX7_aim_22 (by decide) ?_
    exact b23 _ _ _ _ _ _ hM hP hS (lv_sub hl [0, 1] rfl)
  · have hM := (if_pos c10).symm.trans hM
    refine lv_aload_n hx hb dX7_aim_10 rfl (lv_at hl 0 rfl) ?_
    refine lv_iload_n hx hb dX7_aim_11 rfl (lv_at hl 1 rfl) ?_
    refine lv_iconst (v := 2) hx hb dX7_aim_12 (by decide) ?_
    obtain ⟨r13, σ12, h11, hM⟩ := bnd_i hM
    refine x_callV (As := [.int u1, .int 2]) (rest := []) hA ⟨hx, hb, hml, hown, hts⟩ (tX7_of l D cA ad hJ u1 2 σ8 _ _ h11) (cwV 2 hts gX7_aim_X7_of rfl rfl rfl (by decide +kernel) ⟨(Nat.le_of_ble_eq_true rfl), (Nat.le_of_ble_eq_true rfl)⟩) hK hP hS KM_obj rfl rfl hl.1 rfl (Nat.le_of_ble_eq_true rfl) ⟨Nat.zero_le _, Nat.zero_le _⟩ dX7_aim_13 (fun H locs hP hS _ _ => ?_)
    refine lv_goto (tgt := 23) hx hb dX7_aim_16 (by decide) ?_
    exact b23 _ _ _ _ _ _ hM hP hS (lv_sub hl [0, 1] rfl)
set_option maxHeartbeats 4000000 in
set_option maxRecDepth 100000 in
theorem tX7_last (l : Launch) (D : va_G) (cA : ClassId) (ad : Nat → Nat) (hJ : w_J ad KM) (u1 u2 u3 u4 : Int32) (σ σ' : St) (r : Int32) (hM : mX7_last u1 u2 u3 u4 σ = some (r, σ')) : Ct l yX7_last wsX7_last 2 44 D cA ad KM [.ref (ad 0), .int u1, .int u2, .int u3, .int u4] σ r σ' := by
  unfold Ct
  refine Met_of (cc := cX7_last) (maxL := 8) (ret := (some .int)) hJ (by decide +kernel) rfl (Nat.le_of_ble_eq_true rfl) ?_
  intro p e s m below meth c Z H locs ls hP hS hl
  obtain ⟨hx, hb, hml, hown, hts, hr, hlk, hK, -⟩ := Z
  have hown : s.vm.findClass RX7 = some m.cls := hown
  have hl : lv_has ls 8 [(0, .ref (ad 0)), (1, .int u1), (2, .int u2), (3, .int u3), (4, .int u4)] := hl
  have hA : ∀ q, w_A ad KM q → w_A ad KM q := fun _ h => h
  have L6 : ∀ (n : Nat) (x1 x2 x3 x4 x5 x6 : Int32) (σ : St) (H : Heap) (locs : List Loc) (ls : Array Slot), mX7_last_L6 n x1 x2 x3 x4 x5 x6 σ = some (r, σ') → w_P D cA ad KM σ H → va_S (w_A ad KM) s.heap H locs → lv_has ls 8 [(0, .ref (ad 0)), (1, .int x1), (2, .int x2), (3, .int x3), (4, .int x4), (5, .int x5), (6, .int x6)] → Wm p l e wsX7_last 2 44 s m ([.ref (ad 0), .int u1, .int u2, .int u3, .int u4] : List Value).toArray below meth c (w_Qi D cA ad KM r σ') (w_A ad KM) H locs (F0 m 6 ls []) := by
    intro n6
    induction n6 with
    | zero =>
      intro x1 x2 x3 x4 x5 x6 σ H locs ls hM hP hS hl
      rw [mX7_last_L6] at hM
      cases hM
    | succ n6 ih6 =>
      have b54 : ∀ (x1 x2 x3 x4 x5 x6 y0 : Int32) (σ : St) (H : Heap) (locs : List Loc) (ls : Array Slot), mX7_last_b54 (mX7_last_L6 n6) x1 x2 x3 x4 x5 x6 y0 σ = some (r, σ') → w_P D cA ad KM σ H → va_S (w_A ad KM) s.heap H locs → lv_has ls 8 [(0, .ref (ad 0)), (1, .int x1), (2, .int x2), (3, .int x3), (4, .int x4), (5, .int x5), (6, .int x6)] → Wm p l e wsX7_last 2 44 s m ([.ref (ad 0), .int u1, .int u2, .int u3, .int u4] : List Value).toArray below meth c (w_Qi D cA ad KM r σ') (w_A ad KM) H locs (F0 m 54 ls [.int y0]) := by
        intro x1 x2 x3 x4 x5 x6 y0 σ H locs ls hM hP hS hl
        unfold mX7_last_b54 at hM
        refine lv_istore (lv' := [(7, .int y0), (0, .ref (ad 0)), (1, .int x1), (2, .int x2), (3, .int x3), (4, .int x4), (5, .int x5), (6, .int x6)]) hx hb dX7_last_54 hl (by decide) rfl (fun ls hl => ?_)
        refine lv_iload hx hb dX7_last_56 (lv_at hl 0 rfl) ?_
        refine lv_if_eq (tgt := 83) hx hb dX7_last_58 (by decide) (fun c1 => ?_) (fun c1 => ?_)
        · have hM := (if_pos c1).symm.trans hM
          refine lv_iload hx hb dX7_last_83 (lv_at hl 6 rfl) ?_
          refine lv_istore (lv' := [(5, .int x5), (7, .int y0), (0, .ref (ad 0)), (1, .int x1), (2, .int x2), (3, .int x3), (4, .int x4), (6, .int x6)]) hx hb dX7_last_85 hl (by decide) rfl (fun ls hl => ?_)
          refine lv_iinc (v := (x6 + 1)) (lv' := [(6, .int (x6 + 1)), (5, .int x5), (7, .int y0), (0, .ref (ad 0)), (1, .int x1), (2, .int x2), (3, .int x3), (4, .int x4)]) hx hb dX7_last_87 hl (k := 7) rfl rfl (by decide) rfl (fun ls hl => ?_)
          refine lv_goto (tgt := 6) hx hb dX7_last_90 (by decide) ?_
          exact ih6 _ _ _ _ _ _ _ _ _ _ hM hP hS (lv_sub hl [3, 4, 5, 6, 7, 1, 0] rfl)
        · have hM := (if_neg c1).symm.trans hM
          refine lv_iload hx hb dX7_last_61 (lv_at hl 6 rfl) ?_
          refine lv_iconst (v := (-1)) hx hb dX7_last_63 (by decide) ?_
          refine lv_icmp_eq (tgt := 78) hx hb dX7_last_64 (by decide) (fun c2 => ?_) (fun c2 => ?_)
          · have hM := (if_pos c2).symm.trans hM
            refine lv_iload hx hb dX7_last_78 (lv_at hl 7 rfl) ?_
            refine lv_goto (tgt := 85) hx hb dX7_last_80 (by decide) ?_
            refine lv_istore (lv' := [(5, .int x6), (7, .int y0), (0, .ref (ad 0)), (1, .int x1), (2, .int x2), (3, .int x3), (4, .int x4), (6, .int x6)]) hx hb dX7_last_85 hl (by decide) rfl (fun ls hl => ?_)
            refine lv_iinc (v := (x6 + 1)) (lv' := [(6, .int (x6 + 1)), (5, .int x6), (7, .int y0), (0, .ref (ad 0)), (1, .int x1), (2, .int x2), (3, .int x3), (4, .int x4)]) hx hb dX7_last_87 hl (k := 7) rfl rfl (by decide) rfl (fun ls hl => ?_)
            refine lv_goto (tgt := 6) hx hb dX7_last_90 (by decide) ?_
            exact ih6 _ _ _ _ _ _ _ _ _ _ hM hP hS (lv_sub hl [3, 4, 5, 6, 7, 1, 0] rfl)
          · have hM := (if_neg c2).symm.trans hM
            refine lv_aload_n hx hb dX7_last_67 rfl (lv_at hl 1 rfl) ?_
            refine lv_iload hx hb dX7_last_68 (lv_at hl 7 rfl) ?_
            refine lv_iload hx hb dX7_last_70 (lv_at hl 6 rfl) ?_
            obtain ⟨r5, σ4, h3, hM⟩ := bnd_i hM
            refine x_callV (As := [.int x6, .int x5]) (rest := []) hA ⟨hx, hb, hml, hown, hts⟩ (tX7_isAfter l D cA ad hJ x6 x5 σ _ _ h3) (cwV 2 hts gX7_last_X7_isAfter rfl rfl rfl (by decide +kernel) ⟨(Nat.le_of_ble_eq_true rfl), (Nat.le_of_ble_eq_true rfl)⟩) hK hP hS KM_obj rfl rfl hl.1 rfl (Nat.le_of_ble_eq_true rfl) ⟨Nat.zero_le _, Nat.zero_le _⟩ dX7_last_72 (fun H locs hP hS _ _ => ?_)
            refine lv_if_eq (tgt := 83) hx hb dX7_last_75 (by decide) (fun c6 => ?_) (fun c6 => ?_)
            · have hM := (if_pos c6).symm.trans hM
              refine lv_iload hx hb dX7_last_83 (lv_at hl 6 rfl) ?_
              refine lv_istore (lv' := [(5, .int x5), (7, .int y0), (0, .ref (ad 0)), (1, .int x1), (2, .int x2), (3, .int x3), (4, .int x4), (6, .int x6)]) hx hb dX7_last_85 hl (by decide) rfl (fun ls hl => ?_)
              refine lv_iinc (v := (x6 + 1)) (lv' := [(6, .int (x6 + 1)), (5, .int x5), (7, .int y0), (0, .ref (ad 0)), (1, .int x1), (2, .int x2), (3, .int x3), (4, .int x4)]) hx hb dX7_last_87 hl (k := 7) rfl rfl (by decide) rfl (fun ls hl => ?_)
              refine lv_goto (tgt := 6) hx hb dX7_last_90 (by decide) ?_
              exact ih6 _ _ _ _ _ _ _ _ _ _ hM hP hS (lv_sub hl [3, 4, 5, 6, 7, 1, 0] rfl)
            · have hM := (if_neg c6).symm.trans hM
              refine lv_iload hx hb dX7_last_78 (lv_at hl 7 rfl) ?_
              refine lv_goto (tgt := 85) hx hb dX7_last_80 (by decide) ?_
              refine lv_istore (lv' := [(5, .int x6), (7, .int y0), (0, .ref (ad 0)), (1, .int x1), (2, .int x2), (3, .int x3), (4, .int x4), (6, .int x6)]) hx hb dX7_last_85 hl (by decide) rfl (fun ls hl => ?_)
              refine lv_iinc (v := (x6 + 1)) (lv' := [(6, .int (x6 + 1)), (5, .int x6), (7, .int y0), (0, .ref (ad 0)), (1, .int x1), (2, .int x2), (3, .int x3), (4, .int x4)]) hx hb dX7_last_87 hl (k := 7) rfl rfl (by decide) rfl (fun ls hl => ?_)
              refine lv_goto (tgt := 6) hx hb dX7_last_90 (by decide) ?_
              exact ih6 _ _ _ _ _ _ _ _ _ _ hM hP hS (lv_sub hl [3, 4, 5, 6, 7, 1, 0] rfl)
      have b53 : ∀ (x1 x2 x3 x4 x5 x6 : Int32) (σ : St) (H : Heap) (locs : List Loc) (ls : Array Slot), mX7_last_b53 (mX7_last_L6 n6) x1 x2 x3 x4 x5 x6 σ = some (r, σ') → w_P D cA ad KM σ H → va_S (w_A ad KM) s.heap H locs → lv_has ls 8 [(0, .ref (ad 0)), (1, .int x1), (2, .int x2), (3, .int x3), (4, .int x4), (5, .int x5), (6, .int x6)] → Wm p l e wsX7_last 2 44 s m ([.ref (ad 0), .int u1, .int u2, .int u3, .int u4] : List Value).toArray below meth c (w_Qi D cA ad KM r σ') (w_A ad KM) H locs (F0 m 53 ls []) := by
        intro x1 x2 x3 x4 x5 x6 σ H locs ls hM hP hS hl
        unfold mX7_last_b53 at hM
        refine lv_iconst (v := 0) hx hb dX7_last_53 (by decide) ?_
        exact b54 _ _ _ _ _ _ _ _ _ _ _ hM hP hS (lv_sub hl [0, 1, 2, 3, 4, 5, 6] rfl)
      intro x1 x2 x3 x4 x5 x6 σ H locs ls hM hP hS hl
      rw [mX7_last_L6] at hM
      refine lv_iload hx hb dX7_last_6 (lv_at hl 6 rfl) ?_
      refine lv_bipush (v := 100) hx hb dX7_last_8 (by decide) ?_
      refine lv_icmp_ge (tgt := 93) hx hb dX7_last_10 (by decide) (fun c7 => ?_) (fun c7 => ?_)
      · have hM := (if_pos c7).symm.trans hM
        refine lv_iload hx hb dX7_last_93 (lv_at hl 5 rfl) ?_
        exact x_iret hx hb hr hlk hP hS hM dX7_last_95
      · have hM := (if_neg c7).symm.trans hM
        refine lv_aload_n hx hb dX7_last_13 rfl (lv_at hl 0 rfl) ?_
        refine lv_iload_n hx hb dX7_last_14 rfl (lv_at hl 1 rfl) ?_
        refine lv_iload hx hb dX7_last_15 (lv_at hl 6 rfl) ?_
        obtain ⟨r10, σ9, h8, hM⟩ := bnd_i hM
        refine x_callV (As := [.int x1, .int x6]) (rest := []) hA ⟨hx, hb, hml, hown, hts⟩ (tX7_doesKnow l D cA ad hJ x1 x6 σ _ _ h8) (cwV 2 hts gX7_last_X7_doesKnow rfl rfl rfl (by decide +kernel) ⟨(Nat.le_of_ble_eq_true rfl), (Nat.le_of_ble_eq_true rfl)⟩) hK hP hS KM_obj rfl rfl hl.1 rfl (Nat.le_of_ble_eq_true rfl) ⟨Nat.zero_le _, Nat.zero_le _⟩ dX7_last_17 (fun H locs hP hS _ _ => ?_)
        refine lv_if_eq (tgt := 53) hx hb dX7_last_20 (by decide) (fun c11 => ?_) (fun c11 => ?_)
        · have hM := (if_pos c11).symm.trans hM
          exact b53 _ _ _ _ _ _ _ _ _ _ hM hP hS (lv_sub hl [0, 1, 2, 3, 4, 5, 6] rfl)
        · have hM := (if_neg c11).symm.trans hM
          refine lv_aload_n hx hb dX7_last_23 rfl (lv_at hl 0 rfl) ?_
          refine lv_iload hx hb dX7_last_24 (lv_at hl 6 rfl) ?_
          refine lv_iconst (v := 0) hx hb dX7_last_26 (by decide) ?_
          obtain ⟨r14, σ13, h12, hM⟩ := bnd_i hM
          refine x_callV (As := [.int x6, .int 0]) (rest := []) hA ⟨hx, hb, hml, hown, hts⟩ (tX7_of l D cA ad hJ x6 0 σ9 _ _ h12) (cwV 2 hts gX7_last_X7_of rfl rfl rfl (by decide +kernel) ⟨(Nat.le_of_ble_eq_true rfl), (Nat.le_of_ble_eq_true rfl)⟩) hK hP hS KM_obj rfl rfl hl.1 rfl (Nat.le_of_ble_eq_true rfl) ⟨Nat.zero_le _, Nat.zero_le _⟩ dX7_last_27 (fun H locs hP hS _ _ => ?_)
          refine lv_iload_n hx hb dX7_last_30 rfl (lv_at hl 3 rfl) ?_
          refine lv_iload hx hb dX7_last_31 (lv_at hl 4 rfl) ?_
          obtain ⟨r17, σ16, h15, hM⟩ := bnd_i hM
          refine x_callS (As := [.int r14, .int x3, .int x4]) (rest := []) hA ⟨hx, hb, hml, hown, hts⟩ (tX7_in l D cA ad hJ r14 x3 x4 σ13 _ _ h15) (va_cwS 3 hts gX7_last_X7_in rfl rfl rfl (by decide +kernel) ⟨(Nat.le_of_ble_eq_true rfl), (Nat.le_of_ble_eq_true rfl)⟩) hK hP hS rfl hl.1 rfl (Nat.le_of_ble_eq_true rfl) ⟨Nat.zero_le _, Nat.zero_le _⟩ dX7_last_33 (fun H locs hP hS => ?_)
          refine lv_if_eq (tgt := 53) hx hb dX7_last_36 (by decide) (fun c18 => ?_) (fun c18 => ?_)
          · have hM := (if_pos c18).symm.trans hM
            exact b53 _ _ _ _ _ _ _ _ _ _ hM hP hS (lv_sub hl [0, 1, 2, 3, 4, 5, 6] rfl)
          · have hM := (if_neg c18).symm.trans hM
            refine lv_aload_n hx hb dX7_last_39 rfl (lv_at hl 0 rfl) ?_
            refine lv_iload hx hb dX7_last_40 (lv_at hl 6 rfl) ?_
            obtain ⟨r21, σ20, h19, hM⟩ := bnd_i hM
            refine x_callV (As := [.int x6]) (rest := []) hA ⟨hx, hb, hml, hown, hts⟩ (tX7_aim l D cA ad hJ x6 σ16 _ _ h19) (cwV 1 hts gX7_last_X7_aim rfl rfl rfl (by decide +kernel) ⟨(Nat.le_of_ble_eq_true rfl), (Nat.le_of_ble_eq_true rfl)⟩) hK hP hS KM_obj rfl rfl hl.1 rfl (Nat.le_of_ble_eq_true rfl) ⟨Nat.zero_le _, Nat.zero_le _⟩ dX7_last_42 (fun H locs hP hS _ _ => ?_)
            refine lv_iload_n hx hb dX7_last_45 rfl (lv_at hl 2 rfl) ?_
            refine lv_icmp_ne (tgt := 53) hx hb dX7_last_46 (by decide) (fun c22 => ?_) (fun c22 => ?_)
            · have hM := (if_neg c22).symm.trans hM
              exact b53 _ _ _ _ _ _ _ _ _ _ hM hP hS (lv_sub hl [0, 1, 2, 3, 4, 5, 6] rfl)
            · have hM := (if_pos c22).symm.trans hM
              refine lv_iconst (v := 1) hx hb dX7_last_49 (by decide) ?_
              refine lv_goto (tgt := 54) hx hb dX7_last_50 (by decide) ?_
              exact b54 _ _ _ _ _ _ _ _ _ _ _ hM hP hS (lv_sub hl [0, 1, 2, 3, 4, 5, 6] rfl)
  unfold mX7_last at hM
  refine lv_iconst (v := (-1)) hx hb dX7_last_0 (by decide) ?_
  refine lv_istore (lv' := [(5, .int (-1)), (0, .ref (ad 0)), (1, .int u1), (2, .int u2), (3, .int u3), (4, .int u4)]) hx hb dX7_last_1 hl (by decide) rfl (fun ls hl => ?_)
  refine lv_iconst (v := 0) hx hb dX7_last_3 (by decide) ?_
  refine lv_istore (lv' := [(6, .int 0), (5, .int (-1)), (0, .ref (ad 0)), (1, .int u1), (2, .int u2), (3, .int u3), (4, .int u4)]) hx hb dX7_last_4 hl (by decide) rfl (fun ls hl => ?_)
  exact L6 fu _ _ _ _ _ _ _ _ _ _ hM hP hS (lv_sub hl [2, 3, 4, 5, 6, 1, 0] rfl)
set_option maxHeartbeats 4000000 in
set_option maxRecDepth 100000 in
theorem tX7_isVisible (l : Launch) (D : va_G) (cA : ClassId) (ad : Nat → Nat) (hJ : w_J ad KM) (u1 u2 : Int32) (σ σ' : St) (r : Int32) (hM : mX7_isVisible u1 u2 σ = some (r, σ')) : Ct l yX7_isVisible wsX7_isVisible 3 71 D cA ad KM [.ref (ad 0), .int u1, .int u2] σ r σ' := by
  unfold Ct
  refine Met_of (cc := cX7_isVisible) (maxL := 4) (ret := (some .boolean)) hJ (by decide +kernel) rfl (Nat.le_of_ble_eq_true rfl) ?_
  intro p e s m below meth c Z H locs ls hP hS hl
  obtain ⟨hx, hb, hml, hown, hts, hr, hlk, hK, -⟩ := Z
  have hown : s.vm.findClass RX7 = some m.cls := hown
  have hl : lv_has ls 4 [(0, .ref (ad 0)), (1, .int u1), (2, .int u2)] := hl
  have hA : ∀ q, w_A ad KM q → w_A ad KM q := fun _ h => h
  unfold mX7_isVisible at hM
  refine lv_aload_n hx hb dX7_isVisible_0 rfl (lv_at hl 0 rfl) ?_
  refine lv_iload_n hx hb dX7_isVisible_1 rfl (lv_at hl 1 rfl) ?_
  refine lv_iload_n hx hb dX7_isVisible_2 rfl (lv_at hl 2 rfl) ?_
  obtain ⟨r3, σ2, h1, hM⟩ := bnd_i hM
  refine x_callV (As := [.int u1, .int u2]) (rest := []) hA ⟨hx, hb, hml, hown, hts⟩ (tX7_doesKnow l D cA ad hJ u1 u2 σ _ _ h1) (cwV 2 hts gX7_isVisible_X7_doesKnow rfl rfl rfl (by decide +kernel) ⟨(Nat.le_of_ble_eq_true rfl), (Nat.le_of_ble_eq_true rfl)⟩) hK hP hS KM_obj rfl rfl hl.1 rfl (Nat.le_of_ble_eq_true rfl) ⟨Nat.zero_le _, Nat.zero_le _⟩ dX7_isVisible_3 (fun H locs hP hS _ _ => ?_)
  refine lv_if_eq (tgt := 18) hx hb dX7_isVisible_6 (by decide) (fun c4 => ?_) (fun c4 => ?_)
  · have hM := (if_pos c4).symm.trans hM
    refine lv_iconst (v := 0) hx hb dX7_isVisible_18 (by decide) ?_
    exact x_zret hx hb hr hlk hP hS hM dX7_isVisible_19
  · have hM := (if_neg c4).symm.trans hM
    refine lv_aload_n hx hb dX7_isVisible_9 rfl (lv_at hl 0 rfl) ?_
    refine lv_iload_n hx hb dX7_isVisible_10 rfl (lv_at hl 2 rfl) ?_
    refine lv_iconst (v := 0) hx hb dX7_isVisible_11 (by decide) ?_
    obtain ⟨r7, σ6, h5, hM⟩ := bnd_i hM
    refine x_callV (As := [.int u2, .int 0]) (rest := []) hA ⟨hx, hb, hml, hown, hts⟩ (tX7_of l D cA ad hJ u2 0 σ2 _ _ h5) (cwV 2 hts gX7_isVisible_X7_of rfl rfl rfl (by decide +kernel) ⟨(Nat.le_of_ble_eq_true rfl), (Nat.le_of_ble_eq_true rfl)⟩) hK hP hS KM_obj rfl rfl hl.1 rfl (Nat.le_of_ble_eq_true rfl) ⟨Nat.zero_le _, Nat.zero_le _⟩ dX7_isVisible_12 (fun H locs hP hS _ _ => ?_)
    refine lv_if_eq (tgt := 20) hx hb dX7_isVisible_15 (by decide) (fun c8 => ?_) (fun c8 => ?_)
    · have hM := (if_pos c8).symm.trans hM
      refine lv_aload_n hx hb dX7_isVisible_20 rfl (lv_at hl 0 rfl) ?_
      refine lv_iload_n hx hb dX7_isVisible_21 rfl (lv_at hl 1 rfl) ?_
      refine lv_iload_n hx hb dX7_isVisible_22 rfl (lv_at hl 2 rfl) ?_
      refine lv_iconst (v := 1) hx hb dX7_isVisible_23 (by decide) ?_
      refine lv_iconst (v := 2) hx hb dX7_isVisible_24 (by decide) ?_
      obtain ⟨r11, σ10, h9, hM⟩ := bnd_i hM
      refine x_callV (As := [.int u1, .int u2, .int 1, .int 2]) (rest := []) hA ⟨hx, hb, hml, hown, hts⟩ (tX7_last l D cA ad hJ u1 u2 1 2 σ6 _ _ h9) (cwV 4 hts gX7_isVisible_X7_last rfl rfl rfl (by decide +kernel) ⟨(Nat.le_of_ble_eq_true rfl), (Nat.le_of_ble_eq_true rfl)⟩) hK hP hS KM_obj rfl rfl hl.1 rfl (Nat.le_of_ble_eq_true rfl) ⟨Nat.zero_le _, Nat.zero_le _⟩ dX7_isVisible_25 (fun H locs hP hS _ _ => ?_)
      refine lv_istore_n (lv' := [(3, .int r11), (0, .ref (ad 0)), (1, .int u1), (2, .int u2)]) hx hb dX7_isVisible_28 rfl hl (by decide) rfl (fun ls hl => ?_)
      refine lv_iload_n hx hb dX7_isVisible_29 rfl (lv_at hl 0 rfl) ?_
      refine lv_iconst (v := (-1)) hx hb dX7_isVisible_30 (by decide) ?_
      refine lv_icmp_eq (tgt := 44) hx hb dX7_isVisible_31 (by decide) (fun c12 => ?_) (fun c12 => ?_)
      · have hM := (if_pos c12).symm.trans hM
        refine lv_iconst (v := 1) hx hb dX7_isVisible_44 (by decide) ?_
        refine lv_goto (tgt := 49) hx hb dX7_isVisible_45 (by decide) ?_
        exact x_zret hx hb hr hlk hP hS hM dX7_isVisible_49
      · have hM := (if_neg c12).symm.trans hM
        refine lv_aload_n hx hb dX7_isVisible_34 rfl (lv_at hl 1 rfl) ?_
        refine lv_iload_n hx hb dX7_isVisible_35 rfl (lv_at hl 0 rfl) ?_
        refine lv_iconst (v := 0) hx hb dX7_isVisible_36 (by decide) ?_
        obtain ⟨r15, σ14, h13, hM⟩ := bnd_i hM
        refine x_callV (As := [.int r11, .int 0]) (rest := []) hA ⟨hx, hb, hml, hown, hts⟩ (tX7_of l D cA ad hJ r11 0 σ10 _ _ h13) (cwV 2 hts gX7_isVisible_X7_of rfl rfl rfl (by decide +kernel) ⟨(Nat.le_of_ble_eq_true rfl), (Nat.le_of_ble_eq_true rfl)⟩) hK hP hS KM_obj rfl rfl hl.1 rfl (Nat.le_of_ble_eq_true rfl) ⟨Nat.zero_le _, Nat.zero_le _⟩ dX7_isVisible_37 (fun H locs hP hS _ _ => ?_)
        refine lv_iconst (v := 2) hx hb dX7_isVisible_40 (by decide) ?_
        refine lv_icmp_ne (tgt := 48) hx hb dX7_isVisible_41 (by decide) (fun c16 => ?_) (fun c16 => ?_)
        · have hM := (if_neg c16).symm.trans hM
          refine lv_iconst (v := 0) hx hb dX7_isVisible_48 (by decide) ?_
          exact x_zret hx hb hr hlk hP hS hM dX7_isVisible_49
        · have hM := (if_pos c16).symm.trans hM
          refine lv_iconst (v := 1) hx hb dX7_isVisible_44 (by decide) ?_
          refine lv_goto (tgt := 49) hx hb dX7_isVisible_45 (by decide) ?_
          exact x_zret hx hb hr hlk hP hS hM dX7_isVisible_49
    · have hM := (if_neg c8).symm.trans hM
      refine lv_iconst (v := 0) hx hb dX7_isVisible_18 (by decide) ?_
      exact x_zret hx hb hr hlk hP hS hM dX7_isVisible_19
set_option maxHeartbeats 4000000 in
set_option maxRecDepth 100000 in
theorem tX7_layerFor (l : Launch) (D : va_G) (cA : ClassId) (ad : Nat → Nat) (hJ : w_J ad KM) (u1 u2 : Int32) (σ σ' : St) (r : Int32) (hM : mX7_layerFor u1 u2 σ = some (r, σ')) : Ct l yX7_layerFor wsX7_layerFor 3 71 D cA ad KM [.ref (ad 0), .int u1, .int u2] σ r σ' := by
  unfold Ct
  refine Met_of (cc := cX7_layerFor) (maxL := 4) (ret := (some .int)) hJ (by decide +kernel) rfl (Nat.le_of_ble_eq_true rfl) ?_
  intro p e s m below meth c Z H locs ls hP hS hl
  obtain ⟨hx, hb, hml, hown, hts, hr, hlk, hK, -⟩ := Z
  have hown : s.vm.findClass RX7 = some m.cls := hown
  have hl : lv_has ls 4 [(0, .ref (ad 0)), (1, .int u1), (2, .int u2)] := hl
  have hA : ∀ q, w_A ad KM q → w_A ad KM q := fun _ h => h
  have b20 : ∀ (y0 : Int32) (σ : St) (H : Heap) (locs : List Loc) (ls : Array Slot), mX7_layerFor_b20 y0 σ = some (r, σ') → w_P D cA ad KM σ H → va_S (w_A ad KM) s.heap H locs → lv_has ls 4 [(0, .ref (ad 0))] → Wm p l e wsX7_layerFor 3 71 s m ([.ref (ad 0), .int u1, .int u2] : List Value).toArray below meth c (w_Qi D cA ad KM r σ') (w_A ad KM) H locs (F0 m 20 ls [.int y0, .ref (ad 0)]) := by
    intro y0 σ H locs ls hM hP hS hl
    unfold mX7_layerFor_b20 at hM
    refine lv_iconst (v := 3) hx hb dX7_layerFor_20 (by decide) ?_
    obtain ⟨r3, σ2, h1, hM⟩ := bnd_i hM
    refine x_callV (As := [.int y0, .int 3]) (rest := []) hA ⟨hx, hb, hml, hown, hts⟩ (tX7_of l D cA ad hJ y0 3 σ _ _ h1) (cwV 2 hts gX7_layerFor_X7_of rfl rfl rfl (by decide +kernel) ⟨(Nat.le_of_ble_eq_true rfl), (Nat.le_of_ble_eq_true rfl)⟩) hK hP hS KM_obj rfl rfl hl.1 rfl (Nat.le_of_ble_eq_true rfl) ⟨Nat.zero_le _, Nat.zero_le _⟩ dX7_layerFor_21 (fun H locs hP hS _ _ => ?_)
    exact x_iret hx hb hr hlk hP hS hM dX7_layerFor_24
  unfold mX7_layerFor at hM
  refine lv_aload_n hx hb dX7_layerFor_0 rfl (lv_at hl 0 rfl) ?_
  refine lv_iload_n hx hb dX7_layerFor_1 rfl (lv_at hl 1 rfl) ?_
  refine lv_iload_n hx hb dX7_layerFor_2 rfl (lv_at hl 2 rfl) ?_
  refine lv_iconst (v := 3) hx hb dX7_layerFor_3 (by decide) ?_
  refine lv_iconst (v := 3) hx hb dX7_layerFor_4 (by decide) ?_
  obtain ⟨r6, σ5, h4, hM⟩ := bnd_i hM
  refine x_callV (As := [.int u1, .int u2, .int 3, .int 3]) (rest := []) hA ⟨hx, hb, hml, hown, hts⟩ (tX7_last l D cA ad hJ u1 u2 3 3 σ _ _ h4) (cwV 4 hts gX7_layerFor_X7_last rfl rfl rfl (by decide +kernel) ⟨(Nat.le_of_ble_eq_true rfl), (Nat.le_of_ble_eq_true rfl)⟩) hK hP hS KM_obj rfl rfl hl.1 rfl (Nat.le_of_ble_eq_true rfl) ⟨Nat.zero_le _, Nat.zero_le _⟩ dX7_layerFor_5 (fun H locs hP hS _ _ => ?_)
  refine lv_istore_n (lv' := [(3, .int r6), (0, .ref (ad 0)), (1, .int u1), (2, .int u2)]) hx hb dX7_layerFor_8 rfl hl (by decide) rfl (fun ls hl => ?_)
  refine lv_aload_n hx hb dX7_layerFor_9 rfl (lv_at hl 1 rfl) ?_
  refine lv_iload_n hx hb dX7_layerFor_10 rfl (lv_at hl 0 rfl) ?_
  refine lv_iconst (v := (-1)) hx hb dX7_layerFor_11 (by decide) ?_
  refine lv_icmp_ne (tgt := 19) hx hb dX7_layerFor_12 (by decide) (fun c7 => ?_) (fun c7 => ?_)
  · have hM := (if_neg c7).symm.trans hM
    refine lv_iload_n hx hb dX7_layerFor_19 rfl (lv_at hl 0 rfl) ?_
    exact b20 _ _ _ _ _ hM hP hS (lv_sub hl [1] rfl)
  · have hM := (if_pos c7).symm.trans hM
    refine lv_iload_n hx hb dX7_layerFor_15 rfl (lv_at hl 3 rfl) ?_
    refine lv_goto (tgt := 20) hx hb dX7_layerFor_16 (by decide) ?_
    exact b20 _ _ _ _ _ hM hP hS (lv_sub hl [1] rfl)
theorem hinX7_X7_workOut : ∀ w ∈ u_ws RX7 TX7 14, w ∈ wsX7_workOut := by decide +kernel
set_option maxHeartbeats 4000000 in
set_option maxRecDepth 100000 in
theorem tX7_workOut (l : Launch) (D : va_G) (cA : ClassId) (ad : Nat → Nat) (hJ : w_J ad KM) (u1 : Int32) (σ σ' : St) (hM : mX7_workOut u1 σ = some σ') : Cv l yX7_workOut wsX7_workOut 4 94 D cA ad KM [.ref (ad 0), .int u1] σ σ' := by
  unfold Cv
  refine Met_of (cc := cX7_workOut) (maxL := 5) (ret := none) hJ (by decide +kernel) rfl (Nat.le_of_ble_eq_true rfl) ?_
  intro p e s m below meth c Z H locs ls hP hS hl
  obtain ⟨hx, hb, hml, hown, hts, hr, hlk, hK, -⟩ := Z
  have hown : s.vm.findClass RX7 = some m.cls := hown
  have hl : lv_has ls 5 [(0, .ref (ad 0)), (1, .int u1)] := hl
  have hA : ∀ q, w_A ad KM q → w_A ad KM q := fun _ h => h
  have L7 : ∀ (n : Nat) (x1 x2 : Int32) (σ : St) (H : Heap) (locs : List Loc) (ls : Array Slot), mX7_workOut_L7 n x1 x2 σ = some σ' → w_P D cA ad KM σ H → va_S (w_A ad KM) s.heap H locs → lv_has ls 5 [(0, .ref (ad 0)), (1, .int x1), (2, .int x2)] → Wm p l e wsX7_workOut 4 94 s m ([.ref (ad 0), .int u1] : List Value).toArray below meth c (w_Qv D cA ad KM σ') (w_A ad KM) H locs (F0 m 7 ls []) := by
    intro n7
    induction n7 with
    | zero =>
      intro x1 x2 σ H locs ls hM hP hS hl
      rw [mX7_workOut_L7] at hM
      cases hM
    | succ n7 ih7 =>
      have b121 : ∀ (x1 x2 x3 x4 : Int32) (σ : St) (H : Heap) (locs : List Loc) (ls : Array Slot), mX7_workOut_b121 (mX7_workOut_L7 n7) x1 x2 x3 x4 σ = some σ' → w_P D cA ad KM σ H → va_S (w_A ad KM) s.heap H locs → lv_has ls 5 [(0, .ref (ad 0)), (1, .int x1), (2, .int x2), (3, .int x3), (4, .int x4)] → Wm p l e wsX7_workOut 4 94 s m ([.ref (ad 0), .int u1] : List Value).toArray below meth c (w_Qv D cA ad KM σ') (w_A ad KM) H locs (F0 m 121 ls []) := by
        intro x1 x2 x3 x4 σ H locs ls hM hP hS hl
        unfold mX7_workOut_b121 at hM
        refine lv_aload_n hx hb dX7_workOut_121 rfl (lv_at hl 0 rfl) ?_
        refine x_getr (own := RX7) (C := RX7) (T := TX7) (N := 14) hx hb hts hinX7_X7_workOut hown hK hP KM_obj rfl 8 (by decide) (hts (.fieldLink RX7 35 "StrokeBoardModel" "board" "[I") (by decide +kernel)) rfl dX7_workOut_122 ?_
        refine lv_iload hx hb dX7_workOut_125 (lv_at hl 4 rfl) ?_
        refine lv_iload_n hx hb dX7_workOut_127 rfl (lv_at hl 2 rfl) ?_
        obtain ⟨h1, hM⟩ := ix_i hM
        refine x_iast hx hb KM_ok hJ hK hP hS rfl h1 dX7_workOut_128 (fun H locs hP hS => ?_)
        obtain ⟨σ2, eσ2, hM⟩ := lts_i hM
        rw [← eσ2] at hP
        refine lv_aload_n hx hb dX7_workOut_129 rfl (lv_at hl 0 rfl) ?_
        refine x_getr (own := RX7) (C := RX7) (T := TX7) (N := 14) hx hb hts hinX7_X7_workOut hown hK hP KM_obj rfl 9 (by decide) (hts (.fieldLink RX7 38 "StrokeBoardModel" "layers" "[I") (by decide +kernel)) rfl dX7_workOut_130 ?_
        refine lv_iload hx hb dX7_workOut_133 (lv_at hl 4 rfl) ?_
        refine lv_iload_n hx hb dX7_workOut_135 rfl (lv_at hl 3 rfl) ?_
        obtain ⟨h3, hM⟩ := ix_i hM
        refine x_iast hx hb KM_ok hJ hK hP hS rfl h3 dX7_workOut_136 (fun H locs hP hS => ?_)
        obtain ⟨σ4, eσ4, hM⟩ := lts_i hM
        rw [← eσ4] at hP
        refine lv_aload_n hx hb dX7_workOut_137 rfl (lv_at hl 0 rfl) ?_
        refine lv_dup hx hb dX7_workOut_138 rfl ?_
        refine x_geti (own := RX7) (C := RX7) (T := TX7) (N := 14) hx hb hts hinX7_X7_workOut hown hK hP KM_obj rfl 10 (by decide) (hts (.fieldLink RX7 80 "StrokeBoardModel" "boardMany" "I") (by decide +kernel)) rfl dX7_workOut_139 ?_
        refine lv_iconst (v := 1) hx hb dX7_workOut_142 (by decide) ?_
        refine lv_iadd hx hb dX7_workOut_143 ?_
        refine x_puti (own := RX7) (C := RX7) (T := TX7) (N := 14) hx hb KM_ok hJ hts hinX7_X7_workOut tyX7 tyX7_ok nmX7 hown hK hP hS KM_obj rfl 10 (by decide) (hts (.fieldLink RX7 80 "StrokeBoardModel" "boardMany" "I") (by decide +kernel)) rfl rfl rfl (by decide +kernel) dX7_workOut_144 (fun H locs hP hS => ?_)
        obtain ⟨σ5, eσ5, hM⟩ := lts_i hM
        rw [← eσ5] at hP
        refine lv_iinc (v := (x2 + 1)) (lv' := [(2, .int (x2 + 1)), (0, .ref (ad 0)), (1, .int x1), (3, .int x3), (4, .int x4)]) hx hb dX7_workOut_147 hl (k := 2) rfl rfl (by decide) rfl (fun ls hl => ?_)
        refine lv_goto (tgt := 7) hx hb dX7_workOut_150 (by decide) ?_
        exact ih7 _ _ _ _ _ _ hM hP hS (lv_sub hl [1, 2, 0] rfl)
      have L35 : ∀ (n : Nat) (x1 x2 x3 x4 : Int32) (σ : St) (H : Heap) (locs : List Loc) (ls : Array Slot), mX7_workOut_L35 (mX7_workOut_L7 n7) n x1 x2 x3 x4 σ = some σ' → w_P D cA ad KM σ H → va_S (w_A ad KM) s.heap H locs → lv_has ls 5 [(0, .ref (ad 0)), (1, .int x1), (2, .int x2), (3, .int x3), (4, .int x4)] → Wm p l e wsX7_workOut 4 94 s m ([.ref (ad 0), .int u1] : List Value).toArray below meth c (w_Qv D cA ad KM σ') (w_A ad KM) H locs (F0 m 35 ls []) := by
        intro n35
        induction n35 with
        | zero =>
          intro x1 x2 x3 x4 σ H locs ls hM hP hS hl
          rw [mX7_workOut_L35] at hM
          cases hM
        | succ n35 ih35 =>
          have b83 : ∀ (x1 x2 x3 x4 : Int32) (σ : St) (H : Heap) (locs : List Loc) (ls : Array Slot), mX7_workOut_b83 (mX7_workOut_L7 n7) (mX7_workOut_L35 (mX7_workOut_L7 n7) n35) x1 x2 x3 x4 σ = some σ' → w_P D cA ad KM σ H → va_S (w_A ad KM) s.heap H locs → lv_has ls 5 [(0, .ref (ad 0)), (1, .int x1), (2, .int x2), (3, .int x3), (4, .int x4)] → Wm p l e wsX7_workOut 4 94 s m ([.ref (ad 0), .int u1] : List Value).toArray below meth c (w_Qv D cA ad KM σ') (w_A ad KM) H locs (F0 m 83 ls []) := by
            intro x1 x2 x3 x4 σ H locs ls hM hP hS hl
            unfold mX7_workOut_b83 at hM
            refine lv_aload_n hx hb dX7_workOut_83 rfl (lv_at hl 0 rfl) ?_
            refine x_getr (own := RX7) (C := RX7) (T := TX7) (N := 14) hx hb hts hinX7_X7_workOut hown hK hP KM_obj rfl 8 (by decide) (hts (.fieldLink RX7 35 "StrokeBoardModel" "board" "[I") (by decide +kernel)) rfl dX7_workOut_84 ?_
            refine lv_iload hx hb dX7_workOut_87 (lv_at hl 4 rfl) ?_
            refine lv_aload_n hx hb dX7_workOut_89 rfl (lv_at hl 0 rfl) ?_
            refine x_getr (own := RX7) (C := RX7) (T := TX7) (N := 14) hx hb hts hinX7_X7_workOut hown hK hP KM_obj rfl 8 (by decide) (hts (.fieldLink RX7 35 "StrokeBoardModel" "board" "[I") (by decide +kernel)) rfl dX7_workOut_90 ?_
            refine lv_iload hx hb dX7_workOut_93 (lv_at hl 4 rfl) ?_
            refine lv_iconst (v := 1) hx hb dX7_workOut_95 (by decide) ?_
            refine lv_isub hx hb dX7_workOut_96 ?_
            obtain ⟨h6, hM⟩ := ix_i hM
            refine x_iald hx hb hK hP rfl h6 dX7_workOut_97 ?_
            obtain ⟨h7, hM⟩ := ix_i hM
            refine x_iast hx hb KM_ok hJ hK hP hS rfl h7 dX7_workOut_98 (fun H locs hP hS => ?_)
            obtain ⟨σ8, eσ8, hM⟩ := lts_i hM
            rw [← eσ8] at hP
            refine lv_aload_n hx hb dX7_workOut_99 rfl (lv_at hl 0 rfl) ?_
            refine x_getr (own := RX7) (C := RX7) (T := TX7) (N := 14) hx hb hts hinX7_X7_workOut hown hK hP KM_obj rfl 9 (by decide) (hts (.fieldLink RX7 38 "StrokeBoardModel" "layers" "[I") (by decide +kernel)) rfl dX7_workOut_100 ?_
            refine lv_iload hx hb dX7_workOut_103 (lv_at hl 4 rfl) ?_
            refine lv_aload_n hx hb dX7_workOut_105 rfl (lv_at hl 0 rfl) ?_
            refine x_getr (own := RX7) (C := RX7) (T := TX7) (N := 14) hx hb hts hinX7_X7_workOut hown hK hP KM_obj rfl 9 (by decide) (hts (.fieldLink RX7 38 "StrokeBoardModel" "layers" "[I") (by decide +kernel)) rfl dX7_workOut_106 ?_
            refine lv_iload hx hb dX7_workOut_109 (lv_at hl 4 rfl) ?_
            refine lv_iconst (v := 1) hx hb dX7_workOut_111 (by decide) ?_
            refine lv_isub hx hb dX7_workOut_112 ?_
            obtain ⟨h9, hM⟩ := ix_i hM
            refine x_iald hx hb hK hP rfl h9 dX7_workOut_113 ?_
            obtain ⟨h10, hM⟩ := ix_i hM
            refine x_iast hx hb KM_ok hJ hK hP hS rfl h10 dX7_workOut_114 (fun H locs hP hS => ?_)
            obtain ⟨σ11, eσ11, hM⟩ := lts_i hM
            rw [← eσ11] at hP
            refine lv_iinc (v := (x4 + (-1))) (lv' := [(4, .int (x4 + (-1))), (0, .ref (ad 0)), (1, .int x1), (2, .int x2), (3, .int x3)]) hx hb dX7_workOut_115 hl (k := 4) rfl rfl (by decide) rfl (fun ls hl => ?_)
            refine lv_goto (tgt := 35) hx hb dX7_workOut_118 (by decide) ?_
            exact ih35 _ _ _ _ _ _ _ _ hM hP hS (lv_sub hl [1, 2, 3, 4, 0] rfl)
          intro x1 x2 x3 x4 σ H locs ls hM hP hS hl
          rw [mX7_workOut_L35] at hM
          refine lv_iload hx hb dX7_workOut_35 (lv_at hl 4 rfl) ?_
          refine lv_if_le (tgt := 121) hx hb dX7_workOut_37 (by decide) (fun c12 => ?_) (fun c12 => ?_)
          · have hM := (if_pos c12).symm.trans hM
            exact b121 _ _ _ _ _ _ _ _ hM hP hS (lv_sub hl [0, 1, 2, 3, 4] rfl)
          · have hM := (if_neg c12).symm.trans hM
            refine lv_aload_n hx hb dX7_workOut_40 rfl (lv_at hl 0 rfl) ?_
            refine x_getr (own := RX7) (C := RX7) (T := TX7) (N := 14) hx hb hts hinX7_X7_workOut hown hK hP KM_obj rfl 9 (by decide) (hts (.fieldLink RX7 38 "StrokeBoardModel" "layers" "[I") (by decide +kernel)) rfl dX7_workOut_41 ?_
            refine lv_iload hx hb dX7_workOut_44 (lv_at hl 4 rfl) ?_
            refine lv_iconst (v := 1) hx hb dX7_workOut_46 (by decide) ?_
            refine lv_isub hx hb dX7_workOut_47 ?_
            obtain ⟨h13, hM⟩ := ix_i hM
            refine x_iald hx hb hK hP rfl h13 dX7_workOut_48 ?_
            refine lv_iload_n hx hb dX7_workOut_49 rfl (lv_at hl 3 rfl) ?_
            refine lv_icmp_gt (tgt := 83) hx hb dX7_workOut_50 (by decide) (fun c14 => ?_) (fun c14 => ?_)
            · have hM := (if_pos c14).symm.trans hM
              exact b83 _ _ _ _ _ _ _ _ hM hP hS (lv_sub hl [0, 1, 2, 3, 4] rfl)
            · have hM := (if_neg c14).symm.trans hM
              refine lv_aload_n hx hb dX7_workOut_53 rfl (lv_at hl 0 rfl) ?_
              refine x_getr (own := RX7) (C := RX7) (T := TX7) (N := 14) hx hb hts hinX7_X7_workOut hown hK hP KM_obj rfl 9 (by decide) (hts (.fieldLink RX7 38 "StrokeBoardModel" "layers" "[I") (by decide +kernel)) rfl dX7_workOut_54 ?_
              refine lv_iload hx hb dX7_workOut_57 (lv_at hl 4 rfl) ?_
              refine lv_iconst (v := 1) hx hb dX7_workOut_59 (by decide) ?_
              refine lv_isub hx hb dX7_workOut_60 ?_
              obtain ⟨h15, hM⟩ := ix_i hM
              refine x_iald hx hb hK hP rfl h15 dX7_workOut_61 ?_
              refine lv_iload_n hx hb dX7_workOut_62 rfl (lv_at hl 3 rfl) ?_
              refine lv_icmp_ne (tgt := 121) hx hb dX7_workOut_63 (by decide) (fun c16 => ?_) (fun c16 => ?_)
              · have hM := (if_neg c16).symm.trans hM
                exact b121 _ _ _ _ _ _ _ _ hM hP hS (lv_sub hl [0, 1, 2, 3, 4] rfl)
              · have hM := (if_pos c16).symm.trans hM
                refine lv_aload_n hx hb dX7_workOut_66 rfl (lv_at hl 0 rfl) ?_
                refine lv_aload_n hx hb dX7_workOut_67 rfl (lv_at hl 0 rfl) ?_
                refine x_getr (own := RX7) (C := RX7) (T := TX7) (N := 14) hx hb hts hinX7_X7_workOut hown hK hP KM_obj rfl 8 (by decide) (hts (.fieldLink RX7 35 "StrokeBoardModel" "board" "[I") (by decide +kernel)) rfl dX7_workOut_68 ?_
                refine lv_iload hx hb dX7_workOut_71 (lv_at hl 4 rfl) ?_
                refine lv_iconst (v := 1) hx hb dX7_workOut_73 (by decide) ?_
                refine lv_isub hx hb dX7_workOut_74 ?_
                obtain ⟨h17, hM⟩ := ix_i hM
                refine x_iald hx hb hK hP rfl h17 dX7_workOut_75 ?_
                refine lv_iload_n hx hb dX7_workOut_76 rfl (lv_at hl 2 rfl) ?_
                obtain ⟨r20, σ19, h18, hM⟩ := bnd_i hM
                refine x_callV (As := [.int (σ 7 (Int32.toNatClampNeg (x4 - 1))), .int x2]) (rest := []) hA ⟨hx, hb, hml, hown, hts⟩ (tX7_isAfter l D cA ad hJ (σ 7 (Int32.toNatClampNeg (x4 - 1))) x2 σ _ _ h18) (cwV 2 hts gX7_workOut_X7_isAfter rfl rfl rfl (by decide +kernel) ⟨(Nat.le_of_ble_eq_true rfl), (Nat.le_of_ble_eq_true rfl)⟩) hK hP hS KM_obj rfl rfl hl.1 rfl (Nat.le_of_ble_eq_true rfl) ⟨Nat.zero_le _, Nat.zero_le _⟩ dX7_workOut_77 (fun H locs hP hS _ _ => ?_)
                refine lv_if_eq (tgt := 121) hx hb dX7_workOut_80 (by decide) (fun c21 => ?_) (fun c21 => ?_)
                · have hM := (if_pos c21).symm.trans hM
                  exact b121 _ _ _ _ _ _ _ _ hM hP hS (lv_sub hl [0, 1, 2, 3, 4] rfl)
                · have hM := (if_neg c21).symm.trans hM
                  exact b83 _ _ _ _ _ _ _ _ hM hP hS (lv_sub hl [0, 1, 2, 3, 4] rfl)
      intro x1 x2 σ H locs ls hM hP hS hl
      rw [mX7_workOut_L7] at hM
      refine lv_iload_n hx hb dX7_workOut_7 rfl (lv_at hl 2 rfl) ?_
      refine lv_bipush (v := 100) hx hb dX7_workOut_8 (by decide) ?_
      refine lv_icmp_ge (tgt := 153) hx hb dX7_workOut_10 (by decide) (fun c22 => ?_) (fun c22 => ?_)
      · have hM := (if_pos c22).symm.trans hM
        exact x_vret hx hb hr hlk hP hS hM dX7_workOut_153
      · have hM := (if_neg c22).symm.trans hM
        refine lv_aload_n hx hb dX7_workOut_13 rfl (lv_at hl 0 rfl) ?_
        refine lv_iload_n hx hb dX7_workOut_14 rfl (lv_at hl 1 rfl) ?_
        refine lv_iload_n hx hb dX7_workOut_15 rfl (lv_at hl 2 rfl) ?_
        obtain ⟨r25, σ24, h23, hM⟩ := bnd_i hM
        refine x_callV (As := [.int x1, .int x2]) (rest := []) hA ⟨hx, hb, hml, hown, hts⟩ (tX7_isVisible l D cA ad hJ x1 x2 σ _ _ h23) (cwV 2 hts gX7_workOut_X7_isVisible rfl rfl rfl (by decide +kernel) ⟨(Nat.le_of_ble_eq_true rfl), (Nat.le_of_ble_eq_true rfl)⟩) hK hP hS KM_obj rfl rfl hl.1 rfl (Nat.le_of_ble_eq_true rfl) ⟨Nat.zero_le _, Nat.zero_le _⟩ dX7_workOut_16 (fun H locs hP hS _ _ => ?_)
        refine lv_if_eq (tgt := 147) hx hb dX7_workOut_19 (by decide) (fun c26 => ?_) (fun c26 => ?_)
        · have hM := (if_pos c26).symm.trans hM
          refine lv_iinc (v := (x2 + 1)) (lv' := [(2, .int (x2 + 1)), (0, .ref (ad 0)), (1, .int x1)]) hx hb dX7_workOut_147 hl (k := 2) rfl rfl (by decide) rfl (fun ls hl => ?_)
          refine lv_goto (tgt := 7) hx hb dX7_workOut_150 (by decide) ?_
          exact ih7 _ _ _ _ _ _ hM hP hS (lv_sub hl [1, 2, 0] rfl)
        · have hM := (if_neg c26).symm.trans hM
          refine lv_aload_n hx hb dX7_workOut_22 rfl (lv_at hl 0 rfl) ?_
          refine lv_iload_n hx hb dX7_workOut_23 rfl (lv_at hl 1 rfl) ?_
          refine lv_iload_n hx hb dX7_workOut_24 rfl (lv_at hl 2 rfl) ?_
          obtain ⟨r29, σ28, h27, hM⟩ := bnd_i hM
          refine x_callV (As := [.int x1, .int x2]) (rest := []) hA ⟨hx, hb, hml, hown, hts⟩ (tX7_layerFor l D cA ad hJ x1 x2 σ24 _ _ h27) (cwV 2 hts gX7_workOut_X7_layerFor rfl rfl rfl (by decide +kernel) ⟨(Nat.le_of_ble_eq_true rfl), (Nat.le_of_ble_eq_true rfl)⟩) hK hP hS KM_obj rfl rfl hl.1 rfl (Nat.le_of_ble_eq_true rfl) ⟨Nat.zero_le _, Nat.zero_le _⟩ dX7_workOut_25 (fun H locs hP hS _ _ => ?_)
          refine lv_istore_n (lv' := [(3, .int r29), (0, .ref (ad 0)), (1, .int x1), (2, .int x2)]) hx hb dX7_workOut_28 rfl hl (by decide) rfl (fun ls hl => ?_)
          refine lv_aload_n hx hb dX7_workOut_29 rfl (lv_at hl 1 rfl) ?_
          refine x_geti (own := RX7) (C := RX7) (T := TX7) (N := 14) hx hb hts hinX7_X7_workOut hown hK hP KM_obj rfl 10 (by decide) (hts (.fieldLink RX7 80 "StrokeBoardModel" "boardMany" "I") (by decide +kernel)) rfl dX7_workOut_30 ?_
          refine lv_istore (lv' := [(4, .int (σ28 13 0)), (3, .int r29), (0, .ref (ad 0)), (1, .int x1), (2, .int x2)]) hx hb dX7_workOut_33 hl (by decide) rfl (fun ls hl => ?_)
          exact L35 fu _ _ _ _ _ _ _ _ hM hP hS (lv_sub hl [2, 3, 4, 1, 0] rfl)
  unfold mX7_workOut at hM
  refine lv_aload_n hx hb dX7_workOut_0 rfl (lv_at hl 0 rfl) ?_
  refine lv_iconst (v := 0) hx hb dX7_workOut_1 (by decide) ?_
  refine x_puti (own := RX7) (C := RX7) (T := TX7) (N := 14) hx hb KM_ok hJ hts hinX7_X7_workOut tyX7 tyX7_ok nmX7 hown hK hP hS KM_obj rfl 10 (by decide) (hts (.fieldLink RX7 80 "StrokeBoardModel" "boardMany" "I") (by decide +kernel)) rfl rfl rfl (by decide +kernel) dX7_workOut_2 (fun H locs hP hS => ?_)
  obtain ⟨σ30, eσ30, hM⟩ := lts_i hM
  rw [← eσ30] at hP
  refine lv_iconst (v := 0) hx hb dX7_workOut_5 (by decide) ?_
  refine lv_istore_n (lv' := [(2, .int 0), (0, .ref (ad 0)), (1, .int u1)]) hx hb dX7_workOut_6 rfl hl (by decide) rfl (fun ls hl => ?_)
  exact L7 fu _ _ _ _ _ _ hM hP hS (lv_sub hl [1, 2, 0] rfl)
theorem hinX7_X7_clearSite : ∀ w ∈ u_ws RX7 TX7 14, w ∈ wsX7_clearSite := by decide +kernel
set_option maxHeartbeats 4000000 in
set_option maxRecDepth 100000 in
theorem tX7_clearSite (l : Launch) (D : va_G) (cA : ClassId) (ad : Nat → Nat) (hJ : w_J ad KM) (u1 : Int32) (σ σ' : St) (hM : mX7_clearSite u1 σ = some σ') : Cv l yX7_clearSite wsX7_clearSite 0 0 D cA ad KM [.ref (ad 0), .int u1] σ σ' := by
  unfold Cv
  refine Met_of (cc := cX7_clearSite) (maxL := 3) (ret := none) hJ (by decide +kernel) rfl (Nat.le_of_ble_eq_true rfl) ?_
  intro p e s m below meth c Z H locs ls hP hS hl
  obtain ⟨hx, hb, hml, hown, hts, hr, hlk, hK, -⟩ := Z
  have hown : s.vm.findClass RX7 = some m.cls := hown
  have hl : lv_has ls 3 [(0, .ref (ad 0)), (1, .int u1)] := hl
  have hA : ∀ q, w_A ad KM q → w_A ad KM q := fun _ h => h
  have L52 : ∀ (n : Nat) (x1 x2 : Int32) (σ : St) (H : Heap) (locs : List Loc) (ls : Array Slot), mX7_clearSite_L52 n x1 x2 σ = some σ' → w_P D cA ad KM σ H → va_S (w_A ad KM) s.heap H locs → lv_has ls 3 [(0, .ref (ad 0)), (1, .int x1), (2, .int x2)] → Wm p l e wsX7_clearSite 0 0 s m ([.ref (ad 0), .int u1] : List Value).toArray below meth c (w_Qv D cA ad KM σ') (w_A ad KM) H locs (F0 m 52 ls []) := by
    intro n52
    induction n52 with
    | zero =>
      intro x1 x2 σ H locs ls hM hP hS hl
      rw [mX7_clearSite_L52] at hM
      cases hM
    | succ n52 ih52 =>
      intro x1 x2 σ H locs ls hM hP hS hl
      rw [mX7_clearSite_L52] at hM
      refine lv_iload_n hx hb dX7_clearSite_52 rfl (lv_at hl 2 rfl) ?_
      refine lv_iconst (v := 5) hx hb dX7_clearSite_53 (by decide) ?_
      refine lv_icmp_ge (tgt := 85) hx hb dX7_clearSite_54 (by decide) (fun c1 => ?_) (fun c1 => ?_)
      · have hM := (if_pos c1).symm.trans hM
        exact x_vret hx hb hr hlk hP hS hM dX7_clearSite_85
      · have hM := (if_neg c1).symm.trans hM
        refine lv_aload_n hx hb dX7_clearSite_57 rfl (lv_at hl 0 rfl) ?_
        refine x_getr (own := RX7) (C := RX7) (T := TX7) (N := 14) hx hb hts hinX7_X7_clearSite hown hK hP KM_obj rfl 7 (by decide) (hts (.fieldLink RX7 32 "StrokeBoardModel" "linkMany" "[I") (by decide +kernel)) rfl dX7_clearSite_58 ?_
        refine lv_iconst (v := 5) hx hb dX7_clearSite_61 (by decide) ?_
        refine lv_iload_n hx hb dX7_clearSite_62 rfl (lv_at hl 1 rfl) ?_
        refine lv_imul hx hb dX7_clearSite_63 ?_
        refine lv_iload_n hx hb dX7_clearSite_64 rfl (lv_at hl 2 rfl) ?_
        refine lv_iadd hx hb dX7_clearSite_65 ?_
        refine lv_iconst (v := 0) hx hb dX7_clearSite_66 (by decide) ?_
        obtain ⟨h2, hM⟩ := ix_i hM
        refine x_iast hx hb KM_ok hJ hK hP hS rfl h2 dX7_clearSite_67 (fun H locs hP hS => ?_)
        obtain ⟨σ3, eσ3, hM⟩ := lts_i hM
        rw [← eσ3] at hP
        refine lv_aload_n hx hb dX7_clearSite_68 rfl (lv_at hl 0 rfl) ?_
        refine x_getr (own := RX7) (C := RX7) (T := TX7) (N := 14) hx hb hts hinX7_X7_clearSite hown hK hP KM_obj rfl 7 (by decide) (hts (.fieldLink RX7 32 "StrokeBoardModel" "linkMany" "[I") (by decide +kernel)) rfl dX7_clearSite_69 ?_
        refine lv_iconst (v := 5) hx hb dX7_clearSite_72 (by decide) ?_
        refine lv_iload_n hx hb dX7_clearSite_73 rfl (lv_at hl 2 rfl) ?_
        refine lv_imul hx hb dX7_clearSite_74 ?_
        refine lv_iload_n hx hb dX7_clearSite_75 rfl (lv_at hl 1 rfl) ?_
        refine lv_iadd hx hb dX7_clearSite_76 ?_
        refine lv_iconst (v := 0) hx hb dX7_clearSite_77 (by decide) ?_
        obtain ⟨h4, hM⟩ := ix_i hM
        refine x_iast hx hb KM_ok hJ hK hP hS rfl h4 dX7_clearSite_78 (fun H locs hP hS => ?_)
        obtain ⟨σ5, eσ5, hM⟩ := lts_i hM
        rw [← eσ5] at hP
        refine lv_iinc (v := (x2 + 1)) (lv' := [(2, .int (x2 + 1)), (0, .ref (ad 0)), (1, .int x1)]) hx hb dX7_clearSite_79 hl (k := 2) rfl rfl (by decide) rfl (fun ls hl => ?_)
        refine lv_goto (tgt := 52) hx hb dX7_clearSite_82 (by decide) ?_
        exact ih52 _ _ _ _ _ _ hM hP hS (lv_sub hl [1, 2, 0] rfl)
  have L26 : ∀ (n : Nat) (x1 x2 : Int32) (σ : St) (H : Heap) (locs : List Loc) (ls : Array Slot), mX7_clearSite_L26 n x1 x2 σ = some σ' → w_P D cA ad KM σ H → va_S (w_A ad KM) s.heap H locs → lv_has ls 3 [(0, .ref (ad 0)), (1, .int x1), (2, .int x2)] → Wm p l e wsX7_clearSite 0 0 s m ([.ref (ad 0), .int u1] : List Value).toArray below meth c (w_Qv D cA ad KM σ') (w_A ad KM) H locs (F0 m 26 ls []) := by
    intro n26
    induction n26 with
    | zero =>
      intro x1 x2 σ H locs ls hM hP hS hl
      rw [mX7_clearSite_L26] at hM
      cases hM
    | succ n26 ih26 =>
      intro x1 x2 σ H locs ls hM hP hS hl
      rw [mX7_clearSite_L26] at hM
      refine lv_iload_n hx hb dX7_clearSite_26 rfl (lv_at hl 2 rfl) ?_
      refine lv_bipush (v := 100) hx hb dX7_clearSite_27 (by decide) ?_
      refine lv_icmp_ge (tgt := 50) hx hb dX7_clearSite_29 (by decide) (fun c6 => ?_) (fun c6 => ?_)
      · have hM := (if_pos c6).symm.trans hM
        refine lv_iconst (v := 0) hx hb dX7_clearSite_50 (by decide) ?_
        refine lv_istore_n (lv' := [(2, .int 0), (0, .ref (ad 0)), (1, .int x1)]) hx hb dX7_clearSite_51 rfl hl (by decide) rfl (fun ls hl => ?_)
        exact L52 fu _ _ _ _ _ _ hM hP hS (lv_sub hl [1, 2, 0] rfl)
      · have hM := (if_neg c6).symm.trans hM
        refine lv_aload_n hx hb dX7_clearSite_32 rfl (lv_at hl 0 rfl) ?_
        refine x_getr (own := RX7) (C := RX7) (T := TX7) (N := 14) hx hb hts hinX7_X7_clearSite hown hK hP KM_obj rfl 4 (by decide) (hts (.fieldLink RX7 23 "StrokeBoardModel" "known" "[I") (by decide +kernel)) rfl dX7_clearSite_33 ?_
        refine lv_bipush (v := 100) hx hb dX7_clearSite_36 (by decide) ?_
        refine lv_iload_n hx hb dX7_clearSite_38 rfl (lv_at hl 1 rfl) ?_
        refine lv_imul hx hb dX7_clearSite_39 ?_
        refine lv_iload_n hx hb dX7_clearSite_40 rfl (lv_at hl 2 rfl) ?_
        refine lv_iadd hx hb dX7_clearSite_41 ?_
        refine lv_iconst (v := 0) hx hb dX7_clearSite_42 (by decide) ?_
        obtain ⟨h7, hM⟩ := ix_i hM
        refine x_iast hx hb KM_ok hJ hK hP hS rfl h7 dX7_clearSite_43 (fun H locs hP hS => ?_)
        obtain ⟨σ8, eσ8, hM⟩ := lts_i hM
        rw [← eσ8] at hP
        refine lv_iinc (v := (x2 + 1)) (lv' := [(2, .int (x2 + 1)), (0, .ref (ad 0)), (1, .int x1)]) hx hb dX7_clearSite_44 hl (k := 2) rfl rfl (by decide) rfl (fun ls hl => ?_)
        refine lv_goto (tgt := 26) hx hb dX7_clearSite_47 (by decide) ?_
        exact ih26 _ _ _ _ _ _ hM hP hS (lv_sub hl [1, 2, 0] rfl)
  unfold mX7_clearSite at hM
  refine lv_aload_n hx hb dX7_clearSite_0 rfl (lv_at hl 0 rfl) ?_
  refine x_getr (own := RX7) (C := RX7) (T := TX7) (N := 14) hx hb hts hinX7_X7_clearSite hown hK hP KM_obj rfl 2 (by decide) (hts (.fieldLink RX7 17 "StrokeBoardModel" "made" "[I") (by decide +kernel)) rfl dX7_clearSite_1 ?_
  refine lv_iload_n hx hb dX7_clearSite_4 rfl (lv_at hl 1 rfl) ?_
  refine lv_iconst (v := 0) hx hb dX7_clearSite_5 (by decide) ?_
  obtain ⟨h9, hM⟩ := ix_i hM
  refine x_iast hx hb KM_ok hJ hK hP hS rfl h9 dX7_clearSite_6 (fun H locs hP hS => ?_)
  obtain ⟨σ10, eσ10, hM⟩ := lts_i hM
  rw [← eσ10] at hP
  refine lv_aload_n hx hb dX7_clearSite_7 rfl (lv_at hl 0 rfl) ?_
  refine x_getr (own := RX7) (C := RX7) (T := TX7) (N := 14) hx hb hts hinX7_X7_clearSite hown hK hP KM_obj rfl 3 (by decide) (hts (.fieldLink RX7 20 "StrokeBoardModel" "clock" "[I") (by decide +kernel)) rfl dX7_clearSite_8 ?_
  refine lv_iload_n hx hb dX7_clearSite_11 rfl (lv_at hl 1 rfl) ?_
  refine lv_iconst (v := 0) hx hb dX7_clearSite_12 (by decide) ?_
  obtain ⟨h11, hM⟩ := ix_i hM
  refine x_iast hx hb KM_ok hJ hK hP hS rfl h11 dX7_clearSite_13 (fun H locs hP hS => ?_)
  obtain ⟨σ12, eσ12, hM⟩ := lts_i hM
  rw [← eσ12] at hP
  refine lv_aload_n hx hb dX7_clearSite_14 rfl (lv_at hl 0 rfl) ?_
  refine x_getr (own := RX7) (C := RX7) (T := TX7) (N := 14) hx hb hts hinX7_X7_clearSite hown hK hP KM_obj rfl 5 (by decide) (hts (.fieldLink RX7 26 "StrokeBoardModel" "pens" "[I") (by decide +kernel)) rfl dX7_clearSite_15 ?_
  refine lv_bipush (v := 19) hx hb dX7_clearSite_18 (by decide) ?_
  refine lv_iload_n hx hb dX7_clearSite_20 rfl (lv_at hl 1 rfl) ?_
  refine lv_imul hx hb dX7_clearSite_21 ?_
  refine lv_iconst (v := 0) hx hb dX7_clearSite_22 (by decide) ?_
  obtain ⟨h13, hM⟩ := ix_i hM
  refine x_iast hx hb KM_ok hJ hK hP hS rfl h13 dX7_clearSite_23 (fun H locs hP hS => ?_)
  obtain ⟨σ14, eσ14, hM⟩ := lts_i hM
  rw [← eσ14] at hP
  refine lv_iconst (v := 0) hx hb dX7_clearSite_24 (by decide) ?_
  refine lv_istore_n (lv' := [(2, .int 0), (0, .ref (ad 0)), (1, .int u1)]) hx hb dX7_clearSite_25 rfl hl (by decide) rfl (fun ls hl => ?_)
  exact L26 fu _ _ _ _ _ _ hM hP hS (lv_sub hl [1, 2, 0] rfl)
theorem hinX7_X7_reset : ∀ w ∈ u_ws RX7 TX7 14, w ∈ wsX7_reset := by decide +kernel
set_option maxHeartbeats 4000000 in
set_option maxRecDepth 100000 in
theorem tX7_reset (l : Launch) (D : va_G) (cA : ClassId) (ad : Nat → Nat) (hJ : w_J ad KM) (u1 : Int32) (σ σ' : St) (r : Int32) (hM : mX7_reset u1 σ = some (r, σ')) : Ct l yX7_reset wsX7_reset 1 22 D cA ad KM [.ref (ad 0), .int u1] σ r σ' := by
  unfold Ct
  refine Met_of (cc := cX7_reset) (maxL := 4) (ret := (some .int)) hJ (by decide +kernel) rfl (Nat.le_of_ble_eq_true rfl) ?_
  intro p e s m below meth c Z H locs ls hP hS hl
  obtain ⟨hx, hb, hml, hown, hts, hr, hlk, hK, -⟩ := Z
  have hown : s.vm.findClass RX7 = some m.cls := hown
  have hl : lv_has ls 4 [(0, .ref (ad 0)), (1, .int u1)] := hl
  have hA : ∀ q, w_A ad KM q → w_A ad KM q := fun _ h => h
  have L24 : ∀ (n : Nat) (x2 x3 : Int32) (σ : St) (H : Heap) (locs : List Loc) (ls : Array Slot), mX7_reset_L24 n x2 x3 σ = some (r, σ') → w_P D cA ad KM σ H → va_S (w_A ad KM) s.heap H locs → lv_has ls 4 [(0, .ref (ad 0)), (2, .int x2), (3, .int x3)] → Wm p l e wsX7_reset 1 22 s m ([.ref (ad 0), .int u1] : List Value).toArray below meth c (w_Qi D cA ad KM r σ') (w_A ad KM) H locs (F0 m 24 ls []) := by
    intro n24
    induction n24 with
    | zero =>
      intro x2 x3 σ H locs ls hM hP hS hl
      rw [mX7_reset_L24] at hM
      cases hM
    | succ n24 ih24 =>
      intro x2 x3 σ H locs ls hM hP hS hl
      rw [mX7_reset_L24] at hM
      refine lv_iload_n hx hb dX7_reset_24 rfl (lv_at hl 2 rfl) ?_
      refine lv_iconst (v := 5) hx hb dX7_reset_25 (by decide) ?_
      refine lv_icmp_ge (tgt := 40) hx hb dX7_reset_26 (by decide) (fun c1 => ?_) (fun c1 => ?_)
      · have hM := (if_pos c1).symm.trans hM
        refine lv_iload_n hx hb dX7_reset_40 rfl (lv_at hl 1 rfl) ?_
        exact x_iret hx hb hr hlk hP hS hM dX7_reset_41
      · have hM := (if_neg c1).symm.trans hM
        refine lv_aload_n hx hb dX7_reset_29 rfl (lv_at hl 0 rfl) ?_
        refine lv_iload_n hx hb dX7_reset_30 rfl (lv_at hl 2 rfl) ?_
        obtain ⟨σ3, h2, hM⟩ := bnv_i hM
        refine x_callVv (As := [.int x3]) (rest := []) hA ⟨hx, hb, hml, hown, hts⟩ (tX7_clearSite l D cA ad hJ x3 σ _ h2) (cwV 1 hts gX7_reset_X7_clearSite rfl rfl rfl (by decide +kernel) ⟨(Nat.le_of_ble_eq_true rfl), (Nat.le_of_ble_eq_true rfl)⟩) hK hP hS KM_obj rfl rfl hl.1 rfl (Nat.le_of_ble_eq_true rfl) ⟨Nat.zero_le _, Nat.zero_le _⟩ dX7_reset_31 (fun H locs hP hS _ _ => ?_)
        refine lv_iinc (v := (x3 + 1)) (lv' := [(3, .int (x3 + 1)), (0, .ref (ad 0)), (2, .int x2)]) hx hb dX7_reset_34 hl (k := 2) rfl rfl (by decide) rfl (fun ls hl => ?_)
        refine lv_goto (tgt := 24) hx hb dX7_reset_37 (by decide) ?_
        exact ih24 _ _ _ _ _ _ hM hP hS (lv_sub hl [1, 2, 0] rfl)
  unfold mX7_reset at hM
  refine lv_iload_n hx hb dX7_reset_0 rfl (lv_at hl 1 rfl) ?_
  refine lv_iconst (v := 1) hx hb dX7_reset_1 (by decide) ?_
  refine lv_iconst (v := 5) hx hb dX7_reset_2 (by decide) ?_
  obtain ⟨r6, σ5, h4, hM⟩ := bnd_i hM
  refine x_callS (As := [.int u1, .int 1, .int 5]) (rest := []) hA ⟨hx, hb, hml, hown, hts⟩ (tX7_in l D cA ad hJ u1 1 5 σ _ _ h4) (va_cwS 3 hts gX7_reset_X7_in rfl rfl rfl (by decide +kernel) ⟨(Nat.le_of_ble_eq_true rfl), (Nat.le_of_ble_eq_true rfl)⟩) hK hP hS rfl hl.1 rfl (Nat.le_of_ble_eq_true rfl) ⟨Nat.zero_le _, Nat.zero_le _⟩ dX7_reset_3 (fun H locs hP hS => ?_)
  refine lv_if_ne (tgt := 12) hx hb dX7_reset_6 (by decide) (fun c7 => ?_) (fun c7 => ?_)
  · have hM := (if_neg c7).symm.trans hM
    refine lv_aload_n hx hb dX7_reset_12 rfl (lv_at hl 0 rfl) ?_
    refine x_geti (own := RX7) (C := RX7) (T := TX7) (N := 14) hx hb hts hinX7_X7_reset hown hK hP KM_obj rfl 0 (by decide) (hts (.fieldLink RX7 7 "StrokeBoardModel" "sites" "I") (by decide +kernel)) rfl dX7_reset_13 ?_
    refine lv_istore_n (lv' := [(2, .int (σ5 12 0)), (0, .ref (ad 0)), (1, .int u1)]) hx hb dX7_reset_16 rfl hl (by decide) rfl (fun ls hl => ?_)
    refine lv_aload_n hx hb dX7_reset_17 rfl (lv_at hl 1 rfl) ?_
    refine lv_iload_n hx hb dX7_reset_18 rfl (lv_at hl 2 rfl) ?_
    refine x_puti (own := RX7) (C := RX7) (T := TX7) (N := 14) hx hb KM_ok hJ hts hinX7_X7_reset tyX7 tyX7_ok nmX7 hown hK hP hS KM_obj rfl 0 (by decide) (hts (.fieldLink RX7 7 "StrokeBoardModel" "sites" "I") (by decide +kernel)) rfl rfl rfl (by decide +kernel) dX7_reset_19 (fun H locs hP hS => ?_)
    obtain ⟨σ8, eσ8, hM⟩ := lts_i hM
    rw [← eσ8] at hP
    refine lv_iconst (v := 0) hx hb dX7_reset_22 (by decide) ?_
    refine lv_istore_n (lv' := [(3, .int 0), (2, .int (σ5 12 0)), (0, .ref (ad 0)), (1, .int u1)]) hx hb dX7_reset_23 rfl hl (by decide) rfl (fun ls hl => ?_)
    exact L24 fu _ _ _ _ _ _ hM hP hS (lv_sub hl [2, 1, 0] rfl)
  · have hM := (if_pos c7).symm.trans hM
    refine lv_ldc (own := RX7) (v := (-1000000001)) hx hb hown (hts (.constant RX7 89 (-1000000001)) (by decide +kernel)) dX7_reset_9 ?_
    exact x_iret hx hb hr hlk hP hS hM dX7_reset_11
theorem hinX7_X7_join : ∀ w ∈ u_ws RX7 TX7 14, w ∈ wsX7_join := by decide +kernel
set_option maxHeartbeats 4000000 in
set_option maxRecDepth 100000 in
theorem tX7_join (l : Launch) (D : va_G) (cA : ClassId) (ad : Nat → Nat) (hJ : w_J ad KM) (σ σ' : St) (r : Int32) (hM : mX7_join σ = some (r, σ')) : Ct l yX7_join wsX7_join 1 22 D cA ad KM [.ref (ad 0)] σ r σ' := by
  unfold Ct
  refine Met_of (cc := cX7_join) (maxL := 1) (ret := (some .int)) hJ (by decide +kernel) rfl (Nat.le_of_ble_eq_true rfl) ?_
  intro p e s m below meth c Z H locs ls hP hS hl
  obtain ⟨hx, hb, hml, hown, hts, hr, hlk, hK, -⟩ := Z
  have hown : s.vm.findClass RX7 = some m.cls := hown
  have hl : lv_has ls 1 [(0, .ref (ad 0))] := hl
  have hA : ∀ q, w_A ad KM q → w_A ad KM q := fun _ h => h
  unfold mX7_join at hM
  refine lv_aload_n hx hb dX7_join_0 rfl (lv_at hl 0 rfl) ?_
  refine x_geti (own := RX7) (C := RX7) (T := TX7) (N := 14) hx hb hts hinX7_X7_join hown hK hP KM_obj rfl 0 (by decide) (hts (.fieldLink RX7 7 "StrokeBoardModel" "sites" "I") (by decide +kernel)) rfl dX7_join_1 ?_
  refine lv_iconst (v := 5) hx hb dX7_join_4 (by decide) ?_
  refine lv_icmp_ne (tgt := 11) hx hb dX7_join_5 (by decide) (fun c1 => ?_) (fun c1 => ?_)
  · have hM := (if_neg c1).symm.trans hM
    refine lv_aload_n hx hb dX7_join_11 rfl (lv_at hl 0 rfl) ?_
    refine lv_aload_n hx hb dX7_join_12 rfl (lv_at hl 0 rfl) ?_
    refine x_geti (own := RX7) (C := RX7) (T := TX7) (N := 14) hx hb hts hinX7_X7_join hown hK hP KM_obj rfl 0 (by decide) (hts (.fieldLink RX7 7 "StrokeBoardModel" "sites" "I") (by decide +kernel)) rfl dX7_join_13 ?_
    obtain ⟨σ3, h2, hM⟩ := bnv_i hM
    refine x_callVv (As := [.int (σ 12 0)]) (rest := []) hA ⟨hx, hb, hml, hown, hts⟩ (tX7_clearSite l D cA ad hJ (σ 12 0) σ _ h2) (cwV 1 hts gX7_join_X7_clearSite rfl rfl rfl (by decide +kernel) ⟨(Nat.le_of_ble_eq_true rfl), (Nat.le_of_ble_eq_true rfl)⟩) hK hP hS KM_obj rfl rfl hl.1 rfl (Nat.le_of_ble_eq_true rfl) ⟨Nat.zero_le _, Nat.zero_le _⟩ dX7_join_16 (fun H locs hP hS _ _ => ?_)
    refine lv_aload_n hx hb dX7_join_19 rfl (lv_at hl 0 rfl) ?_
    refine lv_dup hx hb dX7_join_20 rfl ?_
    refine x_geti (own := RX7) (C := RX7) (T := TX7) (N := 14) hx hb hts hinX7_X7_join hown hK hP KM_obj rfl 0 (by decide) (hts (.fieldLink RX7 7 "StrokeBoardModel" "sites" "I") (by decide +kernel)) rfl dX7_join_21 ?_
    refine lv_iconst (v := 1) hx hb dX7_join_24 (by decide) ?_
    refine lv_iadd hx hb dX7_join_25 ?_
    refine x_puti (own := RX7) (C := RX7) (T := TX7) (N := 14) hx hb KM_ok hJ hts hinX7_X7_join tyX7 tyX7_ok nmX7 hown hK hP hS KM_obj rfl 0 (by decide) (hts (.fieldLink RX7 7 "StrokeBoardModel" "sites" "I") (by decide +kernel)) rfl rfl rfl (by decide +kernel) dX7_join_26 (fun H locs hP hS => ?_)
    obtain ⟨σ4, eσ4, hM⟩ := lts_i hM
    rw [← eσ4] at hP
    refine lv_aload_n hx hb dX7_join_29 rfl (lv_at hl 0 rfl) ?_
    refine x_geti (own := RX7) (C := RX7) (T := TX7) (N := 14) hx hb hts hinX7_X7_join hown hK hP KM_obj rfl 0 (by decide) (hts (.fieldLink RX7 7 "StrokeBoardModel" "sites" "I") (by decide +kernel)) rfl dX7_join_30 ?_
    refine lv_iconst (v := 1) hx hb dX7_join_33 (by decide) ?_
    refine lv_isub hx hb dX7_join_34 ?_
    exact x_iret hx hb hr hlk hP hS hM dX7_join_35
  · have hM := (if_pos c1).symm.trans hM
    refine lv_ldc (own := RX7) (v := (-1000000003)) hx hb hown (hts (.constant RX7 94 (-1000000003)) (by decide +kernel)) dX7_join_8 ?_
    exact x_iret hx hb hr hlk hP hS hM dX7_join_10
theorem hinX7_X7_sites : ∀ w ∈ u_ws RX7 TX7 14, w ∈ wsX7_sites := by decide +kernel
set_option maxHeartbeats 4000000 in
set_option maxRecDepth 100000 in
theorem tX7_sites (l : Launch) (D : va_G) (cA : ClassId) (ad : Nat → Nat) (hJ : w_J ad KM) (σ σ' : St) (r : Int32) (hM : mX7_sites σ = some (r, σ')) : Ct l yX7_sites wsX7_sites 0 0 D cA ad KM [.ref (ad 0)] σ r σ' := by
  unfold Ct
  refine Met_of (cc := cX7_sites) (maxL := 1) (ret := (some .int)) hJ (by decide +kernel) rfl (Nat.le_of_ble_eq_true rfl) ?_
  intro p e s m below meth c Z H locs ls hP hS hl
  obtain ⟨hx, hb, hml, hown, hts, hr, hlk, hK, -⟩ := Z
  have hown : s.vm.findClass RX7 = some m.cls := hown
  have hl : lv_has ls 1 [(0, .ref (ad 0))] := hl
  have hA : ∀ q, w_A ad KM q → w_A ad KM q := fun _ h => h
  unfold mX7_sites at hM
  refine lv_aload_n hx hb dX7_sites_0 rfl (lv_at hl 0 rfl) ?_
  refine x_geti (own := RX7) (C := RX7) (T := TX7) (N := 14) hx hb hts hinX7_X7_sites hown hK hP KM_obj rfl 0 (by decide) (hts (.fieldLink RX7 7 "StrokeBoardModel" "sites" "I") (by decide +kernel)) rfl dX7_sites_1 ?_
  exact x_iret hx hb hr hlk hP hS hM dX7_sites_4
theorem hinX7_X7_knownMany : ∀ w ∈ u_ws RX7 TX7 14, w ∈ wsX7_knownMany := by decide +kernel
set_option maxHeartbeats 4000000 in
set_option maxRecDepth 100000 in
theorem tX7_knownMany (l : Launch) (D : va_G) (cA : ClassId) (ad : Nat → Nat) (hJ : w_J ad KM) (u1 : Int32) (σ σ' : St) (r : Int32) (hM : mX7_knownMany u1 σ = some (r, σ')) : Ct l yX7_knownMany wsX7_knownMany 0 0 D cA ad KM [.ref (ad 0), .int u1] σ r σ' := by
  unfold Ct
  refine Met_of (cc := cX7_knownMany) (maxL := 4) (ret := (some .int)) hJ (by decide +kernel) rfl (Nat.le_of_ble_eq_true rfl) ?_
  intro p e s m below meth c Z H locs ls hP hS hl
  obtain ⟨hx, hb, hml, hown, hts, hr, hlk, hK, -⟩ := Z
  have hown : s.vm.findClass RX7 = some m.cls := hown
  have hl : lv_has ls 4 [(0, .ref (ad 0)), (1, .int u1)] := hl
  have hA : ∀ q, w_A ad KM q → w_A ad KM q := fun _ h => h
  have L4 : ∀ (n : Nat) (x1 x2 x3 : Int32) (σ : St) (H : Heap) (locs : List Loc) (ls : Array Slot), mX7_knownMany_L4 n x1 x2 x3 σ = some (r, σ') → w_P D cA ad KM σ H → va_S (w_A ad KM) s.heap H locs → lv_has ls 4 [(0, .ref (ad 0)), (1, .int x1), (2, .int x2), (3, .int x3)] → Wm p l e wsX7_knownMany 0 0 s m ([.ref (ad 0), .int u1] : List Value).toArray below meth c (w_Qi D cA ad KM r σ') (w_A ad KM) H locs (F0 m 4 ls []) := by
    intro n4
    induction n4 with
    | zero =>
      intro x1 x2 x3 σ H locs ls hM hP hS hl
      rw [mX7_knownMany_L4] at hM
      cases hM
    | succ n4 ih4 =>
      intro x1 x2 x3 σ H locs ls hM hP hS hl
      rw [mX7_knownMany_L4] at hM
      refine lv_iload_n hx hb dX7_knownMany_4 rfl (lv_at hl 3 rfl) ?_
      refine lv_bipush (v := 100) hx hb dX7_knownMany_5 (by decide) ?_
      refine lv_icmp_ge (tgt := 30) hx hb dX7_knownMany_7 (by decide) (fun c1 => ?_) (fun c1 => ?_)
      · have hM := (if_pos c1).symm.trans hM
        refine lv_iload_n hx hb dX7_knownMany_30 rfl (lv_at hl 2 rfl) ?_
        exact x_iret hx hb hr hlk hP hS hM dX7_knownMany_31
      · have hM := (if_neg c1).symm.trans hM
        refine lv_iload_n hx hb dX7_knownMany_10 rfl (lv_at hl 2 rfl) ?_
        refine lv_aload_n hx hb dX7_knownMany_11 rfl (lv_at hl 0 rfl) ?_
        refine x_getr (own := RX7) (C := RX7) (T := TX7) (N := 14) hx hb hts hinX7_X7_knownMany hown hK hP KM_obj rfl 4 (by decide) (hts (.fieldLink RX7 23 "StrokeBoardModel" "known" "[I") (by decide +kernel)) rfl dX7_knownMany_12 ?_
        refine lv_bipush (v := 100) hx hb dX7_knownMany_15 (by decide) ?_
        refine lv_iload_n hx hb dX7_knownMany_17 rfl (lv_at hl 1 rfl) ?_
        refine lv_imul hx hb dX7_knownMany_18 ?_
        refine lv_iload_n hx hb dX7_knownMany_19 rfl (lv_at hl 3 rfl) ?_
        refine lv_iadd hx hb dX7_knownMany_20 ?_
        obtain ⟨h2, hM⟩ := ix_i hM
        refine x_iald hx hb hK hP rfl h2 dX7_knownMany_21 ?_
        refine lv_iadd hx hb dX7_knownMany_22 ?_
        refine lv_topi (fun z3 ez3 => ?_)
        have hM := lti_u ez3 hM
        refine lv_istore_n (lv' := [(2, .int z3), (0, .ref (ad 0)), (1, .int x1), (3, .int x3)]) hx hb dX7_knownMany_23 rfl hl (by decide) rfl (fun ls hl => ?_)
        refine lv_iinc (v := (x3 + 1)) (lv' := [(3, .int (x3 + 1)), (2, .int z3), (0, .ref (ad 0)), (1, .int x1)]) hx hb dX7_knownMany_24 hl (k := 3) rfl rfl (by decide) rfl (fun ls hl => ?_)
        refine lv_goto (tgt := 4) hx hb dX7_knownMany_27 (by decide) ?_
        exact ih4 _ _ _ _ _ _ _ hM hP hS (lv_sub hl [2, 3, 1, 0] rfl)
  unfold mX7_knownMany at hM
  refine lv_iconst (v := 0) hx hb dX7_knownMany_0 (by decide) ?_
  refine lv_istore_n (lv' := [(2, .int 0), (0, .ref (ad 0)), (1, .int u1)]) hx hb dX7_knownMany_1 rfl hl (by decide) rfl (fun ls hl => ?_)
  refine lv_iconst (v := 0) hx hb dX7_knownMany_2 (by decide) ?_
  refine lv_istore_n (lv' := [(3, .int 0), (2, .int 0), (0, .ref (ad 0)), (1, .int u1)]) hx hb dX7_knownMany_3 rfl hl (by decide) rfl (fun ls hl => ?_)
  exact L4 fu _ _ _ _ _ _ _ hM hP hS (lv_sub hl [2, 3, 1, 0] rfl)
theorem hinX7_X7_siteInfo : ∀ w ∈ u_ws RX7 TX7 14, w ∈ wsX7_siteInfo := by decide +kernel
set_option maxHeartbeats 4000000 in
set_option maxRecDepth 100000 in
theorem tX7_siteInfo (l : Launch) (D : va_G) (cA : ClassId) (ad : Nat → Nat) (hJ : w_J ad KM) (u1 u2 : Int32) (σ σ' : St) (r : Int32) (hM : mX7_siteInfo u1 u2 σ = some (r, σ')) : Ct l yX7_siteInfo wsX7_siteInfo 5 118 D cA ad KM [.ref (ad 0), .int u1, .int u2] σ r σ' := by
  unfold Ct
  refine Met_of (cc := cX7_siteInfo) (maxL := 3) (ret := (some .int)) hJ (by decide +kernel) rfl (Nat.le_of_ble_eq_true rfl) ?_
  intro p e s m below meth c Z H locs ls hP hS hl
  obtain ⟨hx, hb, hml, hown, hts, hr, hlk, hK, -⟩ := Z
  have hown : s.vm.findClass RX7 = some m.cls := hown
  have hl : lv_has ls 3 [(0, .ref (ad 0)), (1, .int u1), (2, .int u2)] := hl
  have hA : ∀ q, w_A ad KM q → w_A ad KM q := fun _ h => h
  unfold mX7_siteInfo at hM
  refine lv_aload_n hx hb dX7_siteInfo_0 rfl (lv_at hl 0 rfl) ?_
  refine lv_iload_n hx hb dX7_siteInfo_1 rfl (lv_at hl 1 rfl) ?_
  obtain ⟨r3, σ2, h1, hM⟩ := bnd_i hM
  refine x_callV (As := [.int u1]) (rest := []) hA ⟨hx, hb, hml, hown, hts⟩ (tX7_isSite l D cA ad hJ u1 σ _ _ h1) (cwV 1 hts gX7_siteInfo_X7_isSite rfl rfl rfl (by decide +kernel) ⟨(Nat.le_of_ble_eq_true rfl), (Nat.le_of_ble_eq_true rfl)⟩) hK hP hS KM_obj rfl rfl hl.1 rfl (Nat.le_of_ble_eq_true rfl) ⟨Nat.zero_le _, Nat.zero_le _⟩ dX7_siteInfo_2 (fun H locs hP hS _ _ => ?_)
  refine lv_if_eq (tgt := 17) hx hb dX7_siteInfo_5 (by decide) (fun c4 => ?_) (fun c4 => ?_)
  · have hM := (if_pos c4).symm.trans hM
    refine lv_ldc (own := RX7) (v := (-1000000001)) hx hb hown (hts (.constant RX7 89 (-1000000001)) (by decide +kernel)) dX7_siteInfo_17 ?_
    exact x_iret hx hb hr hlk hP hS hM dX7_siteInfo_19
  · have hM := (if_neg c4).symm.trans hM
    refine lv_iload_n hx hb dX7_siteInfo_8 rfl (lv_at hl 2 rfl) ?_
    refine lv_iconst (v := 0) hx hb dX7_siteInfo_9 (by decide) ?_
    refine lv_iconst (v := 4) hx hb dX7_siteInfo_10 (by decide) ?_
    obtain ⟨r7, σ6, h5, hM⟩ := bnd_i hM
    refine x_callS (As := [.int u2, .int 0, .int 4]) (rest := []) hA ⟨hx, hb, hml, hown, hts⟩ (tX7_in l D cA ad hJ u2 0 4 σ2 _ _ h5) (va_cwS 3 hts gX7_siteInfo_X7_in rfl rfl rfl (by decide +kernel) ⟨(Nat.le_of_ble_eq_true rfl), (Nat.le_of_ble_eq_true rfl)⟩) hK hP hS rfl hl.1 rfl (Nat.le_of_ble_eq_true rfl) ⟨Nat.zero_le _, Nat.zero_le _⟩ dX7_siteInfo_11 (fun H locs hP hS => ?_)
    refine lv_if_ne (tgt := 20) hx hb dX7_siteInfo_14 (by decide) (fun c8 => ?_) (fun c8 => ?_)
    · have hM := (if_neg c8).symm.trans hM
      refine lv_iload_n hx hb dX7_siteInfo_20 rfl (lv_at hl 2 rfl) ?_
      by_cases c9 : u2 = 0
      · have hM := (if_pos c9).symm.trans hM
        refine lv_tableIn (tgt := 52) (off := 31) hx hb dX7_siteInfo_21 (by rw [c9]; decide) (by rw [c9]; decide) (by rw [c9]; rfl) (by decide) ?_
        refine lv_aload_n hx hb dX7_siteInfo_52 rfl (lv_at hl 0 rfl) ?_
        refine x_getr (own := RX7) (C := RX7) (T := TX7) (N := 14) hx hb hts hinX7_X7_siteInfo hown hK hP KM_obj rfl 3 (by decide) (hts (.fieldLink RX7 20 "StrokeBoardModel" "clock" "[I") (by decide +kernel)) rfl dX7_siteInfo_53 ?_
        refine lv_iload_n hx hb dX7_siteInfo_56 rfl (lv_at hl 1 rfl) ?_
        obtain ⟨h10, hM⟩ := ix_i hM
        refine x_iald hx hb hK hP rfl h10 dX7_siteInfo_57 ?_
        exact x_iret hx hb hr hlk hP hS hM dX7_siteInfo_58
      · have hM := (if_neg c9).symm.trans hM
        by_cases c11 : u2 = 1
        · have hM := (if_pos c11).symm.trans hM
          refine lv_tableIn (tgt := 59) (off := 38) hx hb dX7_siteInfo_21 (by rw [c11]; decide) (by rw [c11]; decide) (by rw [c11]; rfl) (by decide) ?_
          refine lv_aload_n hx hb dX7_siteInfo_59 rfl (lv_at hl 0 rfl) ?_
          refine lv_iload_n hx hb dX7_siteInfo_60 rfl (lv_at hl 1 rfl) ?_
          obtain ⟨r14, σ13, h12, hM⟩ := bnd_i hM
          refine x_callV (As := [.int u1]) (rest := []) hA ⟨hx, hb, hml, hown, hts⟩ (tX7_knownMany l D cA ad hJ u1 σ6 _ _ h12) (cwV 1 hts gX7_siteInfo_X7_knownMany rfl rfl rfl (by decide +kernel) ⟨(Nat.le_of_ble_eq_true rfl), (Nat.le_of_ble_eq_true rfl)⟩) hK hP hS KM_obj rfl rfl hl.1 rfl (Nat.le_of_ble_eq_true rfl) ⟨Nat.zero_le _, Nat.zero_le _⟩ dX7_siteInfo_61 (fun H locs hP hS _ _ => ?_)
          exact x_iret hx hb hr hlk hP hS hM dX7_siteInfo_64
        · have hM := (if_neg c11).symm.trans hM
          by_cases c15 : u2 = 2
          · have hM := (if_pos c15).symm.trans hM
            refine lv_tableIn (tgt := 65) (off := 44) hx hb dX7_siteInfo_21 (by rw [c15]; decide) (by rw [c15]; decide) (by rw [c15]; rfl) (by decide) ?_
            refine lv_aload_n hx hb dX7_siteInfo_65 rfl (lv_at hl 0 rfl) ?_
            refine x_getr (own := RX7) (C := RX7) (T := TX7) (N := 14) hx hb hts hinX7_X7_siteInfo hown hK hP KM_obj rfl 2 (by decide) (hts (.fieldLink RX7 17 "StrokeBoardModel" "made" "[I") (by decide +kernel)) rfl dX7_siteInfo_66 ?_
            refine lv_iload_n hx hb dX7_siteInfo_69 rfl (lv_at hl 1 rfl) ?_
            obtain ⟨h16, hM⟩ := ix_i hM
            refine x_iald hx hb hK hP rfl h16 dX7_siteInfo_70 ?_
            exact x_iret hx hb hr hlk hP hS hM dX7_siteInfo_71
          · have hM := (if_neg c15).symm.trans hM
            by_cases c17 : u2 = 3
            · have hM := (if_pos c17).symm.trans hM
              refine lv_tableIn (tgt := 72) (off := 51) hx hb dX7_siteInfo_21 (by rw [c17]; decide) (by rw [c17]; decide) (by rw [c17]; rfl) (by decide) ?_
              refine lv_aload_n hx hb dX7_siteInfo_72 rfl (lv_at hl 0 rfl) ?_
              refine lv_iload_n hx hb dX7_siteInfo_73 rfl (lv_at hl 1 rfl) ?_
              obtain ⟨σ19, h18, hM⟩ := bnv_i hM
              refine x_callVv (As := [.int u1]) (rest := []) hA ⟨hx, hb, hml, hown, hts⟩ (tX7_workOut l D cA ad hJ u1 σ6 _ h18) (cwV 1 hts gX7_siteInfo_X7_workOut rfl rfl rfl (by decide +kernel) ⟨(Nat.le_of_ble_eq_true rfl), (Nat.le_of_ble_eq_true rfl)⟩) hK hP hS KM_obj rfl rfl hl.1 rfl (Nat.le_of_ble_eq_true rfl) ⟨Nat.zero_le _, Nat.zero_le _⟩ dX7_siteInfo_74 (fun H locs hP hS _ _ => ?_)
              refine lv_aload_n hx hb dX7_siteInfo_77 rfl (lv_at hl 0 rfl) ?_
              refine x_geti (own := RX7) (C := RX7) (T := TX7) (N := 14) hx hb hts hinX7_X7_siteInfo hown hK hP KM_obj rfl 10 (by decide) (hts (.fieldLink RX7 80 "StrokeBoardModel" "boardMany" "I") (by decide +kernel)) rfl dX7_siteInfo_78 ?_
              exact x_iret hx hb hr hlk hP hS hM dX7_siteInfo_81
            · have hM := (if_neg c17).symm.trans hM
              refine lv_tableOut (tgt := 82) hx hb dX7_siteInfo_21 (by
                rcases Int.lt_or_le (Int32.toInt u2) 0 with h9 | h9
                · exact Or.inl h9
                · rcases Int.lt_or_le 3 (Int32.toInt u2) with h8 | h8
                  · exact Or.inr h8
                  · exfalso
                    rcases (show Int32.toInt u2 = 0 ∨ Int32.toInt u2 = 1 ∨ Int32.toInt u2 = 2 ∨ Int32.toInt u2 = 3 by omega) with h7 | h7 | h7 | h7
                    · exact c9 (Int32.toInt_inj.mp (h7.trans (by decide)))
                    · exact c11 (Int32.toInt_inj.mp (h7.trans (by decide)))
                    · exact c15 (Int32.toInt_inj.mp (h7.trans (by decide)))
                    · exact c17 (Int32.toInt_inj.mp (h7.trans (by decide)))) (by decide) ?_
              refine lv_aload_n hx hb dX7_siteInfo_82 rfl (lv_at hl 0 rfl) ?_
              refine x_getr (own := RX7) (C := RX7) (T := TX7) (N := 14) hx hb hts hinX7_X7_siteInfo hown hK hP KM_obj rfl 5 (by decide) (hts (.fieldLink RX7 26 "StrokeBoardModel" "pens" "[I") (by decide +kernel)) rfl dX7_siteInfo_83 ?_
              refine lv_bipush (v := 19) hx hb dX7_siteInfo_86 (by decide) ?_
              refine lv_iload_n hx hb dX7_siteInfo_88 rfl (lv_at hl 1 rfl) ?_
              refine lv_imul hx hb dX7_siteInfo_89 ?_
              obtain ⟨h20, hM⟩ := ix_i hM
              refine x_iald hx hb hK hP rfl h20 dX7_siteInfo_90 ?_
              exact x_iret hx hb hr hlk hP hS hM dX7_siteInfo_91
    · have hM := (if_pos c8).symm.trans hM
      refine lv_ldc (own := RX7) (v := (-1000000001)) hx hb hown (hts (.constant RX7 89 (-1000000001)) (by decide +kernel)) dX7_siteInfo_17 ?_
      exact x_iret hx hb hr hlk hP hS hM dX7_siteInfo_19
theorem hinX7_X7_penDown : ∀ w ∈ u_ws RX7 TX7 14, w ∈ wsX7_penDown := by decide +kernel
set_option maxHeartbeats 4000000 in
set_option maxRecDepth 100000 in
theorem tX7_penDown (l : Launch) (D : va_G) (cA : ClassId) (ad : Nat → Nat) (hJ : w_J ad KM) (u1 u2 u3 u4 u5 : Int32) (σ σ' : St) (r : Int32) (hM : mX7_penDown u1 u2 u3 u4 u5 σ = some (r, σ')) : Ct l yX7_penDown wsX7_penDown 2 43 D cA ad KM [.ref (ad 0), .int u1, .int u2, .int u3, .int u4, .int u5] σ r σ' := by
  unfold Ct
  refine Met_of (cc := cX7_penDown) (maxL := 7) (ret := (some .int)) hJ (by decide +kernel) rfl (Nat.le_of_ble_eq_true rfl) ?_
  intro p e s m below meth c Z H locs ls hP hS hl
  obtain ⟨hx, hb, hml, hown, hts, hr, hlk, hK, -⟩ := Z
  have hown : s.vm.findClass RX7 = some m.cls := hown
  have hl : lv_has ls 7 [(0, .ref (ad 0)), (1, .int u1), (2, .int u2), (3, .int u3), (4, .int u4), (5, .int u5)] := hl
  have hA : ∀ q, w_A ad KM q → w_A ad KM q := fun _ h => h
  unfold mX7_penDown at hM
  refine lv_aload_n hx hb dX7_penDown_0 rfl (lv_at hl 0 rfl) ?_
  refine lv_iload_n hx hb dX7_penDown_1 rfl (lv_at hl 1 rfl) ?_
  obtain ⟨r3, σ2, h1, hM⟩ := bnd_i hM
  refine x_callV (As := [.int u1]) (rest := []) hA ⟨hx, hb, hml, hown, hts⟩ (tX7_isSite l D cA ad hJ u1 σ _ _ h1) (cwV 1 hts gX7_penDown_X7_isSite rfl rfl rfl (by decide +kernel) ⟨(Nat.le_of_ble_eq_true rfl), (Nat.le_of_ble_eq_true rfl)⟩) hK hP hS KM_obj rfl rfl hl.1 rfl (Nat.le_of_ble_eq_true rfl) ⟨Nat.zero_le _, Nat.zero_le _⟩ dX7_penDown_2 (fun H locs hP hS _ _ => ?_)
  refine lv_if_eq (tgt := 49) hx hb dX7_penDown_5 (by decide) (fun c4 => ?_) (fun c4 => ?_)
  · have hM := (if_pos c4).symm.trans hM
    refine lv_ldc (own := RX7) (v := (-1000000001)) hx hb hown (hts (.constant RX7 89 (-1000000001)) (by decide +kernel)) dX7_penDown_49 ?_
    exact x_iret hx hb hr hlk hP hS hM dX7_penDown_51
  · have hM := (if_neg c4).symm.trans hM
    refine lv_iload_n hx hb dX7_penDown_8 rfl (lv_at hl 2 rfl) ?_
    refine lv_iconst (v := 0) hx hb dX7_penDown_9 (by decide) ?_
    refine lv_bipush (v := 63) hx hb dX7_penDown_10 (by decide) ?_
    obtain ⟨r7, σ6, h5, hM⟩ := bnd_i hM
    refine x_callS (As := [.int u2, .int 0, .int 63]) (rest := []) hA ⟨hx, hb, hml, hown, hts⟩ (tX7_in l D cA ad hJ u2 0 63 σ2 _ _ h5) (va_cwS 3 hts gX7_penDown_X7_in rfl rfl rfl (by decide +kernel) ⟨(Nat.le_of_ble_eq_true rfl), (Nat.le_of_ble_eq_true rfl)⟩) hK hP hS rfl hl.1 rfl (Nat.le_of_ble_eq_true rfl) ⟨Nat.zero_le _, Nat.zero_le _⟩ dX7_penDown_12 (fun H locs hP hS => ?_)
    refine lv_if_eq (tgt := 49) hx hb dX7_penDown_15 (by decide) (fun c8 => ?_) (fun c8 => ?_)
    · have hM := (if_pos c8).symm.trans hM
      refine lv_ldc (own := RX7) (v := (-1000000001)) hx hb hown (hts (.constant RX7 89 (-1000000001)) (by decide +kernel)) dX7_penDown_49 ?_
      exact x_iret hx hb hr hlk hP hS hM dX7_penDown_51
    · have hM := (if_neg c8).symm.trans hM
      refine lv_iload_n hx hb dX7_penDown_18 rfl (lv_at hl 3 rfl) ?_
      refine lv_iconst (v := 0) hx hb dX7_penDown_19 (by decide) ?_
      refine lv_bipush (v := 63) hx hb dX7_penDown_20 (by decide) ?_
      obtain ⟨r11, σ10, h9, hM⟩ := bnd_i hM
      refine x_callS (As := [.int u3, .int 0, .int 63]) (rest := []) hA ⟨hx, hb, hml, hown, hts⟩ (tX7_in l D cA ad hJ u3 0 63 σ6 _ _ h9) (va_cwS 3 hts gX7_penDown_X7_in rfl rfl rfl (by decide +kernel) ⟨(Nat.le_of_ble_eq_true rfl), (Nat.le_of_ble_eq_true rfl)⟩) hK hP hS rfl hl.1 rfl (Nat.le_of_ble_eq_true rfl) ⟨Nat.zero_le _, Nat.zero_le _⟩ dX7_penDown_22 (fun H locs hP hS => ?_)
      refine lv_if_eq (tgt := 49) hx hb dX7_penDown_25 (by decide) (fun c12 => ?_) (fun c12 => ?_)
      · have hM := (if_pos c12).symm.trans hM
        refine lv_ldc (own := RX7) (v := (-1000000001)) hx hb hown (hts (.constant RX7 89 (-1000000001)) (by decide +kernel)) dX7_penDown_49 ?_
        exact x_iret hx hb hr hlk hP hS hM dX7_penDown_51
      · have hM := (if_neg c12).symm.trans hM
        refine lv_iload hx hb dX7_penDown_28 (lv_at hl 4 rfl) ?_
        refine lv_iconst (v := 0) hx hb dX7_penDown_30 (by decide) ?_
        refine lv_bipush (v := 7) hx hb dX7_penDown_31 (by decide) ?_
        obtain ⟨r15, σ14, h13, hM⟩ := bnd_i hM
        refine x_callS (As := [.int u4, .int 0, .int 7]) (rest := []) hA ⟨hx, hb, hml, hown, hts⟩ (tX7_in l D cA ad hJ u4 0 7 σ10 _ _ h13) (va_cwS 3 hts gX7_penDown_X7_in rfl rfl rfl (by decide +kernel) ⟨(Nat.le_of_ble_eq_true rfl), (Nat.le_of_ble_eq_true rfl)⟩) hK hP hS rfl hl.1 rfl (Nat.le_of_ble_eq_true rfl) ⟨Nat.zero_le _, Nat.zero_le _⟩ dX7_penDown_33 (fun H locs hP hS => ?_)
        refine lv_if_eq (tgt := 49) hx hb dX7_penDown_36 (by decide) (fun c16 => ?_) (fun c16 => ?_)
        · have hM := (if_pos c16).symm.trans hM
          refine lv_ldc (own := RX7) (v := (-1000000001)) hx hb hown (hts (.constant RX7 89 (-1000000001)) (by decide +kernel)) dX7_penDown_49 ?_
          exact x_iret hx hb hr hlk hP hS hM dX7_penDown_51
        · have hM := (if_neg c16).symm.trans hM
          refine lv_iload hx hb dX7_penDown_39 (lv_at hl 5 rfl) ?_
          refine lv_iconst (v := 0) hx hb dX7_penDown_41 (by decide) ?_
          refine lv_iconst (v := 3) hx hb dX7_penDown_42 (by decide) ?_
          obtain ⟨r19, σ18, h17, hM⟩ := bnd_i hM
          refine x_callS (As := [.int u5, .int 0, .int 3]) (rest := []) hA ⟨hx, hb, hml, hown, hts⟩ (tX7_in l D cA ad hJ u5 0 3 σ14 _ _ h17) (va_cwS 3 hts gX7_penDown_X7_in rfl rfl rfl (by decide +kernel) ⟨(Nat.le_of_ble_eq_true rfl), (Nat.le_of_ble_eq_true rfl)⟩) hK hP hS rfl hl.1 rfl (Nat.le_of_ble_eq_true rfl) ⟨Nat.zero_le _, Nat.zero_le _⟩ dX7_penDown_43 (fun H locs hP hS => ?_)
          refine lv_if_ne (tgt := 52) hx hb dX7_penDown_46 (by decide) (fun c20 => ?_) (fun c20 => ?_)
          · have hM := (if_neg c20).symm.trans hM
            refine lv_bipush (v := 19) hx hb dX7_penDown_52 (by decide) ?_
            refine lv_iload_n hx hb dX7_penDown_54 rfl (lv_at hl 1 rfl) ?_
            refine lv_imul hx hb dX7_penDown_55 ?_
            refine lv_istore (lv' := [(6, .int (19 * u1)), (0, .ref (ad 0)), (1, .int u1), (2, .int u2), (3, .int u3), (4, .int u4), (5, .int u5)]) hx hb dX7_penDown_56 hl (by decide) rfl (fun ls hl => ?_)
            refine lv_aload_n hx hb dX7_penDown_58 rfl (lv_at hl 1 rfl) ?_
            refine x_getr (own := RX7) (C := RX7) (T := TX7) (N := 14) hx hb hts hinX7_X7_penDown hown hK hP KM_obj rfl 5 (by decide) (hts (.fieldLink RX7 26 "StrokeBoardModel" "pens" "[I") (by decide +kernel)) rfl dX7_penDown_59 ?_
            refine lv_iload hx hb dX7_penDown_62 (lv_at hl 0 rfl) ?_
            refine lv_iconst (v := 1) hx hb dX7_penDown_64 (by decide) ?_
            obtain ⟨h21, hM⟩ := ix_i hM
            refine x_iast hx hb KM_ok hJ hK hP hS rfl h21 dX7_penDown_65 (fun H locs hP hS => ?_)
            obtain ⟨σ22, eσ22, hM⟩ := lts_i hM
            rw [← eσ22] at hP
            refine lv_aload_n hx hb dX7_penDown_66 rfl (lv_at hl 1 rfl) ?_
            refine x_getr (own := RX7) (C := RX7) (T := TX7) (N := 14) hx hb hts hinX7_X7_penDown hown hK hP KM_obj rfl 5 (by decide) (hts (.fieldLink RX7 26 "StrokeBoardModel" "pens" "[I") (by decide +kernel)) rfl dX7_penDown_67 ?_
            refine lv_iload hx hb dX7_penDown_70 (lv_at hl 0 rfl) ?_
            refine lv_iconst (v := 1) hx hb dX7_penDown_72 (by decide) ?_
            refine lv_iadd hx hb dX7_penDown_73 ?_
            refine lv_iload hx hb dX7_penDown_74 (lv_at hl 5 rfl) ?_
            obtain ⟨h23, hM⟩ := ix_i hM
            refine x_iast hx hb KM_ok hJ hK hP hS rfl h23 dX7_penDown_76 (fun H locs hP hS => ?_)
            obtain ⟨σ24, eσ24, hM⟩ := lts_i hM
            rw [← eσ24] at hP
            refine lv_aload_n hx hb dX7_penDown_77 rfl (lv_at hl 1 rfl) ?_
            refine x_getr (own := RX7) (C := RX7) (T := TX7) (N := 14) hx hb hts hinX7_X7_penDown hown hK hP KM_obj rfl 5 (by decide) (hts (.fieldLink RX7 26 "StrokeBoardModel" "pens" "[I") (by decide +kernel)) rfl dX7_penDown_78 ?_
            refine lv_iload hx hb dX7_penDown_81 (lv_at hl 0 rfl) ?_
            refine lv_iconst (v := 2) hx hb dX7_penDown_83 (by decide) ?_
            refine lv_iadd hx hb dX7_penDown_84 ?_
            refine lv_iload hx hb dX7_penDown_85 (lv_at hl 6 rfl) ?_
            obtain ⟨h25, hM⟩ := ix_i hM
            refine x_iast hx hb KM_ok hJ hK hP hS rfl h25 dX7_penDown_87 (fun H locs hP hS => ?_)
            obtain ⟨σ26, eσ26, hM⟩ := lts_i hM
            rw [← eσ26] at hP
            refine lv_aload_n hx hb dX7_penDown_88 rfl (lv_at hl 1 rfl) ?_
            refine x_getr (own := RX7) (C := RX7) (T := TX7) (N := 14) hx hb hts hinX7_X7_penDown hown hK hP KM_obj rfl 5 (by decide) (hts (.fieldLink RX7 26 "StrokeBoardModel" "pens" "[I") (by decide +kernel)) rfl dX7_penDown_89 ?_
            refine lv_iload hx hb dX7_penDown_92 (lv_at hl 0 rfl) ?_
            refine lv_iconst (v := 3) hx hb dX7_penDown_94 (by decide) ?_
            refine lv_iadd hx hb dX7_penDown_95 ?_
            refine lv_iload_n hx hb dX7_penDown_96 rfl (lv_at hl 3 rfl) ?_
            obtain ⟨h27, hM⟩ := ix_i hM
            refine x_iast hx hb KM_ok hJ hK hP hS rfl h27 dX7_penDown_97 (fun H locs hP hS => ?_)
            obtain ⟨σ28, eσ28, hM⟩ := lts_i hM
            rw [← eσ28] at hP
            refine lv_aload_n hx hb dX7_penDown_98 rfl (lv_at hl 1 rfl) ?_
            refine x_getr (own := RX7) (C := RX7) (T := TX7) (N := 14) hx hb hts hinX7_X7_penDown hown hK hP KM_obj rfl 5 (by decide) (hts (.fieldLink RX7 26 "StrokeBoardModel" "pens" "[I") (by decide +kernel)) rfl dX7_penDown_99 ?_
            refine lv_iload hx hb dX7_penDown_102 (lv_at hl 0 rfl) ?_
            refine lv_iconst (v := 4) hx hb dX7_penDown_104 (by decide) ?_
            refine lv_iadd hx hb dX7_penDown_105 ?_
            refine lv_iload_n hx hb dX7_penDown_106 rfl (lv_at hl 4 rfl) ?_
            obtain ⟨h29, hM⟩ := ix_i hM
            refine x_iast hx hb KM_ok hJ hK hP hS rfl h29 dX7_penDown_107 (fun H locs hP hS => ?_)
            obtain ⟨σ30, eσ30, hM⟩ := lts_i hM
            rw [← eσ30] at hP
            refine lv_iconst (v := 1) hx hb dX7_penDown_108 (by decide) ?_
            exact x_iret hx hb hr hlk hP hS hM dX7_penDown_109
          · have hM := (if_pos c20).symm.trans hM
            refine lv_ldc (own := RX7) (v := (-1000000001)) hx hb hown (hts (.constant RX7 89 (-1000000001)) (by decide +kernel)) dX7_penDown_49 ?_
            exact x_iret hx hb hr hlk hP hS hM dX7_penDown_51
theorem hinX7_X7_penMove : ∀ w ∈ u_ws RX7 TX7 14, w ∈ wsX7_penMove := by decide +kernel
set_option maxHeartbeats 4000000 in
set_option maxRecDepth 100000 in
theorem tX7_penMove (l : Launch) (D : va_G) (cA : ClassId) (ad : Nat → Nat) (hJ : w_J ad KM) (u1 u2 u3 : Int32) (σ σ' : St) (r : Int32) (hM : mX7_penMove u1 u2 u3 σ = some (r, σ')) : Ct l yX7_penMove wsX7_penMove 2 43 D cA ad KM [.ref (ad 0), .int u1, .int u2, .int u3] σ r σ' := by
  unfold Ct
  refine Met_of (cc := cX7_penMove) (maxL := 6) (ret := (some .int)) hJ (by decide +kernel) rfl (Nat.le_of_ble_eq_true rfl) ?_
  intro p e s m below meth c Z H locs ls hP hS hl
  obtain ⟨hx, hb, hml, hown, hts, hr, hlk, hK, -⟩ := Z
  have hown : s.vm.findClass RX7 = some m.cls := hown
  have hl : lv_has ls 6 [(0, .ref (ad 0)), (1, .int u1), (2, .int u2), (3, .int u3)] := hl
  have hA : ∀ q, w_A ad KM q → w_A ad KM q := fun _ h => h
  unfold mX7_penMove at hM
  refine lv_aload_n hx hb dX7_penMove_0 rfl (lv_at hl 0 rfl) ?_
  refine lv_iload_n hx hb dX7_penMove_1 rfl (lv_at hl 1 rfl) ?_
  obtain ⟨r3, σ2, h1, hM⟩ := bnd_i hM
  refine x_callV (As := [.int u1]) (rest := []) hA ⟨hx, hb, hml, hown, hts⟩ (tX7_isSite l D cA ad hJ u1 σ _ _ h1) (cwV 1 hts gX7_penMove_X7_isSite rfl rfl rfl (by decide +kernel) ⟨(Nat.le_of_ble_eq_true rfl), (Nat.le_of_ble_eq_true rfl)⟩) hK hP hS KM_obj rfl rfl hl.1 rfl (Nat.le_of_ble_eq_true rfl) ⟨Nat.zero_le _, Nat.zero_le _⟩ dX7_penMove_2 (fun H locs hP hS _ _ => ?_)
  refine lv_if_eq (tgt := 30) hx hb dX7_penMove_5 (by decide) (fun c4 => ?_) (fun c4 => ?_)
  · have hM := (if_pos c4).symm.trans hM
    refine lv_ldc (own := RX7) (v := (-1000000001)) hx hb hown (hts (.constant RX7 89 (-1000000001)) (by decide +kernel)) dX7_penMove_30 ?_
    exact x_iret hx hb hr hlk hP hS hM dX7_penMove_32
  · have hM := (if_neg c4).symm.trans hM
    refine lv_iload_n hx hb dX7_penMove_8 rfl (lv_at hl 2 rfl) ?_
    refine lv_bipush (v := (-8)) hx hb dX7_penMove_9 (by decide) ?_
    refine lv_bipush (v := 8) hx hb dX7_penMove_11 (by decide) ?_
    obtain ⟨r7, σ6, h5, hM⟩ := bnd_i hM
    refine x_callS (As := [.int u2, .int (-8), .int 8]) (rest := []) hA ⟨hx, hb, hml, hown, hts⟩ (tX7_in l D cA ad hJ u2 (-8) 8 σ2 _ _ h5) (va_cwS 3 hts gX7_penMove_X7_in rfl rfl rfl (by decide +kernel) ⟨(Nat.le_of_ble_eq_true rfl), (Nat.le_of_ble_eq_true rfl)⟩) hK hP hS rfl hl.1 rfl (Nat.le_of_ble_eq_true rfl) ⟨Nat.zero_le _, Nat.zero_le _⟩ dX7_penMove_13 (fun H locs hP hS => ?_)
    refine lv_if_eq (tgt := 30) hx hb dX7_penMove_16 (by decide) (fun c8 => ?_) (fun c8 => ?_)
    · have hM := (if_pos c8).symm.trans hM
      refine lv_ldc (own := RX7) (v := (-1000000001)) hx hb hown (hts (.constant RX7 89 (-1000000001)) (by decide +kernel)) dX7_penMove_30 ?_
      exact x_iret hx hb hr hlk hP hS hM dX7_penMove_32
    · have hM := (if_neg c8).symm.trans hM
      refine lv_iload_n hx hb dX7_penMove_19 rfl (lv_at hl 3 rfl) ?_
      refine lv_bipush (v := (-8)) hx hb dX7_penMove_20 (by decide) ?_
      refine lv_bipush (v := 8) hx hb dX7_penMove_22 (by decide) ?_
      obtain ⟨r11, σ10, h9, hM⟩ := bnd_i hM
      refine x_callS (As := [.int u3, .int (-8), .int 8]) (rest := []) hA ⟨hx, hb, hml, hown, hts⟩ (tX7_in l D cA ad hJ u3 (-8) 8 σ6 _ _ h9) (va_cwS 3 hts gX7_penMove_X7_in rfl rfl rfl (by decide +kernel) ⟨(Nat.le_of_ble_eq_true rfl), (Nat.le_of_ble_eq_true rfl)⟩) hK hP hS rfl hl.1 rfl (Nat.le_of_ble_eq_true rfl) ⟨Nat.zero_le _, Nat.zero_le _⟩ dX7_penMove_24 (fun H locs hP hS => ?_)
      refine lv_if_ne (tgt := 33) hx hb dX7_penMove_27 (by decide) (fun c12 => ?_) (fun c12 => ?_)
      · have hM := (if_neg c12).symm.trans hM
        refine lv_bipush (v := 19) hx hb dX7_penMove_33 (by decide) ?_
        refine lv_iload_n hx hb dX7_penMove_35 rfl (lv_at hl 1 rfl) ?_
        refine lv_imul hx hb dX7_penMove_36 ?_
        refine lv_istore (lv' := [(4, .int (19 * u1)), (0, .ref (ad 0)), (1, .int u1), (2, .int u2), (3, .int u3)]) hx hb dX7_penMove_37 hl (by decide) rfl (fun ls hl => ?_)
        refine lv_aload_n hx hb dX7_penMove_39 rfl (lv_at hl 1 rfl) ?_
        refine x_getr (own := RX7) (C := RX7) (T := TX7) (N := 14) hx hb hts hinX7_X7_penMove hown hK hP KM_obj rfl 5 (by decide) (hts (.fieldLink RX7 26 "StrokeBoardModel" "pens" "[I") (by decide +kernel)) rfl dX7_penMove_40 ?_
        refine lv_iload hx hb dX7_penMove_43 (lv_at hl 0 rfl) ?_
        obtain ⟨h13, hM⟩ := ix_i hM
        refine x_iald hx hb hK hP rfl h13 dX7_penMove_45 ?_
        refine lv_istore (lv' := [(5, .int (σ10 4 (Int32.toNatClampNeg (19 * u1)))), (4, .int (19 * u1)), (0, .ref (ad 0)), (1, .int u1), (2, .int u2), (3, .int u3)]) hx hb dX7_penMove_46 hl (by decide) rfl (fun ls hl => ?_)
        refine lv_iload hx hb dX7_penMove_48 (lv_at hl 0 rfl) ?_
        refine lv_if_ne (tgt := 56) hx hb dX7_penMove_50 (by decide) (fun c14 => ?_) (fun c14 => ?_)
        · have hM := (if_neg c14).symm.trans hM
          refine lv_iload hx hb dX7_penMove_56 (lv_at hl 0 rfl) ?_
          refine lv_bipush (v := 8) hx hb dX7_penMove_58 (by decide) ?_
          refine lv_icmp_ne (tgt := 66) hx hb dX7_penMove_60 (by decide) (fun c15 => ?_) (fun c15 => ?_)
          · have hM := (if_neg c15).symm.trans hM
            refine lv_aload_n hx hb dX7_penMove_66 rfl (lv_at hl 2 rfl) ?_
            refine x_getr (own := RX7) (C := RX7) (T := TX7) (N := 14) hx hb hts hinX7_X7_penMove hown hK hP KM_obj rfl 5 (by decide) (hts (.fieldLink RX7 26 "StrokeBoardModel" "pens" "[I") (by decide +kernel)) rfl dX7_penMove_67 ?_
            refine lv_iload hx hb dX7_penMove_70 (lv_at hl 1 rfl) ?_
            refine lv_iconst (v := 3) hx hb dX7_penMove_72 (by decide) ?_
            refine lv_iadd hx hb dX7_penMove_73 ?_
            refine lv_iconst (v := 2) hx hb dX7_penMove_74 (by decide) ?_
            refine lv_iload hx hb dX7_penMove_75 (lv_at hl 0 rfl) ?_
            refine lv_imul hx hb dX7_penMove_77 ?_
            refine lv_iadd hx hb dX7_penMove_78 ?_
            refine lv_aload_n hx hb dX7_penMove_79 rfl (lv_at hl 2 rfl) ?_
            refine x_getr (own := RX7) (C := RX7) (T := TX7) (N := 14) hx hb hts hinX7_X7_penMove hown hK hP KM_obj rfl 5 (by decide) (hts (.fieldLink RX7 26 "StrokeBoardModel" "pens" "[I") (by decide +kernel)) rfl dX7_penMove_80 ?_
            refine lv_iload hx hb dX7_penMove_83 (lv_at hl 1 rfl) ?_
            refine lv_iconst (v := 1) hx hb dX7_penMove_85 (by decide) ?_
            refine lv_iadd hx hb dX7_penMove_86 ?_
            refine lv_iconst (v := 2) hx hb dX7_penMove_87 (by decide) ?_
            refine lv_iload hx hb dX7_penMove_88 (lv_at hl 0 rfl) ?_
            refine lv_imul hx hb dX7_penMove_90 ?_
            refine lv_iadd hx hb dX7_penMove_91 ?_
            obtain ⟨h16, hM⟩ := ix_i hM
            refine x_iald hx hb hK hP rfl h16 dX7_penMove_92 ?_
            refine lv_iload_n hx hb dX7_penMove_93 rfl (lv_at hl 4 rfl) ?_
            refine lv_iadd hx hb dX7_penMove_94 ?_
            obtain ⟨h17, hM⟩ := ix_i hM
            refine x_iast hx hb KM_ok hJ hK hP hS rfl h17 dX7_penMove_95 (fun H locs hP hS => ?_)
            obtain ⟨σ18, eσ18, hM⟩ := lts_i hM
            rw [← eσ18] at hP
            refine lv_aload_n hx hb dX7_penMove_96 rfl (lv_at hl 2 rfl) ?_
            refine x_getr (own := RX7) (C := RX7) (T := TX7) (N := 14) hx hb hts hinX7_X7_penMove hown hK hP KM_obj rfl 5 (by decide) (hts (.fieldLink RX7 26 "StrokeBoardModel" "pens" "[I") (by decide +kernel)) rfl dX7_penMove_97 ?_
            refine lv_iload hx hb dX7_penMove_100 (lv_at hl 1 rfl) ?_
            refine lv_iconst (v := 4) hx hb dX7_penMove_102 (by decide) ?_
            refine lv_iadd hx hb dX7_penMove_103 ?_
            refine lv_iconst (v := 2) hx hb dX7_penMove_104 (by decide) ?_
            refine lv_iload hx hb dX7_penMove_105 (lv_at hl 0 rfl) ?_
            refine lv_imul hx hb dX7_penMove_107 ?_
            refine lv_iadd hx hb dX7_penMove_108 ?_
            refine lv_aload_n hx hb dX7_penMove_109 rfl (lv_at hl 2 rfl) ?_
            refine x_getr (own := RX7) (C := RX7) (T := TX7) (N := 14) hx hb hts hinX7_X7_penMove hown hK hP KM_obj rfl 5 (by decide) (hts (.fieldLink RX7 26 "StrokeBoardModel" "pens" "[I") (by decide +kernel)) rfl dX7_penMove_110 ?_
            refine lv_iload hx hb dX7_penMove_113 (lv_at hl 1 rfl) ?_
            refine lv_iconst (v := 2) hx hb dX7_penMove_115 (by decide) ?_
            refine lv_iadd hx hb dX7_penMove_116 ?_
            refine lv_iconst (v := 2) hx hb dX7_penMove_117 (by decide) ?_
            refine lv_iload hx hb dX7_penMove_118 (lv_at hl 0 rfl) ?_
            refine lv_imul hx hb dX7_penMove_120 ?_
            refine lv_iadd hx hb dX7_penMove_121 ?_
            obtain ⟨h19, hM⟩ := ix_i hM
            refine x_iald hx hb hK hP rfl h19 dX7_penMove_122 ?_
            refine lv_iload_n hx hb dX7_penMove_123 rfl (lv_at hl 5 rfl) ?_
            refine lv_iadd hx hb dX7_penMove_124 ?_
            obtain ⟨h20, hM⟩ := ix_i hM
            refine x_iast hx hb KM_ok hJ hK hP hS rfl h20 dX7_penMove_125 (fun H locs hP hS => ?_)
            obtain ⟨σ21, eσ21, hM⟩ := lts_i hM
            rw [← eσ21] at hP
            refine lv_aload_n hx hb dX7_penMove_126 rfl (lv_at hl 2 rfl) ?_
            refine x_getr (own := RX7) (C := RX7) (T := TX7) (N := 14) hx hb hts hinX7_X7_penMove hown hK hP KM_obj rfl 5 (by decide) (hts (.fieldLink RX7 26 "StrokeBoardModel" "pens" "[I") (by decide +kernel)) rfl dX7_penMove_127 ?_
            refine lv_iload hx hb dX7_penMove_130 (lv_at hl 1 rfl) ?_
            refine lv_dup2_11 hx hb dX7_penMove_132 rfl rfl ?_
            obtain ⟨h22, hM⟩ := ix_i hM
            refine x_iald hx hb hK hP rfl h22 dX7_penMove_133 ?_
            refine lv_iconst (v := 1) hx hb dX7_penMove_134 (by decide) ?_
            refine lv_iadd hx hb dX7_penMove_135 ?_
            obtain ⟨h23, hM⟩ := ix_i hM
            refine x_iast hx hb KM_ok hJ hK hP hS rfl h23 dX7_penMove_136 (fun H locs hP hS => ?_)
            obtain ⟨σ24, eσ24, hM⟩ := lts_i hM
            rw [← eσ24] at hP
            refine lv_iload hx hb dX7_penMove_137 (lv_at hl 0 rfl) ?_
            refine lv_iconst (v := 1) hx hb dX7_penMove_139 (by decide) ?_
            refine lv_iadd hx hb dX7_penMove_140 ?_
            exact x_iret hx hb hr hlk hP hS hM dX7_penMove_141
          · have hM := (if_pos c15).symm.trans hM
            refine lv_ldc (own := RX7) (v := (-1000000003)) hx hb hown (hts (.constant RX7 94 (-1000000003)) (by decide +kernel)) dX7_penMove_63 ?_
            exact x_iret hx hb hr hlk hP hS hM dX7_penMove_65
        · have hM := (if_pos c14).symm.trans hM
          refine lv_ldc (own := RX7) (v := (-1000000002)) hx hb hown (hts (.constant RX7 101 (-1000000002)) (by decide +kernel)) dX7_penMove_53 ?_
          exact x_iret hx hb hr hlk hP hS hM dX7_penMove_55
      · have hM := (if_pos c12).symm.trans hM
        refine lv_ldc (own := RX7) (v := (-1000000001)) hx hb hown (hts (.constant RX7 89 (-1000000001)) (by decide +kernel)) dX7_penMove_30 ?_
        exact x_iret hx hb hr hlk hP hS hM dX7_penMove_32
theorem hinX7_X7_make : ∀ w ∈ u_ws RX7 TX7 14, w ∈ wsX7_make := by decide +kernel
set_option maxHeartbeats 4000000 in
set_option maxRecDepth 100000 in
theorem tX7_make (l : Launch) (D : va_G) (cA : ClassId) (ad : Nat → Nat) (hJ : w_J ad KM) (u1 u2 u3 u4 u5 : Int32) (σ σ' : St) (r : Int32) (hM : mX7_make u1 u2 u3 u4 u5 σ = some (r, σ')) : Ct l yX7_make wsX7_make 1 21 D cA ad KM [.ref (ad 0), .int u1, .int u2, .int u3, .int u4, .int u5] σ r σ' := by
  unfold Ct
  refine Met_of (cc := cX7_make) (maxL := 10) (ret := (some .int)) hJ (by decide +kernel) rfl (Nat.le_of_ble_eq_true rfl) ?_
  intro p e s m below meth c Z H locs ls hP hS hl
  obtain ⟨hx, hb, hml, hown, hts, hr, hlk, hK, -⟩ := Z
  have hown : s.vm.findClass RX7 = some m.cls := hown
  have hl : lv_has ls 10 [(0, .ref (ad 0)), (1, .int u1), (2, .int u2), (3, .int u3), (4, .int u4), (5, .int u5)] := hl
  have hA : ∀ q, w_A ad KM q → w_A ad KM q := fun _ h => h
  have b188 : ∀ (x1 : Int32) (σ : St) (H : Heap) (locs : List Loc) (ls : Array Slot), mX7_make_b188 x1 σ = some (r, σ') → w_P D cA ad KM σ H → va_S (w_A ad KM) s.heap H locs → lv_has ls 10 [(0, .ref (ad 0)), (1, .int x1)] → Wm p l e wsX7_make 1 21 s m ([.ref (ad 0), .int u1, .int u2, .int u3, .int u4, .int u5] : List Value).toArray below meth c (w_Qi D cA ad KM r σ') (w_A ad KM) H locs (F0 m 188 ls []) := by
    intro x1 σ H locs ls hM hP hS hl
    unfold mX7_make_b188 at hM
    refine lv_aload_n hx hb dX7_make_188 rfl (lv_at hl 0 rfl) ?_
    refine x_getr (own := RX7) (C := RX7) (T := TX7) (N := 14) hx hb hts hinX7_X7_make hown hK hP KM_obj rfl 2 (by decide) (hts (.fieldLink RX7 17 "StrokeBoardModel" "made" "[I") (by decide +kernel)) rfl dX7_make_189 ?_
    refine lv_iload_n hx hb dX7_make_192 rfl (lv_at hl 1 rfl) ?_
    obtain ⟨h1, hM⟩ := ix_i hM
    refine x_iald hx hb hK hP rfl h1 dX7_make_193 ?_
    exact x_iret hx hb hr hlk hP hS hM dX7_make_194
  have L112 : ∀ (n : Nat) (x1 x8 : Int32) (σ : St) (H : Heap) (locs : List Loc) (ls : Array Slot), mX7_make_L112 n x1 x8 σ = some (r, σ') → w_P D cA ad KM σ H → va_S (w_A ad KM) s.heap H locs → lv_has ls 10 [(0, .ref (ad 0)), (1, .int x1), (8, .int x8)] → Wm p l e wsX7_make 1 21 s m ([.ref (ad 0), .int u1, .int u2, .int u3, .int u4, .int u5] : List Value).toArray below meth c (w_Qi D cA ad KM r σ') (w_A ad KM) H locs (F0 m 112 ls []) := by
    intro n112
    induction n112 with
    | zero =>
      intro x1 x8 σ H locs ls hM hP hS hl
      rw [mX7_make_L112] at hM
      cases hM
    | succ n112 ih112 =>
      intro x1 x8 σ H locs ls hM hP hS hl
      rw [mX7_make_L112] at hM
      refine lv_iload hx hb dX7_make_112 (lv_at hl 2 rfl) ?_
      refine lv_aload_n hx hb dX7_make_114 rfl (lv_at hl 0 rfl) ?_
      refine x_geti (own := RX7) (C := RX7) (T := TX7) (N := 14) hx hb hts hinX7_X7_make hown hK hP KM_obj rfl 0 (by decide) (hts (.fieldLink RX7 7 "StrokeBoardModel" "sites" "I") (by decide +kernel)) rfl dX7_make_115 ?_
      refine lv_icmp_ge (tgt := 188) hx hb dX7_make_118 (by decide) (fun c2 => ?_) (fun c2 => ?_)
      · have hM := (if_pos c2).symm.trans hM
        exact b188 _ _ _ _ _ hM hP hS (lv_sub hl [0, 1] rfl)
      · have hM := (if_neg c2).symm.trans hM
        refine lv_iconst (v := 5) hx hb dX7_make_121 (by decide) ?_
        refine lv_iload_n hx hb dX7_make_122 rfl (lv_at hl 1 rfl) ?_
        refine lv_imul hx hb dX7_make_123 ?_
        refine lv_iload hx hb dX7_make_124 (lv_at hl 2 rfl) ?_
        refine lv_iadd hx hb dX7_make_126 ?_
        refine lv_istore (lv' := [(9, .int ((5 * x1) + x8)), (0, .ref (ad 0)), (1, .int x1), (8, .int x8)]) hx hb dX7_make_127 hl (by decide) rfl (fun ls hl => ?_)
        refine lv_iload hx hb dX7_make_129 (lv_at hl 3 rfl) ?_
        refine lv_iload_n hx hb dX7_make_131 rfl (lv_at hl 2 rfl) ?_
        refine lv_icmp_eq (tgt := 182) hx hb dX7_make_132 (by decide) (fun c3 => ?_) (fun c3 => ?_)
        · have hM := (if_pos c3).symm.trans hM
          refine lv_iinc (v := (x8 + 1)) (lv' := [(8, .int (x8 + 1)), (9, .int ((5 * x1) + x8)), (0, .ref (ad 0)), (1, .int x1)]) hx hb dX7_make_182 hl (k := 3) rfl rfl (by decide) rfl (fun ls hl => ?_)
          refine lv_goto (tgt := 112) hx hb dX7_make_185 (by decide) ?_
          exact ih112 _ _ _ _ _ _ hM hP hS (lv_sub hl [2, 3, 0] rfl)
        · have hM := (if_neg c3).symm.trans hM
          refine lv_aload_n hx hb dX7_make_135 rfl (lv_at hl 1 rfl) ?_
          refine x_getr (own := RX7) (C := RX7) (T := TX7) (N := 14) hx hb hts hinX7_X7_make hown hK hP KM_obj rfl 7 (by decide) (hts (.fieldLink RX7 32 "StrokeBoardModel" "linkMany" "[I") (by decide +kernel)) rfl dX7_make_136 ?_
          refine lv_iload hx hb dX7_make_139 (lv_at hl 0 rfl) ?_
          obtain ⟨h4, hM⟩ := ix_i hM
          refine x_iald hx hb hK hP rfl h4 dX7_make_141 ?_
          refine lv_bipush (v := 10) hx hb dX7_make_142 (by decide) ?_
          refine lv_icmp_ge (tgt := 182) hx hb dX7_make_144 (by decide) (fun c5 => ?_) (fun c5 => ?_)
          · have hM := (if_pos c5).symm.trans hM
            refine lv_iinc (v := (x8 + 1)) (lv' := [(8, .int (x8 + 1)), (9, .int ((5 * x1) + x8)), (0, .ref (ad 0)), (1, .int x1)]) hx hb dX7_make_182 hl (k := 3) rfl rfl (by decide) rfl (fun ls hl => ?_)
            refine lv_goto (tgt := 112) hx hb dX7_make_185 (by decide) ?_
            exact ih112 _ _ _ _ _ _ hM hP hS (lv_sub hl [2, 3, 0] rfl)
          · have hM := (if_neg c5).symm.trans hM
            refine lv_aload_n hx hb dX7_make_147 rfl (lv_at hl 1 rfl) ?_
            refine x_getr (own := RX7) (C := RX7) (T := TX7) (N := 14) hx hb hts hinX7_X7_make hown hK hP KM_obj rfl 6 (by decide) (hts (.fieldLink RX7 29 "StrokeBoardModel" "links" "[I") (by decide +kernel)) rfl dX7_make_148 ?_
            refine lv_bipush (v := 10) hx hb dX7_make_151 (by decide) ?_
            refine lv_iload hx hb dX7_make_153 (lv_at hl 0 rfl) ?_
            refine lv_imul hx hb dX7_make_155 ?_
            refine lv_aload_n hx hb dX7_make_156 rfl (lv_at hl 1 rfl) ?_
            refine x_getr (own := RX7) (C := RX7) (T := TX7) (N := 14) hx hb hts hinX7_X7_make hown hK hP KM_obj rfl 7 (by decide) (hts (.fieldLink RX7 32 "StrokeBoardModel" "linkMany" "[I") (by decide +kernel)) rfl dX7_make_157 ?_
            refine lv_iload hx hb dX7_make_160 (lv_at hl 0 rfl) ?_
            obtain ⟨h6, hM⟩ := ix_i hM
            refine x_iald hx hb hK hP rfl h6 dX7_make_162 ?_
            refine lv_iadd hx hb dX7_make_163 ?_
            refine lv_aload_n hx hb dX7_make_164 rfl (lv_at hl 1 rfl) ?_
            refine x_getr (own := RX7) (C := RX7) (T := TX7) (N := 14) hx hb hts hinX7_X7_make hown hK hP KM_obj rfl 2 (by decide) (hts (.fieldLink RX7 17 "StrokeBoardModel" "made" "[I") (by decide +kernel)) rfl dX7_make_165 ?_
            refine lv_iload_n hx hb dX7_make_168 rfl (lv_at hl 2 rfl) ?_
            obtain ⟨h7, hM⟩ := ix_i hM
            refine x_iald hx hb hK hP rfl h7 dX7_make_169 ?_
            obtain ⟨h8, hM⟩ := ix_i hM
            refine x_iast hx hb KM_ok hJ hK hP hS rfl h8 dX7_make_170 (fun H locs hP hS => ?_)
            obtain ⟨σ9, eσ9, hM⟩ := lts_i hM
            rw [← eσ9] at hP
            refine lv_aload_n hx hb dX7_make_171 rfl (lv_at hl 1 rfl) ?_
            refine x_getr (own := RX7) (C := RX7) (T := TX7) (N := 14) hx hb hts hinX7_X7_make hown hK hP KM_obj rfl 7 (by decide) (hts (.fieldLink RX7 32 "StrokeBoardModel" "linkMany" "[I") (by decide +kernel)) rfl dX7_make_172 ?_
            refine lv_iload hx hb dX7_make_175 (lv_at hl 0 rfl) ?_
            refine lv_dup2_11 hx hb dX7_make_177 rfl rfl ?_
            obtain ⟨h10, hM⟩ := ix_i hM
            refine x_iald hx hb hK hP rfl h10 dX7_make_178 ?_
            refine lv_iconst (v := 1) hx hb dX7_make_179 (by decide) ?_
            refine lv_iadd hx hb dX7_make_180 ?_
            obtain ⟨h11, hM⟩ := ix_i hM
            refine x_iast hx hb KM_ok hJ hK hP hS rfl h11 dX7_make_181 (fun H locs hP hS => ?_)
            obtain ⟨σ12, eσ12, hM⟩ := lts_i hM
            rw [← eσ12] at hP
            refine lv_iinc (v := (x8 + 1)) (lv' := [(8, .int (x8 + 1)), (9, .int ((5 * x1) + x8)), (0, .ref (ad 0)), (1, .int x1)]) hx hb dX7_make_182 hl (k := 3) rfl rfl (by decide) rfl (fun ls hl => ?_)
            refine lv_goto (tgt := 112) hx hb dX7_make_185 (by decide) ?_
            exact ih112 _ _ _ _ _ _ hM hP hS (lv_sub hl [2, 3, 0] rfl)
  unfold mX7_make at hM
  refine lv_aload_n hx hb dX7_make_0 rfl (lv_at hl 0 rfl) ?_
  refine x_getr (own := RX7) (C := RX7) (T := TX7) (N := 14) hx hb hts hinX7_X7_make hown hK hP KM_obj rfl 2 (by decide) (hts (.fieldLink RX7 17 "StrokeBoardModel" "made" "[I") (by decide +kernel)) rfl dX7_make_1 ?_
  refine lv_iload_n hx hb dX7_make_4 rfl (lv_at hl 1 rfl) ?_
  refine lv_dup2_11 hx hb dX7_make_5 rfl rfl ?_
  obtain ⟨h13, hM⟩ := ix_i hM
  refine x_iald hx hb hK hP rfl h13 dX7_make_6 ?_
  refine lv_iconst (v := 1) hx hb dX7_make_7 (by decide) ?_
  refine lv_iadd hx hb dX7_make_8 ?_
  obtain ⟨h14, hM⟩ := ix_i hM
  refine x_iast hx hb KM_ok hJ hK hP hS rfl h14 dX7_make_9 (fun H locs hP hS => ?_)
  obtain ⟨σ15, eσ15, hM⟩ := lts_i hM
  rw [← eσ15] at hP
  refine lv_iload_n hx hb dX7_make_10 rfl (lv_at hl 1 rfl) ?_
  refine lv_aload_n hx hb dX7_make_11 rfl (lv_at hl 0 rfl) ?_
  refine x_getr (own := RX7) (C := RX7) (T := TX7) (N := 14) hx hb hts hinX7_X7_make hown hK hP KM_obj rfl 2 (by decide) (hts (.fieldLink RX7 17 "StrokeBoardModel" "made" "[I") (by decide +kernel)) rfl dX7_make_12 ?_
  refine lv_iload_n hx hb dX7_make_15 rfl (lv_at hl 1 rfl) ?_
  obtain ⟨h16, hM⟩ := ix_i hM
  refine x_iald hx hb hK hP rfl h16 dX7_make_16 ?_
  obtain ⟨r19, σ18, h17, hM⟩ := bnd_i hM
  refine x_callS (As := [.int u1, .int (σ15 1 (Int32.toNatClampNeg u1))]) (rest := []) hA ⟨hx, hb, hml, hown, hts⟩ (tX7_place l D cA ad hJ u1 (σ15 1 (Int32.toNatClampNeg u1)) σ15 _ _ h17) (va_cwS 2 hts gX7_make_X7_place rfl rfl rfl (by decide +kernel) ⟨(Nat.le_of_ble_eq_true rfl), (Nat.le_of_ble_eq_true rfl)⟩) hK hP hS rfl hl.1 rfl (Nat.le_of_ble_eq_true rfl) ⟨Nat.zero_le _, Nat.zero_le _⟩ dX7_make_17 (fun H locs hP hS => ?_)
  refine lv_istore (lv' := [(6, .int r19), (0, .ref (ad 0)), (1, .int u1), (2, .int u2), (3, .int u3), (4, .int u4), (5, .int u5)]) hx hb dX7_make_20 hl (by decide) rfl (fun ls hl => ?_)
  refine lv_aload_n hx hb dX7_make_22 rfl (lv_at hl 1 rfl) ?_
  refine x_getr (own := RX7) (C := RX7) (T := TX7) (N := 14) hx hb hts hinX7_X7_make hown hK hP KM_obj rfl 3 (by decide) (hts (.fieldLink RX7 20 "StrokeBoardModel" "clock" "[I") (by decide +kernel)) rfl dX7_make_23 ?_
  refine lv_iload_n hx hb dX7_make_26 rfl (lv_at hl 2 rfl) ?_
  refine lv_dup2_11 hx hb dX7_make_27 rfl rfl ?_
  obtain ⟨h20, hM⟩ := ix_i hM
  refine x_iald hx hb hK hP rfl h20 dX7_make_28 ?_
  refine lv_iconst (v := 1) hx hb dX7_make_29 (by decide) ?_
  refine lv_iadd hx hb dX7_make_30 ?_
  obtain ⟨h21, hM⟩ := ix_i hM
  refine x_iast hx hb KM_ok hJ hK hP hS rfl h21 dX7_make_31 (fun H locs hP hS => ?_)
  obtain ⟨σ22, eσ22, hM⟩ := lts_i hM
  rw [← eσ22] at hP
  refine lv_bipush (v := 21) hx hb dX7_make_32 (by decide) ?_
  refine lv_iload hx hb dX7_make_34 (lv_at hl 0 rfl) ?_
  refine lv_imul hx hb dX7_make_36 ?_
  refine lv_istore (lv' := [(7, .int (21 * r19)), (6, .int r19), (0, .ref (ad 0)), (1, .int u1), (2, .int u2), (3, .int u3), (4, .int u4), (5, .int u5)]) hx hb dX7_make_37 hl (by decide) rfl (fun ls hl => ?_)
  refine lv_aload_n hx hb dX7_make_39 rfl (lv_at hl 2 rfl) ?_
  refine x_getr (own := RX7) (C := RX7) (T := TX7) (N := 14) hx hb hts hinX7_X7_make hown hK hP KM_obj rfl 1 (by decide) (hts (.fieldLink RX7 13 "StrokeBoardModel" "ops" "[I") (by decide +kernel)) rfl dX7_make_40 ?_
  refine lv_iload hx hb dX7_make_43 (lv_at hl 0 rfl) ?_
  refine lv_iconst (v := 0) hx hb dX7_make_45 (by decide) ?_
  refine lv_iadd hx hb dX7_make_46 ?_
  refine lv_iload_n hx hb dX7_make_47 rfl (lv_at hl 4 rfl) ?_
  obtain ⟨h23, hM⟩ := ix_i hM
  refine x_iast hx hb KM_ok hJ hK hP hS rfl h23 dX7_make_48 (fun H locs hP hS => ?_)
  obtain ⟨σ24, eσ24, hM⟩ := lts_i hM
  rw [← eσ24] at hP
  refine lv_aload_n hx hb dX7_make_49 rfl (lv_at hl 2 rfl) ?_
  refine x_getr (own := RX7) (C := RX7) (T := TX7) (N := 14) hx hb hts hinX7_X7_make hown hK hP KM_obj rfl 1 (by decide) (hts (.fieldLink RX7 13 "StrokeBoardModel" "ops" "[I") (by decide +kernel)) rfl dX7_make_50 ?_
  refine lv_iload hx hb dX7_make_53 (lv_at hl 0 rfl) ?_
  refine lv_iconst (v := 1) hx hb dX7_make_55 (by decide) ?_
  refine lv_iadd hx hb dX7_make_56 ?_
  refine lv_aload_n hx hb dX7_make_57 rfl (lv_at hl 2 rfl) ?_
  refine x_getr (own := RX7) (C := RX7) (T := TX7) (N := 14) hx hb hts hinX7_X7_make hown hK hP KM_obj rfl 3 (by decide) (hts (.fieldLink RX7 20 "StrokeBoardModel" "clock" "[I") (by decide +kernel)) rfl dX7_make_58 ?_
  refine lv_iload_n hx hb dX7_make_61 rfl (lv_at hl 3 rfl) ?_
  obtain ⟨h25, hM⟩ := ix_i hM
  refine x_iald hx hb hK hP rfl h25 dX7_make_62 ?_
  obtain ⟨h26, hM⟩ := ix_i hM
  refine x_iast hx hb KM_ok hJ hK hP hS rfl h26 dX7_make_63 (fun H locs hP hS => ?_)
  obtain ⟨σ27, eσ27, hM⟩ := lts_i hM
  rw [← eσ27] at hP
  refine lv_aload_n hx hb dX7_make_64 rfl (lv_at hl 2 rfl) ?_
  refine x_getr (own := RX7) (C := RX7) (T := TX7) (N := 14) hx hb hts hinX7_X7_make hown hK hP KM_obj rfl 1 (by decide) (hts (.fieldLink RX7 13 "StrokeBoardModel" "ops" "[I") (by decide +kernel)) rfl dX7_make_65 ?_
  refine lv_iload hx hb dX7_make_68 (lv_at hl 0 rfl) ?_
  refine lv_iconst (v := 2) hx hb dX7_make_70 (by decide) ?_
  refine lv_iadd hx hb dX7_make_71 ?_
  refine lv_iload_n hx hb dX7_make_72 rfl (lv_at hl 5 rfl) ?_
  obtain ⟨h28, hM⟩ := ix_i hM
  refine x_iast hx hb KM_ok hJ hK hP hS rfl h28 dX7_make_73 (fun H locs hP hS => ?_)
  obtain ⟨σ29, eσ29, hM⟩ := lts_i hM
  rw [← eσ29] at hP
  refine lv_aload_n hx hb dX7_make_74 rfl (lv_at hl 2 rfl) ?_
  refine x_getr (own := RX7) (C := RX7) (T := TX7) (N := 14) hx hb hts hinX7_X7_make hown hK hP KM_obj rfl 1 (by decide) (hts (.fieldLink RX7 13 "StrokeBoardModel" "ops" "[I") (by decide +kernel)) rfl dX7_make_75 ?_
  refine lv_iload hx hb dX7_make_78 (lv_at hl 0 rfl) ?_
  refine lv_iconst (v := 3) hx hb dX7_make_80 (by decide) ?_
  refine lv_iadd hx hb dX7_make_81 ?_
  refine lv_iload hx hb dX7_make_82 (lv_at hl 6 rfl) ?_
  obtain ⟨h30, hM⟩ := ix_i hM
  refine x_iast hx hb KM_ok hJ hK hP hS rfl h30 dX7_make_84 (fun H locs hP hS => ?_)
  obtain ⟨σ31, eσ31, hM⟩ := lts_i hM
  rw [← eσ31] at hP
  refine lv_aload_n hx hb dX7_make_85 rfl (lv_at hl 2 rfl) ?_
  refine x_getr (own := RX7) (C := RX7) (T := TX7) (N := 14) hx hb hts hinX7_X7_make hown hK hP KM_obj rfl 1 (by decide) (hts (.fieldLink RX7 13 "StrokeBoardModel" "ops" "[I") (by decide +kernel)) rfl dX7_make_86 ?_
  refine lv_iload hx hb dX7_make_89 (lv_at hl 0 rfl) ?_
  refine lv_iconst (v := 4) hx hb dX7_make_91 (by decide) ?_
  refine lv_iadd hx hb dX7_make_92 ?_
  refine lv_iload hx hb dX7_make_93 (lv_at hl 7 rfl) ?_
  obtain ⟨h32, hM⟩ := ix_i hM
  refine x_iast hx hb KM_ok hJ hK hP hS rfl h32 dX7_make_95 (fun H locs hP hS => ?_)
  obtain ⟨σ33, eσ33, hM⟩ := lts_i hM
  rw [← eσ33] at hP
  refine lv_aload_n hx hb dX7_make_96 rfl (lv_at hl 2 rfl) ?_
  refine x_getr (own := RX7) (C := RX7) (T := TX7) (N := 14) hx hb hts hinX7_X7_make hown hK hP KM_obj rfl 4 (by decide) (hts (.fieldLink RX7 23 "StrokeBoardModel" "known" "[I") (by decide +kernel)) rfl dX7_make_97 ?_
  refine lv_bipush (v := 100) hx hb dX7_make_100 (by decide) ?_
  refine lv_iload_n hx hb dX7_make_102 rfl (lv_at hl 3 rfl) ?_
  refine lv_imul hx hb dX7_make_103 ?_
  refine lv_iload hx hb dX7_make_104 (lv_at hl 1 rfl) ?_
  refine lv_iadd hx hb dX7_make_106 ?_
  refine lv_iconst (v := 1) hx hb dX7_make_107 (by decide) ?_
  obtain ⟨h34, hM⟩ := ix_i hM
  refine x_iast hx hb KM_ok hJ hK hP hS rfl h34 dX7_make_108 (fun H locs hP hS => ?_)
  obtain ⟨σ35, eσ35, hM⟩ := lts_i hM
  rw [← eσ35] at hP
  refine lv_iconst (v := 0) hx hb dX7_make_109 (by decide) ?_
  refine lv_istore (lv' := [(8, .int 0), (7, .int (21 * r19)), (6, .int r19), (0, .ref (ad 0)), (1, .int u1), (2, .int u2), (3, .int u3), (4, .int u4), (5, .int u5)]) hx hb dX7_make_110 hl (by decide) rfl (fun ls hl => ?_)
  exact L112 fu _ _ _ _ _ _ hM hP hS (lv_sub hl [3, 4, 0] rfl)
theorem hinX7_X7_penUp : ∀ w ∈ u_ws RX7 TX7 14, w ∈ wsX7_penUp := by decide +kernel
set_option maxHeartbeats 4000000 in
set_option maxRecDepth 100000 in
theorem tX7_penUp (l : Launch) (D : va_G) (cA : ClassId) (ad : Nat → Nat) (hJ : w_J ad KM) (u1 : Int32) (σ σ' : St) (r : Int32) (hM : mX7_penUp u1 σ = some (r, σ')) : Ct l yX7_penUp wsX7_penUp 2 50 D cA ad KM [.ref (ad 0), .int u1] σ r σ' := by
  unfold Ct
  refine Met_of (cc := cX7_penUp) (maxL := 5) (ret := (some .int)) hJ (by decide +kernel) rfl (Nat.le_of_ble_eq_true rfl) ?_
  intro p e s m below meth c Z H locs ls hP hS hl
  obtain ⟨hx, hb, hml, hown, hts, hr, hlk, hK, -⟩ := Z
  have hown : s.vm.findClass RX7 = some m.cls := hown
  have hl : lv_has ls 5 [(0, .ref (ad 0)), (1, .int u1)] := hl
  have hA : ∀ q, w_A ad KM q → w_A ad KM q := fun _ h => h
  have b116 : ∀ (x2 x3 : Int32) (σ : St) (H : Heap) (locs : List Loc) (ls : Array Slot), mX7_penUp_b116 x2 x3 σ = some (r, σ') → w_P D cA ad KM σ H → va_S (w_A ad KM) s.heap H locs → lv_has ls 5 [(0, .ref (ad 0)), (2, .int x2), (3, .int x3)] → Wm p l e wsX7_penUp 2 50 s m ([.ref (ad 0), .int u1] : List Value).toArray below meth c (w_Qi D cA ad KM r σ') (w_A ad KM) H locs (F0 m 116 ls []) := by
    intro x2 x3 σ H locs ls hM hP hS hl
    unfold mX7_penUp_b116 at hM
    refine lv_aload_n hx hb dX7_penUp_116 rfl (lv_at hl 0 rfl) ?_
    refine x_getr (own := RX7) (C := RX7) (T := TX7) (N := 14) hx hb hts hinX7_X7_penUp hown hK hP KM_obj rfl 5 (by decide) (hts (.fieldLink RX7 26 "StrokeBoardModel" "pens" "[I") (by decide +kernel)) rfl dX7_penUp_117 ?_
    refine lv_iload_n hx hb dX7_penUp_120 rfl (lv_at hl 1 rfl) ?_
    refine lv_iconst (v := 0) hx hb dX7_penUp_121 (by decide) ?_
    obtain ⟨h1, hM⟩ := ix_i hM
    refine x_iast hx hb KM_ok hJ hK hP hS rfl h1 dX7_penUp_122 (fun H locs hP hS => ?_)
    obtain ⟨σ2, eσ2, hM⟩ := lts_i hM
    rw [← eσ2] at hP
    refine lv_iload_n hx hb dX7_penUp_123 rfl (lv_at hl 2 rfl) ?_
    exact x_iret hx hb hr hlk hP hS hM dX7_penUp_124
  have L74 : ∀ (n : Nat) (x1 x2 x3 x4 : Int32) (σ : St) (H : Heap) (locs : List Loc) (ls : Array Slot), mX7_penUp_L74 n x1 x2 x3 x4 σ = some (r, σ') → w_P D cA ad KM σ H → va_S (w_A ad KM) s.heap H locs → lv_has ls 5 [(0, .ref (ad 0)), (1, .int x1), (2, .int x2), (3, .int x3), (4, .int x4)] → Wm p l e wsX7_penUp 2 50 s m ([.ref (ad 0), .int u1] : List Value).toArray below meth c (w_Qi D cA ad KM r σ') (w_A ad KM) H locs (F0 m 74 ls []) := by
    intro n74
    induction n74 with
    | zero =>
      intro x1 x2 x3 x4 σ H locs ls hM hP hS hl
      rw [mX7_penUp_L74] at hM
      cases hM
    | succ n74 ih74 =>
      intro x1 x2 x3 x4 σ H locs ls hM hP hS hl
      rw [mX7_penUp_L74] at hM
      refine lv_iload hx hb dX7_penUp_74 (lv_at hl 4 rfl) ?_
      refine lv_bipush (v := 16) hx hb dX7_penUp_76 (by decide) ?_
      refine lv_icmp_ge (tgt := 116) hx hb dX7_penUp_78 (by decide) (fun c3 => ?_) (fun c3 => ?_)
      · have hM := (if_pos c3).symm.trans hM
        exact b116 _ _ _ _ _ _ hM hP hS (lv_sub hl [0, 2, 3] rfl)
      · have hM := (if_neg c3).symm.trans hM
        refine lv_aload_n hx hb dX7_penUp_81 rfl (lv_at hl 0 rfl) ?_
        refine x_getr (own := RX7) (C := RX7) (T := TX7) (N := 14) hx hb hts hinX7_X7_penUp hown hK hP KM_obj rfl 1 (by decide) (hts (.fieldLink RX7 13 "StrokeBoardModel" "ops" "[I") (by decide +kernel)) rfl dX7_penUp_82 ?_
        refine lv_bipush (v := 21) hx hb dX7_penUp_85 (by decide) ?_
        refine lv_iload_n hx hb dX7_penUp_87 rfl (lv_at hl 1 rfl) ?_
        refine lv_iload_n hx hb dX7_penUp_88 rfl (lv_at hl 3 rfl) ?_
        obtain ⟨r6, σ5, h4, hM⟩ := bnd_i hM
        refine x_callS (As := [.int x1, .int x3]) (rest := [.int 21, .ref (ad 1)]) hA ⟨hx, hb, hml, hown, hts⟩ (tX7_place l D cA ad hJ x1 x3 σ _ _ h4) (va_cwS 2 hts gX7_penUp_X7_place rfl rfl rfl (by decide +kernel) ⟨(Nat.le_of_ble_eq_true rfl), (Nat.le_of_ble_eq_true rfl)⟩) hK hP hS rfl hl.1 rfl (Nat.le_of_ble_eq_true rfl) ⟨Nat.zero_le _, Nat.zero_le _⟩ dX7_penUp_89 (fun H locs hP hS => ?_)
        refine lv_imul hx hb dX7_penUp_92 ?_
        refine lv_iconst (v := 5) hx hb dX7_penUp_93 (by decide) ?_
        refine lv_iadd hx hb dX7_penUp_94 ?_
        refine lv_iload hx hb dX7_penUp_95 (lv_at hl 4 rfl) ?_
        refine lv_iadd hx hb dX7_penUp_97 ?_
        refine lv_aload_n hx hb dX7_penUp_98 rfl (lv_at hl 0 rfl) ?_
        refine x_getr (own := RX7) (C := RX7) (T := TX7) (N := 14) hx hb hts hinX7_X7_penUp hown hK hP KM_obj rfl 5 (by decide) (hts (.fieldLink RX7 26 "StrokeBoardModel" "pens" "[I") (by decide +kernel)) rfl dX7_penUp_99 ?_
        refine lv_iload_n hx hb dX7_penUp_102 rfl (lv_at hl 2 rfl) ?_
        refine lv_iconst (v := 3) hx hb dX7_penUp_103 (by decide) ?_
        refine lv_iadd hx hb dX7_penUp_104 ?_
        refine lv_iload hx hb dX7_penUp_105 (lv_at hl 4 rfl) ?_
        refine lv_iadd hx hb dX7_penUp_107 ?_
        obtain ⟨h7, hM⟩ := ix_i hM
        refine x_iald hx hb hK hP rfl h7 dX7_penUp_108 ?_
        obtain ⟨h8, hM⟩ := ix_i hM
        refine x_iast hx hb KM_ok hJ hK hP hS rfl h8 dX7_penUp_109 (fun H locs hP hS => ?_)
        obtain ⟨σ9, eσ9, hM⟩ := lts_i hM
        rw [← eσ9] at hP
        refine lv_iinc (v := (x4 + 1)) (lv' := [(4, .int (x4 + 1)), (0, .ref (ad 0)), (1, .int x1), (2, .int x2), (3, .int x3)]) hx hb dX7_penUp_110 hl (k := 4) rfl rfl (by decide) rfl (fun ls hl => ?_)
        refine lv_goto (tgt := 74) hx hb dX7_penUp_113 (by decide) ?_
        exact ih74 _ _ _ _ _ _ _ _ hM hP hS (lv_sub hl [1, 2, 3, 4, 0] rfl)
  unfold mX7_penUp at hM
  refine lv_aload_n hx hb dX7_penUp_0 rfl (lv_at hl 0 rfl) ?_
  refine lv_iload_n hx hb dX7_penUp_1 rfl (lv_at hl 1 rfl) ?_
  obtain ⟨r12, σ11, h10, hM⟩ := bnd_i hM
  refine x_callV (As := [.int u1]) (rest := []) hA ⟨hx, hb, hml, hown, hts⟩ (tX7_isSite l D cA ad hJ u1 σ _ _ h10) (cwV 1 hts gX7_penUp_X7_isSite rfl rfl rfl (by decide +kernel) ⟨(Nat.le_of_ble_eq_true rfl), (Nat.le_of_ble_eq_true rfl)⟩) hK hP hS KM_obj rfl rfl hl.1 rfl (Nat.le_of_ble_eq_true rfl) ⟨Nat.zero_le _, Nat.zero_le _⟩ dX7_penUp_2 (fun H locs hP hS _ _ => ?_)
  refine lv_if_ne (tgt := 11) hx hb dX7_penUp_5 (by decide) (fun c13 => ?_) (fun c13 => ?_)
  · have hM := (if_neg c13).symm.trans hM
    refine lv_bipush (v := 19) hx hb dX7_penUp_11 (by decide) ?_
    refine lv_iload_n hx hb dX7_penUp_13 rfl (lv_at hl 1 rfl) ?_
    refine lv_imul hx hb dX7_penUp_14 ?_
    refine lv_istore_n (lv' := [(2, .int (19 * u1)), (0, .ref (ad 0)), (1, .int u1)]) hx hb dX7_penUp_15 rfl hl (by decide) rfl (fun ls hl => ?_)
    refine lv_aload_n hx hb dX7_penUp_16 rfl (lv_at hl 1 rfl) ?_
    refine x_getr (own := RX7) (C := RX7) (T := TX7) (N := 14) hx hb hts hinX7_X7_penUp hown hK hP KM_obj rfl 5 (by decide) (hts (.fieldLink RX7 26 "StrokeBoardModel" "pens" "[I") (by decide +kernel)) rfl dX7_penUp_17 ?_
    refine lv_iload_n hx hb dX7_penUp_20 rfl (lv_at hl 0 rfl) ?_
    obtain ⟨h14, hM⟩ := ix_i hM
    refine x_iald hx hb hK hP rfl h14 dX7_penUp_21 ?_
    refine lv_if_ne (tgt := 28) hx hb dX7_penUp_22 (by decide) (fun c15 => ?_) (fun c15 => ?_)
    · have hM := (if_neg c15).symm.trans hM
      refine lv_aload_n hx hb dX7_penUp_28 rfl (lv_at hl 1 rfl) ?_
      refine x_getr (own := RX7) (C := RX7) (T := TX7) (N := 14) hx hb hts hinX7_X7_penUp hown hK hP KM_obj rfl 2 (by decide) (hts (.fieldLink RX7 17 "StrokeBoardModel" "made" "[I") (by decide +kernel)) rfl dX7_penUp_29 ?_
      refine lv_iload_n hx hb dX7_penUp_32 rfl (lv_at hl 2 rfl) ?_
      obtain ⟨h16, hM⟩ := ix_i hM
      refine x_iald hx hb hK hP rfl h16 dX7_penUp_33 ?_
      refine lv_bipush (v := 20) hx hb dX7_penUp_34 (by decide) ?_
      refine lv_icmp_ne (tgt := 42) hx hb dX7_penUp_36 (by decide) (fun c17 => ?_) (fun c17 => ?_)
      · have hM := (if_neg c17).symm.trans hM
        refine lv_aload_n hx hb dX7_penUp_42 rfl (lv_at hl 1 rfl) ?_
        refine lv_iload_n hx hb dX7_penUp_43 rfl (lv_at hl 2 rfl) ?_
        refine lv_iconst (v := 0) hx hb dX7_penUp_44 (by decide) ?_
        refine lv_aload_n hx hb dX7_penUp_45 rfl (lv_at hl 1 rfl) ?_
        refine x_getr (own := RX7) (C := RX7) (T := TX7) (N := 14) hx hb hts hinX7_X7_penUp hown hK hP KM_obj rfl 5 (by decide) (hts (.fieldLink RX7 26 "StrokeBoardModel" "pens" "[I") (by decide +kernel)) rfl dX7_penUp_46 ?_
        refine lv_iload_n hx hb dX7_penUp_49 rfl (lv_at hl 0 rfl) ?_
        refine lv_iconst (v := 1) hx hb dX7_penUp_50 (by decide) ?_
        refine lv_iadd hx hb dX7_penUp_51 ?_
        obtain ⟨h18, hM⟩ := ix_i hM
        refine x_iald hx hb hK hP rfl h18 dX7_penUp_52 ?_
        refine lv_aload_n hx hb dX7_penUp_53 rfl (lv_at hl 1 rfl) ?_
        refine x_getr (own := RX7) (C := RX7) (T := TX7) (N := 14) hx hb hts hinX7_X7_penUp hown hK hP KM_obj rfl 5 (by decide) (hts (.fieldLink RX7 26 "StrokeBoardModel" "pens" "[I") (by decide +kernel)) rfl dX7_penUp_54 ?_
        refine lv_iload_n hx hb dX7_penUp_57 rfl (lv_at hl 0 rfl) ?_
        refine lv_iconst (v := 2) hx hb dX7_penUp_58 (by decide) ?_
        refine lv_iadd hx hb dX7_penUp_59 ?_
        obtain ⟨h19, hM⟩ := ix_i hM
        refine x_iald hx hb hK hP rfl h19 dX7_penUp_60 ?_
        refine lv_aload_n hx hb dX7_penUp_61 rfl (lv_at hl 1 rfl) ?_
        refine x_getr (own := RX7) (C := RX7) (T := TX7) (N := 14) hx hb hts hinX7_X7_penUp hown hK hP KM_obj rfl 5 (by decide) (hts (.fieldLink RX7 26 "StrokeBoardModel" "pens" "[I") (by decide +kernel)) rfl dX7_penUp_62 ?_
        refine lv_iload_n hx hb dX7_penUp_65 rfl (lv_at hl 0 rfl) ?_
        obtain ⟨h20, hM⟩ := ix_i hM
        refine x_iald hx hb hK hP rfl h20 dX7_penUp_66 ?_
        obtain ⟨r23, σ22, h21, hM⟩ := bnd_i hM
        refine x_callV (As := [.int u1, .int 0, .int (σ11 4 (Int32.toNatClampNeg ((19 * u1) + 1))), .int (σ11 4 (Int32.toNatClampNeg ((19 * u1) + 2))), .int (σ11 4 (Int32.toNatClampNeg (19 * u1)))]) (rest := []) hA ⟨hx, hb, hml, hown, hts⟩ (tX7_make l D cA ad hJ u1 0 (σ11 4 (Int32.toNatClampNeg ((19 * u1) + 1))) (σ11 4 (Int32.toNatClampNeg ((19 * u1) + 2))) (σ11 4 (Int32.toNatClampNeg (19 * u1))) σ11 _ _ h21) (cwV 5 hts gX7_penUp_X7_make rfl rfl rfl (by decide +kernel) ⟨(Nat.le_of_ble_eq_true rfl), (Nat.le_of_ble_eq_true rfl)⟩) hK hP hS KM_obj rfl rfl hl.1 rfl (Nat.le_of_ble_eq_true rfl) ⟨Nat.zero_le _, Nat.zero_le _⟩ dX7_penUp_67 (fun H locs hP hS _ _ => ?_)
        refine lv_istore_n (lv' := [(3, .int r23), (2, .int (19 * u1)), (0, .ref (ad 0)), (1, .int u1)]) hx hb dX7_penUp_70 rfl hl (by decide) rfl (fun ls hl => ?_)
        refine lv_iconst (v := 0) hx hb dX7_penUp_71 (by decide) ?_
        refine lv_istore (lv' := [(4, .int 0), (3, .int r23), (2, .int (19 * u1)), (0, .ref (ad 0)), (1, .int u1)]) hx hb dX7_penUp_72 hl (by decide) rfl (fun ls hl => ?_)
        exact L74 fu _ _ _ _ _ _ _ _ hM hP hS (lv_sub hl [3, 4, 2, 1, 0] rfl)
      · have hM := (if_pos c17).symm.trans hM
        refine lv_ldc (own := RX7) (v := (-1000000003)) hx hb hown (hts (.constant RX7 94 (-1000000003)) (by decide +kernel)) dX7_penUp_39 ?_
        exact x_iret hx hb hr hlk hP hS hM dX7_penUp_41
    · have hM := (if_pos c15).symm.trans hM
      refine lv_ldc (own := RX7) (v := (-1000000002)) hx hb hown (hts (.constant RX7 101 (-1000000002)) (by decide +kernel)) dX7_penUp_25 ?_
      exact x_iret hx hb hr hlk hP hS hM dX7_penUp_27
  · have hM := (if_pos c13).symm.trans hM
    refine lv_ldc (own := RX7) (v := (-1000000001)) hx hb hown (hts (.constant RX7 89 (-1000000001)) (by decide +kernel)) dX7_penUp_8 ?_
    exact x_iret hx hb hr hlk hP hS hM dX7_penUp_10
