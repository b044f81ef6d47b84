/-! The walks, laid by wip/p29/gen.py. -/
theorem hinX4_X4_totalCount : ∀ w ∈ u_ws RX4 TX4 8, w ∈ wsX4_totalCount := by decide +kernel
set_option maxHeartbeats 4000000 in
set_option maxRecDepth 100000 in
theorem tX4_totalCount (l : Launch) (D : va_G) (cA : ClassId) (ad : Nat → Nat) (hJ : w_J ad KC) (σ σ' : St) (r : Int32) (hM : mX4_totalCount σ = some (r, σ')) : Ct l yX4_totalCount wsX4_totalCount 0 0 D cA ad KC [.ref (ad 54)] σ r σ' := by
  unfold Ct
  refine Met_of (cc := cX4_totalCount) (maxL := 1) (ret := (some .int)) hJ (by decide +kernel) rfl (Nat.le_of_ble_eq_true rfl) ?_
  intro p e s m below meth c Z H locs ls hP hS hl
  obtain ⟨hx, hb, hml, hown, hts, hr, hlk, hK, -⟩ := Z
  have hown : s.vm.findClass RX4 = some m.cls := hown
  have hl : lv_has ls 1 [(0, .ref (ad 54))] := hl
  have hA : ∀ q, w_A ad KC q → w_A ad KC q := fun _ h => h
  unfold mX4_totalCount at hM
  refine lv_aload_n hx hb dX4_totalCount_0 rfl (lv_at hl 0 rfl) ?_
  refine x_geti (own := RX4) (C := RX4) (T := TX4) (N := 8) hx hb hts hinX4_X4_totalCount hown hK hP KC_log rfl 7 (by decide) (hts (.fieldLink RX4 45 "StrokeBoard$Log" "total" "I") (by decide +kernel)) rfl dX4_totalCount_1 ?_
  exact x_iret hx hb hr hlk hP hS hM dX4_totalCount_4
theorem hinX5_X5_fill : ∀ w ∈ u_ws RX5 TX5 1, w ∈ wsX5_fill := by decide +kernel
set_option maxHeartbeats 4000000 in
set_option maxRecDepth 100000 in
theorem tX5_fill (l : Launch) (D : va_G) (cA : ClassId) (ad : Nat → Nat) (hJ : w_J ad KC) (k : Nat) (hk : k < 27) (u1 : Int32) (σ σ' : St) (hM : mX5_fill k u1 σ = some σ') : Cv l yX5_fill wsX5_fill 0 0 D cA ad KC [.ref (ad (2 * k)), .int u1] σ σ' := by
  unfold Cv
  refine Met_of (cc := cX5_fill) (maxL := 3) (ret := none) hJ (by decide +kernel) rfl (Nat.le_of_ble_eq_true rfl) ?_
  intro p e s m below meth c Z H locs ls hP hS hl
  obtain ⟨hx, hb, hml, hown, hts, hr, hlk, hK, -⟩ := Z
  have hown : s.vm.findClass RX5 = some m.cls := hown
  have hl : lv_has ls 3 [(0, .ref (ad (2 * k))), (1, .int u1)] := hl
  have hA : ∀ q, w_A ad KC q → w_A ad KC q := fun _ h => h
  have L2 : ∀ (n : Nat) (x1 x2 : Int32) (σ : St) (H : Heap) (locs : List Loc) (ls : Array Slot), mX5_fill_L2 k n x1 x2 σ = some σ' → w_P D cA ad KC σ H → va_S (w_A ad KC) s.heap H locs → lv_has ls 3 [(0, .ref (ad (2 * k))), (1, .int x1), (2, .int x2)] → Wm p l e wsX5_fill 0 0 s m ([.ref (ad (2 * k)), .int u1] : List Value).toArray below meth c (w_Qv D cA ad KC σ') (w_A ad KC) H locs (F0 m 2 ls []) := by
    intro n2
    induction n2 with
    | zero =>
      intro x1 x2 σ H locs ls hM hP hS hl
      rw [mX5_fill_L2] at hM
      cases hM
    | succ n2 ih2 =>
      intro x1 x2 σ H locs ls hM hP hS hl
      rw [mX5_fill_L2] at hM
      refine lv_iload_n hx hb dX5_fill_2 rfl (lv_at hl 2 rfl) ?_
      refine lv_aload_n hx hb dX5_fill_3 rfl (lv_at hl 0 rfl) ?_
      refine x_getr (own := RX5) (C := RX5) (T := TX5) (N := 1) hx hb hts hinX5_X5_fill hown hK hP (KC_row k (by omega)) rfl 0 (by decide) (hts (.fieldLink RX5 13 "StrokeBoard$Row" "cells" "[I") (by decide +kernel)) rfl dX5_fill_4 ?_
      refine x_alen hx hb hK hP (KC_arr k (by omega)) dX5_fill_7 ?_
      refine lv_icmp_ge (tgt := 24) hx hb dX5_fill_8 (by decide) (fun c1 => ?_) (fun c1 => ?_)
      · have hM := (if_pos c1).symm.trans hM
        exact x_vret hx hb hr hlk hP hS hM dX5_fill_24
      · have hM := (if_neg c1).symm.trans hM
        refine lv_aload_n hx hb dX5_fill_11 rfl (lv_at hl 0 rfl) ?_
        refine x_getr (own := RX5) (C := RX5) (T := TX5) (N := 1) hx hb hts hinX5_X5_fill hown hK hP (KC_row k (by omega)) rfl 0 (by decide) (hts (.fieldLink RX5 13 "StrokeBoard$Row" "cells" "[I") (by decide +kernel)) rfl dX5_fill_12 ?_
        refine lv_iload_n hx hb dX5_fill_15 rfl (lv_at hl 2 rfl) ?_
        refine lv_iload_n hx hb dX5_fill_16 rfl (lv_at hl 1 rfl) ?_
        obtain ⟨h2, hM⟩ := ix_i hM
        refine x_iast hx hb KC_ok hJ hK hP hS (KC_arr k (by omega)) h2 dX5_fill_17 (fun H locs hP hS => ?_)
        obtain ⟨σ3, eσ3, hM⟩ := lts_i hM
        rw [← eσ3] at hP
        refine lv_iinc (v := (x2 + 1)) (lv' := [(2, .int (x2 + 1)), (0, .ref (ad (2 * k))), (1, .int x1)]) hx hb dX5_fill_18 hl (k := 2) rfl rfl (by decide) rfl (fun ls hl => ?_)
        refine lv_goto (tgt := 2) hx hb dX5_fill_21 (by decide) ?_
        exact ih2 _ _ _ _ _ _ hM hP hS (lv_sub hl [1, 2, 0] rfl)
  unfold mX5_fill at hM
  refine lv_iconst (v := 0) hx hb dX5_fill_0 (by decide) ?_
  refine lv_istore_n (lv' := [(2, .int 0), (0, .ref (ad (2 * k))), (1, .int u1)]) hx hb dX5_fill_1 rfl hl (by decide) rfl (fun ls hl => ?_)
  exact L2 fu _ _ _ _ _ _ hM hP hS (lv_sub hl [1, 2, 0] rfl)
theorem hinX5_X5_get : ∀ w ∈ u_ws RX5 TX5 1, w ∈ wsX5_get := by decide +kernel
set_option maxHeartbeats 4000000 in
set_option maxRecDepth 100000 in
theorem tX5_get (l : Launch) (D : va_G) (cA : ClassId) (ad : Nat → Nat) (hJ : w_J ad KC) (k : Nat) (hk : k < 27) (u1 : Int32) (σ σ' : St) (r : Int32) (hM : mX5_get k u1 σ = some (r, σ')) : Ct l yX5_get wsX5_get 0 0 D cA ad KC [.ref (ad (2 * k)), .int u1] σ r σ' := by
  unfold Ct
  refine Met_of (cc := cX5_get) (maxL := 2) (ret := (some .int)) hJ (by decide +kernel) rfl (Nat.le_of_ble_eq_true rfl) ?_
  intro p e s m below meth c Z H locs ls hP hS hl
  obtain ⟨hx, hb, hml, hown, hts, hr, hlk, hK, -⟩ := Z
  have hown : s.vm.findClass RX5 = some m.cls := hown
  have hl : lv_has ls 2 [(0, .ref (ad (2 * k))), (1, .int u1)] := hl
  have hA : ∀ q, w_A ad KC q → w_A ad KC q := fun _ h => h
  unfold mX5_get at hM
  refine lv_iload_n hx hb dX5_get_0 rfl (lv_at hl 1 rfl) ?_
  refine lv_if_lt (tgt := 22) hx hb dX5_get_1 (by decide) (fun c1 => ?_) (fun c1 => ?_)
  · have hM := (if_pos c1).symm.trans hM
    refine lv_iconst (v := 0) hx hb dX5_get_22 (by decide) ?_
    exact x_iret hx hb hr hlk hP hS hM dX5_get_23
  · have hM := (if_neg c1).symm.trans hM
    refine lv_iload_n hx hb dX5_get_4 rfl (lv_at hl 1 rfl) ?_
    refine lv_aload_n hx hb dX5_get_5 rfl (lv_at hl 0 rfl) ?_
    refine x_getr (own := RX5) (C := RX5) (T := TX5) (N := 1) hx hb hts hinX5_X5_get hown hK hP (KC_row k (by omega)) rfl 0 (by decide) (hts (.fieldLink RX5 13 "StrokeBoard$Row" "cells" "[I") (by decide +kernel)) rfl dX5_get_6 ?_
    refine x_alen hx hb hK hP (KC_arr k (by omega)) dX5_get_9 ?_
    refine lv_icmp_ge (tgt := 22) hx hb dX5_get_10 (by decide) (fun c2 => ?_) (fun c2 => ?_)
    · have hM := (if_pos c2).symm.trans hM
      refine lv_iconst (v := 0) hx hb dX5_get_22 (by decide) ?_
      exact x_iret hx hb hr hlk hP hS hM dX5_get_23
    · have hM := (if_neg c2).symm.trans hM
      refine lv_aload_n hx hb dX5_get_13 rfl (lv_at hl 0 rfl) ?_
      refine x_getr (own := RX5) (C := RX5) (T := TX5) (N := 1) hx hb hts hinX5_X5_get hown hK hP (KC_row k (by omega)) rfl 0 (by decide) (hts (.fieldLink RX5 13 "StrokeBoard$Row" "cells" "[I") (by decide +kernel)) rfl dX5_get_14 ?_
      refine lv_iload_n hx hb dX5_get_17 rfl (lv_at hl 1 rfl) ?_
      obtain ⟨h3, hM⟩ := ix_i hM
      refine x_iald hx hb hK hP (KC_arr k (by omega)) h3 dX5_get_18 ?_
      refine lv_goto (tgt := 23) hx hb dX5_get_19 (by decide) ?_
      exact x_iret hx hb hr hlk hP hS hM dX5_get_23
theorem hinX5_X5_copyFrom : ∀ w ∈ u_ws RX5 TX5 1, w ∈ wsX5_copyFrom := by decide +kernel
set_option maxHeartbeats 4000000 in
set_option maxRecDepth 100000 in
theorem tX5_copyFrom (l : Launch) (D : va_G) (cA : ClassId) (ad : Nat → Nat) (hJ : w_J ad KC) (k : Nat) (hk : k < 27) (k2 : Nat) (hk2 : k2 < 27) (σ σ' : St) (hM : mX5_copyFrom k k2 σ = some σ') : Cv l yX5_copyFrom wsX5_copyFrom 1 21 D cA ad KC [.ref (ad (2 * k)), .ref (ad (2 * k2))] σ σ' := by
  unfold Cv
  refine Met_of (cc := cX5_copyFrom) (maxL := 3) (ret := none) hJ (by decide +kernel) rfl (Nat.le_of_ble_eq_true rfl) ?_
  intro p e s m below meth c Z H locs ls hP hS hl
  obtain ⟨hx, hb, hml, hown, hts, hr, hlk, hK, -⟩ := Z
  have hown : s.vm.findClass RX5 = some m.cls := hown
  have hl : lv_has ls 3 [(0, .ref (ad (2 * k))), (1, .ref (ad (2 * k2)))] := hl
  have hA : ∀ q, w_A ad KC q → w_A ad KC q := fun _ h => h
  have L2 : ∀ (n : Nat) (x2 : Int32) (σ : St) (H : Heap) (locs : List Loc) (ls : Array Slot), mX5_copyFrom_L2 k k2 n x2 σ = some σ' → w_P D cA ad KC σ H → va_S (w_A ad KC) s.heap H locs → lv_has ls 3 [(0, .ref (ad (2 * k))), (1, .ref (ad (2 * k2))), (2, .int x2)] → Wm p l e wsX5_copyFrom 1 21 s m ([.ref (ad (2 * k)), .ref (ad (2 * k2))] : List Value).toArray below meth c (w_Qv D cA ad KC σ') (w_A ad KC) H locs (F0 m 2 ls []) := by
    intro n2
    induction n2 with
    | zero =>
      intro x2 σ H locs ls hM hP hS hl
      rw [mX5_copyFrom_L2] at hM
      cases hM
    | succ n2 ih2 =>
      intro x2 σ H locs ls hM hP hS hl
      rw [mX5_copyFrom_L2] at hM
      refine lv_iload_n hx hb dX5_copyFrom_2 rfl (lv_at hl 2 rfl) ?_
      refine lv_aload_n hx hb dX5_copyFrom_3 rfl (lv_at hl 0 rfl) ?_
      refine x_getr (own := RX5) (C := RX5) (T := TX5) (N := 1) hx hb hts hinX5_X5_copyFrom hown hK hP (KC_row k (by omega)) rfl 0 (by decide) (hts (.fieldLink RX5 13 "StrokeBoard$Row" "cells" "[I") (by decide +kernel)) rfl dX5_copyFrom_4 ?_
      refine x_alen hx hb hK hP (KC_arr k (by omega)) dX5_copyFrom_7 ?_
      refine lv_icmp_ge (tgt := 28) hx hb dX5_copyFrom_8 (by decide) (fun c1 => ?_) (fun c1 => ?_)
      · have hM := (if_pos c1).symm.trans hM
        exact x_vret hx hb hr hlk hP hS hM dX5_copyFrom_28
      · have hM := (if_neg c1).symm.trans hM
        refine lv_aload_n hx hb dX5_copyFrom_11 rfl (lv_at hl 0 rfl) ?_
        refine x_getr (own := RX5) (C := RX5) (T := TX5) (N := 1) hx hb hts hinX5_X5_copyFrom hown hK hP (KC_row k (by omega)) rfl 0 (by decide) (hts (.fieldLink RX5 13 "StrokeBoard$Row" "cells" "[I") (by decide +kernel)) rfl dX5_copyFrom_12 ?_
        refine lv_iload_n hx hb dX5_copyFrom_15 rfl (lv_at hl 2 rfl) ?_
        refine lv_aload_n hx hb dX5_copyFrom_16 rfl (lv_at hl 1 rfl) ?_
        refine lv_iload_n hx hb dX5_copyFrom_17 rfl (lv_at hl 2 rfl) ?_
        obtain ⟨r4, σ3, h2, hM⟩ := bnd_i hM
        refine x_callV (As := [.int x2]) (rest := [.int x2, .ref (ad (2 * k + 1))]) hA ⟨hx, hb, hml, hown, hts⟩ (tX5_get l D cA ad hJ k2 (by omega) x2 σ _ _ h2) (cwV 1 hts gX5_copyFrom_X5_get rfl rfl rfl (by decide +kernel) ⟨(Nat.le_of_ble_eq_true rfl), (Nat.le_of_ble_eq_true rfl)⟩) hK hP hS (KC_row k2 (by omega)) rfl rfl hl.1 rfl (Nat.le_of_ble_eq_true rfl) ⟨Nat.zero_le _, Nat.zero_le _⟩ dX5_copyFrom_18 (fun H locs hP hS _ _ => ?_)
        obtain ⟨h5, hM⟩ := ix_i hM
        refine x_iast hx hb KC_ok hJ hK hP hS (KC_arr k (by omega)) h5 dX5_copyFrom_21 (fun H locs hP hS => ?_)
        obtain ⟨σ6, eσ6, hM⟩ := lts_i hM
        rw [← eσ6] at hP
        refine lv_iinc (v := (x2 + 1)) (lv' := [(2, .int (x2 + 1)), (0, .ref (ad (2 * k))), (1, .ref (ad (2 * k2)))]) hx hb dX5_copyFrom_22 hl (k := 2) rfl rfl (by decide) rfl (fun ls hl => ?_)
        refine lv_goto (tgt := 2) hx hb dX5_copyFrom_25 (by decide) ?_
        exact ih2 _ _ _ _ _ hM hP hS (lv_sub hl [1, 2, 0] rfl)
  unfold mX5_copyFrom at hM
  refine lv_iconst (v := 0) hx hb dX5_copyFrom_0 (by decide) ?_
  refine lv_istore_n (lv' := [(2, .int 0), (0, .ref (ad (2 * k))), (1, .ref (ad (2 * k2)))]) hx hb dX5_copyFrom_1 rfl hl (by decide) rfl (fun ls hl => ?_)
  exact L2 fu _ _ _ _ _ hM hP hS (lv_sub hl [1, 2, 0] rfl)
theorem hinX4_X4_inOrder : ∀ w ∈ u_ws RX4 TX4 8, w ∈ wsX4_inOrder := by decide +kernel
set_option maxHeartbeats 4000000 in
set_option maxRecDepth 100000 in
theorem tX4_inOrder (l : Launch) (D : va_G) (cA : ClassId) (ad : Nat → Nat) (hJ : w_J ad KC) (u1 : Int32) (σ σ' : St) (r : Int32) (hM : mX4_inOrder u1 σ = some (r, σ')) : Ct l yX4_inOrder wsX4_inOrder 1 21 D cA ad KC [.ref (ad 54), .int u1] σ r σ' := by
  unfold Ct
  refine Met_of (cc := cX4_inOrder) (maxL := 2) (ret := (some .int)) hJ (by decide +kernel) rfl (Nat.le_of_ble_eq_true rfl) ?_
  intro p e s m below meth c Z H locs ls hP hS hl
  obtain ⟨hx, hb, hml, hown, hts, hr, hlk, hK, -⟩ := Z
  have hown : s.vm.findClass RX4 = some m.cls := hown
  have hl : lv_has ls 2 [(0, .ref (ad 54)), (1, .int u1)] := hl
  have hA : ∀ q, w_A ad KC q → w_A ad KC q := fun _ h => h
  unfold mX4_inOrder at hM
  refine lv_aload_n hx hb dX4_inOrder_0 rfl (lv_at hl 0 rfl) ?_
  refine x_getr (own := RX4) (C := RX4) (T := TX4) (N := 8) hx hb hts hinX4_X4_inOrder hown hK hP KC_log rfl 5 (by decide) (hts (.fieldLink RX4 32 "StrokeBoard$Log" "order" "LStrokeBoard$Row;") (by decide +kernel)) rfl dX4_inOrder_1 ?_
  refine lv_iload_n hx hb dX4_inOrder_4 rfl (lv_at hl 1 rfl) ?_
  obtain ⟨r3, σ2, h1, hM⟩ := bnd_i hM
  refine x_callV (As := [.int u1]) (rest := []) hA ⟨hx, hb, hml, hown, hts⟩ (tX5_get l D cA ad hJ 5 (by omega) u1 σ _ _ h1) (cwV 1 hts gX4_inOrder_X5_get rfl rfl rfl (by decide +kernel) ⟨(Nat.le_of_ble_eq_true rfl), (Nat.le_of_ble_eq_true rfl)⟩) hK hP hS (KC_row 5 (by omega)) rfl rfl hl.1 rfl (Nat.le_of_ble_eq_true rfl) ⟨Nat.zero_le _, Nat.zero_le _⟩ dX4_inOrder_5 (fun H locs hP hS _ _ => ?_)
  exact x_iret hx hb hr hlk hP hS hM dX4_inOrder_8
theorem hinX2_X2_has : ∀ w ∈ u_ws RX2 TX2 1, w ∈ wsX2_has := by decide +kernel
set_option maxHeartbeats 4000000 in
set_option maxRecDepth 100000 in
theorem tX2_has (l : Launch) (D : va_G) (cA : ClassId) (ad : Nat → Nat) (hJ : w_J ad KC) (g : Nat) (hg : g < 2) (u1 u2 : Int32) (σ σ' : St) (r : Int32) (hM : mX2_has g u1 u2 σ = some (r, σ')) : Ct l yX2_has wsX2_has 1 21 D cA ad KC [.ref (ad (57 + g)), .int u1, .int u2] σ r σ' := by
  unfold Ct
  refine Met_of (cc := cX2_has) (maxL := 3) (ret := (some .boolean)) hJ (by decide +kernel) rfl (Nat.le_of_ble_eq_true rfl) ?_
  intro p e s m below meth c Z H locs ls hP hS hl
  obtain ⟨hx, hb, hml, hown, hts, hr, hlk, hK, -⟩ := Z
  have hown : s.vm.findClass RX2 = some m.cls := hown
  have hl : lv_has ls 3 [(0, .ref (ad (57 + g))), (1, .int u1), (2, .int u2)] := hl
  have hA : ∀ q, w_A ad KC q → w_A ad KC q := fun _ h => h
  unfold mX2_has at hM
  refine lv_aload_n hx hb dX2_has_0 rfl (lv_at hl 0 rfl) ?_
  refine x_getr (own := RX2) (C := RX2) (T := TX2) (N := 1) hx hb hts hinX2_X2_has hown hK hP (KC_kno g (by omega)) rfl 0 (by decide) (hts (.fieldLink RX2 14 "StrokeBoard$Knowledge" "known" "LStrokeBoard$Row;") (by decide +kernel)) rfl dX2_has_1 ?_
  refine lv_iload_n hx hb dX2_has_4 rfl (lv_at hl 1 rfl) ?_
  refine lv_bipush (v := 100) hx hb dX2_has_5 (by decide) ?_
  refine lv_imul hx hb dX2_has_7 ?_
  refine lv_iload_n hx hb dX2_has_8 rfl (lv_at hl 2 rfl) ?_
  refine lv_iadd hx hb dX2_has_9 ?_
  obtain ⟨r3, σ2, h1, hM⟩ := bnd_i hM
  refine x_callV (As := [.int ((u1 * 100) + u2)]) (rest := []) hA ⟨hx, hb, hml, hown, hts⟩ (tX5_get l D cA ad hJ (16 + g) (by omega) ((u1 * 100) + u2) σ _ _ h1) (cwV 1 hts gX2_has_X5_get rfl rfl rfl (by decide +kernel) ⟨(Nat.le_of_ble_eq_true rfl), (Nat.le_of_ble_eq_true rfl)⟩) hK hP hS (KC_row (16 + g) (by omega)) rfl rfl hl.1 rfl (Nat.le_of_ble_eq_true rfl) ⟨Nat.zero_le _, Nat.zero_le _⟩ dX2_has_10 (fun H locs hP hS _ _ => ?_)
  refine lv_iconst (v := 1) hx hb dX2_has_13 (by decide) ?_
  refine lv_icmp_ne (tgt := 21) hx hb dX2_has_14 (by decide) (fun c4 => ?_) (fun c4 => ?_)
  · have hM := (if_neg c4).symm.trans hM
    refine lv_iconst (v := 0) hx hb dX2_has_21 (by decide) ?_
    exact x_zret hx hb hr hlk hP hS hM dX2_has_22
  · have hM := (if_pos c4).symm.trans hM
    refine lv_iconst (v := 1) hx hb dX2_has_17 (by decide) ?_
    refine lv_goto (tgt := 22) hx hb dX2_has_18 (by decide) ?_
    exact x_zret hx hb hr hlk hP hS hM dX2_has_22
theorem hinX4_X4_targetOf : ∀ w ∈ u_ws RX4 TX4 8, w ∈ wsX4_targetOf := by decide +kernel
set_option maxHeartbeats 4000000 in
set_option maxRecDepth 100000 in
theorem tX4_targetOf (l : Launch) (D : va_G) (cA : ClassId) (ad : Nat → Nat) (hJ : w_J ad KC) (u1 : Int32) (σ σ' : St) (r : Int32) (hM : mX4_targetOf u1 σ = some (r, σ')) : Ct l yX4_targetOf wsX4_targetOf 1 21 D cA ad KC [.ref (ad 54), .int u1] σ r σ' := by
  unfold Ct
  refine Met_of (cc := cX4_targetOf) (maxL := 2) (ret := (some .int)) hJ (by decide +kernel) rfl (Nat.le_of_ble_eq_true rfl) ?_
  intro p e s m below meth c Z H locs ls hP hS hl
  obtain ⟨hx, hb, hml, hown, hts, hr, hlk, hK, -⟩ := Z
  have hown : s.vm.findClass RX4 = some m.cls := hown
  have hl : lv_has ls 2 [(0, .ref (ad 54)), (1, .int u1)] := hl
  have hA : ∀ q, w_A ad KC q → w_A ad KC q := fun _ h => h
  unfold mX4_targetOf at hM
  refine lv_aload_n hx hb dX4_targetOf_0 rfl (lv_at hl 0 rfl) ?_
  refine x_getr (own := RX4) (C := RX4) (T := TX4) (N := 8) hx hb hts hinX4_X4_targetOf hown hK hP KC_log rfl 3 (by decide) (hts (.fieldLink RX4 26 "StrokeBoard$Log" "targets" "LStrokeBoard$Row;") (by decide +kernel)) rfl dX4_targetOf_1 ?_
  refine lv_iload_n hx hb dX4_targetOf_4 rfl (lv_at hl 1 rfl) ?_
  obtain ⟨r3, σ2, h1, hM⟩ := bnd_i hM
  refine x_callV (As := [.int u1]) (rest := []) hA ⟨hx, hb, hml, hown, hts⟩ (tX5_get l D cA ad hJ 3 (by omega) u1 σ _ _ h1) (cwV 1 hts gX4_targetOf_X5_get rfl rfl rfl (by decide +kernel) ⟨(Nat.le_of_ble_eq_true rfl), (Nat.le_of_ble_eq_true rfl)⟩) hK hP hS (KC_row 3 (by omega)) rfl rfl hl.1 rfl (Nat.le_of_ble_eq_true rfl) ⟨Nat.zero_le _, Nat.zero_le _⟩ dX4_targetOf_5 (fun H locs hP hS _ _ => ?_)
  exact x_iret hx hb hr hlk hP hS hM dX4_targetOf_8
theorem hinX4_X4_kindOf : ∀ w ∈ u_ws RX4 TX4 8, w ∈ wsX4_kindOf := by decide +kernel
set_option maxHeartbeats 4000000 in
set_option maxRecDepth 100000 in
theorem tX4_kindOf (l : Launch) (D : va_G) (cA : ClassId) (ad : Nat → Nat) (hJ : w_J ad KC) (u1 : Int32) (σ σ' : St) (r : Int32) (hM : mX4_kindOf u1 σ = some (r, σ')) : Ct l yX4_kindOf wsX4_kindOf 1 21 D cA ad KC [.ref (ad 54), .int u1] σ r σ' := by
  unfold Ct
  refine Met_of (cc := cX4_kindOf) (maxL := 2) (ret := (some .int)) hJ (by decide +kernel) rfl (Nat.le_of_ble_eq_true rfl) ?_
  intro p e s m below meth c Z H locs ls hP hS hl
  obtain ⟨hx, hb, hml, hown, hts, hr, hlk, hK, -⟩ := Z
  have hown : s.vm.findClass RX4 = some m.cls := hown
  have hl : lv_has ls 2 [(0, .ref (ad 54)), (1, .int u1)] := hl
  have hA : ∀ q, w_A ad KC q → w_A ad KC q := fun _ h => h
  unfold mX4_kindOf at hM
  refine lv_aload_n hx hb dX4_kindOf_0 rfl (lv_at hl 0 rfl) ?_
  refine x_getr (own := RX4) (C := RX4) (T := TX4) (N := 8) hx hb hts hinX4_X4_kindOf hown hK hP KC_log rfl 1 (by decide) (hts (.fieldLink RX4 20 "StrokeBoard$Log" "kinds" "LStrokeBoard$Row;") (by decide +kernel)) rfl dX4_kindOf_1 ?_
  refine lv_iload_n hx hb dX4_kindOf_4 rfl (lv_at hl 1 rfl) ?_
  obtain ⟨r3, σ2, h1, hM⟩ := bnd_i hM
  refine x_callV (As := [.int u1]) (rest := []) hA ⟨hx, hb, hml, hown, hts⟩ (tX5_get l D cA ad hJ 1 (by omega) u1 σ _ _ h1) (cwV 1 hts gX4_kindOf_X5_get rfl rfl rfl (by decide +kernel) ⟨(Nat.le_of_ble_eq_true rfl), (Nat.le_of_ble_eq_true rfl)⟩) hK hP hS (KC_row 1 (by omega)) rfl rfl hl.1 rfl (Nat.le_of_ble_eq_true rfl) ⟨Nat.zero_le _, Nat.zero_le _⟩ dX4_kindOf_5 (fun H locs hP hS _ _ => ?_)
  exact x_iret hx hb hr hlk hP hS hM dX4_kindOf_8
theorem hinX5_X5_set : ∀ w ∈ u_ws RX5 TX5 1, w ∈ wsX5_set := by decide +kernel
set_option maxHeartbeats 4000000 in
set_option maxRecDepth 100000 in
theorem tX5_set (l : Launch) (D : va_G) (cA : ClassId) (ad : Nat → Nat) (hJ : w_J ad KC) (k : Nat) (hk : k < 27) (u1 u2 : Int32) (σ σ' : St) (hM : mX5_set k u1 u2 σ = some σ') : Cv l yX5_set wsX5_set 0 0 D cA ad KC [.ref (ad (2 * k)), .int u1, .int u2] σ σ' := by
  unfold Cv
  refine Met_of (cc := cX5_set) (maxL := 3) (ret := none) hJ (by decide +kernel) rfl (Nat.le_of_ble_eq_true rfl) ?_
  intro p e s m below meth c Z H locs ls hP hS hl
  obtain ⟨hx, hb, hml, hown, hts, hr, hlk, hK, -⟩ := Z
  have hown : s.vm.findClass RX5 = some m.cls := hown
  have hl : lv_has ls 3 [(0, .ref (ad (2 * k))), (1, .int u1), (2, .int u2)] := hl
  have hA : ∀ q, w_A ad KC q → w_A ad KC q := fun _ h => h
  unfold mX5_set at hM
  refine lv_iload_n hx hb dX5_set_0 rfl (lv_at hl 1 rfl) ?_
  refine lv_if_lt (tgt := 20) hx hb dX5_set_1 (by decide) (fun c1 => ?_) (fun c1 => ?_)
  · have hM := (if_pos c1).symm.trans hM
    exact x_vret hx hb hr hlk hP hS hM dX5_set_20
  · have hM := (if_neg c1).symm.trans hM
    refine lv_iload_n hx hb dX5_set_4 rfl (lv_at hl 1 rfl) ?_
    refine lv_aload_n hx hb dX5_set_5 rfl (lv_at hl 0 rfl) ?_
    refine x_getr (own := RX5) (C := RX5) (T := TX5) (N := 1) hx hb hts hinX5_X5_set hown hK hP (KC_row k (by omega)) rfl 0 (by decide) (hts (.fieldLink RX5 13 "StrokeBoard$Row" "cells" "[I") (by decide +kernel)) rfl dX5_set_6 ?_
    refine x_alen hx hb hK hP (KC_arr k (by omega)) dX5_set_9 ?_
    refine lv_icmp_ge (tgt := 20) hx hb dX5_set_10 (by decide) (fun c2 => ?_) (fun c2 => ?_)
    · have hM := (if_pos c2).symm.trans hM
      exact x_vret hx hb hr hlk hP hS hM dX5_set_20
    · have hM := (if_neg c2).symm.trans hM
      refine lv_aload_n hx hb dX5_set_13 rfl (lv_at hl 0 rfl) ?_
      refine x_getr (own := RX5) (C := RX5) (T := TX5) (N := 1) hx hb hts hinX5_X5_set hown hK hP (KC_row k (by omega)) rfl 0 (by decide) (hts (.fieldLink RX5 13 "StrokeBoard$Row" "cells" "[I") (by decide +kernel)) rfl dX5_set_14 ?_
      refine lv_iload_n hx hb dX5_set_17 rfl (lv_at hl 1 rfl) ?_
      refine lv_iload_n hx hb dX5_set_18 rfl (lv_at hl 2 rfl) ?_
      obtain ⟨h3, hM⟩ := ix_i hM
      refine x_iast hx hb KC_ok hJ hK hP hS (KC_arr k (by omega)) h3 dX5_set_19 (fun H locs hP hS => ?_)
      obtain ⟨σ4, eσ4, hM⟩ := lts_i hM
      rw [← eσ4] at hP
      exact x_vret hx hb hr hlk hP hS hM dX5_set_20
theorem hinX4_X4_layerOf : ∀ w ∈ u_ws RX4 TX4 8, w ∈ wsX4_layerOf := by decide +kernel
set_option maxHeartbeats 4000000 in
set_option maxRecDepth 100000 in
theorem tX4_layerOf (l : Launch) (D : va_G) (cA : ClassId) (ad : Nat → Nat) (hJ : w_J ad KC) (u1 : Int32) (σ σ' : St) (r : Int32) (hM : mX4_layerOf u1 σ = some (r, σ')) : Ct l yX4_layerOf wsX4_layerOf 1 21 D cA ad KC [.ref (ad 54), .int u1] σ r σ' := by
  unfold Ct
  refine Met_of (cc := cX4_layerOf) (maxL := 2) (ret := (some .int)) hJ (by decide +kernel) rfl (Nat.le_of_ble_eq_true rfl) ?_
  intro p e s m below meth c Z H locs ls hP hS hl
  obtain ⟨hx, hb, hml, hown, hts, hr, hlk, hK, -⟩ := Z
  have hown : s.vm.findClass RX4 = some m.cls := hown
  have hl : lv_has ls 2 [(0, .ref (ad 54)), (1, .int u1)] := hl
  have hA : ∀ q, w_A ad KC q → w_A ad KC q := fun _ h => h
  unfold mX4_layerOf at hM
  refine lv_aload_n hx hb dX4_layerOf_0 rfl (lv_at hl 0 rfl) ?_
  refine x_getr (own := RX4) (C := RX4) (T := TX4) (N := 8) hx hb hts hinX4_X4_layerOf hown hK hP KC_log rfl 4 (by decide) (hts (.fieldLink RX4 29 "StrokeBoard$Log" "layers" "LStrokeBoard$Row;") (by decide +kernel)) rfl dX4_layerOf_1 ?_
  refine lv_iload_n hx hb dX4_layerOf_4 rfl (lv_at hl 1 rfl) ?_
  obtain ⟨r3, σ2, h1, hM⟩ := bnd_i hM
  refine x_callV (As := [.int u1]) (rest := []) hA ⟨hx, hb, hml, hown, hts⟩ (tX5_get l D cA ad hJ 4 (by omega) u1 σ _ _ h1) (cwV 1 hts gX4_layerOf_X5_get rfl rfl rfl (by decide +kernel) ⟨(Nat.le_of_ble_eq_true rfl), (Nat.le_of_ble_eq_true rfl)⟩) hK hP hS (KC_row 4 (by omega)) rfl rfl hl.1 rfl (Nat.le_of_ble_eq_true rfl) ⟨Nat.zero_le _, Nat.zero_le _⟩ dX4_layerOf_5 (fun H locs hP hS _ _ => ?_)
  exact x_iret hx hb hr hlk hP hS hM dX4_layerOf_8
theorem hinX0_X0_apply : ∀ w ∈ u_ws RX0 TX0 4, w ∈ wsX0_apply := by decide +kernel
set_option maxHeartbeats 4000000 in
set_option maxRecDepth 100000 in
theorem tX0_apply (l : Launch) (D : va_G) (cA : ClassId) (ad : Nat → Nat) (hJ : w_J ad KC) (b : Nat) (hb : b < 2) (u2 : Int32) (σ σ' : St) (hM : mX0_apply b u2 σ = some σ') : Cv l yX0_apply wsX0_apply 2 42 D cA ad KC [.ref (ad (60 + b)), .ref (ad 54), .int u2] σ σ' := by
  unfold Cv
  refine Met_of (cc := cX0_apply) (maxL := 4) (ret := none) hJ (by decide +kernel) rfl (Nat.le_of_ble_eq_true rfl) ?_
  intro p e s m below meth c Z H locs ls hP hS hl
  obtain ⟨hx, hb, hml, hown, hts, hr, hlk, hK, -⟩ := Z
  have hown : s.vm.findClass RX0 = some m.cls := hown
  have hl : lv_has ls 4 [(0, .ref (ad (60 + b))), (1, .ref (ad 54)), (2, .int u2)] := hl
  have hA : ∀ q, w_A ad KC q → w_A ad KC q := fun _ h => h
  unfold mX0_apply at hM
  refine lv_aload_n hx hb dX0_apply_0 rfl (lv_at hl 1 rfl) ?_
  refine lv_iload_n hx hb dX0_apply_1 rfl (lv_at hl 2 rfl) ?_
  obtain ⟨r3, σ2, h1, hM⟩ := bnd_i hM
  refine x_callV (As := [.int u2]) (rest := []) hA ⟨hx, hb, hml, hown, hts⟩ (tX4_targetOf l D cA ad hJ u2 σ _ _ h1) (cwV 1 hts gX0_apply_X4_targetOf rfl rfl rfl (by decide +kernel) ⟨(Nat.le_of_ble_eq_true rfl), (Nat.le_of_ble_eq_true rfl)⟩) hK hP hS KC_log rfl rfl hl.1 rfl (Nat.le_of_ble_eq_true rfl) ⟨Nat.zero_le _, Nat.zero_le _⟩ dX0_apply_2 (fun H locs hP hS _ _ => ?_)
  refine lv_istore_n (lv' := [(3, .int r3), (0, .ref (ad (60 + b))), (1, .ref (ad 54)), (2, .int u2)]) hx hb dX0_apply_5 rfl hl (by decide) rfl (fun ls hl => ?_)
  refine lv_aload_n hx hb dX0_apply_6 rfl (lv_at hl 2 rfl) ?_
  refine lv_iload_n hx hb dX0_apply_7 rfl (lv_at hl 3 rfl) ?_
  obtain ⟨r6, σ5, h4, hM⟩ := bnd_i hM
  refine x_callV (As := [.int u2]) (rest := []) hA ⟨hx, hb, hml, hown, hts⟩ (tX4_kindOf l D cA ad hJ u2 σ2 _ _ h4) (cwV 1 hts gX0_apply_X4_kindOf rfl rfl rfl (by decide +kernel) ⟨(Nat.le_of_ble_eq_true rfl), (Nat.le_of_ble_eq_true rfl)⟩) hK hP hS KC_log rfl rfl hl.1 rfl (Nat.le_of_ble_eq_true rfl) ⟨Nat.zero_le _, Nat.zero_le _⟩ dX0_apply_8 (fun H locs hP hS _ _ => ?_)
  by_cases c7 : r6 = 1
  · have hM := (if_pos c7).symm.trans hM
    refine lv_tableIn (tgt := 36) (off := 25) hx hb dX0_apply_11 (by rw [c7]; decide) (by rw [c7]; decide) (by rw [c7]; rfl) (by decide) ?_
    refine lv_aload_n hx hb dX0_apply_36 rfl (lv_at hl 1 rfl) ?_
    refine x_getr (own := RX0) (C := RX0) (T := TX0) (N := 4) hx hb hts hinX0_X0_apply hown hK hP (KC_brd b (by omega)) rfl 0 (by decide) (hts (.fieldLink RX0 14 "StrokeBoard$Board" "undone" "LStrokeBoard$Row;") (by decide +kernel)) rfl dX0_apply_37 ?_
    refine lv_iload_n hx hb dX0_apply_40 rfl (lv_at hl 0 rfl) ?_
    refine lv_iconst (v := 1) hx hb dX0_apply_41 (by decide) ?_
    obtain ⟨σ9, h8, hM⟩ := bnv_i hM
    refine x_callVv (As := [.int r3, .int 1]) (rest := []) hA ⟨hx, hb, hml, hown, hts⟩ (tX5_set l D cA ad hJ (20 + 3 * b) (by omega) r3 1 σ5 _ h8) (cwV 2 hts gX0_apply_X5_set rfl rfl rfl (by decide +kernel) ⟨(Nat.le_of_ble_eq_true rfl), (Nat.le_of_ble_eq_true rfl)⟩) hK hP hS (KC_row (20 + 3 * b) (by omega)) rfl rfl hl.1 rfl (Nat.le_of_ble_eq_true rfl) ⟨Nat.zero_le _, Nat.zero_le _⟩ dX0_apply_42 (fun H locs hP hS _ _ => ?_)
    refine lv_goto (tgt := 76) hx hb dX0_apply_45 (by decide) ?_
    exact x_vret hx hb hr hlk hP hS hM dX0_apply_76
  · have hM := (if_neg c7).symm.trans hM
    by_cases c10 : r6 = 2
    · have hM := (if_pos c10).symm.trans hM
      refine lv_tableIn (tgt := 48) (off := 37) hx hb dX0_apply_11 (by rw [c10]; decide) (by rw [c10]; decide) (by rw [c10]; rfl) (by decide) ?_
      refine lv_aload_n hx hb dX0_apply_48 rfl (lv_at hl 1 rfl) ?_
      refine x_getr (own := RX0) (C := RX0) (T := TX0) (N := 4) hx hb hts hinX0_X0_apply hown hK hP (KC_brd b (by omega)) rfl 0 (by decide) (hts (.fieldLink RX0 14 "StrokeBoard$Board" "undone" "LStrokeBoard$Row;") (by decide +kernel)) rfl dX0_apply_49 ?_
      refine lv_iload_n hx hb dX0_apply_52 rfl (lv_at hl 0 rfl) ?_
      refine lv_iconst (v := 0) hx hb dX0_apply_53 (by decide) ?_
      obtain ⟨σ12, h11, hM⟩ := bnv_i hM
      refine x_callVv (As := [.int r3, .int 0]) (rest := []) hA ⟨hx, hb, hml, hown, hts⟩ (tX5_set l D cA ad hJ (20 + 3 * b) (by omega) r3 0 σ5 _ h11) (cwV 2 hts gX0_apply_X5_set rfl rfl rfl (by decide +kernel) ⟨(Nat.le_of_ble_eq_true rfl), (Nat.le_of_ble_eq_true rfl)⟩) hK hP hS (KC_row (20 + 3 * b) (by omega)) rfl rfl hl.1 rfl (Nat.le_of_ble_eq_true rfl) ⟨Nat.zero_le _, Nat.zero_le _⟩ dX0_apply_54 (fun H locs hP hS _ _ => ?_)
      refine lv_goto (tgt := 76) hx hb dX0_apply_57 (by decide) ?_
      exact x_vret hx hb hr hlk hP hS hM dX0_apply_76
    · have hM := (if_neg c10).symm.trans hM
      by_cases c13 : r6 = 3
      · have hM := (if_pos c13).symm.trans hM
        refine lv_tableIn (tgt := 60) (off := 49) hx hb dX0_apply_11 (by rw [c13]; decide) (by rw [c13]; decide) (by rw [c13]; rfl) (by decide) ?_
        refine lv_aload_n hx hb dX0_apply_60 rfl (lv_at hl 1 rfl) ?_
        refine x_getr (own := RX0) (C := RX0) (T := TX0) (N := 4) hx hb hts hinX0_X0_apply hown hK hP (KC_brd b (by omega)) rfl 1 (by decide) (hts (.fieldLink RX0 20 "StrokeBoard$Board" "layers" "LStrokeBoard$Row;") (by decide +kernel)) rfl dX0_apply_61 ?_
        refine lv_iload_n hx hb dX0_apply_64 rfl (lv_at hl 0 rfl) ?_
        refine lv_aload_n hx hb dX0_apply_65 rfl (lv_at hl 2 rfl) ?_
        refine lv_iload_n hx hb dX0_apply_66 rfl (lv_at hl 3 rfl) ?_
        obtain ⟨r16, σ15, h14, hM⟩ := bnd_i hM
        refine x_callV (As := [.int u2]) (rest := [.int r3, .ref (ad (2 * (21 + 3 * b)))]) hA ⟨hx, hb, hml, hown, hts⟩ (tX4_layerOf l D cA ad hJ u2 σ5 _ _ h14) (cwV 1 hts gX0_apply_X4_layerOf rfl rfl rfl (by decide +kernel) ⟨(Nat.le_of_ble_eq_true rfl), (Nat.le_of_ble_eq_true rfl)⟩) hK hP hS KC_log rfl rfl hl.1 rfl (Nat.le_of_ble_eq_true rfl) ⟨Nat.zero_le _, Nat.zero_le _⟩ dX0_apply_67 (fun H locs hP hS _ _ => ?_)
        obtain ⟨σ18, h17, hM⟩ := bnv_i hM
        refine x_callVv (As := [.int r3, .int r16]) (rest := []) hA ⟨hx, hb, hml, hown, hts⟩ (tX5_set l D cA ad hJ (21 + 3 * b) (by omega) r3 r16 σ15 _ h17) (cwV 2 hts gX0_apply_X5_set rfl rfl rfl (by decide +kernel) ⟨(Nat.le_of_ble_eq_true rfl), (Nat.le_of_ble_eq_true rfl)⟩) hK hP hS (KC_row (21 + 3 * b) (by omega)) rfl rfl hl.1 rfl (Nat.le_of_ble_eq_true rfl) ⟨Nat.zero_le _, Nat.zero_le _⟩ dX0_apply_70 (fun H locs hP hS _ _ => ?_)
        refine lv_goto (tgt := 76) hx hb dX0_apply_73 (by decide) ?_
        exact x_vret hx hb hr hlk hP hS hM dX0_apply_76
      · have hM := (if_neg c13).symm.trans hM
        refine lv_tableOut (tgt := 76) hx hb dX0_apply_11 (by
          rcases Int.lt_or_le (Int32.toInt r6) 1 with h9 | h9
          · exact Or.inl h9
          · rcases Int.lt_or_le 3 (Int32.toInt r6) with h8 | h8
            · exact Or.inr h8
            · exfalso
              rcases (show Int32.toInt r6 = 1 ∨ Int32.toInt r6 = 2 ∨ Int32.toInt r6 = 3 by omega) with h7 | h7 | h7
              · exact c7 (Int32.toInt_inj.mp (h7.trans (by decide)))
              · exact c10 (Int32.toInt_inj.mp (h7.trans (by decide)))
              · exact c13 (Int32.toInt_inj.mp (h7.trans (by decide)))) (by decide) ?_
        exact x_vret hx hb hr hlk hP hS hM dX0_apply_76
theorem hinX4_X4_isStroke : ∀ w ∈ u_ws RX4 TX4 8, w ∈ wsX4_isStroke := by decide +kernel
set_option maxHeartbeats 4000000 in
set_option maxRecDepth 100000 in
theorem tX4_isStroke (l : Launch) (D : va_G) (cA : ClassId) (ad : Nat → Nat) (hJ : w_J ad KC) (u1 : Int32) (σ σ' : St) (r : Int32) (hM : mX4_isStroke u1 σ = some (r, σ')) : Ct l yX4_isStroke wsX4_isStroke 1 21 D cA ad KC [.ref (ad 54), .int u1] σ r σ' := by
  unfold Ct
  refine Met_of (cc := cX4_isStroke) (maxL := 2) (ret := (some .boolean)) hJ (by decide +kernel) rfl (Nat.le_of_ble_eq_true rfl) ?_
  intro p e s m below meth c Z H locs ls hP hS hl
  obtain ⟨hx, hb, hml, hown, hts, hr, hlk, hK, -⟩ := Z
  have hown : s.vm.findClass RX4 = some m.cls := hown
  have hl : lv_has ls 2 [(0, .ref (ad 54)), (1, .int u1)] := hl
  have hA : ∀ q, w_A ad KC q → w_A ad KC q := fun _ h => h
  unfold mX4_isStroke at hM
  refine lv_aload_n hx hb dX4_isStroke_0 rfl (lv_at hl 0 rfl) ?_
  refine x_getr (own := RX4) (C := RX4) (T := TX4) (N := 8) hx hb hts hinX4_X4_isStroke hown hK hP KC_log rfl 1 (by decide) (hts (.fieldLink RX4 20 "StrokeBoard$Log" "kinds" "LStrokeBoard$Row;") (by decide +kernel)) rfl dX4_isStroke_1 ?_
  refine lv_iload_n hx hb dX4_isStroke_4 rfl (lv_at hl 1 rfl) ?_
  obtain ⟨r3, σ2, h1, hM⟩ := bnd_i hM
  refine x_callV (As := [.int u1]) (rest := []) hA ⟨hx, hb, hml, hown, hts⟩ (tX5_get l D cA ad hJ 1 (by omega) u1 σ _ _ h1) (cwV 1 hts gX4_isStroke_X5_get rfl rfl rfl (by decide +kernel) ⟨(Nat.le_of_ble_eq_true rfl), (Nat.le_of_ble_eq_true rfl)⟩) hK hP hS (KC_row 1 (by omega)) rfl rfl hl.1 rfl (Nat.le_of_ble_eq_true rfl) ⟨Nat.zero_le _, Nat.zero_le _⟩ dX4_isStroke_5 (fun H locs hP hS _ _ => ?_)
  refine lv_if_ne (tgt := 15) hx hb dX4_isStroke_8 (by decide) (fun c4 => ?_) (fun c4 => ?_)
  · have hM := (if_neg c4).symm.trans hM
    refine lv_iconst (v := 0) hx hb dX4_isStroke_15 (by decide) ?_
    exact x_zret hx hb hr hlk hP hS hM dX4_isStroke_16
  · have hM := (if_pos c4).symm.trans hM
    refine lv_iconst (v := 1) hx hb dX4_isStroke_11 (by decide) ?_
    refine lv_goto (tgt := 16) hx hb dX4_isStroke_12 (by decide) ?_
    exact x_zret hx hb hr hlk hP hS hM dX4_isStroke_16
theorem hinX0_X0_isUndone : ∀ w ∈ u_ws RX0 TX0 4, w ∈ wsX0_isUndone := by decide +kernel
set_option maxHeartbeats 4000000 in
set_option maxRecDepth 100000 in
theorem tX0_isUndone (l : Launch) (D : va_G) (cA : ClassId) (ad : Nat → Nat) (hJ : w_J ad KC) (b : Nat) (hb : b < 2) (u1 : Int32) (σ σ' : St) (r : Int32) (hM : mX0_isUndone b u1 σ = some (r, σ')) : Ct l yX0_isUndone wsX0_isUndone 1 21 D cA ad KC [.ref (ad (60 + b)), .int u1] σ r σ' := by
  unfold Ct
  refine Met_of (cc := cX0_isUndone) (maxL := 2) (ret := (some .boolean)) hJ (by decide +kernel) rfl (Nat.le_of_ble_eq_true rfl) ?_
  intro p e s m below meth c Z H locs ls hP hS hl
  obtain ⟨hx, hb, hml, hown, hts, hr, hlk, hK, -⟩ := Z
  have hown : s.vm.findClass RX0 = some m.cls := hown
  have hl : lv_has ls 2 [(0, .ref (ad (60 + b))), (1, .int u1)] := hl
  have hA : ∀ q, w_A ad KC q → w_A ad KC q := fun _ h => h
  unfold mX0_isUndone at hM
  refine lv_aload_n hx hb dX0_isUndone_0 rfl (lv_at hl 0 rfl) ?_
  refine x_getr (own := RX0) (C := RX0) (T := TX0) (N := 4) hx hb hts hinX0_X0_isUndone hown hK hP (KC_brd b (by omega)) rfl 0 (by decide) (hts (.fieldLink RX0 14 "StrokeBoard$Board" "undone" "LStrokeBoard$Row;") (by decide +kernel)) rfl dX0_isUndone_1 ?_
  refine lv_iload_n hx hb dX0_isUndone_4 rfl (lv_at hl 1 rfl) ?_
  obtain ⟨r3, σ2, h1, hM⟩ := bnd_i hM
  refine x_callV (As := [.int u1]) (rest := []) hA ⟨hx, hb, hml, hown, hts⟩ (tX5_get l D cA ad hJ (20 + 3 * b) (by omega) u1 σ _ _ h1) (cwV 1 hts gX0_isUndone_X5_get rfl rfl rfl (by decide +kernel) ⟨(Nat.le_of_ble_eq_true rfl), (Nat.le_of_ble_eq_true rfl)⟩) hK hP hS (KC_row (20 + 3 * b) (by omega)) rfl rfl hl.1 rfl (Nat.le_of_ble_eq_true rfl) ⟨Nat.zero_le _, Nat.zero_le _⟩ dX0_isUndone_5 (fun H locs hP hS _ _ => ?_)
  refine lv_iconst (v := 1) hx hb dX0_isUndone_8 (by decide) ?_
  refine lv_icmp_ne (tgt := 16) hx hb dX0_isUndone_9 (by decide) (fun c4 => ?_) (fun c4 => ?_)
  · have hM := (if_neg c4).symm.trans hM
    refine lv_iconst (v := 0) hx hb dX0_isUndone_16 (by decide) ?_
    exact x_zret hx hb hr hlk hP hS hM dX0_isUndone_17
  · have hM := (if_pos c4).symm.trans hM
    refine lv_iconst (v := 1) hx hb dX0_isUndone_12 (by decide) ?_
    refine lv_goto (tgt := 17) hx hb dX0_isUndone_13 (by decide) ?_
    exact x_zret hx hb hr hlk hP hS hM dX0_isUndone_17
theorem hinX0_X0_collect : ∀ w ∈ u_ws RX0 TX0 4, w ∈ wsX0_collect := by decide +kernel
set_option maxHeartbeats 4000000 in
set_option maxRecDepth 100000 in
theorem tX0_collect (l : Launch) (D : va_G) (cA : ClassId) (ad : Nat → Nat) (hJ : w_J ad KC) (b : Nat) (hb : b < 2) (g : Nat) (hg : g < 2) (u3 u4 : Int32) (σ σ' : St) (hM : mX0_collect b g u3 u4 σ = some σ') : Cv l yX0_collect wsX0_collect 2 43 D cA ad KC [.ref (ad (60 + b)), .ref (ad 54), .ref (ad (57 + g)), .int u3, .int u4] σ σ' := by
  unfold Cv
  refine Met_of (cc := cX0_collect) (maxL := 8) (ret := none) hJ (by decide +kernel) rfl (Nat.le_of_ble_eq_true rfl) ?_
  intro p e s m below meth c Z H locs ls hP hS hl
  obtain ⟨hx, hb, hml, hown, hts, hr, hlk, hK, -⟩ := Z
  have hown : s.vm.findClass RX0 = some m.cls := hown
  have hl : lv_has ls 8 [(0, .ref (ad (60 + b))), (1, .ref (ad 54)), (2, .ref (ad (57 + g))), (3, .int u3), (4, .int u4)] := hl
  have hA : ∀ q, w_A ad KC q → w_A ad KC q := fun _ h => h
  have L9 : ∀ (n : Nat) (x3 x4 x5 x6 : Int32) (σ : St) (H : Heap) (locs : List Loc) (ls : Array Slot), mX0_collect_L9 b g n x3 x4 x5 x6 σ = some σ' → w_P D cA ad KC σ H → va_S (w_A ad KC) s.heap H locs → lv_has ls 8 [(0, .ref (ad (60 + b))), (1, .ref (ad 54)), (2, .ref (ad (57 + g))), (3, .int x3), (4, .int x4), (5, .int x5), (6, .int x6)] → Wm p l e wsX0_collect 2 43 s m ([.ref (ad (60 + b)), .ref (ad 54), .ref (ad (57 + g)), .int u3, .int u4] : List Value).toArray below meth c (w_Qv D cA ad KC σ') (w_A ad KC) H locs (F0 m 9 ls []) := by
    intro n9
    induction n9 with
    | zero =>
      intro x3 x4 x5 x6 σ H locs ls hM hP hS hl
      rw [mX0_collect_L9] at hM
      cases hM
    | succ n9 ih9 =>
      intro x3 x4 x5 x6 σ H locs ls hM hP hS hl
      rw [mX0_collect_L9] at hM
      refine lv_iload hx hb dX0_collect_9 (lv_at hl 6 rfl) ?_
      refine lv_iload hx hb dX0_collect_11 (lv_at hl 5 rfl) ?_
      refine lv_icmp_ge (tgt := 95) hx hb dX0_collect_13 (by decide) (fun c1 => ?_) (fun c1 => ?_)
      · have hM := (if_pos c1).symm.trans hM
        exact x_vret hx hb hr hlk hP hS hM dX0_collect_95
      · have hM := (if_neg c1).symm.trans hM
        refine lv_aload_n hx hb dX0_collect_16 rfl (lv_at hl 1 rfl) ?_
        refine lv_iload hx hb dX0_collect_17 (lv_at hl 6 rfl) ?_
        obtain ⟨r4, σ3, h2, hM⟩ := bnd_i hM
        refine x_callV (As := [.int x6]) (rest := []) hA ⟨hx, hb, hml, hown, hts⟩ (tX4_inOrder l D cA ad hJ x6 σ _ _ h2) (cwV 1 hts gX0_collect_X4_inOrder rfl rfl rfl (by decide +kernel) ⟨(Nat.le_of_ble_eq_true rfl), (Nat.le_of_ble_eq_true rfl)⟩) hK hP hS KC_log rfl rfl hl.1 rfl (Nat.le_of_ble_eq_true rfl) ⟨Nat.zero_le _, Nat.zero_le _⟩ dX0_collect_19 (fun H locs hP hS _ _ => ?_)
        refine lv_istore (lv' := [(7, .int r4), (0, .ref (ad (60 + b))), (1, .ref (ad 54)), (2, .ref (ad (57 + g))), (3, .int x3), (4, .int x4), (5, .int x5), (6, .int x6)]) hx hb dX0_collect_22 hl (by decide) rfl (fun ls hl => ?_)
        refine lv_aload_n hx hb dX0_collect_24 rfl (lv_at hl 2 rfl) ?_
        refine lv_iload hx hb dX0_collect_25 (lv_at hl 0 rfl) ?_
        obtain ⟨r7, σ6, h5, hM⟩ := bnd_i hM
        refine x_callV (As := [.int r4]) (rest := []) hA ⟨hx, hb, hml, hown, hts⟩ (tX4_isStroke l D cA ad hJ r4 σ3 _ _ h5) (cwV 1 hts gX0_collect_X4_isStroke rfl rfl rfl (by decide +kernel) ⟨(Nat.le_of_ble_eq_true rfl), (Nat.le_of_ble_eq_true rfl)⟩) hK hP hS KC_log rfl rfl hl.1 rfl (Nat.le_of_ble_eq_true rfl) ⟨Nat.zero_le _, Nat.zero_le _⟩ dX0_collect_27 (fun H locs hP hS _ _ => ?_)
        refine lv_if_eq (tgt := 89) hx hb dX0_collect_30 (by decide) (fun c8 => ?_) (fun c8 => ?_)
        · have hM := (if_pos c8).symm.trans hM
          refine lv_iinc (v := (x6 + 1)) (lv' := [(6, .int (x6 + 1)), (7, .int r4), (0, .ref (ad (60 + b))), (1, .ref (ad 54)), (2, .ref (ad (57 + g))), (3, .int x3), (4, .int x4), (5, .int x5)]) hx hb dX0_collect_89 hl (k := 7) rfl rfl (by decide) rfl (fun ls hl => ?_)
          refine lv_goto (tgt := 9) hx hb dX0_collect_92 (by decide) ?_
          exact ih9 _ _ _ _ _ _ _ _ hM hP hS (lv_sub hl [2, 3, 4, 5, 6, 7, 0] rfl)
        · have hM := (if_neg c8).symm.trans hM
          refine lv_aload_n hx hb dX0_collect_33 rfl (lv_at hl 1 rfl) ?_
          refine x_getr (own := RX0) (C := RX0) (T := TX0) (N := 4) hx hb hts hinX0_X0_collect hown hK hP (KC_brd b (by omega)) rfl 1 (by decide) (hts (.fieldLink RX0 20 "StrokeBoard$Board" "layers" "LStrokeBoard$Row;") (by decide +kernel)) rfl dX0_collect_34 ?_
          refine lv_iload hx hb dX0_collect_37 (lv_at hl 0 rfl) ?_
          obtain ⟨r11, σ10, h9, hM⟩ := bnd_i hM
          refine x_callV (As := [.int r4]) (rest := []) hA ⟨hx, hb, hml, hown, hts⟩ (tX5_get l D cA ad hJ (21 + 3 * b) (by omega) r4 σ6 _ _ h9) (cwV 1 hts gX0_collect_X5_get rfl rfl rfl (by decide +kernel) ⟨(Nat.le_of_ble_eq_true rfl), (Nat.le_of_ble_eq_true rfl)⟩) hK hP hS (KC_row (21 + 3 * b) (by omega)) rfl rfl hl.1 rfl (Nat.le_of_ble_eq_true rfl) ⟨Nat.zero_le _, Nat.zero_le _⟩ dX0_collect_39 (fun H locs hP hS _ _ => ?_)
          refine lv_iload hx hb dX0_collect_42 (lv_at hl 5 rfl) ?_
          refine lv_icmp_ne (tgt := 89) hx hb dX0_collect_44 (by decide) (fun c12 => ?_) (fun c12 => ?_)
          · have hM := (if_neg c12).symm.trans hM
            refine lv_iinc (v := (x6 + 1)) (lv' := [(6, .int (x6 + 1)), (7, .int r4), (0, .ref (ad (60 + b))), (1, .ref (ad 54)), (2, .ref (ad (57 + g))), (3, .int x3), (4, .int x4), (5, .int x5)]) hx hb dX0_collect_89 hl (k := 7) rfl rfl (by decide) rfl (fun ls hl => ?_)
            refine lv_goto (tgt := 9) hx hb dX0_collect_92 (by decide) ?_
            exact ih9 _ _ _ _ _ _ _ _ hM hP hS (lv_sub hl [2, 3, 4, 5, 6, 7, 0] rfl)
          · have hM := (if_pos c12).symm.trans hM
            refine lv_aload_n hx hb dX0_collect_47 rfl (lv_at hl 1 rfl) ?_
            refine lv_iload hx hb dX0_collect_48 (lv_at hl 0 rfl) ?_
            obtain ⟨r15, σ14, h13, hM⟩ := bnd_i hM
            refine x_callV (As := [.int r4]) (rest := []) hA ⟨hx, hb, hml, hown, hts⟩ (tX0_isUndone l D cA ad hJ b (by omega) r4 σ10 _ _ h13) (cwV 1 hts gX0_collect_X0_isUndone rfl rfl rfl (by decide +kernel) ⟨(Nat.le_of_ble_eq_true rfl), (Nat.le_of_ble_eq_true rfl)⟩) hK hP hS (KC_brd b (by omega)) rfl rfl hl.1 rfl (Nat.le_of_ble_eq_true rfl) ⟨Nat.zero_le _, Nat.zero_le _⟩ dX0_collect_50 (fun H locs hP hS _ _ => ?_)
            refine lv_if_ne (tgt := 89) hx hb dX0_collect_53 (by decide) (fun c16 => ?_) (fun c16 => ?_)
            · have hM := (if_neg c16).symm.trans hM
              refine lv_iinc (v := (x6 + 1)) (lv' := [(6, .int (x6 + 1)), (7, .int r4), (0, .ref (ad (60 + b))), (1, .ref (ad 54)), (2, .ref (ad (57 + g))), (3, .int x3), (4, .int x4), (5, .int x5)]) hx hb dX0_collect_89 hl (k := 7) rfl rfl (by decide) rfl (fun ls hl => ?_)
              refine lv_goto (tgt := 9) hx hb dX0_collect_92 (by decide) ?_
              exact ih9 _ _ _ _ _ _ _ _ hM hP hS (lv_sub hl [2, 3, 4, 5, 6, 7, 0] rfl)
            · have hM := (if_pos c16).symm.trans hM
              refine lv_aload_n hx hb dX0_collect_56 rfl (lv_at hl 3 rfl) ?_
              refine lv_iload_n hx hb dX0_collect_57 rfl (lv_at hl 4 rfl) ?_
              refine lv_iload hx hb dX0_collect_58 (lv_at hl 0 rfl) ?_
              obtain ⟨r19, σ18, h17, hM⟩ := bnd_i hM
              refine x_callV (As := [.int x3, .int r4]) (rest := []) hA ⟨hx, hb, hml, hown, hts⟩ (tX2_has l D cA ad hJ g (by omega) x3 r4 σ14 _ _ h17) (cwV 2 hts gX0_collect_X2_has rfl rfl rfl (by decide +kernel) ⟨(Nat.le_of_ble_eq_true rfl), (Nat.le_of_ble_eq_true rfl)⟩) hK hP hS (KC_kno g (by omega)) rfl rfl hl.1 rfl (Nat.le_of_ble_eq_true rfl) ⟨Nat.zero_le _, Nat.zero_le _⟩ dX0_collect_60 (fun H locs hP hS _ _ => ?_)
              refine lv_if_eq (tgt := 89) hx hb dX0_collect_63 (by decide) (fun c20 => ?_) (fun c20 => ?_)
              · have hM := (if_pos c20).symm.trans hM
                refine lv_iinc (v := (x6 + 1)) (lv' := [(6, .int (x6 + 1)), (7, .int r4), (0, .ref (ad (60 + b))), (1, .ref (ad 54)), (2, .ref (ad (57 + g))), (3, .int x3), (4, .int x4), (5, .int x5)]) hx hb dX0_collect_89 hl (k := 7) rfl rfl (by decide) rfl (fun ls hl => ?_)
                refine lv_goto (tgt := 9) hx hb dX0_collect_92 (by decide) ?_
                exact ih9 _ _ _ _ _ _ _ _ hM hP hS (lv_sub hl [2, 3, 4, 5, 6, 7, 0] rfl)
              · have hM := (if_neg c20).symm.trans hM
                refine lv_aload_n hx hb dX0_collect_66 rfl (lv_at hl 1 rfl) ?_
                refine x_getr (own := RX0) (C := RX0) (T := TX0) (N := 4) hx hb hts hinX0_X0_collect hown hK hP (KC_brd b (by omega)) rfl 2 (by decide) (hts (.fieldLink RX0 23 "StrokeBoard$Board" "strokes" "LStrokeBoard$Row;") (by decide +kernel)) rfl dX0_collect_67 ?_
                refine lv_aload_n hx hb dX0_collect_70 rfl (lv_at hl 1 rfl) ?_
                refine x_geti (own := RX0) (C := RX0) (T := TX0) (N := 4) hx hb hts hinX0_X0_collect hown hK hP (KC_brd b (by omega)) rfl 3 (by decide) (hts (.fieldLink RX0 40 "StrokeBoard$Board" "count" "I") (by decide +kernel)) rfl dX0_collect_71 ?_
                refine lv_iload hx hb dX0_collect_74 (lv_at hl 0 rfl) ?_
                obtain ⟨σ22, h21, hM⟩ := bnv_i hM
                refine x_callVv (As := [.int (σ18 (29 + b) 0), .int r4]) (rest := []) hA ⟨hx, hb, hml, hown, hts⟩ (tX5_set l D cA ad hJ (22 + 3 * b) (by omega) (σ18 (29 + b) 0) r4 σ18 _ h21) (cwV 2 hts gX0_collect_X5_set rfl rfl rfl (by decide +kernel) ⟨(Nat.le_of_ble_eq_true rfl), (Nat.le_of_ble_eq_true rfl)⟩) hK hP hS (KC_row (22 + 3 * b) (by omega)) rfl rfl hl.1 rfl (Nat.le_of_ble_eq_true rfl) ⟨Nat.zero_le _, Nat.zero_le _⟩ dX0_collect_76 (fun H locs hP hS _ _ => ?_)
                refine lv_aload_n hx hb dX0_collect_79 rfl (lv_at hl 1 rfl) ?_
                refine lv_dup hx hb dX0_collect_80 rfl ?_
                refine x_geti (own := RX0) (C := RX0) (T := TX0) (N := 4) hx hb hts hinX0_X0_collect hown hK hP (KC_brd b (by omega)) rfl 3 (by decide) (hts (.fieldLink RX0 40 "StrokeBoard$Board" "count" "I") (by decide +kernel)) rfl dX0_collect_81 ?_
                refine lv_iconst (v := 1) hx hb dX0_collect_84 (by decide) ?_
                refine lv_iadd hx hb dX0_collect_85 ?_
                refine x_puti (own := RX0) (C := RX0) (T := TX0) (N := 4) hx hb KC_ok hJ hts hinX0_X0_collect tyX0 tyX0_ok nmX0 hown hK hP hS (KC_brd b (by omega)) rfl 3 (by decide) (hts (.fieldLink RX0 40 "StrokeBoard$Board" "count" "I") (by decide +kernel)) rfl rfl rfl (by decide +kernel) dX0_collect_86 (fun H locs hP hS => ?_)
                obtain ⟨σ23, eσ23, hM⟩ := lts_i hM
                rw [← eσ23] at hP
                refine lv_iinc (v := (x6 + 1)) (lv' := [(6, .int (x6 + 1)), (7, .int r4), (0, .ref (ad (60 + b))), (1, .ref (ad 54)), (2, .ref (ad (57 + g))), (3, .int x3), (4, .int x4), (5, .int x5)]) hx hb dX0_collect_89 hl (k := 7) rfl rfl (by decide) rfl (fun ls hl => ?_)
                refine lv_goto (tgt := 9) hx hb dX0_collect_92 (by decide) ?_
                exact ih9 _ _ _ _ _ _ _ _ hM hP hS (lv_sub hl [2, 3, 4, 5, 6, 7, 0] rfl)
  unfold mX0_collect at hM
  refine lv_aload_n hx hb dX0_collect_0 rfl (lv_at hl 1 rfl) ?_
  obtain ⟨r26, σ25, h24, hM⟩ := bnd_i hM
  refine x_callV (As := []) (rest := []) hA ⟨hx, hb, hml, hown, hts⟩ (tX4_totalCount l D cA ad hJ σ _ _ h24) (cwV 0 hts gX0_collect_X4_totalCount rfl rfl rfl (by decide +kernel) ⟨(Nat.le_of_ble_eq_true rfl), (Nat.le_of_ble_eq_true rfl)⟩) hK hP hS KC_log rfl rfl hl.1 rfl (Nat.le_of_ble_eq_true rfl) ⟨Nat.zero_le _, Nat.zero_le _⟩ dX0_collect_1 (fun H locs hP hS _ _ => ?_)
  refine lv_istore (lv' := [(5, .int r26), (0, .ref (ad (60 + b))), (1, .ref (ad 54)), (2, .ref (ad (57 + g))), (3, .int u3), (4, .int u4)]) hx hb dX0_collect_4 hl (by decide) rfl (fun ls hl => ?_)
  refine lv_iconst (v := 0) hx hb dX0_collect_6 (by decide) ?_
  refine lv_istore (lv' := [(6, .int 0), (5, .int r26), (0, .ref (ad (60 + b))), (1, .ref (ad 54)), (2, .ref (ad (57 + g))), (3, .int u3), (4, .int u4)]) hx hb dX0_collect_7 hl (by decide) rfl (fun ls hl => ?_)
  exact L9 fu _ _ _ _ _ _ _ _ hM hP hS (lv_sub hl [2, 3, 4, 5, 6, 1, 0] rfl)
theorem hinX0_X0_show : ∀ w ∈ u_ws RX0 TX0 4, w ∈ wsX0_show := by decide +kernel
theorem hinX4_X0_show : ∀ w ∈ u_ws RX4 TX4 8, w ∈ wsX0_show := by decide +kernel
set_option maxHeartbeats 4000000 in
set_option maxRecDepth 100000 in
theorem tX0_show (l : Launch) (D : va_G) (cA : ClassId) (ad : Nat → Nat) (hJ : w_J ad KC) (b : Nat) (hb : b < 2) (g : Nat) (hg : g < 2) (u3 : Int32) (σ σ' : St) (hM : mX0_show b g u3 σ = some σ') : Cv l yX0_show wsX0_show 3 70 D cA ad KC [.ref (ad (60 + b)), .ref (ad 54), .ref (ad (57 + g)), .int u3] σ σ' := by
  unfold Cv
  refine Met_of (cc := cX0_show) (maxL := 7) (ret := none) hJ (by decide +kernel) rfl (Nat.le_of_ble_eq_true rfl) ?_
  intro p e s m below meth c Z H locs ls hP hS hl
  obtain ⟨hx, hb, hml, hown, hts, hr, hlk, hK, -⟩ := Z
  have hown : s.vm.findClass RX0 = some m.cls := hown
  have hl : lv_has ls 7 [(0, .ref (ad (60 + b))), (1, .ref (ad 54)), (2, .ref (ad (57 + g))), (3, .int u3)] := hl
  have hA : ∀ q, w_A ad KC q → w_A ad KC q := fun _ h => h
  have L74 : ∀ (n : Nat) (x3 x5 : Int32) (σ : St) (H : Heap) (locs : List Loc) (ls : Array Slot), mX0_show_L74 b g n x3 x5 σ = some σ' → w_P D cA ad KC σ H → va_S (w_A ad KC) s.heap H locs → lv_has ls 7 [(0, .ref (ad (60 + b))), (1, .ref (ad 54)), (2, .ref (ad (57 + g))), (3, .int x3), (5, .int x5)] → Wm p l e wsX0_show 3 70 s m ([.ref (ad (60 + b)), .ref (ad 54), .ref (ad (57 + g)), .int u3] : List Value).toArray below meth c (w_Qv D cA ad KC σ') (w_A ad KC) H locs (F0 m 74 ls []) := by
    intro n74
    induction n74 with
    | zero =>
      intro x3 x5 σ H locs ls hM hP hS hl
      rw [mX0_show_L74] at hM
      cases hM
    | succ n74 ih74 =>
      intro x3 x5 σ H locs ls hM hP hS hl
      rw [mX0_show_L74] at hM
      refine lv_iload hx hb dX0_show_74 (lv_at hl 4 rfl) ?_
      refine lv_iconst (v := 3) hx hb dX0_show_76 (by decide) ?_
      refine lv_icmp_gt (tgt := 95) hx hb dX0_show_77 (by decide) (fun c1 => ?_) (fun c1 => ?_)
      · have hM := (if_pos c1).symm.trans hM
        exact x_vret hx hb hr hlk hP hS hM dX0_show_95
      · have hM := (if_neg c1).symm.trans hM
        refine lv_aload_n hx hb dX0_show_80 rfl (lv_at hl 0 rfl) ?_
        refine lv_aload_n hx hb dX0_show_81 rfl (lv_at hl 1 rfl) ?_
        refine lv_aload_n hx hb dX0_show_82 rfl (lv_at hl 2 rfl) ?_
        refine lv_iload_n hx hb dX0_show_83 rfl (lv_at hl 3 rfl) ?_
        refine lv_iload hx hb dX0_show_84 (lv_at hl 4 rfl) ?_
        obtain ⟨σ3, h2, hM⟩ := bnv_i hM
        refine x_callVv (As := [.ref (ad 54), .ref (ad (57 + g)), .int x3, .int x5]) (rest := []) hA ⟨hx, hb, hml, hown, hts⟩ (tX0_collect l D cA ad hJ b (by omega) g (by omega) x3 x5 σ _ h2) (cwV 4 hts gX0_show_X0_collect rfl rfl rfl (by decide +kernel) ⟨(Nat.le_of_ble_eq_true rfl), (Nat.le_of_ble_eq_true rfl)⟩) hK hP hS (KC_brd b (by omega)) rfl rfl hl.1 rfl (Nat.le_of_ble_eq_true rfl) ⟨Nat.zero_le _, Nat.zero_le _⟩ dX0_show_86 (fun H locs hP hS _ _ => ?_)
        refine lv_iinc (v := (x5 + 1)) (lv' := [(5, .int (x5 + 1)), (0, .ref (ad (60 + b))), (1, .ref (ad 54)), (2, .ref (ad (57 + g))), (3, .int x3)]) hx hb dX0_show_89 hl (k := 4) rfl rfl (by decide) rfl (fun ls hl => ?_)
        refine lv_goto (tgt := 74) hx hb dX0_show_92 (by decide) ?_
        exact ih74 _ _ _ _ _ _ hM hP hS (lv_sub hl [1, 2, 3, 4, 0] rfl)
  have L33 : ∀ (n : Nat) (x3 x4 x5 : Int32) (σ : St) (H : Heap) (locs : List Loc) (ls : Array Slot), mX0_show_L33 b g n x3 x4 x5 σ = some σ' → w_P D cA ad KC σ H → va_S (w_A ad KC) s.heap H locs → lv_has ls 7 [(0, .ref (ad (60 + b))), (1, .ref (ad 54)), (2, .ref (ad (57 + g))), (3, .int x3), (4, .int x4), (5, .int x5)] → Wm p l e wsX0_show 3 70 s m ([.ref (ad (60 + b)), .ref (ad 54), .ref (ad (57 + g)), .int u3] : List Value).toArray below meth c (w_Qv D cA ad KC σ') (w_A ad KC) H locs (F0 m 33 ls []) := by
    intro n33
    induction n33 with
    | zero =>
      intro x3 x4 x5 σ H locs ls hM hP hS hl
      rw [mX0_show_L33] at hM
      cases hM
    | succ n33 ih33 =>
      intro x3 x4 x5 σ H locs ls hM hP hS hl
      rw [mX0_show_L33] at hM
      refine lv_iload hx hb dX0_show_33 (lv_at hl 5 rfl) ?_
      refine lv_iload hx hb dX0_show_35 (lv_at hl 4 rfl) ?_
      refine lv_icmp_ge (tgt := 71) hx hb dX0_show_37 (by decide) (fun c4 => ?_) (fun c4 => ?_)
      · have hM := (if_pos c4).symm.trans hM
        refine lv_iconst (v := 0) hx hb dX0_show_71 (by decide) ?_
        refine lv_istore (lv' := [(5, .int 0), (0, .ref (ad (60 + b))), (1, .ref (ad 54)), (2, .ref (ad (57 + g))), (3, .int x3), (4, .int x4)]) hx hb dX0_show_72 hl (by decide) rfl (fun ls hl => ?_)
        exact L74 fu _ _ _ _ _ _ hM hP hS (lv_sub hl [1, 2, 3, 4, 0] rfl)
      · have hM := (if_neg c4).symm.trans hM
        refine lv_aload_n hx hb dX0_show_40 rfl (lv_at hl 1 rfl) ?_
        refine lv_iload hx hb dX0_show_41 (lv_at hl 5 rfl) ?_
        obtain ⟨r7, σ6, h5, hM⟩ := bnd_i hM
        refine x_callV (As := [.int x5]) (rest := []) hA ⟨hx, hb, hml, hown, hts⟩ (tX4_inOrder l D cA ad hJ x5 σ _ _ h5) (cwV 1 hts gX0_show_X4_inOrder rfl rfl rfl (by decide +kernel) ⟨(Nat.le_of_ble_eq_true rfl), (Nat.le_of_ble_eq_true rfl)⟩) hK hP hS KC_log rfl rfl hl.1 rfl (Nat.le_of_ble_eq_true rfl) ⟨Nat.zero_le _, Nat.zero_le _⟩ dX0_show_43 (fun H locs hP hS _ _ => ?_)
        refine lv_istore (lv' := [(6, .int r7), (0, .ref (ad (60 + b))), (1, .ref (ad 54)), (2, .ref (ad (57 + g))), (3, .int x3), (4, .int x4), (5, .int x5)]) hx hb dX0_show_46 hl (by decide) rfl (fun ls hl => ?_)
        refine lv_aload_n hx hb dX0_show_48 rfl (lv_at hl 3 rfl) ?_
        refine lv_iload_n hx hb dX0_show_49 rfl (lv_at hl 4 rfl) ?_
        refine lv_iload hx hb dX0_show_50 (lv_at hl 0 rfl) ?_
        obtain ⟨r10, σ9, h8, hM⟩ := bnd_i hM
        refine x_callV (As := [.int x3, .int r7]) (rest := []) hA ⟨hx, hb, hml, hown, hts⟩ (tX2_has l D cA ad hJ g (by omega) x3 r7 σ6 _ _ h8) (cwV 2 hts gX0_show_X2_has rfl rfl rfl (by decide +kernel) ⟨(Nat.le_of_ble_eq_true rfl), (Nat.le_of_ble_eq_true rfl)⟩) hK hP hS (KC_kno g (by omega)) rfl rfl hl.1 rfl (Nat.le_of_ble_eq_true rfl) ⟨Nat.zero_le _, Nat.zero_le _⟩ dX0_show_52 (fun H locs hP hS _ _ => ?_)
        refine lv_if_eq (tgt := 65) hx hb dX0_show_55 (by decide) (fun c11 => ?_) (fun c11 => ?_)
        · have hM := (if_pos c11).symm.trans hM
          refine lv_iinc (v := (x5 + 1)) (lv' := [(5, .int (x5 + 1)), (6, .int r7), (0, .ref (ad (60 + b))), (1, .ref (ad 54)), (2, .ref (ad (57 + g))), (3, .int x3), (4, .int x4)]) hx hb dX0_show_65 hl (k := 6) rfl rfl (by decide) rfl (fun ls hl => ?_)
          refine lv_goto (tgt := 33) hx hb dX0_show_68 (by decide) ?_
          exact ih33 _ _ _ _ _ _ _ hM hP hS (lv_sub hl [2, 3, 4, 5, 6, 0] rfl)
        · have hM := (if_neg c11).symm.trans hM
          refine lv_aload_n hx hb dX0_show_58 rfl (lv_at hl 1 rfl) ?_
          refine lv_aload_n hx hb dX0_show_59 rfl (lv_at hl 2 rfl) ?_
          refine lv_iload hx hb dX0_show_60 (lv_at hl 0 rfl) ?_
          obtain ⟨σ13, h12, hM⟩ := bnv_i hM
          refine x_callVv (As := [.ref (ad 54), .int r7]) (rest := []) hA ⟨hx, hb, hml, hown, hts⟩ (tX0_apply l D cA ad hJ b (by omega) r7 σ9 _ h12) (cwV 2 hts gX0_show_X0_apply rfl rfl rfl (by decide +kernel) ⟨(Nat.le_of_ble_eq_true rfl), (Nat.le_of_ble_eq_true rfl)⟩) hK hP hS (KC_brd b (by omega)) rfl rfl hl.1 rfl (Nat.le_of_ble_eq_true rfl) ⟨Nat.zero_le _, Nat.zero_le _⟩ dX0_show_62 (fun H locs hP hS _ _ => ?_)
          refine lv_iinc (v := (x5 + 1)) (lv' := [(5, .int (x5 + 1)), (6, .int r7), (0, .ref (ad (60 + b))), (1, .ref (ad 54)), (2, .ref (ad (57 + g))), (3, .int x3), (4, .int x4)]) hx hb dX0_show_65 hl (k := 6) rfl rfl (by decide) rfl (fun ls hl => ?_)
          refine lv_goto (tgt := 33) hx hb dX0_show_68 (by decide) ?_
          exact ih33 _ _ _ _ _ _ _ hM hP hS (lv_sub hl [2, 3, 4, 5, 6, 0] rfl)
  unfold mX0_show at hM
  refine lv_aload_n hx hb dX0_show_0 rfl (lv_at hl 1 rfl) ?_
  obtain ⟨r16, σ15, h14, hM⟩ := bnd_i hM
  refine x_callV (As := []) (rest := []) hA ⟨hx, hb, hml, hown, hts⟩ (tX4_totalCount l D cA ad hJ σ _ _ h14) (cwV 0 hts gX0_show_X4_totalCount rfl rfl rfl (by decide +kernel) ⟨(Nat.le_of_ble_eq_true rfl), (Nat.le_of_ble_eq_true rfl)⟩) hK hP hS KC_log rfl rfl hl.1 rfl (Nat.le_of_ble_eq_true rfl) ⟨Nat.zero_le _, Nat.zero_le _⟩ dX0_show_1 (fun H locs hP hS _ _ => ?_)
  refine lv_istore (lv' := [(4, .int r16), (0, .ref (ad (60 + b))), (1, .ref (ad 54)), (2, .ref (ad (57 + g))), (3, .int u3)]) hx hb dX0_show_4 hl (by decide) rfl (fun ls hl => ?_)
  refine lv_aload_n hx hb dX0_show_6 rfl (lv_at hl 1 rfl) ?_
  refine x_getr (own := RX0) (C := RX0) (T := TX0) (N := 4) hx hb hts hinX0_X0_show hown hK hP (KC_brd b (by omega)) rfl 0 (by decide) (hts (.fieldLink RX0 14 "StrokeBoard$Board" "undone" "LStrokeBoard$Row;") (by decide +kernel)) rfl dX0_show_7 ?_
  refine lv_iconst (v := 0) hx hb dX0_show_10 (by decide) ?_
  obtain ⟨σ18, h17, hM⟩ := bnv_i hM
  refine x_callVv (As := [.int 0]) (rest := []) hA ⟨hx, hb, hml, hown, hts⟩ (tX5_fill l D cA ad hJ (20 + 3 * b) (by omega) 0 σ15 _ h17) (cwV 1 hts gX0_show_X5_fill rfl rfl rfl (by decide +kernel) ⟨(Nat.le_of_ble_eq_true rfl), (Nat.le_of_ble_eq_true rfl)⟩) hK hP hS (KC_row (20 + 3 * b) (by omega)) rfl rfl hl.1 rfl (Nat.le_of_ble_eq_true rfl) ⟨Nat.zero_le _, Nat.zero_le _⟩ dX0_show_11 (fun H locs hP hS _ _ => ?_)
  refine lv_aload_n hx hb dX0_show_14 rfl (lv_at hl 1 rfl) ?_
  refine x_getr (own := RX0) (C := RX0) (T := TX0) (N := 4) hx hb hts hinX0_X0_show hown hK hP (KC_brd b (by omega)) rfl 1 (by decide) (hts (.fieldLink RX0 20 "StrokeBoard$Board" "layers" "LStrokeBoard$Row;") (by decide +kernel)) rfl dX0_show_15 ?_
  refine lv_aload_n hx hb dX0_show_18 rfl (lv_at hl 2 rfl) ?_
  refine x_getrN (own := RX0) (C := RX4) (T := TX4) (N := 8) hx hb hts hinX4_X0_show hown hK hP KC_log rfl 4 (by decide) (nw_f hK.2 0 rfl) rfl dX0_show_19 ?_
  obtain ⟨σ20, h19, hM⟩ := bnv_i hM
  refine x_callVv (As := [.ref (ad (2 * 4))]) (rest := []) hA ⟨hx, hb, hml, hown, hts⟩ (tX5_copyFrom l D cA ad hJ (21 + 3 * b) (by omega) 4 (by omega) σ18 _ h19) (cwV 1 hts gX0_show_X5_copyFrom rfl rfl rfl (by decide +kernel) ⟨(Nat.le_of_ble_eq_true rfl), (Nat.le_of_ble_eq_true rfl)⟩) hK hP hS (KC_row (21 + 3 * b) (by omega)) rfl rfl hl.1 rfl (Nat.le_of_ble_eq_true rfl) ⟨Nat.zero_le _, Nat.zero_le _⟩ dX0_show_22 (fun H locs hP hS _ _ => ?_)
  refine lv_aload_n hx hb dX0_show_25 rfl (lv_at hl 1 rfl) ?_
  refine lv_iconst (v := 0) hx hb dX0_show_26 (by decide) ?_
  refine x_puti (own := RX0) (C := RX0) (T := TX0) (N := 4) hx hb KC_ok hJ hts hinX0_X0_show tyX0 tyX0_ok nmX0 hown hK hP hS (KC_brd b (by omega)) rfl 3 (by decide) (hts (.fieldLink RX0 40 "StrokeBoard$Board" "count" "I") (by decide +kernel)) rfl rfl rfl (by decide +kernel) dX0_show_27 (fun H locs hP hS => ?_)
  obtain ⟨σ21, eσ21, hM⟩ := lts_i hM
  rw [← eσ21] at hP
  refine lv_iconst (v := 0) hx hb dX0_show_30 (by decide) ?_
  refine lv_istore (lv' := [(5, .int 0), (4, .int r16), (0, .ref (ad (60 + b))), (1, .ref (ad 54)), (2, .ref (ad (57 + g))), (3, .int u3)]) hx hb dX0_show_31 hl (by decide) rfl (fun ls hl => ?_)
  exact L33 fu _ _ _ _ _ _ _ hM hP hS (lv_sub hl [2, 3, 4, 5, 1, 0] rfl)
theorem hinX0_X0_strokeCount : ∀ w ∈ u_ws RX0 TX0 4, w ∈ wsX0_strokeCount := by decide +kernel
set_option maxHeartbeats 4000000 in
set_option maxRecDepth 100000 in
theorem tX0_strokeCount (l : Launch) (D : va_G) (cA : ClassId) (ad : Nat → Nat) (hJ : w_J ad KC) (b : Nat) (hb : b < 2) (σ σ' : St) (r : Int32) (hM : mX0_strokeCount b σ = some (r, σ')) : Ct l yX0_strokeCount wsX0_strokeCount 0 0 D cA ad KC [.ref (ad (60 + b))] σ r σ' := by
  unfold Ct
  refine Met_of (cc := cX0_strokeCount) (maxL := 1) (ret := (some .int)) hJ (by decide +kernel) rfl (Nat.le_of_ble_eq_true rfl) ?_
  intro p e s m below meth c Z H locs ls hP hS hl
  obtain ⟨hx, hb, hml, hown, hts, hr, hlk, hK, -⟩ := Z
  have hown : s.vm.findClass RX0 = some m.cls := hown
  have hl : lv_has ls 1 [(0, .ref (ad (60 + b)))] := hl
  have hA : ∀ q, w_A ad KC q → w_A ad KC q := fun _ h => h
  unfold mX0_strokeCount at hM
  refine lv_aload_n hx hb dX0_strokeCount_0 rfl (lv_at hl 0 rfl) ?_
  refine x_geti (own := RX0) (C := RX0) (T := TX0) (N := 4) hx hb hts hinX0_X0_strokeCount hown hK hP (KC_brd b (by omega)) rfl 3 (by decide) (hts (.fieldLink RX0 40 "StrokeBoard$Board" "count" "I") (by decide +kernel)) rfl dX0_strokeCount_1 ?_
  exact x_iret hx hb hr hlk hP hS hM dX0_strokeCount_4
theorem hinX0_X0_strokeIn : ∀ w ∈ u_ws RX0 TX0 4, w ∈ wsX0_strokeIn := by decide +kernel
set_option maxHeartbeats 4000000 in
set_option maxRecDepth 100000 in
theorem tX0_strokeIn (l : Launch) (D : va_G) (cA : ClassId) (ad : Nat → Nat) (hJ : w_J ad KC) (b : Nat) (hb : b < 2) (u1 : Int32) (σ σ' : St) (r : Int32) (hM : mX0_strokeIn b u1 σ = some (r, σ')) : Ct l yX0_strokeIn wsX0_strokeIn 1 21 D cA ad KC [.ref (ad (60 + b)), .int u1] σ r σ' := by
  unfold Ct
  refine Met_of (cc := cX0_strokeIn) (maxL := 2) (ret := (some .int)) hJ (by decide +kernel) rfl (Nat.le_of_ble_eq_true rfl) ?_
  intro p e s m below meth c Z H locs ls hP hS hl
  obtain ⟨hx, hb, hml, hown, hts, hr, hlk, hK, -⟩ := Z
  have hown : s.vm.findClass RX0 = some m.cls := hown
  have hl : lv_has ls 2 [(0, .ref (ad (60 + b))), (1, .int u1)] := hl
  have hA : ∀ q, w_A ad KC q → w_A ad KC q := fun _ h => h
  unfold mX0_strokeIn at hM
  refine lv_aload_n hx hb dX0_strokeIn_0 rfl (lv_at hl 0 rfl) ?_
  refine x_getr (own := RX0) (C := RX0) (T := TX0) (N := 4) hx hb hts hinX0_X0_strokeIn hown hK hP (KC_brd b (by omega)) rfl 2 (by decide) (hts (.fieldLink RX0 23 "StrokeBoard$Board" "strokes" "LStrokeBoard$Row;") (by decide +kernel)) rfl dX0_strokeIn_1 ?_
  refine lv_iload_n hx hb dX0_strokeIn_4 rfl (lv_at hl 1 rfl) ?_
  obtain ⟨r3, σ2, h1, hM⟩ := bnd_i hM
  refine x_callV (As := [.int u1]) (rest := []) hA ⟨hx, hb, hml, hown, hts⟩ (tX5_get l D cA ad hJ (22 + 3 * b) (by omega) u1 σ _ _ h1) (cwV 1 hts gX0_strokeIn_X5_get rfl rfl rfl (by decide +kernel) ⟨(Nat.le_of_ble_eq_true rfl), (Nat.le_of_ble_eq_true rfl)⟩) hK hP hS (KC_row (22 + 3 * b) (by omega)) rfl rfl hl.1 rfl (Nat.le_of_ble_eq_true rfl) ⟨Nat.zero_le _, Nat.zero_le _⟩ dX0_strokeIn_5 (fun H locs hP hS _ _ => ?_)
  exact x_iret hx hb hr hlk hP hS hM dX0_strokeIn_8
theorem hinX0_X0_layerOf : ∀ w ∈ u_ws RX0 TX0 4, w ∈ wsX0_layerOf := by decide +kernel
set_option maxHeartbeats 4000000 in
set_option maxRecDepth 100000 in
theorem tX0_layerOf (l : Launch) (D : va_G) (cA : ClassId) (ad : Nat → Nat) (hJ : w_J ad KC) (b : Nat) (hb : b < 2) (u1 : Int32) (σ σ' : St) (r : Int32) (hM : mX0_layerOf b u1 σ = some (r, σ')) : Ct l yX0_layerOf wsX0_layerOf 1 21 D cA ad KC [.ref (ad (60 + b)), .int u1] σ r σ' := by
  unfold Ct
  refine Met_of (cc := cX0_layerOf) (maxL := 2) (ret := (some .int)) hJ (by decide +kernel) rfl (Nat.le_of_ble_eq_true rfl) ?_
  intro p e s m below meth c Z H locs ls hP hS hl
  obtain ⟨hx, hb, hml, hown, hts, hr, hlk, hK, -⟩ := Z
  have hown : s.vm.findClass RX0 = some m.cls := hown
  have hl : lv_has ls 2 [(0, .ref (ad (60 + b))), (1, .int u1)] := hl
  have hA : ∀ q, w_A ad KC q → w_A ad KC q := fun _ h => h
  unfold mX0_layerOf at hM
  refine lv_aload_n hx hb dX0_layerOf_0 rfl (lv_at hl 0 rfl) ?_
  refine x_getr (own := RX0) (C := RX0) (T := TX0) (N := 4) hx hb hts hinX0_X0_layerOf hown hK hP (KC_brd b (by omega)) rfl 1 (by decide) (hts (.fieldLink RX0 20 "StrokeBoard$Board" "layers" "LStrokeBoard$Row;") (by decide +kernel)) rfl dX0_layerOf_1 ?_
  refine lv_iload_n hx hb dX0_layerOf_4 rfl (lv_at hl 1 rfl) ?_
  obtain ⟨r3, σ2, h1, hM⟩ := bnd_i hM
  refine x_callV (As := [.int u1]) (rest := []) hA ⟨hx, hb, hml, hown, hts⟩ (tX5_get l D cA ad hJ (21 + 3 * b) (by omega) u1 σ _ _ h1) (cwV 1 hts gX0_layerOf_X5_get rfl rfl rfl (by decide +kernel) ⟨(Nat.le_of_ble_eq_true rfl), (Nat.le_of_ble_eq_true rfl)⟩) hK hP hS (KC_row (21 + 3 * b) (by omega)) rfl rfl hl.1 rfl (Nat.le_of_ble_eq_true rfl) ⟨Nat.zero_le _, Nat.zero_le _⟩ dX0_layerOf_5 (fun H locs hP hS _ _ => ?_)
  exact x_iret hx hb hr hlk hP hS hM dX0_layerOf_8
theorem hinX0_X0_matches : ∀ w ∈ u_ws RX0 TX0 4, w ∈ wsX0_matches := by decide +kernel
set_option maxHeartbeats 4000000 in
set_option maxRecDepth 100000 in
theorem tX0_matches (l : Launch) (D : va_G) (cA : ClassId) (ad : Nat → Nat) (hJ : w_J ad KC) (b : Nat) (hb : b < 2) (b2 : Nat) (hb2 : b2 < 2) (σ σ' : St) (r : Int32) (hM : mX0_matches b b2 σ = some (r, σ')) : Ct l yX0_matches wsX0_matches 2 42 D cA ad KC [.ref (ad (60 + b)), .ref (ad (60 + b2))] σ r σ' := by
  unfold Ct
  refine Met_of (cc := cX0_matches) (maxL := 4) (ret := (some .boolean)) hJ (by decide +kernel) rfl (Nat.le_of_ble_eq_true rfl) ?_
  intro p e s m below meth c Z H locs ls hP hS hl
  obtain ⟨hx, hb, hml, hown, hts, hr, hlk, hK, -⟩ := Z
  have hown : s.vm.findClass RX0 = some m.cls := hown
  have hl : lv_has ls 4 [(0, .ref (ad (60 + b))), (1, .ref (ad (60 + b2)))] := hl
  have hA : ∀ q, w_A ad KC q → w_A ad KC q := fun _ h => h
  have L15 : ∀ (n : Nat) (x2 : Int32) (σ : St) (H : Heap) (locs : List Loc) (ls : Array Slot), mX0_matches_L15 b b2 n x2 σ = some (r, σ') → w_P D cA ad KC σ H → va_S (w_A ad KC) s.heap H locs → lv_has ls 4 [(0, .ref (ad (60 + b))), (1, .ref (ad (60 + b2))), (2, .int x2)] → Wm p l e wsX0_matches 2 42 s m ([.ref (ad (60 + b)), .ref (ad (60 + b2))] : List Value).toArray below meth c (w_Qi D cA ad KC r σ') (w_A ad KC) H locs (F0 m 15 ls []) := by
    intro n15
    induction n15 with
    | zero =>
      intro x2 σ H locs ls hM hP hS hl
      rw [mX0_matches_L15] at hM
      cases hM
    | succ n15 ih15 =>
      intro x2 σ H locs ls hM hP hS hl
      rw [mX0_matches_L15] at hM
      refine lv_iload_n hx hb dX0_matches_15 rfl (lv_at hl 2 rfl) ?_
      refine lv_aload_n hx hb dX0_matches_16 rfl (lv_at hl 0 rfl) ?_
      refine x_geti (own := RX0) (C := RX0) (T := TX0) (N := 4) hx hb hts hinX0_X0_matches hown hK hP (KC_brd b (by omega)) rfl 3 (by decide) (hts (.fieldLink RX0 40 "StrokeBoard$Board" "count" "I") (by decide +kernel)) rfl dX0_matches_17 ?_
      refine lv_icmp_ge (tgt := 65) hx hb dX0_matches_20 (by decide) (fun c1 => ?_) (fun c1 => ?_)
      · have hM := (if_pos c1).symm.trans hM
        refine lv_iconst (v := 1) hx hb dX0_matches_65 (by decide) ?_
        exact x_zret hx hb hr hlk hP hS hM dX0_matches_66
      · have hM := (if_neg c1).symm.trans hM
        refine lv_aload_n hx hb dX0_matches_23 rfl (lv_at hl 0 rfl) ?_
        refine x_getr (own := RX0) (C := RX0) (T := TX0) (N := 4) hx hb hts hinX0_X0_matches hown hK hP (KC_brd b (by omega)) rfl 2 (by decide) (hts (.fieldLink RX0 23 "StrokeBoard$Board" "strokes" "LStrokeBoard$Row;") (by decide +kernel)) rfl dX0_matches_24 ?_
        refine lv_iload_n hx hb dX0_matches_27 rfl (lv_at hl 2 rfl) ?_
        obtain ⟨r4, σ3, h2, hM⟩ := bnd_i hM
        refine x_callV (As := [.int x2]) (rest := []) hA ⟨hx, hb, hml, hown, hts⟩ (tX5_get l D cA ad hJ (22 + 3 * b) (by omega) x2 σ _ _ h2) (cwV 1 hts gX0_matches_X5_get rfl rfl rfl (by decide +kernel) ⟨(Nat.le_of_ble_eq_true rfl), (Nat.le_of_ble_eq_true rfl)⟩) hK hP hS (KC_row (22 + 3 * b) (by omega)) rfl rfl hl.1 rfl (Nat.le_of_ble_eq_true rfl) ⟨Nat.zero_le _, Nat.zero_le _⟩ dX0_matches_28 (fun H locs hP hS _ _ => ?_)
        refine lv_istore_n (lv' := [(3, .int r4), (0, .ref (ad (60 + b))), (1, .ref (ad (60 + b2))), (2, .int x2)]) hx hb dX0_matches_31 rfl hl (by decide) rfl (fun ls hl => ?_)
        refine lv_iload_n hx hb dX0_matches_32 rfl (lv_at hl 0 rfl) ?_
        refine lv_aload_n hx hb dX0_matches_33 rfl (lv_at hl 2 rfl) ?_
        refine lv_iload_n hx hb dX0_matches_34 rfl (lv_at hl 3 rfl) ?_
        obtain ⟨r7, σ6, h5, hM⟩ := bnd_i hM
        refine x_callV (As := [.int x2]) (rest := [.int r4]) hA ⟨hx, hb, hml, hown, hts⟩ (tX0_strokeIn l D cA ad hJ b2 (by omega) x2 σ3 _ _ h5) (cwV 1 hts gX0_matches_X0_strokeIn rfl rfl rfl (by decide +kernel) ⟨(Nat.le_of_ble_eq_true rfl), (Nat.le_of_ble_eq_true rfl)⟩) hK hP hS (KC_brd b2 (by omega)) rfl rfl hl.1 rfl (Nat.le_of_ble_eq_true rfl) ⟨Nat.zero_le _, Nat.zero_le _⟩ dX0_matches_35 (fun H locs hP hS _ _ => ?_)
        refine lv_icmp_ne (tgt := 57) hx hb dX0_matches_38 (by decide) (fun c8 => ?_) (fun c8 => ?_)
        · have hM := (if_neg c8).symm.trans hM
          refine lv_iconst (v := 0) hx hb dX0_matches_57 (by decide) ?_
          exact x_zret hx hb hr hlk hP hS hM dX0_matches_58
        · have hM := (if_pos c8).symm.trans hM
          refine lv_aload_n hx hb dX0_matches_41 rfl (lv_at hl 1 rfl) ?_
          refine x_getr (own := RX0) (C := RX0) (T := TX0) (N := 4) hx hb hts hinX0_X0_matches hown hK hP (KC_brd b (by omega)) rfl 1 (by decide) (hts (.fieldLink RX0 20 "StrokeBoard$Board" "layers" "LStrokeBoard$Row;") (by decide +kernel)) rfl dX0_matches_42 ?_
          refine lv_iload_n hx hb dX0_matches_45 rfl (lv_at hl 0 rfl) ?_
          obtain ⟨r11, σ10, h9, hM⟩ := bnd_i hM
          refine x_callV (As := [.int r4]) (rest := []) hA ⟨hx, hb, hml, hown, hts⟩ (tX5_get l D cA ad hJ (21 + 3 * b) (by omega) r4 σ6 _ _ h9) (cwV 1 hts gX0_matches_X5_get rfl rfl rfl (by decide +kernel) ⟨(Nat.le_of_ble_eq_true rfl), (Nat.le_of_ble_eq_true rfl)⟩) hK hP hS (KC_row (21 + 3 * b) (by omega)) rfl rfl hl.1 rfl (Nat.le_of_ble_eq_true rfl) ⟨Nat.zero_le _, Nat.zero_le _⟩ dX0_matches_46 (fun H locs hP hS _ _ => ?_)
          refine lv_aload_n hx hb dX0_matches_49 rfl (lv_at hl 2 rfl) ?_
          refine lv_iload_n hx hb dX0_matches_50 rfl (lv_at hl 0 rfl) ?_
          obtain ⟨r14, σ13, h12, hM⟩ := bnd_i hM
          refine x_callV (As := [.int r4]) (rest := [.int r11]) hA ⟨hx, hb, hml, hown, hts⟩ (tX0_layerOf l D cA ad hJ b2 (by omega) r4 σ10 _ _ h12) (cwV 1 hts gX0_matches_X0_layerOf rfl rfl rfl (by decide +kernel) ⟨(Nat.le_of_ble_eq_true rfl), (Nat.le_of_ble_eq_true rfl)⟩) hK hP hS (KC_brd b2 (by omega)) rfl rfl hl.1 rfl (Nat.le_of_ble_eq_true rfl) ⟨Nat.zero_le _, Nat.zero_le _⟩ dX0_matches_51 (fun H locs hP hS _ _ => ?_)
          refine lv_icmp_eq (tgt := 59) hx hb dX0_matches_54 (by decide) (fun c15 => ?_) (fun c15 => ?_)
          · have hM := (if_pos c15).symm.trans hM
            refine lv_iinc (v := (x2 + 1)) (lv' := [(2, .int (x2 + 1)), (3, .int r4), (0, .ref (ad (60 + b))), (1, .ref (ad (60 + b2)))]) hx hb dX0_matches_59 hl (k := 3) rfl rfl (by decide) rfl (fun ls hl => ?_)
            refine lv_goto (tgt := 15) hx hb dX0_matches_62 (by decide) ?_
            exact ih15 _ _ _ _ _ hM hP hS (lv_sub hl [2, 3, 0] rfl)
          · have hM := (if_neg c15).symm.trans hM
            refine lv_iconst (v := 0) hx hb dX0_matches_57 (by decide) ?_
            exact x_zret hx hb hr hlk hP hS hM dX0_matches_58
  unfold mX0_matches at hM
  refine lv_aload_n hx hb dX0_matches_0 rfl (lv_at hl 0 rfl) ?_
  refine x_geti (own := RX0) (C := RX0) (T := TX0) (N := 4) hx hb hts hinX0_X0_matches hown hK hP (KC_brd b (by omega)) rfl 3 (by decide) (hts (.fieldLink RX0 40 "StrokeBoard$Board" "count" "I") (by decide +kernel)) rfl dX0_matches_1 ?_
  refine lv_aload_n hx hb dX0_matches_4 rfl (lv_at hl 1 rfl) ?_
  refine x_geti (own := RX0) (C := RX0) (T := TX0) (N := 4) hx hb hts hinX0_X0_matches hown hK hP (KC_brd b2 (by omega)) rfl 3 (by decide) (hts (.fieldLink RX0 40 "StrokeBoard$Board" "count" "I") (by decide +kernel)) rfl dX0_matches_5 ?_
  refine lv_icmp_eq (tgt := 13) hx hb dX0_matches_8 (by decide) (fun c16 => ?_) (fun c16 => ?_)
  · have hM := (if_pos c16).symm.trans hM
    refine lv_iconst (v := 0) hx hb dX0_matches_13 (by decide) ?_
    refine lv_istore_n (lv' := [(2, .int 0), (0, .ref (ad (60 + b))), (1, .ref (ad (60 + b2)))]) hx hb dX0_matches_14 rfl hl (by decide) rfl (fun ls hl => ?_)
    exact L15 fu _ _ _ _ _ hM hP hS (lv_sub hl [1, 2, 0] rfl)
  · have hM := (if_neg c16).symm.trans hM
    refine lv_iconst (v := 0) hx hb dX0_matches_11 (by decide) ?_
    exact x_zret hx hb hr hlk hP hS hM dX0_matches_12
set_option maxHeartbeats 4000000 in
set_option maxRecDepth 100000 in
theorem tX6_authorOf (l : Launch) (D : va_G) (cA : ClassId) (ad : Nat → Nat) (hJ : w_J ad KC) (u0 : Int32) (σ σ' : St) (r : Int32) (hM : mX6_authorOf u0 σ = some (r, σ')) : Ct l yX6_authorOf wsX6_authorOf 0 0 D cA ad KC [.int u0] σ r σ' := by
  unfold Ct
  refine Met_of (cc := cX6_authorOf) (maxL := 1) (ret := (some .int)) hJ (by decide +kernel) rfl (Nat.le_of_ble_eq_true rfl) ?_
  intro p e s m below meth c Z H locs ls hP hS hl
  obtain ⟨hx, hb, hml, hown, hts, hr, hlk, hK, -⟩ := Z
  have hown : s.vm.findClass RX6 = some m.cls := hown
  have hl : lv_has ls 1 [(0, .int u0)] := hl
  have hA : ∀ q, w_A ad KC q → w_A ad KC q := fun _ h => h
  unfold mX6_authorOf at hM
  refine lv_iload_n hx hb dX6_authorOf_0 rfl (lv_at hl 0 rfl) ?_
  refine lv_bipush (v := 20) hx hb dX6_authorOf_1 (by decide) ?_
  refine lv_idiv hx hb dX6_authorOf_3 (by decide) ?_
  exact x_iret hx hb hr hlk hP hS hM dX6_authorOf_4
set_option maxHeartbeats 4000000 in
set_option maxRecDepth 100000 in
theorem tX6_numberOf (l : Launch) (D : va_G) (cA : ClassId) (ad : Nat → Nat) (hJ : w_J ad KC) (u0 : Int32) (σ σ' : St) (r : Int32) (hM : mX6_numberOf u0 σ = some (r, σ')) : Ct l yX6_numberOf wsX6_numberOf 0 0 D cA ad KC [.int u0] σ r σ' := by
  unfold Ct
  refine Met_of (cc := cX6_numberOf) (maxL := 1) (ret := (some .int)) hJ (by decide +kernel) rfl (Nat.le_of_ble_eq_true rfl) ?_
  intro p e s m below meth c Z H locs ls hP hS hl
  obtain ⟨hx, hb, hml, hown, hts, hr, hlk, hK, -⟩ := Z
  have hown : s.vm.findClass RX6 = some m.cls := hown
  have hl : lv_has ls 1 [(0, .int u0)] := hl
  have hA : ∀ q, w_A ad KC q → w_A ad KC q := fun _ h => h
  unfold mX6_numberOf at hM
  refine lv_iload_n hx hb dX6_numberOf_0 rfl (lv_at hl 0 rfl) ?_
  refine lv_bipush (v := 20) hx hb dX6_numberOf_1 (by decide) ?_
  refine lv_irem hx hb dX6_numberOf_3 (by decide) ?_
  refine lv_iconst (v := 1) hx hb dX6_numberOf_4 (by decide) ?_
  refine lv_iadd hx hb dX6_numberOf_5 ?_
  exact x_iret hx hb hr hlk hP hS hM dX6_numberOf_6
theorem hinX1_X1_colorOf : ∀ w ∈ u_ws RX1 TX1 5, w ∈ wsX1_colorOf := by decide +kernel
set_option maxHeartbeats 4000000 in
set_option maxRecDepth 100000 in
theorem tX1_colorOf (l : Launch) (D : va_G) (cA : ClassId) (ad : Nat → Nat) (hJ : w_J ad KC) (t : Nat) (ht : t < 2) (u1 : Int32) (σ σ' : St) (r : Int32) (hM : mX1_colorOf t u1 σ = some (r, σ')) : Ct l yX1_colorOf wsX1_colorOf 1 21 D cA ad KC [.ref (ad (55 + t)), .int u1] σ r σ' := by
  unfold Ct
  refine Met_of (cc := cX1_colorOf) (maxL := 2) (ret := (some .int)) hJ (by decide +kernel) rfl (Nat.le_of_ble_eq_true rfl) ?_
  intro p e s m below meth c Z H locs ls hP hS hl
  obtain ⟨hx, hb, hml, hown, hts, hr, hlk, hK, -⟩ := Z
  have hown : s.vm.findClass RX1 = some m.cls := hown
  have hl : lv_has ls 2 [(0, .ref (ad (55 + t))), (1, .int u1)] := hl
  have hA : ∀ q, w_A ad KC q → w_A ad KC q := fun _ h => h
  unfold mX1_colorOf at hM
  refine lv_aload_n hx hb dX1_colorOf_0 rfl (lv_at hl 0 rfl) ?_
  refine x_getr (own := RX1) (C := RX1) (T := TX1) (N := 5) hx hb hts hinX1_X1_colorOf hown hK hP (KC_ink t (by omega)) rfl 1 (by decide) (hts (.fieldLink RX1 20 "StrokeBoard$Ink" "colors" "LStrokeBoard$Row;") (by decide +kernel)) rfl dX1_colorOf_1 ?_
  refine lv_iload_n hx hb dX1_colorOf_4 rfl (lv_at hl 1 rfl) ?_
  obtain ⟨r3, σ2, h1, hM⟩ := bnd_i hM
  refine x_callV (As := [.int u1]) (rest := []) hA ⟨hx, hb, hml, hown, hts⟩ (tX5_get l D cA ad hJ (7 + 5 * t) (by omega) u1 σ _ _ h1) (cwV 1 hts gX1_colorOf_X5_get rfl rfl rfl (by decide +kernel) ⟨(Nat.le_of_ble_eq_true rfl), (Nat.le_of_ble_eq_true rfl)⟩) hK hP hS (KC_row (7 + 5 * t) (by omega)) rfl rfl hl.1 rfl (Nat.le_of_ble_eq_true rfl) ⟨Nat.zero_le _, Nat.zero_le _⟩ dX1_colorOf_5 (fun H locs hP hS _ _ => ?_)
  exact x_iret hx hb hr hlk hP hS hM dX1_colorOf_8
theorem hinX1_X1_pointCount : ∀ w ∈ u_ws RX1 TX1 5, w ∈ wsX1_pointCount := by decide +kernel
set_option maxHeartbeats 4000000 in
set_option maxRecDepth 100000 in
theorem tX1_pointCount (l : Launch) (D : va_G) (cA : ClassId) (ad : Nat → Nat) (hJ : w_J ad KC) (t : Nat) (ht : t < 2) (u1 : Int32) (σ σ' : St) (r : Int32) (hM : mX1_pointCount t u1 σ = some (r, σ')) : Ct l yX1_pointCount wsX1_pointCount 1 21 D cA ad KC [.ref (ad (55 + t)), .int u1] σ r σ' := by
  unfold Ct
  refine Met_of (cc := cX1_pointCount) (maxL := 2) (ret := (some .int)) hJ (by decide +kernel) rfl (Nat.le_of_ble_eq_true rfl) ?_
  intro p e s m below meth c Z H locs ls hP hS hl
  obtain ⟨hx, hb, hml, hown, hts, hr, hlk, hK, -⟩ := Z
  have hown : s.vm.findClass RX1 = some m.cls := hown
  have hl : lv_has ls 2 [(0, .ref (ad (55 + t))), (1, .int u1)] := hl
  have hA : ∀ q, w_A ad KC q → w_A ad KC q := fun _ h => h
  unfold mX1_pointCount at hM
  refine lv_aload_n hx hb dX1_pointCount_0 rfl (lv_at hl 0 rfl) ?_
  refine x_getr (own := RX1) (C := RX1) (T := TX1) (N := 5) hx hb hts hinX1_X1_pointCount hown hK hP (KC_ink t (by omega)) rfl 0 (by decide) (hts (.fieldLink RX1 14 "StrokeBoard$Ink" "counts" "LStrokeBoard$Row;") (by decide +kernel)) rfl dX1_pointCount_1 ?_
  refine lv_iload_n hx hb dX1_pointCount_4 rfl (lv_at hl 1 rfl) ?_
  obtain ⟨r3, σ2, h1, hM⟩ := bnd_i hM
  refine x_callV (As := [.int u1]) (rest := []) hA ⟨hx, hb, hml, hown, hts⟩ (tX5_get l D cA ad hJ (6 + 5 * t) (by omega) u1 σ _ _ h1) (cwV 1 hts gX1_pointCount_X5_get rfl rfl rfl (by decide +kernel) ⟨(Nat.le_of_ble_eq_true rfl), (Nat.le_of_ble_eq_true rfl)⟩) hK hP hS (KC_row (6 + 5 * t) (by omega)) rfl rfl hl.1 rfl (Nat.le_of_ble_eq_true rfl) ⟨Nat.zero_le _, Nat.zero_le _⟩ dX1_pointCount_5 (fun H locs hP hS _ _ => ?_)
  exact x_iret hx hb hr hlk hP hS hM dX1_pointCount_8
theorem hinX1_X1_xOf : ∀ w ∈ u_ws RX1 TX1 5, w ∈ wsX1_xOf := by decide +kernel
set_option maxHeartbeats 4000000 in
set_option maxRecDepth 100000 in
theorem tX1_xOf (l : Launch) (D : va_G) (cA : ClassId) (ad : Nat → Nat) (hJ : w_J ad KC) (t : Nat) (ht : t < 2) (u1 u2 : Int32) (σ σ' : St) (r : Int32) (hM : mX1_xOf t u1 u2 σ = some (r, σ')) : Ct l yX1_xOf wsX1_xOf 1 21 D cA ad KC [.ref (ad (55 + t)), .int u1, .int u2] σ r σ' := by
  unfold Ct
  refine Met_of (cc := cX1_xOf) (maxL := 3) (ret := (some .int)) hJ (by decide +kernel) rfl (Nat.le_of_ble_eq_true rfl) ?_
  intro p e s m below meth c Z H locs ls hP hS hl
  obtain ⟨hx, hb, hml, hown, hts, hr, hlk, hK, -⟩ := Z
  have hown : s.vm.findClass RX1 = some m.cls := hown
  have hl : lv_has ls 3 [(0, .ref (ad (55 + t))), (1, .int u1), (2, .int u2)] := hl
  have hA : ∀ q, w_A ad KC q → w_A ad KC q := fun _ h => h
  unfold mX1_xOf at hM
  refine lv_aload_n hx hb dX1_xOf_0 rfl (lv_at hl 0 rfl) ?_
  refine x_getr (own := RX1) (C := RX1) (T := TX1) (N := 5) hx hb hts hinX1_X1_xOf hown hK hP (KC_ink t (by omega)) rfl 3 (by decide) (hts (.fieldLink RX1 26 "StrokeBoard$Ink" "xs" "LStrokeBoard$Row;") (by decide +kernel)) rfl dX1_xOf_1 ?_
  refine lv_iload_n hx hb dX1_xOf_4 rfl (lv_at hl 1 rfl) ?_
  refine lv_bipush (v := 8) hx hb dX1_xOf_5 (by decide) ?_
  refine lv_imul hx hb dX1_xOf_7 ?_
  refine lv_iload_n hx hb dX1_xOf_8 rfl (lv_at hl 2 rfl) ?_
  refine lv_iadd hx hb dX1_xOf_9 ?_
  obtain ⟨r3, σ2, h1, hM⟩ := bnd_i hM
  refine x_callV (As := [.int ((u1 * 8) + u2)]) (rest := []) hA ⟨hx, hb, hml, hown, hts⟩ (tX5_get l D cA ad hJ (9 + 5 * t) (by omega) ((u1 * 8) + u2) σ _ _ h1) (cwV 1 hts gX1_xOf_X5_get rfl rfl rfl (by decide +kernel) ⟨(Nat.le_of_ble_eq_true rfl), (Nat.le_of_ble_eq_true rfl)⟩) hK hP hS (KC_row (9 + 5 * t) (by omega)) rfl rfl hl.1 rfl (Nat.le_of_ble_eq_true rfl) ⟨Nat.zero_le _, Nat.zero_le _⟩ dX1_xOf_10 (fun H locs hP hS _ _ => ?_)
  exact x_iret hx hb hr hlk hP hS hM dX1_xOf_13
theorem hinX1_X1_yOf : ∀ w ∈ u_ws RX1 TX1 5, w ∈ wsX1_yOf := by decide +kernel
set_option maxHeartbeats 4000000 in
set_option maxRecDepth 100000 in
theorem tX1_yOf (l : Launch) (D : va_G) (cA : ClassId) (ad : Nat → Nat) (hJ : w_J ad KC) (t : Nat) (ht : t < 2) (u1 u2 : Int32) (σ σ' : St) (r : Int32) (hM : mX1_yOf t u1 u2 σ = some (r, σ')) : Ct l yX1_yOf wsX1_yOf 1 21 D cA ad KC [.ref (ad (55 + t)), .int u1, .int u2] σ r σ' := by
  unfold Ct
  refine Met_of (cc := cX1_yOf) (maxL := 3) (ret := (some .int)) hJ (by decide +kernel) rfl (Nat.le_of_ble_eq_true rfl) ?_
  intro p e s m below meth c Z H locs ls hP hS hl
  obtain ⟨hx, hb, hml, hown, hts, hr, hlk, hK, -⟩ := Z
  have hown : s.vm.findClass RX1 = some m.cls := hown
  have hl : lv_has ls 3 [(0, .ref (ad (55 + t))), (1, .int u1), (2, .int u2)] := hl
  have hA : ∀ q, w_A ad KC q → w_A ad KC q := fun _ h => h
  unfold mX1_yOf at hM
  refine lv_aload_n hx hb dX1_yOf_0 rfl (lv_at hl 0 rfl) ?_
  refine x_getr (own := RX1) (C := RX1) (T := TX1) (N := 5) hx hb hts hinX1_X1_yOf hown hK hP (KC_ink t (by omega)) rfl 4 (by decide) (hts (.fieldLink RX1 29 "StrokeBoard$Ink" "ys" "LStrokeBoard$Row;") (by decide +kernel)) rfl dX1_yOf_1 ?_
  refine lv_iload_n hx hb dX1_yOf_4 rfl (lv_at hl 1 rfl) ?_
  refine lv_bipush (v := 8) hx hb dX1_yOf_5 (by decide) ?_
  refine lv_imul hx hb dX1_yOf_7 ?_
  refine lv_iload_n hx hb dX1_yOf_8 rfl (lv_at hl 2 rfl) ?_
  refine lv_iadd hx hb dX1_yOf_9 ?_
  obtain ⟨r3, σ2, h1, hM⟩ := bnd_i hM
  refine x_callV (As := [.int ((u1 * 8) + u2)]) (rest := []) hA ⟨hx, hb, hml, hown, hts⟩ (tX5_get l D cA ad hJ (10 + 5 * t) (by omega) ((u1 * 8) + u2) σ _ _ h1) (cwV 1 hts gX1_yOf_X5_get rfl rfl rfl (by decide +kernel) ⟨(Nat.le_of_ble_eq_true rfl), (Nat.le_of_ble_eq_true rfl)⟩) hK hP hS (KC_row (10 + 5 * t) (by omega)) rfl rfl hl.1 rfl (Nat.le_of_ble_eq_true rfl) ⟨Nat.zero_le _, Nat.zero_le _⟩ dX1_yOf_10 (fun H locs hP hS _ _ => ?_)
  exact x_iret hx hb hr hlk hP hS hM dX1_yOf_13
set_option maxHeartbeats 4000000 in
set_option maxRecDepth 100000 in
theorem tX0_hashPoints (l : Launch) (D : va_G) (cA : ClassId) (ad : Nat → Nat) (hJ : w_J ad KC) (b : Nat) (hb : b < 2) (t : Nat) (ht : t < 2) (u1 u3 : Int32) (σ σ' : St) (r : Int32) (hM : mX0_hashPoints b t u1 u3 σ = some (r, σ')) : Ct l yX0_hashPoints wsX0_hashPoints 2 43 D cA ad KC [.ref (ad (60 + b)), .int u1, .ref (ad (55 + t)), .int u3] σ r σ' := by
  unfold Ct
  refine Met_of (cc := cX0_hashPoints) (maxL := 6) (ret := (some .int)) hJ (by decide +kernel) rfl (Nat.le_of_ble_eq_true rfl) ?_
  intro p e s m below meth c Z H locs ls hP hS hl
  obtain ⟨hx, hb, hml, hown, hts, hr, hlk, hK, -⟩ := Z
  have hown : s.vm.findClass RX0 = some m.cls := hown
  have hl : lv_has ls 6 [(0, .ref (ad (60 + b))), (1, .int u1), (2, .ref (ad (55 + t))), (3, .int u3)] := hl
  have hA : ∀ q, w_A ad KC q → w_A ad KC q := fun _ h => h
  have L6 : ∀ (n : Nat) (x3 x4 x5 : Int32) (σ : St) (H : Heap) (locs : List Loc) (ls : Array Slot), mX0_hashPoints_L6 b t n x3 x4 x5 σ = some (r, σ') → w_P D cA ad KC σ H → va_S (w_A ad KC) s.heap H locs → lv_has ls 6 [(0, .ref (ad (60 + b))), (2, .ref (ad (55 + t))), (3, .int x3), (4, .int x4), (5, .int x5)] → Wm p l e wsX0_hashPoints 2 43 s m ([.ref (ad (60 + b)), .int u1, .ref (ad (55 + t)), .int u3] : List Value).toArray below meth c (w_Qi D cA ad KC r σ') (w_A ad KC) H locs (F0 m 6 ls []) := by
    intro n6
    induction n6 with
    | zero =>
      intro x3 x4 x5 σ H locs ls hM hP hS hl
      rw [mX0_hashPoints_L6] at hM
      cases hM
    | succ n6 ih6 =>
      intro x3 x4 x5 σ H locs ls hM hP hS hl
      rw [mX0_hashPoints_L6] at hM
      refine lv_iload hx hb dX0_hashPoints_6 (lv_at hl 4 rfl) ?_
      refine lv_aload_n hx hb dX0_hashPoints_8 rfl (lv_at hl 1 rfl) ?_
      refine lv_iload_n hx hb dX0_hashPoints_9 rfl (lv_at hl 2 rfl) ?_
      obtain ⟨r3, σ2, h1, hM⟩ := bnd_i hM
      refine x_callV (As := [.int x3]) (rest := [.int x5]) hA ⟨hx, hb, hml, hown, hts⟩ (tX1_pointCount l D cA ad hJ t (by omega) x3 σ _ _ h1) (cwV 1 hts gX0_hashPoints_X1_pointCount rfl rfl rfl (by decide +kernel) ⟨(Nat.le_of_ble_eq_true rfl), (Nat.le_of_ble_eq_true rfl)⟩) hK hP hS (KC_ink t (by omega)) rfl rfl hl.1 rfl (Nat.le_of_ble_eq_true rfl) ⟨Nat.zero_le _, Nat.zero_le _⟩ dX0_hashPoints_10 (fun H locs hP hS _ _ => ?_)
      refine lv_icmp_ge (tgt := 52) hx hb dX0_hashPoints_13 (by decide) (fun c4 => ?_) (fun c4 => ?_)
      · have hM := (if_pos c4).symm.trans hM
        refine lv_iload hx hb dX0_hashPoints_52 (lv_at hl 3 rfl) ?_
        exact x_iret hx hb hr hlk hP hS hM dX0_hashPoints_54
      · have hM := (if_neg c4).symm.trans hM
        refine lv_bipush (v := 31) hx hb dX0_hashPoints_16 (by decide) ?_
        refine lv_iload hx hb dX0_hashPoints_18 (lv_at hl 3 rfl) ?_
        refine lv_imul hx hb dX0_hashPoints_20 ?_
        refine lv_aload_n hx hb dX0_hashPoints_21 rfl (lv_at hl 1 rfl) ?_
        refine lv_iload_n hx hb dX0_hashPoints_22 rfl (lv_at hl 2 rfl) ?_
        refine lv_iload hx hb dX0_hashPoints_23 (lv_at hl 4 rfl) ?_
        obtain ⟨r7, σ6, h5, hM⟩ := bnd_i hM
        refine x_callV (As := [.int x3, .int x5]) (rest := [.int (31 * x4)]) hA ⟨hx, hb, hml, hown, hts⟩ (tX1_xOf l D cA ad hJ t (by omega) x3 x5 σ2 _ _ h5) (cwV 2 hts gX0_hashPoints_X1_xOf rfl rfl rfl (by decide +kernel) ⟨(Nat.le_of_ble_eq_true rfl), (Nat.le_of_ble_eq_true rfl)⟩) hK hP hS (KC_ink t (by omega)) rfl rfl hl.1 rfl (Nat.le_of_ble_eq_true rfl) ⟨Nat.zero_le _, Nat.zero_le _⟩ dX0_hashPoints_25 (fun H locs hP hS _ _ => ?_)
        refine lv_iadd hx hb dX0_hashPoints_28 ?_
        refine lv_istore (lv' := [(4, .int ((31 * x4) + r7)), (0, .ref (ad (60 + b))), (2, .ref (ad (55 + t))), (3, .int x3), (5, .int x5)]) hx hb dX0_hashPoints_29 hl (by decide) rfl (fun ls hl => ?_)
        refine lv_bipush (v := 31) hx hb dX0_hashPoints_31 (by decide) ?_
        refine lv_iload hx hb dX0_hashPoints_33 (lv_at hl 0 rfl) ?_
        refine lv_imul hx hb dX0_hashPoints_35 ?_
        refine lv_aload_n hx hb dX0_hashPoints_36 rfl (lv_at hl 2 rfl) ?_
        refine lv_iload_n hx hb dX0_hashPoints_37 rfl (lv_at hl 3 rfl) ?_
        refine lv_iload hx hb dX0_hashPoints_38 (lv_at hl 4 rfl) ?_
        obtain ⟨r10, σ9, h8, hM⟩ := bnd_i hM
        refine x_callV (As := [.int x3, .int x5]) (rest := [.int (31 * ((31 * x4) + r7))]) hA ⟨hx, hb, hml, hown, hts⟩ (tX1_yOf l D cA ad hJ t (by omega) x3 x5 σ6 _ _ h8) (cwV 2 hts gX0_hashPoints_X1_yOf rfl rfl rfl (by decide +kernel) ⟨(Nat.le_of_ble_eq_true rfl), (Nat.le_of_ble_eq_true rfl)⟩) hK hP hS (KC_ink t (by omega)) rfl rfl hl.1 rfl (Nat.le_of_ble_eq_true rfl) ⟨Nat.zero_le _, Nat.zero_le _⟩ dX0_hashPoints_40 (fun H locs hP hS _ _ => ?_)
        refine lv_iadd hx hb dX0_hashPoints_43 ?_
        refine lv_istore (lv' := [(4, .int ((31 * ((31 * x4) + r7)) + r10)), (0, .ref (ad (60 + b))), (2, .ref (ad (55 + t))), (3, .int x3), (5, .int x5)]) hx hb dX0_hashPoints_44 hl (by decide) rfl (fun ls hl => ?_)
        refine lv_iinc (v := (x5 + 1)) (lv' := [(5, .int (x5 + 1)), (4, .int ((31 * ((31 * x4) + r7)) + r10)), (0, .ref (ad (60 + b))), (2, .ref (ad (55 + t))), (3, .int x3)]) hx hb dX0_hashPoints_46 hl (k := 4) rfl rfl (by decide) rfl (fun ls hl => ?_)
        refine lv_goto (tgt := 6) hx hb dX0_hashPoints_49 (by decide) ?_
        exact ih6 _ _ _ _ _ _ _ hM hP hS (lv_sub hl [2, 3, 4, 1, 0] rfl)
  unfold mX0_hashPoints at hM
  refine lv_iload_n hx hb dX0_hashPoints_0 rfl (lv_at hl 1 rfl) ?_
  refine lv_istore (lv' := [(4, .int u1), (0, .ref (ad (60 + b))), (1, .int u1), (2, .ref (ad (55 + t))), (3, .int u3)]) hx hb dX0_hashPoints_1 hl (by decide) rfl (fun ls hl => ?_)
  refine lv_iconst (v := 0) hx hb dX0_hashPoints_3 (by decide) ?_
  refine lv_istore (lv' := [(5, .int 0), (4, .int u1), (0, .ref (ad (60 + b))), (1, .int u1), (2, .ref (ad (55 + t))), (3, .int u3)]) hx hb dX0_hashPoints_4 hl (by decide) rfl (fun ls hl => ?_)
  exact L6 fu _ _ _ _ _ _ _ hM hP hS (lv_sub hl [2, 4, 5, 1, 0] rfl)
theorem hinX0_X0_hash : ∀ w ∈ u_ws RX0 TX0 4, w ∈ wsX0_hash := by decide +kernel
theorem hinX4_X0_hash : ∀ w ∈ u_ws RX4 TX4 8, w ∈ wsX0_hash := by decide +kernel
set_option maxHeartbeats 4000000 in
set_option maxRecDepth 100000 in
theorem tX0_hash (l : Launch) (D : va_G) (cA : ClassId) (ad : Nat → Nat) (hJ : w_J ad KC) (b : Nat) (hb : b < 2) (σ σ' : St) (r : Int32) (hM : mX0_hash b σ = some (r, σ')) : Ct l yX0_hash wsX0_hash 3 68 D cA ad KC [.ref (ad (60 + b)), .ref (ad 54)] σ r σ' := by
  unfold Ct
  refine Met_of (cc := cX0_hash) (maxL := 5) (ret := (some .int)) hJ (by decide +kernel) rfl (Nat.le_of_ble_eq_true rfl) ?_
  intro p e s m below meth c Z H locs ls hP hS hl
  obtain ⟨hx, hb, hml, hown, hts, hr, hlk, hK, -⟩ := Z
  have hown : s.vm.findClass RX0 = some m.cls := hown
  have hl : lv_has ls 5 [(0, .ref (ad (60 + b))), (1, .ref (ad 54))] := hl
  have hA : ∀ q, w_A ad KC q → w_A ad KC q := fun _ h => h
  have L5 : ∀ (n : Nat) (x2 x3 : Int32) (σ : St) (H : Heap) (locs : List Loc) (ls : Array Slot), mX0_hash_L5 b n x2 x3 σ = some (r, σ') → w_P D cA ad KC σ H → va_S (w_A ad KC) s.heap H locs → lv_has ls 5 [(0, .ref (ad (60 + b))), (1, .ref (ad 54)), (2, .int x2), (3, .int x3)] → Wm p l e wsX0_hash 3 68 s m ([.ref (ad (60 + b)), .ref (ad 54)] : List Value).toArray below meth c (w_Qi D cA ad KC r σ') (w_A ad KC) H locs (F0 m 5 ls []) := by
    intro n5
    induction n5 with
    | zero =>
      intro x2 x3 σ H locs ls hM hP hS hl
      rw [mX0_hash_L5] at hM
      cases hM
    | succ n5 ih5 =>
      intro x2 x3 σ H locs ls hM hP hS hl
      rw [mX0_hash_L5] at hM
      refine lv_iload_n hx hb dX0_hash_5 rfl (lv_at hl 3 rfl) ?_
      refine lv_aload_n hx hb dX0_hash_6 rfl (lv_at hl 0 rfl) ?_
      refine x_geti (own := RX0) (C := RX0) (T := TX0) (N := 4) hx hb hts hinX0_X0_hash hown hK hP (KC_brd b (by omega)) rfl 3 (by decide) (hts (.fieldLink RX0 40 "StrokeBoard$Board" "count" "I") (by decide +kernel)) rfl dX0_hash_7 ?_
      refine lv_icmp_ge (tgt := 93) hx hb dX0_hash_10 (by decide) (fun c1 => ?_) (fun c1 => ?_)
      · have hM := (if_pos c1).symm.trans hM
        refine lv_iload_n hx hb dX0_hash_93 rfl (lv_at hl 2 rfl) ?_
        exact x_iret hx hb hr hlk hP hS hM dX0_hash_94
      · have hM := (if_neg c1).symm.trans hM
        refine lv_aload_n hx hb dX0_hash_13 rfl (lv_at hl 0 rfl) ?_
        refine x_getr (own := RX0) (C := RX0) (T := TX0) (N := 4) hx hb hts hinX0_X0_hash hown hK hP (KC_brd b (by omega)) rfl 2 (by decide) (hts (.fieldLink RX0 23 "StrokeBoard$Board" "strokes" "LStrokeBoard$Row;") (by decide +kernel)) rfl dX0_hash_14 ?_
        refine lv_iload_n hx hb dX0_hash_17 rfl (lv_at hl 3 rfl) ?_
        obtain ⟨r4, σ3, h2, hM⟩ := bnd_i hM
        refine x_callV (As := [.int x3]) (rest := []) hA ⟨hx, hb, hml, hown, hts⟩ (tX5_get l D cA ad hJ (22 + 3 * b) (by omega) x3 σ _ _ h2) (cwV 1 hts gX0_hash_X5_get rfl rfl rfl (by decide +kernel) ⟨(Nat.le_of_ble_eq_true rfl), (Nat.le_of_ble_eq_true rfl)⟩) hK hP hS (KC_row (22 + 3 * b) (by omega)) rfl rfl hl.1 rfl (Nat.le_of_ble_eq_true rfl) ⟨Nat.zero_le _, Nat.zero_le _⟩ dX0_hash_18 (fun H locs hP hS _ _ => ?_)
        refine lv_istore (lv' := [(4, .int r4), (0, .ref (ad (60 + b))), (1, .ref (ad 54)), (2, .int x2), (3, .int x3)]) hx hb dX0_hash_21 hl (by decide) rfl (fun ls hl => ?_)
        refine lv_bipush (v := 31) hx hb dX0_hash_23 (by decide) ?_
        refine lv_iload_n hx hb dX0_hash_25 rfl (lv_at hl 3 rfl) ?_
        refine lv_imul hx hb dX0_hash_26 ?_
        refine lv_iload hx hb dX0_hash_27 (lv_at hl 0 rfl) ?_
        obtain ⟨r7, σ6, h5, hM⟩ := bnd_i hM
        refine x_callSN (As := [.int r4]) (rest := [.int (31 * x2)]) hA ⟨hx, hb, hml, hown, hts⟩ (tX6_authorOf l D cA ad hJ r4 σ3 _ _ h5) ⟨va_cnB 1 hts gX0_hash_X6_authorOf_n89 rfl rfl rfl (nw_m (args := #[]) hK.2 6 rfl) (hts (.initialized RX6) (by decide +kernel)) (by decide +kernel) ⟨(Nat.le_of_ble_eq_true rfl), (Nat.le_of_ble_eq_true rfl)⟩, hts (.static yX6_authorOf) (by decide +kernel), trivial⟩ hK hP hS rfl hl.1 rfl (Nat.le_of_ble_eq_true rfl) ⟨Nat.zero_le _, Nat.zero_le _⟩ dX0_hash_29 (fun H locs hP hS => ?_)
        refine lv_iadd hx hb dX0_hash_32 ?_
        refine lv_istore_n (lv' := [(2, .int ((31 * x2) + r7)), (4, .int r4), (0, .ref (ad (60 + b))), (1, .ref (ad 54)), (3, .int x3)]) hx hb dX0_hash_33 rfl hl (by decide) rfl (fun ls hl => ?_)
        refine lv_bipush (v := 31) hx hb dX0_hash_34 (by decide) ?_
        refine lv_iload_n hx hb dX0_hash_36 rfl (lv_at hl 0 rfl) ?_
        refine lv_imul hx hb dX0_hash_37 ?_
        refine lv_iload hx hb dX0_hash_38 (lv_at hl 1 rfl) ?_
        obtain ⟨r10, σ9, h8, hM⟩ := bnd_i hM
        refine x_callSN (As := [.int r4]) (rest := [.int (31 * ((31 * x2) + r7))]) hA ⟨hx, hb, hml, hown, hts⟩ (tX6_numberOf l D cA ad hJ r4 σ6 _ _ h8) ⟨va_cnB 1 hts gX0_hash_X6_numberOf_n92 rfl rfl rfl (nw_m (args := #[]) hK.2 7 rfl) (hts (.initialized RX6) (by decide +kernel)) (by decide +kernel) ⟨(Nat.le_of_ble_eq_true rfl), (Nat.le_of_ble_eq_true rfl)⟩, hts (.static yX6_numberOf) (by decide +kernel), trivial⟩ hK hP hS rfl hl.1 rfl (Nat.le_of_ble_eq_true rfl) ⟨Nat.zero_le _, Nat.zero_le _⟩ dX0_hash_40 (fun H locs hP hS => ?_)
        refine lv_iadd hx hb dX0_hash_43 ?_
        refine lv_istore_n (lv' := [(2, .int ((31 * ((31 * x2) + r7)) + r10)), (4, .int r4), (0, .ref (ad (60 + b))), (1, .ref (ad 54)), (3, .int x3)]) hx hb dX0_hash_44 rfl hl (by decide) rfl (fun ls hl => ?_)
        refine lv_bipush (v := 31) hx hb dX0_hash_45 (by decide) ?_
        refine lv_iload_n hx hb dX0_hash_47 rfl (lv_at hl 0 rfl) ?_
        refine lv_imul hx hb dX0_hash_48 ?_
        refine lv_aload_n hx hb dX0_hash_49 rfl (lv_at hl 2 rfl) ?_
        refine x_getr (own := RX0) (C := RX0) (T := TX0) (N := 4) hx hb hts hinX0_X0_hash hown hK hP (KC_brd b (by omega)) rfl 1 (by decide) (hts (.fieldLink RX0 20 "StrokeBoard$Board" "layers" "LStrokeBoard$Row;") (by decide +kernel)) rfl dX0_hash_50 ?_
        refine lv_iload hx hb dX0_hash_53 (lv_at hl 1 rfl) ?_
        obtain ⟨r13, σ12, h11, hM⟩ := bnd_i hM
        refine x_callV (As := [.int r4]) (rest := [.int (31 * ((31 * ((31 * x2) + r7)) + r10))]) hA ⟨hx, hb, hml, hown, hts⟩ (tX5_get l D cA ad hJ (21 + 3 * b) (by omega) r4 σ9 _ _ h11) (cwV 1 hts gX0_hash_X5_get rfl rfl rfl (by decide +kernel) ⟨(Nat.le_of_ble_eq_true rfl), (Nat.le_of_ble_eq_true rfl)⟩) hK hP hS (KC_row (21 + 3 * b) (by omega)) rfl rfl hl.1 rfl (Nat.le_of_ble_eq_true rfl) ⟨Nat.zero_le _, Nat.zero_le _⟩ dX0_hash_55 (fun H locs hP hS _ _ => ?_)
        refine lv_iadd hx hb dX0_hash_58 ?_
        refine lv_topi (fun z14 ez14 => ?_)
        have hM := lti_u ez14 hM
        refine lv_istore_n (lv' := [(2, .int z14), (4, .int r4), (0, .ref (ad (60 + b))), (1, .ref (ad 54)), (3, .int x3)]) hx hb dX0_hash_59 rfl hl (by decide) rfl (fun ls hl => ?_)
        refine lv_bipush (v := 31) hx hb dX0_hash_60 (by decide) ?_
        refine lv_iload_n hx hb dX0_hash_62 rfl (lv_at hl 0 rfl) ?_
        refine lv_imul hx hb dX0_hash_63 ?_
        refine lv_aload_n hx hb dX0_hash_64 rfl (lv_at hl 3 rfl) ?_
        refine x_getrN (own := RX0) (C := RX4) (T := TX4) (N := 8) hx hb hts hinX4_X0_hash hown hK hP KC_log rfl 6 (by decide) (nw_f hK.2 1 rfl) rfl dX0_hash_65 ?_
        refine lv_iload hx hb dX0_hash_68 (lv_at hl 1 rfl) ?_
        obtain ⟨r17, σ16, h15, hM⟩ := bnd_i hM
        refine x_callV (As := [.int r4]) (rest := [.int (31 * z14)]) hA ⟨hx, hb, hml, hown, hts⟩ (tX1_colorOf l D cA ad hJ 0 (by omega) r4 σ12 _ _ h15) (cwV 1 hts gX0_hash_X1_colorOf rfl rfl rfl (by decide +kernel) ⟨(Nat.le_of_ble_eq_true rfl), (Nat.le_of_ble_eq_true rfl)⟩) hK hP hS (KC_ink 0 (by omega)) rfl rfl hl.1 rfl (Nat.le_of_ble_eq_true rfl) ⟨Nat.zero_le _, Nat.zero_le _⟩ dX0_hash_70 (fun H locs hP hS _ _ => ?_)
        refine lv_iadd hx hb dX0_hash_73 ?_
        refine lv_istore_n (lv' := [(2, .int ((31 * z14) + r17)), (4, .int r4), (0, .ref (ad (60 + b))), (1, .ref (ad 54)), (3, .int x3)]) hx hb dX0_hash_74 rfl hl (by decide) rfl (fun ls hl => ?_)
        refine lv_aload_n hx hb dX0_hash_75 rfl (lv_at hl 2 rfl) ?_
        refine lv_iload_n hx hb dX0_hash_76 rfl (lv_at hl 0 rfl) ?_
        refine lv_aload_n hx hb dX0_hash_77 rfl (lv_at hl 3 rfl) ?_
        refine x_getrN (own := RX0) (C := RX4) (T := TX4) (N := 8) hx hb hts hinX4_X0_hash hown hK hP KC_log rfl 6 (by decide) (nw_f hK.2 1 rfl) rfl dX0_hash_78 ?_
        refine lv_iload hx hb dX0_hash_81 (lv_at hl 1 rfl) ?_
        obtain ⟨r20, σ19, h18, hM⟩ := bnd_i hM
        refine x_callV (As := [.int ((31 * z14) + r17), .ref (ad (55 + 0)), .int r4]) (rest := []) hA ⟨hx, hb, hml, hown, hts⟩ (tX0_hashPoints l D cA ad hJ b (by omega) 0 (by omega) ((31 * z14) + r17) r4 σ16 _ _ h18) (cwV 3 hts gX0_hash_X0_hashPoints rfl rfl rfl (by decide +kernel) ⟨(Nat.le_of_ble_eq_true rfl), (Nat.le_of_ble_eq_true rfl)⟩) hK hP hS (KC_brd b (by omega)) rfl rfl hl.1 rfl (Nat.le_of_ble_eq_true rfl) ⟨Nat.zero_le _, Nat.zero_le _⟩ dX0_hash_83 (fun H locs hP hS _ _ => ?_)
        refine lv_istore_n (lv' := [(2, .int r20), (4, .int r4), (0, .ref (ad (60 + b))), (1, .ref (ad 54)), (3, .int x3)]) hx hb dX0_hash_86 rfl hl (by decide) rfl (fun ls hl => ?_)
        refine lv_iinc (v := (x3 + 1)) (lv' := [(3, .int (x3 + 1)), (2, .int r20), (4, .int r4), (0, .ref (ad (60 + b))), (1, .ref (ad 54))]) hx hb dX0_hash_87 hl (k := 4) rfl rfl (by decide) rfl (fun ls hl => ?_)
        refine lv_goto (tgt := 5) hx hb dX0_hash_90 (by decide) ?_
        exact ih5 _ _ _ _ _ _ hM hP hS (lv_sub hl [3, 4, 1, 0] rfl)
  unfold mX0_hash at hM
  refine lv_bipush (v := 17) hx hb dX0_hash_0 (by decide) ?_
  refine lv_istore_n (lv' := [(2, .int 17), (0, .ref (ad (60 + b))), (1, .ref (ad 54))]) hx hb dX0_hash_2 rfl hl (by decide) rfl (fun ls hl => ?_)
  refine lv_iconst (v := 0) hx hb dX0_hash_3 (by decide) ?_
  refine lv_istore_n (lv' := [(3, .int 0), (2, .int 17), (0, .ref (ad (60 + b))), (1, .ref (ad 54))]) hx hb dX0_hash_4 rfl hl (by decide) rfl (fun ls hl => ?_)
  exact L5 fu _ _ _ _ _ _ hM hP hS (lv_sub hl [2, 3, 1, 0] rfl)
theorem hinX1_X1_clear : ∀ w ∈ u_ws RX1 TX1 5, w ∈ wsX1_clear := by decide +kernel
set_option maxHeartbeats 4000000 in
set_option maxRecDepth 100000 in
theorem tX1_clear (l : Launch) (D : va_G) (cA : ClassId) (ad : Nat → Nat) (hJ : w_J ad KC) (t : Nat) (ht : t < 2) (σ σ' : St) (hM : mX1_clear t σ = some σ') : Cv l yX1_clear wsX1_clear 1 22 D cA ad KC [.ref (ad (55 + t))] σ σ' := by
  unfold Cv
  refine Met_of (cc := cX1_clear) (maxL := 1) (ret := none) hJ (by decide +kernel) rfl (Nat.le_of_ble_eq_true rfl) ?_
  intro p e s m below meth c Z H locs ls hP hS hl
  obtain ⟨hx, hb, hml, hown, hts, hr, hlk, hK, -⟩ := Z
  have hown : s.vm.findClass RX1 = some m.cls := hown
  have hl : lv_has ls 1 [(0, .ref (ad (55 + t)))] := hl
  have hA : ∀ q, w_A ad KC q → w_A ad KC q := fun _ h => h
  unfold mX1_clear at hM
  refine lv_aload_n hx hb dX1_clear_0 rfl (lv_at hl 0 rfl) ?_
  refine x_getr (own := RX1) (C := RX1) (T := TX1) (N := 5) hx hb hts hinX1_X1_clear hown hK hP (KC_ink t (by omega)) rfl 0 (by decide) (hts (.fieldLink RX1 14 "StrokeBoard$Ink" "counts" "LStrokeBoard$Row;") (by decide +kernel)) rfl dX1_clear_1 ?_
  refine lv_iconst (v := 0) hx hb dX1_clear_4 (by decide) ?_
  obtain ⟨σ2, h1, hM⟩ := bnv_i hM
  refine x_callVv (As := [.int 0]) (rest := []) hA ⟨hx, hb, hml, hown, hts⟩ (tX5_fill l D cA ad hJ (6 + 5 * t) (by omega) 0 σ _ h1) (cwV 1 hts gX1_clear_X5_fill rfl rfl rfl (by decide +kernel) ⟨(Nat.le_of_ble_eq_true rfl), (Nat.le_of_ble_eq_true rfl)⟩) hK hP hS (KC_row (6 + 5 * t) (by omega)) rfl rfl hl.1 rfl (Nat.le_of_ble_eq_true rfl) ⟨Nat.zero_le _, Nat.zero_le _⟩ dX1_clear_5 (fun H locs hP hS _ _ => ?_)
  exact x_vret hx hb hr hlk hP hS hM dX1_clear_8
theorem hinX1_X1_empty : ∀ w ∈ u_ws RX1 TX1 5, w ∈ wsX1_empty := by decide +kernel
set_option maxHeartbeats 4000000 in
set_option maxRecDepth 100000 in
theorem tX1_empty (l : Launch) (D : va_G) (cA : ClassId) (ad : Nat → Nat) (hJ : w_J ad KC) (t : Nat) (ht : t < 2) (u1 : Int32) (σ σ' : St) (hM : mX1_empty t u1 σ = some σ') : Cv l yX1_empty wsX1_empty 1 22 D cA ad KC [.ref (ad (55 + t)), .int u1] σ σ' := by
  unfold Cv
  refine Met_of (cc := cX1_empty) (maxL := 2) (ret := none) hJ (by decide +kernel) rfl (Nat.le_of_ble_eq_true rfl) ?_
  intro p e s m below meth c Z H locs ls hP hS hl
  obtain ⟨hx, hb, hml, hown, hts, hr, hlk, hK, -⟩ := Z
  have hown : s.vm.findClass RX1 = some m.cls := hown
  have hl : lv_has ls 2 [(0, .ref (ad (55 + t))), (1, .int u1)] := hl
  have hA : ∀ q, w_A ad KC q → w_A ad KC q := fun _ h => h
  unfold mX1_empty at hM
  refine lv_aload_n hx hb dX1_empty_0 rfl (lv_at hl 0 rfl) ?_
  refine x_getr (own := RX1) (C := RX1) (T := TX1) (N := 5) hx hb hts hinX1_X1_empty hown hK hP (KC_ink t (by omega)) rfl 0 (by decide) (hts (.fieldLink RX1 14 "StrokeBoard$Ink" "counts" "LStrokeBoard$Row;") (by decide +kernel)) rfl dX1_empty_1 ?_
  refine lv_iload_n hx hb dX1_empty_4 rfl (lv_at hl 1 rfl) ?_
  refine lv_iconst (v := 0) hx hb dX1_empty_5 (by decide) ?_
  obtain ⟨σ2, h1, hM⟩ := bnv_i hM
  refine x_callVv (As := [.int u1, .int 0]) (rest := []) hA ⟨hx, hb, hml, hown, hts⟩ (tX5_set l D cA ad hJ (6 + 5 * t) (by omega) u1 0 σ _ h1) (cwV 2 hts gX1_empty_X5_set rfl rfl rfl (by decide +kernel) ⟨(Nat.le_of_ble_eq_true rfl), (Nat.le_of_ble_eq_true rfl)⟩) hK hP hS (KC_row (6 + 5 * t) (by omega)) rfl rfl hl.1 rfl (Nat.le_of_ble_eq_true rfl) ⟨Nat.zero_le _, Nat.zero_le _⟩ dX1_empty_6 (fun H locs hP hS _ _ => ?_)
  exact x_vret hx hb hr hlk hP hS hM dX1_empty_9
theorem hinX1_X1_start : ∀ w ∈ u_ws RX1 TX1 5, w ∈ wsX1_start := by decide +kernel
set_option maxHeartbeats 4000000 in
set_option maxRecDepth 100000 in
theorem tX1_start (l : Launch) (D : va_G) (cA : ClassId) (ad : Nat → Nat) (hJ : w_J ad KC) (t : Nat) (ht : t < 2) (u1 u2 u3 : Int32) (σ σ' : St) (hM : mX1_start t u1 u2 u3 σ = some σ') : Cv l yX1_start wsX1_start 2 43 D cA ad KC [.ref (ad (55 + t)), .int u1, .int u2, .int u3] σ σ' := by
  unfold Cv
  refine Met_of (cc := cX1_start) (maxL := 4) (ret := none) hJ (by decide +kernel) rfl (Nat.le_of_ble_eq_true rfl) ?_
  intro p e s m below meth c Z H locs ls hP hS hl
  obtain ⟨hx, hb, hml, hown, hts, hr, hlk, hK, -⟩ := Z
  have hown : s.vm.findClass RX1 = some m.cls := hown
  have hl : lv_has ls 4 [(0, .ref (ad (55 + t))), (1, .int u1), (2, .int u2), (3, .int u3)] := hl
  have hA : ∀ q, w_A ad KC q → w_A ad KC q := fun _ h => h
  unfold mX1_start at hM
  refine lv_aload_n hx hb dX1_start_0 rfl (lv_at hl 0 rfl) ?_
  refine lv_iload_n hx hb dX1_start_1 rfl (lv_at hl 1 rfl) ?_
  obtain ⟨σ2, h1, hM⟩ := bnv_i hM
  refine x_callVv (As := [.int u1]) (rest := []) hA ⟨hx, hb, hml, hown, hts⟩ (tX1_empty l D cA ad hJ t (by omega) u1 σ _ h1) (cwV 1 hts gX1_start_X1_empty rfl rfl rfl (by decide +kernel) ⟨(Nat.le_of_ble_eq_true rfl), (Nat.le_of_ble_eq_true rfl)⟩) hK hP hS (KC_ink t (by omega)) rfl rfl hl.1 rfl (Nat.le_of_ble_eq_true rfl) ⟨Nat.zero_le _, Nat.zero_le _⟩ dX1_start_2 (fun H locs hP hS _ _ => ?_)
  refine lv_aload_n hx hb dX1_start_5 rfl (lv_at hl 0 rfl) ?_
  refine x_getr (own := RX1) (C := RX1) (T := TX1) (N := 5) hx hb hts hinX1_X1_start hown hK hP (KC_ink t (by omega)) rfl 1 (by decide) (hts (.fieldLink RX1 20 "StrokeBoard$Ink" "colors" "LStrokeBoard$Row;") (by decide +kernel)) rfl dX1_start_6 ?_
  refine lv_iload_n hx hb dX1_start_9 rfl (lv_at hl 1 rfl) ?_
  refine lv_iload_n hx hb dX1_start_10 rfl (lv_at hl 2 rfl) ?_
  obtain ⟨σ4, h3, hM⟩ := bnv_i hM
  refine x_callVv (As := [.int u1, .int u2]) (rest := []) hA ⟨hx, hb, hml, hown, hts⟩ (tX5_set l D cA ad hJ (7 + 5 * t) (by omega) u1 u2 σ2 _ h3) (cwV 2 hts gX1_start_X5_set rfl rfl rfl (by decide +kernel) ⟨(Nat.le_of_ble_eq_true rfl), (Nat.le_of_ble_eq_true rfl)⟩) hK hP hS (KC_row (7 + 5 * t) (by omega)) rfl rfl hl.1 rfl (Nat.le_of_ble_eq_true rfl) ⟨Nat.zero_le _, Nat.zero_le _⟩ dX1_start_11 (fun H locs hP hS _ _ => ?_)
  refine lv_aload_n hx hb dX1_start_14 rfl (lv_at hl 0 rfl) ?_
  refine x_getr (own := RX1) (C := RX1) (T := TX1) (N := 5) hx hb hts hinX1_X1_start hown hK hP (KC_ink t (by omega)) rfl 2 (by decide) (hts (.fieldLink RX1 23 "StrokeBoard$Ink" "layers" "LStrokeBoard$Row;") (by decide +kernel)) rfl dX1_start_15 ?_
  refine lv_iload_n hx hb dX1_start_18 rfl (lv_at hl 1 rfl) ?_
  refine lv_iload_n hx hb dX1_start_19 rfl (lv_at hl 3 rfl) ?_
  obtain ⟨σ6, h5, hM⟩ := bnv_i hM
  refine x_callVv (As := [.int u1, .int u3]) (rest := []) hA ⟨hx, hb, hml, hown, hts⟩ (tX5_set l D cA ad hJ (8 + 5 * t) (by omega) u1 u3 σ4 _ h5) (cwV 2 hts gX1_start_X5_set rfl rfl rfl (by decide +kernel) ⟨(Nat.le_of_ble_eq_true rfl), (Nat.le_of_ble_eq_true rfl)⟩) hK hP hS (KC_row (8 + 5 * t) (by omega)) rfl rfl hl.1 rfl (Nat.le_of_ble_eq_true rfl) ⟨Nat.zero_le _, Nat.zero_le _⟩ dX1_start_20 (fun H locs hP hS _ _ => ?_)
  exact x_vret hx hb hr hlk hP hS hM dX1_start_23
theorem hinX1_X1_addPoint : ∀ w ∈ u_ws RX1 TX1 5, w ∈ wsX1_addPoint := by decide +kernel
set_option maxHeartbeats 4000000 in
set_option maxRecDepth 100000 in
theorem tX1_addPoint (l : Launch) (D : va_G) (cA : ClassId) (ad : Nat → Nat) (hJ : w_J ad KC) (t : Nat) (ht : t < 2) (u1 u2 u3 : Int32) (σ σ' : St) (hM : mX1_addPoint t u1 u2 u3 σ = some σ') : Cv l yX1_addPoint wsX1_addPoint 1 22 D cA ad KC [.ref (ad (55 + t)), .int u1, .int u2, .int u3] σ σ' := by
  unfold Cv
  refine Met_of (cc := cX1_addPoint) (maxL := 5) (ret := none) hJ (by decide +kernel) rfl (Nat.le_of_ble_eq_true rfl) ?_
  intro p e s m below meth c Z H locs ls hP hS hl
  obtain ⟨hx, hb, hml, hown, hts, hr, hlk, hK, -⟩ := Z
  have hown : s.vm.findClass RX1 = some m.cls := hown
  have hl : lv_has ls 5 [(0, .ref (ad (55 + t))), (1, .int u1), (2, .int u2), (3, .int u3)] := hl
  have hA : ∀ q, w_A ad KC q → w_A ad KC q := fun _ h => h
  unfold mX1_addPoint at hM
  refine lv_aload_n hx hb dX1_addPoint_0 rfl (lv_at hl 0 rfl) ?_
  refine x_getr (own := RX1) (C := RX1) (T := TX1) (N := 5) hx hb hts hinX1_X1_addPoint hown hK hP (KC_ink t (by omega)) rfl 0 (by decide) (hts (.fieldLink RX1 14 "StrokeBoard$Ink" "counts" "LStrokeBoard$Row;") (by decide +kernel)) rfl dX1_addPoint_1 ?_
  refine lv_iload_n hx hb dX1_addPoint_4 rfl (lv_at hl 1 rfl) ?_
  obtain ⟨r3, σ2, h1, hM⟩ := bnd_i hM
  refine x_callV (As := [.int u1]) (rest := []) hA ⟨hx, hb, hml, hown, hts⟩ (tX5_get l D cA ad hJ (6 + 5 * t) (by omega) u1 σ _ _ h1) (cwV 1 hts gX1_addPoint_X5_get rfl rfl rfl (by decide +kernel) ⟨(Nat.le_of_ble_eq_true rfl), (Nat.le_of_ble_eq_true rfl)⟩) hK hP hS (KC_row (6 + 5 * t) (by omega)) rfl rfl hl.1 rfl (Nat.le_of_ble_eq_true rfl) ⟨Nat.zero_le _, Nat.zero_le _⟩ dX1_addPoint_5 (fun H locs hP hS _ _ => ?_)
  refine lv_istore (lv' := [(4, .int r3), (0, .ref (ad (55 + t))), (1, .int u1), (2, .int u2), (3, .int u3)]) hx hb dX1_addPoint_8 hl (by decide) rfl (fun ls hl => ?_)
  refine lv_iload hx hb dX1_addPoint_10 (lv_at hl 0 rfl) ?_
  refine lv_bipush (v := 8) hx hb dX1_addPoint_12 (by decide) ?_
  refine lv_icmp_ge (tgt := 59) hx hb dX1_addPoint_14 (by decide) (fun c4 => ?_) (fun c4 => ?_)
  · have hM := (if_pos c4).symm.trans hM
    exact x_vret hx hb hr hlk hP hS hM dX1_addPoint_59
  · have hM := (if_neg c4).symm.trans hM
    refine lv_aload_n hx hb dX1_addPoint_17 rfl (lv_at hl 1 rfl) ?_
    refine x_getr (own := RX1) (C := RX1) (T := TX1) (N := 5) hx hb hts hinX1_X1_addPoint hown hK hP (KC_ink t (by omega)) rfl 3 (by decide) (hts (.fieldLink RX1 26 "StrokeBoard$Ink" "xs" "LStrokeBoard$Row;") (by decide +kernel)) rfl dX1_addPoint_18 ?_
    refine lv_iload_n hx hb dX1_addPoint_21 rfl (lv_at hl 2 rfl) ?_
    refine lv_bipush (v := 8) hx hb dX1_addPoint_22 (by decide) ?_
    refine lv_imul hx hb dX1_addPoint_24 ?_
    refine lv_iload hx hb dX1_addPoint_25 (lv_at hl 0 rfl) ?_
    refine lv_iadd hx hb dX1_addPoint_27 ?_
    refine lv_iload_n hx hb dX1_addPoint_28 rfl (lv_at hl 3 rfl) ?_
    obtain ⟨σ6, h5, hM⟩ := bnv_i hM
    refine x_callVv (As := [.int ((u1 * 8) + r3), .int u2]) (rest := []) hA ⟨hx, hb, hml, hown, hts⟩ (tX5_set l D cA ad hJ (9 + 5 * t) (by omega) ((u1 * 8) + r3) u2 σ2 _ h5) (cwV 2 hts gX1_addPoint_X5_set rfl rfl rfl (by decide +kernel) ⟨(Nat.le_of_ble_eq_true rfl), (Nat.le_of_ble_eq_true rfl)⟩) hK hP hS (KC_row (9 + 5 * t) (by omega)) rfl rfl hl.1 rfl (Nat.le_of_ble_eq_true rfl) ⟨Nat.zero_le _, Nat.zero_le _⟩ dX1_addPoint_29 (fun H locs hP hS _ _ => ?_)
    refine lv_aload_n hx hb dX1_addPoint_32 rfl (lv_at hl 1 rfl) ?_
    refine x_getr (own := RX1) (C := RX1) (T := TX1) (N := 5) hx hb hts hinX1_X1_addPoint hown hK hP (KC_ink t (by omega)) rfl 4 (by decide) (hts (.fieldLink RX1 29 "StrokeBoard$Ink" "ys" "LStrokeBoard$Row;") (by decide +kernel)) rfl dX1_addPoint_33 ?_
    refine lv_iload_n hx hb dX1_addPoint_36 rfl (lv_at hl 2 rfl) ?_
    refine lv_bipush (v := 8) hx hb dX1_addPoint_37 (by decide) ?_
    refine lv_imul hx hb dX1_addPoint_39 ?_
    refine lv_iload hx hb dX1_addPoint_40 (lv_at hl 0 rfl) ?_
    refine lv_iadd hx hb dX1_addPoint_42 ?_
    refine lv_iload_n hx hb dX1_addPoint_43 rfl (lv_at hl 4 rfl) ?_
    obtain ⟨σ8, h7, hM⟩ := bnv_i hM
    refine x_callVv (As := [.int ((u1 * 8) + r3), .int u3]) (rest := []) hA ⟨hx, hb, hml, hown, hts⟩ (tX5_set l D cA ad hJ (10 + 5 * t) (by omega) ((u1 * 8) + r3) u3 σ6 _ h7) (cwV 2 hts gX1_addPoint_X5_set rfl rfl rfl (by decide +kernel) ⟨(Nat.le_of_ble_eq_true rfl), (Nat.le_of_ble_eq_true rfl)⟩) hK hP hS (KC_row (10 + 5 * t) (by omega)) rfl rfl hl.1 rfl (Nat.le_of_ble_eq_true rfl) ⟨Nat.zero_le _, Nat.zero_le _⟩ dX1_addPoint_44 (fun H locs hP hS _ _ => ?_)
    refine lv_aload_n hx hb dX1_addPoint_47 rfl (lv_at hl 1 rfl) ?_
    refine x_getr (own := RX1) (C := RX1) (T := TX1) (N := 5) hx hb hts hinX1_X1_addPoint hown hK hP (KC_ink t (by omega)) rfl 0 (by decide) (hts (.fieldLink RX1 14 "StrokeBoard$Ink" "counts" "LStrokeBoard$Row;") (by decide +kernel)) rfl dX1_addPoint_48 ?_
    refine lv_iload_n hx hb dX1_addPoint_51 rfl (lv_at hl 2 rfl) ?_
    refine lv_iload hx hb dX1_addPoint_52 (lv_at hl 0 rfl) ?_
    refine lv_iconst (v := 1) hx hb dX1_addPoint_54 (by decide) ?_
    refine lv_iadd hx hb dX1_addPoint_55 ?_
    obtain ⟨σ10, h9, hM⟩ := bnv_i hM
    refine x_callVv (As := [.int u1, .int (r3 + 1)]) (rest := []) hA ⟨hx, hb, hml, hown, hts⟩ (tX5_set l D cA ad hJ (6 + 5 * t) (by omega) u1 (r3 + 1) σ8 _ h9) (cwV 2 hts gX1_addPoint_X5_set rfl rfl rfl (by decide +kernel) ⟨(Nat.le_of_ble_eq_true rfl), (Nat.le_of_ble_eq_true rfl)⟩) hK hP hS (KC_row (6 + 5 * t) (by omega)) rfl rfl hl.1 rfl (Nat.le_of_ble_eq_true rfl) ⟨Nat.zero_le _, Nat.zero_le _⟩ dX1_addPoint_56 (fun H locs hP hS _ _ => ?_)
    exact x_vret hx hb hr hlk hP hS hM dX1_addPoint_59
theorem hinX1_X1_layerOf : ∀ w ∈ u_ws RX1 TX1 5, w ∈ wsX1_layerOf := by decide +kernel
set_option maxHeartbeats 4000000 in
set_option maxRecDepth 100000 in
theorem tX1_layerOf (l : Launch) (D : va_G) (cA : ClassId) (ad : Nat → Nat) (hJ : w_J ad KC) (t : Nat) (ht : t < 2) (u1 : Int32) (σ σ' : St) (r : Int32) (hM : mX1_layerOf t u1 σ = some (r, σ')) : Ct l yX1_layerOf wsX1_layerOf 1 21 D cA ad KC [.ref (ad (55 + t)), .int u1] σ r σ' := by
  unfold Ct
  refine Met_of (cc := cX1_layerOf) (maxL := 2) (ret := (some .int)) hJ (by decide +kernel) rfl (Nat.le_of_ble_eq_true rfl) ?_
  intro p e s m below meth c Z H locs ls hP hS hl
  obtain ⟨hx, hb, hml, hown, hts, hr, hlk, hK, -⟩ := Z
  have hown : s.vm.findClass RX1 = some m.cls := hown
  have hl : lv_has ls 2 [(0, .ref (ad (55 + t))), (1, .int u1)] := hl
  have hA : ∀ q, w_A ad KC q → w_A ad KC q := fun _ h => h
  unfold mX1_layerOf at hM
  refine lv_aload_n hx hb dX1_layerOf_0 rfl (lv_at hl 0 rfl) ?_
  refine x_getr (own := RX1) (C := RX1) (T := TX1) (N := 5) hx hb hts hinX1_X1_layerOf hown hK hP (KC_ink t (by omega)) rfl 2 (by decide) (hts (.fieldLink RX1 23 "StrokeBoard$Ink" "layers" "LStrokeBoard$Row;") (by decide +kernel)) rfl dX1_layerOf_1 ?_
  refine lv_iload_n hx hb dX1_layerOf_4 rfl (lv_at hl 1 rfl) ?_
  obtain ⟨r3, σ2, h1, hM⟩ := bnd_i hM
  refine x_callV (As := [.int u1]) (rest := []) hA ⟨hx, hb, hml, hown, hts⟩ (tX5_get l D cA ad hJ (8 + 5 * t) (by omega) u1 σ _ _ h1) (cwV 1 hts gX1_layerOf_X5_get rfl rfl rfl (by decide +kernel) ⟨(Nat.le_of_ble_eq_true rfl), (Nat.le_of_ble_eq_true rfl)⟩) hK hP hS (KC_row (8 + 5 * t) (by omega)) rfl rfl hl.1 rfl (Nat.le_of_ble_eq_true rfl) ⟨Nat.zero_le _, Nat.zero_le _⟩ dX1_layerOf_5 (fun H locs hP hS _ _ => ?_)
  exact x_iret hx hb hr hlk hP hS hM dX1_layerOf_8
set_option maxHeartbeats 4000000 in
set_option maxRecDepth 100000 in
theorem tX1_copyFrom (l : Launch) (D : va_G) (cA : ClassId) (ad : Nat → Nat) (hJ : w_J ad KC) (t : Nat) (ht : t < 2) (t2 : Nat) (ht2 : t2 < 2) (u2 u3 : Int32) (σ σ' : St) (hM : mX1_copyFrom t t2 u2 u3 σ = some σ') : Cv l yX1_copyFrom wsX1_copyFrom 3 66 D cA ad KC [.ref (ad (55 + t)), .ref (ad (55 + t2)), .int u2, .int u3] σ σ' := by
  unfold Cv
  refine Met_of (cc := cX1_copyFrom) (maxL := 6) (ret := none) hJ (by decide +kernel) rfl (Nat.le_of_ble_eq_true rfl) ?_
  intro p e s m below meth c Z H locs ls hP hS hl
  obtain ⟨hx, hb, hml, hown, hts, hr, hlk, hK, -⟩ := Z
  have hown : s.vm.findClass RX1 = some m.cls := hown
  have hl : lv_has ls 6 [(0, .ref (ad (55 + t))), (1, .ref (ad (55 + t2))), (2, .int u2), (3, .int u3)] := hl
  have hA : ∀ q, w_A ad KC q → w_A ad KC q := fun _ h => h
  have L25 : ∀ (n : Nat) (x2 x3 x4 x5 : Int32) (σ : St) (H : Heap) (locs : List Loc) (ls : Array Slot), mX1_copyFrom_L25 t t2 n x2 x3 x4 x5 σ = some σ' → w_P D cA ad KC σ H → va_S (w_A ad KC) s.heap H locs → lv_has ls 6 [(0, .ref (ad (55 + t))), (1, .ref (ad (55 + t2))), (2, .int x2), (3, .int x3), (4, .int x4), (5, .int x5)] → Wm p l e wsX1_copyFrom 3 66 s m ([.ref (ad (55 + t)), .ref (ad (55 + t2)), .int u2, .int u3] : List Value).toArray below meth c (w_Qv D cA ad KC σ') (w_A ad KC) H locs (F0 m 25 ls []) := by
    intro n25
    induction n25 with
    | zero =>
      intro x2 x3 x4 x5 σ H locs ls hM hP hS hl
      rw [mX1_copyFrom_L25] at hM
      cases hM
    | succ n25 ih25 =>
      intro x2 x3 x4 x5 σ H locs ls hM hP hS hl
      rw [mX1_copyFrom_L25] at hM
      refine lv_iload hx hb dX1_copyFrom_25 (lv_at hl 5 rfl) ?_
      refine lv_iload hx hb dX1_copyFrom_27 (lv_at hl 4 rfl) ?_
      refine lv_icmp_ge (tgt := 57) hx hb dX1_copyFrom_29 (by decide) (fun c1 => ?_) (fun c1 => ?_)
      · have hM := (if_pos c1).symm.trans hM
        exact x_vret hx hb hr hlk hP hS hM dX1_copyFrom_57
      · have hM := (if_neg c1).symm.trans hM
        refine lv_aload_n hx hb dX1_copyFrom_32 rfl (lv_at hl 0 rfl) ?_
        refine lv_iload_n hx hb dX1_copyFrom_33 rfl (lv_at hl 3 rfl) ?_
        refine lv_aload_n hx hb dX1_copyFrom_34 rfl (lv_at hl 1 rfl) ?_
        refine lv_iload_n hx hb dX1_copyFrom_35 rfl (lv_at hl 2 rfl) ?_
        refine lv_iload hx hb dX1_copyFrom_36 (lv_at hl 5 rfl) ?_
        obtain ⟨r4, σ3, h2, hM⟩ := bnd_i hM
        refine x_callV (As := [.int x2, .int x5]) (rest := [.int x3, .ref (ad (55 + t))]) hA ⟨hx, hb, hml, hown, hts⟩ (tX1_xOf l D cA ad hJ t2 (by omega) x2 x5 σ _ _ h2) (cwV 2 hts gX1_copyFrom_X1_xOf rfl rfl rfl (by decide +kernel) ⟨(Nat.le_of_ble_eq_true rfl), (Nat.le_of_ble_eq_true rfl)⟩) hK hP hS (KC_ink t2 (by omega)) rfl rfl hl.1 rfl (Nat.le_of_ble_eq_true rfl) ⟨Nat.zero_le _, Nat.zero_le _⟩ dX1_copyFrom_38 (fun H locs hP hS _ _ => ?_)
        refine lv_aload_n hx hb dX1_copyFrom_41 rfl (lv_at hl 1 rfl) ?_
        refine lv_iload_n hx hb dX1_copyFrom_42 rfl (lv_at hl 2 rfl) ?_
        refine lv_iload hx hb dX1_copyFrom_43 (lv_at hl 5 rfl) ?_
        obtain ⟨r7, σ6, h5, hM⟩ := bnd_i hM
        refine x_callV (As := [.int x2, .int x5]) (rest := [.int r4, .int x3, .ref (ad (55 + t))]) hA ⟨hx, hb, hml, hown, hts⟩ (tX1_yOf l D cA ad hJ t2 (by omega) x2 x5 σ3 _ _ h5) (cwV 2 hts gX1_copyFrom_X1_yOf rfl rfl rfl (by decide +kernel) ⟨(Nat.le_of_ble_eq_true rfl), (Nat.le_of_ble_eq_true rfl)⟩) hK hP hS (KC_ink t2 (by omega)) rfl rfl hl.1 rfl (Nat.le_of_ble_eq_true rfl) ⟨Nat.zero_le _, Nat.zero_le _⟩ dX1_copyFrom_45 (fun H locs hP hS _ _ => ?_)
        obtain ⟨σ9, h8, hM⟩ := bnv_i hM
        refine x_callVv (As := [.int x3, .int r4, .int r7]) (rest := []) hA ⟨hx, hb, hml, hown, hts⟩ (tX1_addPoint l D cA ad hJ t (by omega) x3 r4 r7 σ6 _ h8) (cwV 3 hts gX1_copyFrom_X1_addPoint rfl rfl rfl (by decide +kernel) ⟨(Nat.le_of_ble_eq_true rfl), (Nat.le_of_ble_eq_true rfl)⟩) hK hP hS (KC_ink t (by omega)) rfl rfl hl.1 rfl (Nat.le_of_ble_eq_true rfl) ⟨Nat.zero_le _, Nat.zero_le _⟩ dX1_copyFrom_48 (fun H locs hP hS _ _ => ?_)
        refine lv_iinc (v := (x5 + 1)) (lv' := [(5, .int (x5 + 1)), (0, .ref (ad (55 + t))), (1, .ref (ad (55 + t2))), (2, .int x2), (3, .int x3), (4, .int x4)]) hx hb dX1_copyFrom_51 hl (k := 5) rfl rfl (by decide) rfl (fun ls hl => ?_)
        refine lv_goto (tgt := 25) hx hb dX1_copyFrom_54 (by decide) ?_
        exact ih25 _ _ _ _ _ _ _ _ hM hP hS (lv_sub hl [1, 2, 3, 4, 5, 0] rfl)
  unfold mX1_copyFrom at hM
  refine lv_aload_n hx hb dX1_copyFrom_0 rfl (lv_at hl 1 rfl) ?_
  refine lv_iload_n hx hb dX1_copyFrom_1 rfl (lv_at hl 2 rfl) ?_
  obtain ⟨r12, σ11, h10, hM⟩ := bnd_i hM
  refine x_callV (As := [.int u2]) (rest := []) hA ⟨hx, hb, hml, hown, hts⟩ (tX1_pointCount l D cA ad hJ t2 (by omega) u2 σ _ _ h10) (cwV 1 hts gX1_copyFrom_X1_pointCount rfl rfl rfl (by decide +kernel) ⟨(Nat.le_of_ble_eq_true rfl), (Nat.le_of_ble_eq_true rfl)⟩) hK hP hS (KC_ink t2 (by omega)) rfl rfl hl.1 rfl (Nat.le_of_ble_eq_true rfl) ⟨Nat.zero_le _, Nat.zero_le _⟩ dX1_copyFrom_2 (fun H locs hP hS _ _ => ?_)
  refine lv_istore (lv' := [(4, .int r12), (0, .ref (ad (55 + t))), (1, .ref (ad (55 + t2))), (2, .int u2), (3, .int u3)]) hx hb dX1_copyFrom_5 hl (by decide) rfl (fun ls hl => ?_)
  refine lv_aload_n hx hb dX1_copyFrom_7 rfl (lv_at hl 1 rfl) ?_
  refine lv_iload_n hx hb dX1_copyFrom_8 rfl (lv_at hl 4 rfl) ?_
  refine lv_aload_n hx hb dX1_copyFrom_9 rfl (lv_at hl 2 rfl) ?_
  refine lv_iload_n hx hb dX1_copyFrom_10 rfl (lv_at hl 3 rfl) ?_
  obtain ⟨r15, σ14, h13, hM⟩ := bnd_i hM
  refine x_callV (As := [.int u2]) (rest := [.int u3, .ref (ad (55 + t))]) hA ⟨hx, hb, hml, hown, hts⟩ (tX1_colorOf l D cA ad hJ t2 (by omega) u2 σ11 _ _ h13) (cwV 1 hts gX1_copyFrom_X1_colorOf rfl rfl rfl (by decide +kernel) ⟨(Nat.le_of_ble_eq_true rfl), (Nat.le_of_ble_eq_true rfl)⟩) hK hP hS (KC_ink t2 (by omega)) rfl rfl hl.1 rfl (Nat.le_of_ble_eq_true rfl) ⟨Nat.zero_le _, Nat.zero_le _⟩ dX1_copyFrom_11 (fun H locs hP hS _ _ => ?_)
  refine lv_aload_n hx hb dX1_copyFrom_14 rfl (lv_at hl 2 rfl) ?_
  refine lv_iload_n hx hb dX1_copyFrom_15 rfl (lv_at hl 3 rfl) ?_
  obtain ⟨r18, σ17, h16, hM⟩ := bnd_i hM
  refine x_callV (As := [.int u2]) (rest := [.int r15, .int u3, .ref (ad (55 + t))]) hA ⟨hx, hb, hml, hown, hts⟩ (tX1_layerOf l D cA ad hJ t2 (by omega) u2 σ14 _ _ h16) (cwV 1 hts gX1_copyFrom_X1_layerOf rfl rfl rfl (by decide +kernel) ⟨(Nat.le_of_ble_eq_true rfl), (Nat.le_of_ble_eq_true rfl)⟩) hK hP hS (KC_ink t2 (by omega)) rfl rfl hl.1 rfl (Nat.le_of_ble_eq_true rfl) ⟨Nat.zero_le _, Nat.zero_le _⟩ dX1_copyFrom_16 (fun H locs hP hS _ _ => ?_)
  obtain ⟨σ20, h19, hM⟩ := bnv_i hM
  refine x_callVv (As := [.int u3, .int r15, .int r18]) (rest := []) hA ⟨hx, hb, hml, hown, hts⟩ (tX1_start l D cA ad hJ t (by omega) u3 r15 r18 σ17 _ h19) (cwV 3 hts gX1_copyFrom_X1_start rfl rfl rfl (by decide +kernel) ⟨(Nat.le_of_ble_eq_true rfl), (Nat.le_of_ble_eq_true rfl)⟩) hK hP hS (KC_ink t (by omega)) rfl rfl hl.1 rfl (Nat.le_of_ble_eq_true rfl) ⟨Nat.zero_le _, Nat.zero_le _⟩ dX1_copyFrom_19 (fun H locs hP hS _ _ => ?_)
  refine lv_iconst (v := 0) hx hb dX1_copyFrom_22 (by decide) ?_
  refine lv_istore (lv' := [(5, .int 0), (4, .int r12), (0, .ref (ad (55 + t))), (1, .ref (ad (55 + t2))), (2, .int u2), (3, .int u3)]) hx hb dX1_copyFrom_23 hl (by decide) rfl (fun ls hl => ?_)
  exact L25 fu _ _ _ _ _ _ _ _ hM hP hS (lv_sub hl [2, 3, 4, 5, 1, 0] rfl)
theorem hinX1_X1_hasPoint : ∀ w ∈ u_ws RX1 TX1 5, w ∈ wsX1_hasPoint := by decide +kernel
set_option maxHeartbeats 4000000 in
set_option maxRecDepth 100000 in
theorem tX1_hasPoint (l : Launch) (D : va_G) (cA : ClassId) (ad : Nat → Nat) (hJ : w_J ad KC) (t : Nat) (ht : t < 2) (u1 u2 u3 : Int32) (σ σ' : St) (r : Int32) (hM : mX1_hasPoint t u1 u2 u3 σ = some (r, σ')) : Ct l yX1_hasPoint wsX1_hasPoint 2 43 D cA ad KC [.ref (ad (55 + t)), .int u1, .int u2, .int u3] σ r σ' := by
  unfold Ct
  refine Met_of (cc := cX1_hasPoint) (maxL := 5) (ret := (some .boolean)) hJ (by decide +kernel) rfl (Nat.le_of_ble_eq_true rfl) ?_
  intro p e s m below meth c Z H locs ls hP hS hl
  obtain ⟨hx, hb, hml, hown, hts, hr, hlk, hK, -⟩ := Z
  have hown : s.vm.findClass RX1 = some m.cls := hown
  have hl : lv_has ls 5 [(0, .ref (ad (55 + t))), (1, .int u1), (2, .int u2), (3, .int u3)] := hl
  have hA : ∀ q, w_A ad KC q → w_A ad KC q := fun _ h => h
  have L3 : ∀ (n : Nat) (x1 x2 x3 x4 : Int32) (σ : St) (H : Heap) (locs : List Loc) (ls : Array Slot), mX1_hasPoint_L3 t n x1 x2 x3 x4 σ = some (r, σ') → w_P D cA ad KC σ H → va_S (w_A ad KC) s.heap H locs → lv_has ls 5 [(0, .ref (ad (55 + t))), (1, .int x1), (2, .int x2), (3, .int x3), (4, .int x4)] → Wm p l e wsX1_hasPoint 2 43 s m ([.ref (ad (55 + t)), .int u1, .int u2, .int u3] : List Value).toArray below meth c (w_Qi D cA ad KC r σ') (w_A ad KC) H locs (F0 m 3 ls []) := by
    intro n3
    induction n3 with
    | zero =>
      intro x1 x2 x3 x4 σ H locs ls hM hP hS hl
      rw [mX1_hasPoint_L3] at hM
      cases hM
    | succ n3 ih3 =>
      intro x1 x2 x3 x4 σ H locs ls hM hP hS hl
      rw [mX1_hasPoint_L3] at hM
      refine lv_iload hx hb dX1_hasPoint_3 (lv_at hl 4 rfl) ?_
      refine lv_aload_n hx hb dX1_hasPoint_5 rfl (lv_at hl 0 rfl) ?_
      refine x_getr (own := RX1) (C := RX1) (T := TX1) (N := 5) hx hb hts hinX1_X1_hasPoint hown hK hP (KC_ink t (by omega)) rfl 0 (by decide) (hts (.fieldLink RX1 14 "StrokeBoard$Ink" "counts" "LStrokeBoard$Row;") (by decide +kernel)) rfl dX1_hasPoint_6 ?_
      refine lv_iload_n hx hb dX1_hasPoint_9 rfl (lv_at hl 1 rfl) ?_
      obtain ⟨r3, σ2, h1, hM⟩ := bnd_i hM
      refine x_callV (As := [.int x1]) (rest := [.int x4]) hA ⟨hx, hb, hml, hown, hts⟩ (tX5_get l D cA ad hJ (6 + 5 * t) (by omega) x1 σ _ _ h1) (cwV 1 hts gX1_hasPoint_X5_get rfl rfl rfl (by decide +kernel) ⟨(Nat.le_of_ble_eq_true rfl), (Nat.le_of_ble_eq_true rfl)⟩) hK hP hS (KC_row (6 + 5 * t) (by omega)) rfl rfl hl.1 rfl (Nat.le_of_ble_eq_true rfl) ⟨Nat.zero_le _, Nat.zero_le _⟩ dX1_hasPoint_10 (fun H locs hP hS _ _ => ?_)
      refine lv_icmp_ge (tgt := 46) hx hb dX1_hasPoint_13 (by decide) (fun c4 => ?_) (fun c4 => ?_)
      · have hM := (if_pos c4).symm.trans hM
        refine lv_iconst (v := 0) hx hb dX1_hasPoint_46 (by decide) ?_
        exact x_zret hx hb hr hlk hP hS hM dX1_hasPoint_47
      · have hM := (if_neg c4).symm.trans hM
        refine lv_aload_n hx hb dX1_hasPoint_16 rfl (lv_at hl 0 rfl) ?_
        refine lv_iload_n hx hb dX1_hasPoint_17 rfl (lv_at hl 1 rfl) ?_
        refine lv_iload hx hb dX1_hasPoint_18 (lv_at hl 4 rfl) ?_
        obtain ⟨r7, σ6, h5, hM⟩ := bnd_i hM
        refine x_callV (As := [.int x1, .int x4]) (rest := []) hA ⟨hx, hb, hml, hown, hts⟩ (tX1_xOf l D cA ad hJ t (by omega) x1 x4 σ2 _ _ h5) (cwV 2 hts gX1_hasPoint_X1_xOf rfl rfl rfl (by decide +kernel) ⟨(Nat.le_of_ble_eq_true rfl), (Nat.le_of_ble_eq_true rfl)⟩) hK hP hS (KC_ink t (by omega)) rfl rfl hl.1 rfl (Nat.le_of_ble_eq_true rfl) ⟨Nat.zero_le _, Nat.zero_le _⟩ dX1_hasPoint_20 (fun H locs hP hS _ _ => ?_)
        refine lv_iload_n hx hb dX1_hasPoint_23 rfl (lv_at hl 2 rfl) ?_
        refine lv_icmp_ne (tgt := 40) hx hb dX1_hasPoint_24 (by decide) (fun c8 => ?_) (fun c8 => ?_)
        · have hM := (if_neg c8).symm.trans hM
          refine lv_iinc (v := (x4 + 1)) (lv' := [(4, .int (x4 + 1)), (0, .ref (ad (55 + t))), (1, .int x1), (2, .int x2), (3, .int x3)]) hx hb dX1_hasPoint_40 hl (k := 4) rfl rfl (by decide) rfl (fun ls hl => ?_)
          refine lv_goto (tgt := 3) hx hb dX1_hasPoint_43 (by decide) ?_
          exact ih3 _ _ _ _ _ _ _ _ hM hP hS (lv_sub hl [1, 2, 3, 4, 0] rfl)
        · have hM := (if_pos c8).symm.trans hM
          refine lv_aload_n hx hb dX1_hasPoint_27 rfl (lv_at hl 0 rfl) ?_
          refine lv_iload_n hx hb dX1_hasPoint_28 rfl (lv_at hl 1 rfl) ?_
          refine lv_iload hx hb dX1_hasPoint_29 (lv_at hl 4 rfl) ?_
          obtain ⟨r11, σ10, h9, hM⟩ := bnd_i hM
          refine x_callV (As := [.int x1, .int x4]) (rest := []) hA ⟨hx, hb, hml, hown, hts⟩ (tX1_yOf l D cA ad hJ t (by omega) x1 x4 σ6 _ _ h9) (cwV 2 hts gX1_hasPoint_X1_yOf rfl rfl rfl (by decide +kernel) ⟨(Nat.le_of_ble_eq_true rfl), (Nat.le_of_ble_eq_true rfl)⟩) hK hP hS (KC_ink t (by omega)) rfl rfl hl.1 rfl (Nat.le_of_ble_eq_true rfl) ⟨Nat.zero_le _, Nat.zero_le _⟩ dX1_hasPoint_31 (fun H locs hP hS _ _ => ?_)
          refine lv_iload_n hx hb dX1_hasPoint_34 rfl (lv_at hl 3 rfl) ?_
          refine lv_icmp_ne (tgt := 40) hx hb dX1_hasPoint_35 (by decide) (fun c12 => ?_) (fun c12 => ?_)
          · have hM := (if_neg c12).symm.trans hM
            refine lv_iinc (v := (x4 + 1)) (lv' := [(4, .int (x4 + 1)), (0, .ref (ad (55 + t))), (1, .int x1), (2, .int x2), (3, .int x3)]) hx hb dX1_hasPoint_40 hl (k := 4) rfl rfl (by decide) rfl (fun ls hl => ?_)
            refine lv_goto (tgt := 3) hx hb dX1_hasPoint_43 (by decide) ?_
            exact ih3 _ _ _ _ _ _ _ _ hM hP hS (lv_sub hl [1, 2, 3, 4, 0] rfl)
          · have hM := (if_pos c12).symm.trans hM
            refine lv_iconst (v := 1) hx hb dX1_hasPoint_38 (by decide) ?_
            exact x_zret hx hb hr hlk hP hS hM dX1_hasPoint_39
  unfold mX1_hasPoint at hM
  refine lv_iconst (v := 0) hx hb dX1_hasPoint_0 (by decide) ?_
  refine lv_istore (lv' := [(4, .int 0), (0, .ref (ad (55 + t))), (1, .int u1), (2, .int u2), (3, .int u3)]) hx hb dX1_hasPoint_1 hl (by decide) rfl (fun ls hl => ?_)
  exact L3 fu _ _ _ _ _ _ _ _ hM hP hS (lv_sub hl [1, 2, 3, 4, 0] rfl)
set_option maxHeartbeats 4000000 in
set_option maxRecDepth 100000 in
theorem tX6_isWithin (l : Launch) (D : va_G) (cA : ClassId) (ad : Nat → Nat) (hJ : w_J ad KC) (u0 u1 u2 : Int32) (σ σ' : St) (r : Int32) (hM : mX6_isWithin u0 u1 u2 σ = some (r, σ')) : Ct l yX6_isWithin wsX6_isWithin 0 0 D cA ad KC [.int u0, .int u1, .int u2] σ r σ' := by
  unfold Ct
  refine Met_of (cc := cX6_isWithin) (maxL := 3) (ret := (some .boolean)) hJ (by decide +kernel) rfl (Nat.le_of_ble_eq_true rfl) ?_
  intro p e s m below meth c Z H locs ls hP hS hl
  obtain ⟨hx, hb, hml, hown, hts, hr, hlk, hK, -⟩ := Z
  have hown : s.vm.findClass RX6 = some m.cls := hown
  have hl : lv_has ls 3 [(0, .int u0), (1, .int u1), (2, .int u2)] := hl
  have hA : ∀ q, w_A ad KC q → w_A ad KC q := fun _ h => h
  unfold mX6_isWithin at hM
  refine lv_iload_n hx hb dX6_isWithin_0 rfl (lv_at hl 0 rfl) ?_
  refine lv_iload_n hx hb dX6_isWithin_1 rfl (lv_at hl 1 rfl) ?_
  refine lv_icmp_lt (tgt := 14) hx hb dX6_isWithin_2 (by decide) (fun c1 => ?_) (fun c1 => ?_)
  · have hM := (if_pos c1).symm.trans hM
    refine lv_iconst (v := 0) hx hb dX6_isWithin_14 (by decide) ?_
    exact x_zret hx hb hr hlk hP hS hM dX6_isWithin_15
  · have hM := (if_neg c1).symm.trans hM
    refine lv_iload_n hx hb dX6_isWithin_5 rfl (lv_at hl 0 rfl) ?_
    refine lv_iload_n hx hb dX6_isWithin_6 rfl (lv_at hl 2 rfl) ?_
    refine lv_icmp_gt (tgt := 14) hx hb dX6_isWithin_7 (by decide) (fun c2 => ?_) (fun c2 => ?_)
    · have hM := (if_pos c2).symm.trans hM
      refine lv_iconst (v := 0) hx hb dX6_isWithin_14 (by decide) ?_
      exact x_zret hx hb hr hlk hP hS hM dX6_isWithin_15
    · have hM := (if_neg c2).symm.trans hM
      refine lv_iconst (v := 1) hx hb dX6_isWithin_10 (by decide) ?_
      refine lv_goto (tgt := 15) hx hb dX6_isWithin_11 (by decide) ?_
      exact x_zret hx hb hr hlk hP hS hM dX6_isWithin_15
theorem hinX1_X1_sizeOf : ∀ w ∈ u_ws RX1 TX1 5, w ∈ wsX1_sizeOf := by decide +kernel
set_option maxHeartbeats 4000000 in
set_option maxRecDepth 100000 in
theorem tX1_sizeOf (l : Launch) (D : va_G) (cA : ClassId) (ad : Nat → Nat) (hJ : w_J ad KC) (t : Nat) (ht : t < 2) (u1 : Int32) (σ σ' : St) (r : Int32) (hM : mX1_sizeOf t u1 σ = some (r, σ')) : Ct l yX1_sizeOf wsX1_sizeOf 2 43 D cA ad KC [.ref (ad (55 + t)), .int u1] σ r σ' := by
  unfold Ct
  refine Met_of (cc := cX1_sizeOf) (maxL := 5) (ret := (some .int)) hJ (by decide +kernel) rfl (Nat.le_of_ble_eq_true rfl) ?_
  intro p e s m below meth c Z H locs ls hP hS hl
  obtain ⟨hx, hb, hml, hown, hts, hr, hlk, hK, -⟩ := Z
  have hown : s.vm.findClass RX1 = some m.cls := hown
  have hl : lv_has ls 5 [(0, .ref (ad (55 + t))), (1, .int u1)] := hl
  have hA : ∀ q, w_A ad KC q → w_A ad KC q := fun _ h => h
  have L4 : ∀ (n : Nat) (x1 x2 x3 : Int32) (σ : St) (H : Heap) (locs : List Loc) (ls : Array Slot), mX1_sizeOf_L4 t n x1 x2 x3 σ = some (r, σ') → w_P D cA ad KC σ H → va_S (w_A ad KC) s.heap H locs → lv_has ls 5 [(0, .ref (ad (55 + t))), (1, .int x1), (2, .int x2), (3, .int x3)] → Wm p l e wsX1_sizeOf 2 43 s m ([.ref (ad (55 + t)), .int u1] : List Value).toArray below meth c (w_Qi D cA ad KC r σ') (w_A ad KC) H locs (F0 m 4 ls []) := by
    intro n4
    induction n4 with
    | zero =>
      intro x1 x2 x3 σ H locs ls hM hP hS hl
      rw [mX1_sizeOf_L4] at hM
      cases hM
    | succ n4 ih4 =>
      have b69 : ∀ (x1 x2 x3 y0 : Int32) (σ : St) (H : Heap) (locs : List Loc) (ls : Array Slot), mX1_sizeOf_b69 t (mX1_sizeOf_L4 t n4) x1 x2 x3 y0 σ = some (r, σ') → w_P D cA ad KC σ H → va_S (w_A ad KC) s.heap H locs → lv_has ls 5 [(0, .ref (ad (55 + t))), (1, .int x1), (2, .int x2), (3, .int x3)] → Wm p l e wsX1_sizeOf 2 43 s m ([.ref (ad (55 + t)), .int u1] : List Value).toArray below meth c (w_Qi D cA ad KC r σ') (w_A ad KC) H locs (F0 m 69 ls [.int y0]) := by
        intro x1 x2 x3 y0 σ H locs ls hM hP hS hl
        unfold mX1_sizeOf_b69 at hM
        refine lv_istore (lv' := [(4, .int y0), (0, .ref (ad (55 + t))), (1, .int x1), (2, .int x2), (3, .int x3)]) hx hb dX1_sizeOf_69 hl (by decide) rfl (fun ls hl => ?_)
        refine lv_iload_n hx hb dX1_sizeOf_71 rfl (lv_at hl 3 rfl) ?_
        refine lv_iload hx hb dX1_sizeOf_72 (lv_at hl 0 rfl) ?_
        refine lv_if_eq (tgt := 81) hx hb dX1_sizeOf_74 (by decide) (fun c1 => ?_) (fun c1 => ?_)
        · have hM := (if_pos c1).symm.trans hM
          refine lv_iconst (v := 2) hx hb dX1_sizeOf_81 (by decide) ?_
          refine lv_iadd hx hb dX1_sizeOf_82 ?_
          refine lv_istore_n (lv' := [(2, .int (x2 + 2)), (4, .int y0), (0, .ref (ad (55 + t))), (1, .int x1), (3, .int x3)]) hx hb dX1_sizeOf_83 rfl hl (by decide) rfl (fun ls hl => ?_)
          refine lv_iinc (v := (x3 + 1)) (lv' := [(3, .int (x3 + 1)), (2, .int (x2 + 2)), (4, .int y0), (0, .ref (ad (55 + t))), (1, .int x1)]) hx hb dX1_sizeOf_84 hl (k := 4) rfl rfl (by decide) rfl (fun ls hl => ?_)
          refine lv_goto (tgt := 4) hx hb dX1_sizeOf_87 (by decide) ?_
          exact ih4 _ _ _ _ _ _ _ hM hP hS (lv_sub hl [3, 4, 1, 0] rfl)
        · have hM := (if_neg c1).symm.trans hM
          refine lv_iconst (v := 1) hx hb dX1_sizeOf_77 (by decide) ?_
          refine lv_goto (tgt := 82) hx hb dX1_sizeOf_78 (by decide) ?_
          refine lv_iadd hx hb dX1_sizeOf_82 ?_
          refine lv_istore_n (lv' := [(2, .int (x2 + 1)), (4, .int y0), (0, .ref (ad (55 + t))), (1, .int x1), (3, .int x3)]) hx hb dX1_sizeOf_83 rfl hl (by decide) rfl (fun ls hl => ?_)
          refine lv_iinc (v := (x3 + 1)) (lv' := [(3, .int (x3 + 1)), (2, .int (x2 + 1)), (4, .int y0), (0, .ref (ad (55 + t))), (1, .int x1)]) hx hb dX1_sizeOf_84 hl (k := 4) rfl rfl (by decide) rfl (fun ls hl => ?_)
          refine lv_goto (tgt := 4) hx hb dX1_sizeOf_87 (by decide) ?_
          exact ih4 _ _ _ _ _ _ _ hM hP hS (lv_sub hl [3, 4, 1, 0] rfl)
      have b68 : ∀ (x1 x2 x3 : Int32) (σ : St) (H : Heap) (locs : List Loc) (ls : Array Slot), mX1_sizeOf_b68 t (mX1_sizeOf_L4 t n4) x1 x2 x3 σ = some (r, σ') → w_P D cA ad KC σ H → va_S (w_A ad KC) s.heap H locs → lv_has ls 5 [(0, .ref (ad (55 + t))), (1, .int x1), (2, .int x2), (3, .int x3)] → Wm p l e wsX1_sizeOf 2 43 s m ([.ref (ad (55 + t)), .int u1] : List Value).toArray below meth c (w_Qi D cA ad KC r σ') (w_A ad KC) H locs (F0 m 68 ls []) := by
        intro x1 x2 x3 σ H locs ls hM hP hS hl
        unfold mX1_sizeOf_b68 at hM
        refine lv_iconst (v := 0) hx hb dX1_sizeOf_68 (by decide) ?_
        exact b69 _ _ _ _ _ _ _ _ hM hP hS (lv_sub hl [0, 1, 2, 3] rfl)
      intro x1 x2 x3 σ H locs ls hM hP hS hl
      rw [mX1_sizeOf_L4] at hM
      refine lv_iload_n hx hb dX1_sizeOf_4 rfl (lv_at hl 3 rfl) ?_
      refine lv_aload_n hx hb dX1_sizeOf_5 rfl (lv_at hl 0 rfl) ?_
      refine x_getr (own := RX1) (C := RX1) (T := TX1) (N := 5) hx hb hts hinX1_X1_sizeOf hown hK hP (KC_ink t (by omega)) rfl 0 (by decide) (hts (.fieldLink RX1 14 "StrokeBoard$Ink" "counts" "LStrokeBoard$Row;") (by decide +kernel)) rfl dX1_sizeOf_6 ?_
      refine lv_iload_n hx hb dX1_sizeOf_9 rfl (lv_at hl 1 rfl) ?_
      obtain ⟨r4, σ3, h2, hM⟩ := bnd_i hM
      refine x_callV (As := [.int x1]) (rest := [.int x3]) hA ⟨hx, hb, hml, hown, hts⟩ (tX5_get l D cA ad hJ (6 + 5 * t) (by omega) x1 σ _ _ h2) (cwV 1 hts gX1_sizeOf_X5_get rfl rfl rfl (by decide +kernel) ⟨(Nat.le_of_ble_eq_true rfl), (Nat.le_of_ble_eq_true rfl)⟩) hK hP hS (KC_row (6 + 5 * t) (by omega)) rfl rfl hl.1 rfl (Nat.le_of_ble_eq_true rfl) ⟨Nat.zero_le _, Nat.zero_le _⟩ dX1_sizeOf_10 (fun H locs hP hS _ _ => ?_)
      refine lv_icmp_ge (tgt := 90) hx hb dX1_sizeOf_13 (by decide) (fun c5 => ?_) (fun c5 => ?_)
      · have hM := (if_pos c5).symm.trans hM
        refine lv_iload_n hx hb dX1_sizeOf_90 rfl (lv_at hl 2 rfl) ?_
        exact x_iret hx hb hr hlk hP hS hM dX1_sizeOf_91
      · have hM := (if_neg c5).symm.trans hM
        refine lv_aload_n hx hb dX1_sizeOf_16 rfl (lv_at hl 0 rfl) ?_
        refine lv_iload_n hx hb dX1_sizeOf_17 rfl (lv_at hl 1 rfl) ?_
        refine lv_iload_n hx hb dX1_sizeOf_18 rfl (lv_at hl 3 rfl) ?_
        obtain ⟨r8, σ7, h6, hM⟩ := bnd_i hM
        refine x_callV (As := [.int x1, .int x3]) (rest := []) hA ⟨hx, hb, hml, hown, hts⟩ (tX1_xOf l D cA ad hJ t (by omega) x1 x3 σ3 _ _ h6) (cwV 2 hts gX1_sizeOf_X1_xOf rfl rfl rfl (by decide +kernel) ⟨(Nat.le_of_ble_eq_true rfl), (Nat.le_of_ble_eq_true rfl)⟩) hK hP hS (KC_ink t (by omega)) rfl rfl hl.1 rfl (Nat.le_of_ble_eq_true rfl) ⟨Nat.zero_le _, Nat.zero_le _⟩ dX1_sizeOf_19 (fun H locs hP hS _ _ => ?_)
        refine lv_aload_n hx hb dX1_sizeOf_22 rfl (lv_at hl 0 rfl) ?_
        refine lv_iload_n hx hb dX1_sizeOf_23 rfl (lv_at hl 1 rfl) ?_
        refine lv_iload_n hx hb dX1_sizeOf_24 rfl (lv_at hl 3 rfl) ?_
        refine lv_iconst (v := 1) hx hb dX1_sizeOf_25 (by decide) ?_
        refine lv_isub hx hb dX1_sizeOf_26 ?_
        obtain ⟨r11, σ10, h9, hM⟩ := bnd_i hM
        refine x_callV (As := [.int x1, .int (x3 - 1)]) (rest := [.int r8]) hA ⟨hx, hb, hml, hown, hts⟩ (tX1_xOf l D cA ad hJ t (by omega) x1 (x3 - 1) σ7 _ _ h9) (cwV 2 hts gX1_sizeOf_X1_xOf rfl rfl rfl (by decide +kernel) ⟨(Nat.le_of_ble_eq_true rfl), (Nat.le_of_ble_eq_true rfl)⟩) hK hP hS (KC_ink t (by omega)) rfl rfl hl.1 rfl (Nat.le_of_ble_eq_true rfl) ⟨Nat.zero_le _, Nat.zero_le _⟩ dX1_sizeOf_27 (fun H locs hP hS _ _ => ?_)
        refine lv_isub hx hb dX1_sizeOf_30 ?_
        refine lv_bipush (v := (-4)) hx hb dX1_sizeOf_31 (by decide) ?_
        refine lv_iconst (v := 3) hx hb dX1_sizeOf_33 (by decide) ?_
        obtain ⟨r14, σ13, h12, hM⟩ := bnd_i hM
        refine x_callSN (As := [.int (r8 - r11), .int (-4), .int 3]) (rest := []) hA ⟨hx, hb, hml, hown, hts⟩ (tX6_isWithin l D cA ad hJ (r8 - r11) (-4) 3 σ10 _ _ h12) ⟨va_cnB 3 hts gX1_sizeOf_X6_isWithin_n69 rfl rfl rfl (nw_m (args := #[]) hK.2 5 rfl) (hts (.initialized RX6) (by decide +kernel)) (by decide +kernel) ⟨(Nat.le_of_ble_eq_true rfl), (Nat.le_of_ble_eq_true rfl)⟩, hts (.static yX6_isWithin) (by decide +kernel), trivial⟩ hK hP hS rfl hl.1 rfl (Nat.le_of_ble_eq_true rfl) ⟨Nat.zero_le _, Nat.zero_le _⟩ dX1_sizeOf_34 (fun H locs hP hS => ?_)
        refine lv_if_eq (tgt := 68) hx hb dX1_sizeOf_37 (by decide) (fun c15 => ?_) (fun c15 => ?_)
        · have hM := (if_pos c15).symm.trans hM
          exact b68 _ _ _ _ _ _ _ hM hP hS (lv_sub hl [0, 1, 2, 3] rfl)
        · have hM := (if_neg c15).symm.trans hM
          refine lv_aload_n hx hb dX1_sizeOf_40 rfl (lv_at hl 0 rfl) ?_
          refine lv_iload_n hx hb dX1_sizeOf_41 rfl (lv_at hl 1 rfl) ?_
          refine lv_iload_n hx hb dX1_sizeOf_42 rfl (lv_at hl 3 rfl) ?_
          obtain ⟨r18, σ17, h16, hM⟩ := bnd_i hM
          refine x_callV (As := [.int x1, .int x3]) (rest := []) hA ⟨hx, hb, hml, hown, hts⟩ (tX1_yOf l D cA ad hJ t (by omega) x1 x3 σ13 _ _ h16) (cwV 2 hts gX1_sizeOf_X1_yOf rfl rfl rfl (by decide +kernel) ⟨(Nat.le_of_ble_eq_true rfl), (Nat.le_of_ble_eq_true rfl)⟩) hK hP hS (KC_ink t (by omega)) rfl rfl hl.1 rfl (Nat.le_of_ble_eq_true rfl) ⟨Nat.zero_le _, Nat.zero_le _⟩ dX1_sizeOf_43 (fun H locs hP hS _ _ => ?_)
          refine lv_aload_n hx hb dX1_sizeOf_46 rfl (lv_at hl 0 rfl) ?_
          refine lv_iload_n hx hb dX1_sizeOf_47 rfl (lv_at hl 1 rfl) ?_
          refine lv_iload_n hx hb dX1_sizeOf_48 rfl (lv_at hl 3 rfl) ?_
          refine lv_iconst (v := 1) hx hb dX1_sizeOf_49 (by decide) ?_
          refine lv_isub hx hb dX1_sizeOf_50 ?_
          obtain ⟨r21, σ20, h19, hM⟩ := bnd_i hM
          refine x_callV (As := [.int x1, .int (x3 - 1)]) (rest := [.int r18]) hA ⟨hx, hb, hml, hown, hts⟩ (tX1_yOf l D cA ad hJ t (by omega) x1 (x3 - 1) σ17 _ _ h19) (cwV 2 hts gX1_sizeOf_X1_yOf rfl rfl rfl (by decide +kernel) ⟨(Nat.le_of_ble_eq_true rfl), (Nat.le_of_ble_eq_true rfl)⟩) hK hP hS (KC_ink t (by omega)) rfl rfl hl.1 rfl (Nat.le_of_ble_eq_true rfl) ⟨Nat.zero_le _, Nat.zero_le _⟩ dX1_sizeOf_51 (fun H locs hP hS _ _ => ?_)
          refine lv_isub hx hb dX1_sizeOf_54 ?_
          refine lv_bipush (v := (-4)) hx hb dX1_sizeOf_55 (by decide) ?_
          refine lv_iconst (v := 3) hx hb dX1_sizeOf_57 (by decide) ?_
          obtain ⟨r24, σ23, h22, hM⟩ := bnd_i hM
          refine x_callSN (As := [.int (r18 - r21), .int (-4), .int 3]) (rest := []) hA ⟨hx, hb, hml, hown, hts⟩ (tX6_isWithin l D cA ad hJ (r18 - r21) (-4) 3 σ20 _ _ h22) ⟨va_cnB 3 hts gX1_sizeOf_X6_isWithin_n69 rfl rfl rfl (nw_m (args := #[]) hK.2 5 rfl) (hts (.initialized RX6) (by decide +kernel)) (by decide +kernel) ⟨(Nat.le_of_ble_eq_true rfl), (Nat.le_of_ble_eq_true rfl)⟩, hts (.static yX6_isWithin) (by decide +kernel), trivial⟩ hK hP hS rfl hl.1 rfl (Nat.le_of_ble_eq_true rfl) ⟨Nat.zero_le _, Nat.zero_le _⟩ dX1_sizeOf_58 (fun H locs hP hS => ?_)
          refine lv_if_eq (tgt := 68) hx hb dX1_sizeOf_61 (by decide) (fun c25 => ?_) (fun c25 => ?_)
          · have hM := (if_pos c25).symm.trans hM
            exact b68 _ _ _ _ _ _ _ hM hP hS (lv_sub hl [0, 1, 2, 3] rfl)
          · have hM := (if_neg c25).symm.trans hM
            refine lv_iconst (v := 1) hx hb dX1_sizeOf_64 (by decide) ?_
            refine lv_goto (tgt := 69) hx hb dX1_sizeOf_65 (by decide) ?_
            exact b69 _ _ _ _ _ _ _ _ hM hP hS (lv_sub hl [0, 1, 2, 3] rfl)
  unfold mX1_sizeOf at hM
  refine lv_iconst (v := 4) hx hb dX1_sizeOf_0 (by decide) ?_
  refine lv_istore_n (lv' := [(2, .int 4), (0, .ref (ad (55 + t))), (1, .int u1)]) hx hb dX1_sizeOf_1 rfl hl (by decide) rfl (fun ls hl => ?_)
  refine lv_iconst (v := 1) hx hb dX1_sizeOf_2 (by decide) ?_
  refine lv_istore_n (lv' := [(3, .int 1), (2, .int 4), (0, .ref (ad (55 + t))), (1, .int u1)]) hx hb dX1_sizeOf_3 rfl hl (by decide) rfl (fun ls hl => ?_)
  exact L4 fu _ _ _ _ _ _ _ hM hP hS (lv_sub hl [2, 3, 1, 0] rfl)
theorem hinX2_X2_clear : ∀ w ∈ u_ws RX2 TX2 1, w ∈ wsX2_clear := by decide +kernel
set_option maxHeartbeats 4000000 in
set_option maxRecDepth 100000 in
theorem tX2_clear (l : Launch) (D : va_G) (cA : ClassId) (ad : Nat → Nat) (hJ : w_J ad KC) (g : Nat) (hg : g < 2) (σ σ' : St) (hM : mX2_clear g σ = some σ') : Cv l yX2_clear wsX2_clear 1 22 D cA ad KC [.ref (ad (57 + g))] σ σ' := by
  unfold Cv
  refine Met_of (cc := cX2_clear) (maxL := 1) (ret := none) hJ (by decide +kernel) rfl (Nat.le_of_ble_eq_true rfl) ?_
  intro p e s m below meth c Z H locs ls hP hS hl
  obtain ⟨hx, hb, hml, hown, hts, hr, hlk, hK, -⟩ := Z
  have hown : s.vm.findClass RX2 = some m.cls := hown
  have hl : lv_has ls 1 [(0, .ref (ad (57 + g)))] := hl
  have hA : ∀ q, w_A ad KC q → w_A ad KC q := fun _ h => h
  unfold mX2_clear at hM
  refine lv_aload_n hx hb dX2_clear_0 rfl (lv_at hl 0 rfl) ?_
  refine x_getr (own := RX2) (C := RX2) (T := TX2) (N := 1) hx hb hts hinX2_X2_clear hown hK hP (KC_kno g (by omega)) rfl 0 (by decide) (hts (.fieldLink RX2 14 "StrokeBoard$Knowledge" "known" "LStrokeBoard$Row;") (by decide +kernel)) rfl dX2_clear_1 ?_
  refine lv_iconst (v := 0) hx hb dX2_clear_4 (by decide) ?_
  obtain ⟨σ2, h1, hM⟩ := bnv_i hM
  refine x_callVv (As := [.int 0]) (rest := []) hA ⟨hx, hb, hml, hown, hts⟩ (tX5_fill l D cA ad hJ (16 + g) (by omega) 0 σ _ h1) (cwV 1 hts gX2_clear_X5_fill rfl rfl rfl (by decide +kernel) ⟨(Nat.le_of_ble_eq_true rfl), (Nat.le_of_ble_eq_true rfl)⟩) hK hP hS (KC_row (16 + g) (by omega)) rfl rfl hl.1 rfl (Nat.le_of_ble_eq_true rfl) ⟨Nat.zero_le _, Nat.zero_le _⟩ dX2_clear_5 (fun H locs hP hS _ _ => ?_)
  exact x_vret hx hb hr hlk hP hS hM dX2_clear_8
theorem hinX2_X2_copyFrom : ∀ w ∈ u_ws RX2 TX2 1, w ∈ wsX2_copyFrom := by decide +kernel
set_option maxHeartbeats 4000000 in
set_option maxRecDepth 100000 in
theorem tX2_copyFrom (l : Launch) (D : va_G) (cA : ClassId) (ad : Nat → Nat) (hJ : w_J ad KC) (g : Nat) (hg : g < 2) (g2 : Nat) (hg2 : g2 < 2) (σ σ' : St) (hM : mX2_copyFrom g g2 σ = some σ') : Cv l yX2_copyFrom wsX2_copyFrom 2 43 D cA ad KC [.ref (ad (57 + g)), .ref (ad (57 + g2))] σ σ' := by
  unfold Cv
  refine Met_of (cc := cX2_copyFrom) (maxL := 2) (ret := none) hJ (by decide +kernel) rfl (Nat.le_of_ble_eq_true rfl) ?_
  intro p e s m below meth c Z H locs ls hP hS hl
  obtain ⟨hx, hb, hml, hown, hts, hr, hlk, hK, -⟩ := Z
  have hown : s.vm.findClass RX2 = some m.cls := hown
  have hl : lv_has ls 2 [(0, .ref (ad (57 + g))), (1, .ref (ad (57 + g2)))] := hl
  have hA : ∀ q, w_A ad KC q → w_A ad KC q := fun _ h => h
  unfold mX2_copyFrom at hM
  refine lv_aload_n hx hb dX2_copyFrom_0 rfl (lv_at hl 0 rfl) ?_
  refine x_getr (own := RX2) (C := RX2) (T := TX2) (N := 1) hx hb hts hinX2_X2_copyFrom hown hK hP (KC_kno g (by omega)) rfl 0 (by decide) (hts (.fieldLink RX2 14 "StrokeBoard$Knowledge" "known" "LStrokeBoard$Row;") (by decide +kernel)) rfl dX2_copyFrom_1 ?_
  refine lv_aload_n hx hb dX2_copyFrom_4 rfl (lv_at hl 1 rfl) ?_
  refine x_getr (own := RX2) (C := RX2) (T := TX2) (N := 1) hx hb hts hinX2_X2_copyFrom hown hK hP (KC_kno g2 (by omega)) rfl 0 (by decide) (hts (.fieldLink RX2 14 "StrokeBoard$Knowledge" "known" "LStrokeBoard$Row;") (by decide +kernel)) rfl dX2_copyFrom_5 ?_
  obtain ⟨σ2, h1, hM⟩ := bnv_i hM
  refine x_callVv (As := [.ref (ad (2 * (16 + g2)))]) (rest := []) hA ⟨hx, hb, hml, hown, hts⟩ (tX5_copyFrom l D cA ad hJ (16 + g) (by omega) (16 + g2) (by omega) σ _ h1) (cwV 1 hts gX2_copyFrom_X5_copyFrom rfl rfl rfl (by decide +kernel) ⟨(Nat.le_of_ble_eq_true rfl), (Nat.le_of_ble_eq_true rfl)⟩) hK hP hS (KC_row (16 + g) (by omega)) rfl rfl hl.1 rfl (Nat.le_of_ble_eq_true rfl) ⟨Nat.zero_le _, Nat.zero_le _⟩ dX2_copyFrom_8 (fun H locs hP hS _ _ => ?_)
  exact x_vret hx hb hr hlk hP hS hM dX2_copyFrom_11
theorem hinX2_X2_learn : ∀ w ∈ u_ws RX2 TX2 1, w ∈ wsX2_learn := by decide +kernel
set_option maxHeartbeats 4000000 in
set_option maxRecDepth 100000 in
theorem tX2_learn (l : Launch) (D : va_G) (cA : ClassId) (ad : Nat → Nat) (hJ : w_J ad KC) (g : Nat) (hg : g < 2) (u1 u2 : Int32) (σ σ' : St) (hM : mX2_learn g u1 u2 σ = some σ') : Cv l yX2_learn wsX2_learn 1 22 D cA ad KC [.ref (ad (57 + g)), .int u1, .int u2] σ σ' := by
  unfold Cv
  refine Met_of (cc := cX2_learn) (maxL := 3) (ret := none) hJ (by decide +kernel) rfl (Nat.le_of_ble_eq_true rfl) ?_
  intro p e s m below meth c Z H locs ls hP hS hl
  obtain ⟨hx, hb, hml, hown, hts, hr, hlk, hK, -⟩ := Z
  have hown : s.vm.findClass RX2 = some m.cls := hown
  have hl : lv_has ls 3 [(0, .ref (ad (57 + g))), (1, .int u1), (2, .int u2)] := hl
  have hA : ∀ q, w_A ad KC q → w_A ad KC q := fun _ h => h
  unfold mX2_learn at hM
  refine lv_aload_n hx hb dX2_learn_0 rfl (lv_at hl 0 rfl) ?_
  refine x_getr (own := RX2) (C := RX2) (T := TX2) (N := 1) hx hb hts hinX2_X2_learn hown hK hP (KC_kno g (by omega)) rfl 0 (by decide) (hts (.fieldLink RX2 14 "StrokeBoard$Knowledge" "known" "LStrokeBoard$Row;") (by decide +kernel)) rfl dX2_learn_1 ?_
  refine lv_iload_n hx hb dX2_learn_4 rfl (lv_at hl 1 rfl) ?_
  refine lv_bipush (v := 100) hx hb dX2_learn_5 (by decide) ?_
  refine lv_imul hx hb dX2_learn_7 ?_
  refine lv_iload_n hx hb dX2_learn_8 rfl (lv_at hl 2 rfl) ?_
  refine lv_iadd hx hb dX2_learn_9 ?_
  refine lv_iconst (v := 1) hx hb dX2_learn_10 (by decide) ?_
  obtain ⟨σ2, h1, hM⟩ := bnv_i hM
  refine x_callVv (As := [.int ((u1 * 100) + u2), .int 1]) (rest := []) hA ⟨hx, hb, hml, hown, hts⟩ (tX5_set l D cA ad hJ (16 + g) (by omega) ((u1 * 100) + u2) 1 σ _ h1) (cwV 2 hts gX2_learn_X5_set rfl rfl rfl (by decide +kernel) ⟨(Nat.le_of_ble_eq_true rfl), (Nat.le_of_ble_eq_true rfl)⟩) hK hP hS (KC_row (16 + g) (by omega)) rfl rfl hl.1 rfl (Nat.le_of_ble_eq_true rfl) ⟨Nat.zero_le _, Nat.zero_le _⟩ dX2_learn_11 (fun H locs hP hS _ _ => ?_)
  exact x_vret hx hb hr hlk hP hS hM dX2_learn_14
set_option maxHeartbeats 4000000 in
set_option maxRecDepth 100000 in
theorem tX2_countOf (l : Launch) (D : va_G) (cA : ClassId) (ad : Nat → Nat) (hJ : w_J ad KC) (g : Nat) (hg : g < 2) (u1 : Int32) (σ σ' : St) (r : Int32) (hM : mX2_countOf g u1 σ = some (r, σ')) : Ct l yX2_countOf wsX2_countOf 2 43 D cA ad KC [.ref (ad (57 + g)), .int u1] σ r σ' := by
  unfold Ct
  refine Met_of (cc := cX2_countOf) (maxL := 4) (ret := (some .int)) hJ (by decide +kernel) rfl (Nat.le_of_ble_eq_true rfl) ?_
  intro p e s m below meth c Z H locs ls hP hS hl
  obtain ⟨hx, hb, hml, hown, hts, hr, hlk, hK, -⟩ := Z
  have hown : s.vm.findClass RX2 = some m.cls := hown
  have hl : lv_has ls 4 [(0, .ref (ad (57 + g))), (1, .int u1)] := hl
  have hA : ∀ q, w_A ad KC q → w_A ad KC q := fun _ h => h
  have L4 : ∀ (n : Nat) (x1 x2 x3 : Int32) (σ : St) (H : Heap) (locs : List Loc) (ls : Array Slot), mX2_countOf_L4 g n x1 x2 x3 σ = some (r, σ') → w_P D cA ad KC σ H → va_S (w_A ad KC) s.heap H locs → lv_has ls 4 [(0, .ref (ad (57 + g))), (1, .int x1), (2, .int x2), (3, .int x3)] → Wm p l e wsX2_countOf 2 43 s m ([.ref (ad (57 + g)), .int u1] : List Value).toArray below meth c (w_Qi D cA ad KC r σ') (w_A ad KC) H locs (F0 m 4 ls []) := by
    intro n4
    induction n4 with
    | zero =>
      intro x1 x2 x3 σ H locs ls hM hP hS hl
      rw [mX2_countOf_L4] at hM
      cases hM
    | succ n4 ih4 =>
      intro x1 x2 x3 σ H locs ls hM hP hS hl
      rw [mX2_countOf_L4] at hM
      refine lv_iload_n hx hb dX2_countOf_4 rfl (lv_at hl 3 rfl) ?_
      refine lv_bipush (v := 100) hx hb dX2_countOf_5 (by decide) ?_
      refine lv_icmp_ge (tgt := 33) hx hb dX2_countOf_7 (by decide) (fun c1 => ?_) (fun c1 => ?_)
      · have hM := (if_pos c1).symm.trans hM
        refine lv_iload_n hx hb dX2_countOf_33 rfl (lv_at hl 2 rfl) ?_
        exact x_iret hx hb hr hlk hP hS hM dX2_countOf_34
      · have hM := (if_neg c1).symm.trans hM
        refine lv_iload_n hx hb dX2_countOf_10 rfl (lv_at hl 2 rfl) ?_
        refine lv_aload_n hx hb dX2_countOf_11 rfl (lv_at hl 0 rfl) ?_
        refine lv_iload_n hx hb dX2_countOf_12 rfl (lv_at hl 1 rfl) ?_
        refine lv_iload_n hx hb dX2_countOf_13 rfl (lv_at hl 3 rfl) ?_
        obtain ⟨r4, σ3, h2, hM⟩ := bnd_i hM
        refine x_callV (As := [.int x1, .int x3]) (rest := [.int x2]) hA ⟨hx, hb, hml, hown, hts⟩ (tX2_has l D cA ad hJ g (by omega) x1 x3 σ _ _ h2) (cwV 2 hts gX2_countOf_X2_has rfl rfl rfl (by decide +kernel) ⟨(Nat.le_of_ble_eq_true rfl), (Nat.le_of_ble_eq_true rfl)⟩) hK hP hS (KC_kno g (by omega)) rfl rfl hl.1 rfl (Nat.le_of_ble_eq_true rfl) ⟨Nat.zero_le _, Nat.zero_le _⟩ dX2_countOf_14 (fun H locs hP hS _ _ => ?_)
        refine lv_if_eq (tgt := 24) hx hb dX2_countOf_17 (by decide) (fun c5 => ?_) (fun c5 => ?_)
        · have hM := (if_pos c5).symm.trans hM
          refine lv_iconst (v := 0) hx hb dX2_countOf_24 (by decide) ?_
          refine lv_iadd hx hb dX2_countOf_25 ?_
          refine lv_istore_n (lv' := [(2, .int (x2 + 0)), (0, .ref (ad (57 + g))), (1, .int x1), (3, .int x3)]) hx hb dX2_countOf_26 rfl hl (by decide) rfl (fun ls hl => ?_)
          refine lv_iinc (v := (x3 + 1)) (lv' := [(3, .int (x3 + 1)), (2, .int (x2 + 0)), (0, .ref (ad (57 + g))), (1, .int x1)]) hx hb dX2_countOf_27 hl (k := 3) rfl rfl (by decide) rfl (fun ls hl => ?_)
          refine lv_goto (tgt := 4) hx hb dX2_countOf_30 (by decide) ?_
          exact ih4 _ _ _ _ _ _ _ hM hP hS (lv_sub hl [2, 3, 1, 0] rfl)
        · have hM := (if_neg c5).symm.trans hM
          refine lv_iconst (v := 1) hx hb dX2_countOf_20 (by decide) ?_
          refine lv_goto (tgt := 25) hx hb dX2_countOf_21 (by decide) ?_
          refine lv_iadd hx hb dX2_countOf_25 ?_
          refine lv_istore_n (lv' := [(2, .int (x2 + 1)), (0, .ref (ad (57 + g))), (1, .int x1), (3, .int x3)]) hx hb dX2_countOf_26 rfl hl (by decide) rfl (fun ls hl => ?_)
          refine lv_iinc (v := (x3 + 1)) (lv' := [(3, .int (x3 + 1)), (2, .int (x2 + 1)), (0, .ref (ad (57 + g))), (1, .int x1)]) hx hb dX2_countOf_27 hl (k := 3) rfl rfl (by decide) rfl (fun ls hl => ?_)
          refine lv_goto (tgt := 4) hx hb dX2_countOf_30 (by decide) ?_
          exact ih4 _ _ _ _ _ _ _ hM hP hS (lv_sub hl [2, 3, 1, 0] rfl)
  unfold mX2_countOf at hM
  refine lv_iconst (v := 0) hx hb dX2_countOf_0 (by decide) ?_
  refine lv_istore_n (lv' := [(2, .int 0), (0, .ref (ad (57 + g))), (1, .int u1)]) hx hb dX2_countOf_1 rfl hl (by decide) rfl (fun ls hl => ?_)
  refine lv_iconst (v := 0) hx hb dX2_countOf_2 (by decide) ?_
  refine lv_istore_n (lv' := [(3, .int 0), (2, .int 0), (0, .ref (ad (57 + g))), (1, .int u1)]) hx hb dX2_countOf_3 rfl hl (by decide) rfl (fun ls hl => ?_)
  exact L4 fu _ _ _ _ _ _ _ hM hP hS (lv_sub hl [2, 3, 1, 0] rfl)
set_option maxHeartbeats 4000000 in
set_option maxRecDepth 100000 in
theorem tX6_idOf (l : Launch) (D : va_G) (cA : ClassId) (ad : Nat → Nat) (hJ : w_J ad KC) (u0 u1 : Int32) (σ σ' : St) (r : Int32) (hM : mX6_idOf u0 u1 σ = some (r, σ')) : Ct l yX6_idOf wsX6_idOf 0 0 D cA ad KC [.int u0, .int u1] σ r σ' := by
  unfold Ct
  refine Met_of (cc := cX6_idOf) (maxL := 2) (ret := (some .int)) hJ (by decide +kernel) rfl (Nat.le_of_ble_eq_true rfl) ?_
  intro p e s m below meth c Z H locs ls hP hS hl
  obtain ⟨hx, hb, hml, hown, hts, hr, hlk, hK, -⟩ := Z
  have hown : s.vm.findClass RX6 = some m.cls := hown
  have hl : lv_has ls 2 [(0, .int u0), (1, .int u1)] := hl
  have hA : ∀ q, w_A ad KC q → w_A ad KC q := fun _ h => h
  unfold mX6_idOf at hM
  refine lv_iload_n hx hb dX6_idOf_0 rfl (lv_at hl 0 rfl) ?_
  refine lv_bipush (v := 20) hx hb dX6_idOf_1 (by decide) ?_
  refine lv_imul hx hb dX6_idOf_3 ?_
  refine lv_iload_n hx hb dX6_idOf_4 rfl (lv_at hl 1 rfl) ?_
  refine lv_iadd hx hb dX6_idOf_5 ?_
  refine lv_iconst (v := 1) hx hb dX6_idOf_6 (by decide) ?_
  refine lv_isub hx hb dX6_idOf_7 ?_
  exact x_iret hx hb hr hlk hP hS hM dX6_idOf_8
set_option maxHeartbeats 4000000 in
set_option maxRecDepth 100000 in
theorem tX2_hasLaterOfAuthor (l : Launch) (D : va_G) (cA : ClassId) (ad : Nat → Nat) (hJ : w_J ad KC) (g : Nat) (hg : g < 2) (u1 u2 : Int32) (σ σ' : St) (r : Int32) (hM : mX2_hasLaterOfAuthor g u1 u2 σ = some (r, σ')) : Ct l yX2_hasLaterOfAuthor wsX2_hasLaterOfAuthor 2 43 D cA ad KC [.ref (ad (57 + g)), .int u1, .int u2] σ r σ' := by
  unfold Ct
  refine Met_of (cc := cX2_hasLaterOfAuthor) (maxL := 5) (ret := (some .boolean)) hJ (by decide +kernel) rfl (Nat.le_of_ble_eq_true rfl) ?_
  intro p e s m below meth c Z H locs ls hP hS hl
  obtain ⟨hx, hb, hml, hown, hts, hr, hlk, hK, -⟩ := Z
  have hown : s.vm.findClass RX2 = some m.cls := hown
  have hl : lv_has ls 5 [(0, .ref (ad (57 + g))), (1, .int u1), (2, .int u2)] := hl
  have hA : ∀ q, w_A ad KC q → w_A ad KC q := fun _ h => h
  have L13 : ∀ (n : Nat) (x1 x3 x4 : Int32) (σ : St) (H : Heap) (locs : List Loc) (ls : Array Slot), mX2_hasLaterOfAuthor_L13 g n x1 x3 x4 σ = some (r, σ') → w_P D cA ad KC σ H → va_S (w_A ad KC) s.heap H locs → lv_has ls 5 [(0, .ref (ad (57 + g))), (1, .int x1), (3, .int x3), (4, .int x4)] → Wm p l e wsX2_hasLaterOfAuthor 2 43 s m ([.ref (ad (57 + g)), .int u1, .int u2] : List Value).toArray below meth c (w_Qi D cA ad KC r σ') (w_A ad KC) H locs (F0 m 13 ls []) := by
    intro n13
    induction n13 with
    | zero =>
      intro x1 x3 x4 σ H locs ls hM hP hS hl
      rw [mX2_hasLaterOfAuthor_L13] at hM
      cases hM
    | succ n13 ih13 =>
      intro x1 x3 x4 σ H locs ls hM hP hS hl
      rw [mX2_hasLaterOfAuthor_L13] at hM
      refine lv_iload hx hb dX2_hasLaterOfAuthor_13 (lv_at hl 3 rfl) ?_
      refine lv_bipush (v := 20) hx hb dX2_hasLaterOfAuthor_15 (by decide) ?_
      refine lv_icmp_gt (tgt := 42) hx hb dX2_hasLaterOfAuthor_17 (by decide) (fun c1 => ?_) (fun c1 => ?_)
      · have hM := (if_pos c1).symm.trans hM
        refine lv_iconst (v := 0) hx hb dX2_hasLaterOfAuthor_42 (by decide) ?_
        exact x_zret hx hb hr hlk hP hS hM dX2_hasLaterOfAuthor_43
      · have hM := (if_neg c1).symm.trans hM
        refine lv_aload_n hx hb dX2_hasLaterOfAuthor_20 rfl (lv_at hl 0 rfl) ?_
        refine lv_iload_n hx hb dX2_hasLaterOfAuthor_21 rfl (lv_at hl 1 rfl) ?_
        refine lv_iload_n hx hb dX2_hasLaterOfAuthor_22 rfl (lv_at hl 2 rfl) ?_
        refine lv_iload hx hb dX2_hasLaterOfAuthor_23 (lv_at hl 3 rfl) ?_
        obtain ⟨r4, σ3, h2, hM⟩ := bnd_i hM
        refine x_callSN (As := [.int x3, .int x4]) (rest := [.int x1, .ref (ad (57 + g))]) hA ⟨hx, hb, hml, hown, hts⟩ (tX6_idOf l D cA ad hJ x3 x4 σ _ _ h2) ⟨va_cnB 2 hts gX2_hasLaterOfAuthor_X6_idOf_n48 rfl rfl rfl (nw_m (args := #[]) hK.2 4 rfl) (hts (.initialized RX6) (by decide +kernel)) (by decide +kernel) ⟨(Nat.le_of_ble_eq_true rfl), (Nat.le_of_ble_eq_true rfl)⟩, hts (.static yX6_idOf) (by decide +kernel), trivial⟩ hK hP hS rfl hl.1 rfl (Nat.le_of_ble_eq_true rfl) ⟨Nat.zero_le _, Nat.zero_le _⟩ dX2_hasLaterOfAuthor_25 (fun H locs hP hS => ?_)
        obtain ⟨r7, σ6, h5, hM⟩ := bnd_i hM
        refine x_callV (As := [.int x1, .int r4]) (rest := []) hA ⟨hx, hb, hml, hown, hts⟩ (tX2_has l D cA ad hJ g (by omega) x1 r4 σ3 _ _ h5) (cwV 2 hts gX2_hasLaterOfAuthor_X2_has rfl rfl rfl (by decide +kernel) ⟨(Nat.le_of_ble_eq_true rfl), (Nat.le_of_ble_eq_true rfl)⟩) hK hP hS (KC_kno g (by omega)) rfl rfl hl.1 rfl (Nat.le_of_ble_eq_true rfl) ⟨Nat.zero_le _, Nat.zero_le _⟩ dX2_hasLaterOfAuthor_28 (fun H locs hP hS _ _ => ?_)
        refine lv_if_eq (tgt := 36) hx hb dX2_hasLaterOfAuthor_31 (by decide) (fun c8 => ?_) (fun c8 => ?_)
        · have hM := (if_pos c8).symm.trans hM
          refine lv_iinc (v := (x4 + 1)) (lv' := [(4, .int (x4 + 1)), (0, .ref (ad (57 + g))), (1, .int x1), (3, .int x3)]) hx hb dX2_hasLaterOfAuthor_36 hl (k := 3) rfl rfl (by decide) rfl (fun ls hl => ?_)
          refine lv_goto (tgt := 13) hx hb dX2_hasLaterOfAuthor_39 (by decide) ?_
          exact ih13 _ _ _ _ _ _ _ hM hP hS (lv_sub hl [1, 2, 3, 0] rfl)
        · have hM := (if_neg c8).symm.trans hM
          refine lv_iconst (v := 1) hx hb dX2_hasLaterOfAuthor_34 (by decide) ?_
          exact x_zret hx hb hr hlk hP hS hM dX2_hasLaterOfAuthor_35
  unfold mX2_hasLaterOfAuthor at hM
  refine lv_iload_n hx hb dX2_hasLaterOfAuthor_0 rfl (lv_at hl 2 rfl) ?_
  obtain ⟨r11, σ10, h9, hM⟩ := bnd_i hM
  refine x_callSN (As := [.int u2]) (rest := []) hA ⟨hx, hb, hml, hown, hts⟩ (tX6_authorOf l D cA ad hJ u2 σ _ _ h9) ⟨va_cnB 1 hts gX2_hasLaterOfAuthor_X6_authorOf_n42 rfl rfl rfl (nw_m (args := #[]) hK.2 2 rfl) (hts (.initialized RX6) (by decide +kernel)) (by decide +kernel) ⟨(Nat.le_of_ble_eq_true rfl), (Nat.le_of_ble_eq_true rfl)⟩, hts (.static yX6_authorOf) (by decide +kernel), trivial⟩ hK hP hS rfl hl.1 rfl (Nat.le_of_ble_eq_true rfl) ⟨Nat.zero_le _, Nat.zero_le _⟩ dX2_hasLaterOfAuthor_1 (fun H locs hP hS => ?_)
  refine lv_istore_n (lv' := [(3, .int r11), (0, .ref (ad (57 + g))), (1, .int u1), (2, .int u2)]) hx hb dX2_hasLaterOfAuthor_4 rfl hl (by decide) rfl (fun ls hl => ?_)
  refine lv_iload_n hx hb dX2_hasLaterOfAuthor_5 rfl (lv_at hl 3 rfl) ?_
  obtain ⟨r14, σ13, h12, hM⟩ := bnd_i hM
  refine x_callSN (As := [.int u2]) (rest := []) hA ⟨hx, hb, hml, hown, hts⟩ (tX6_numberOf l D cA ad hJ u2 σ10 _ _ h12) ⟨va_cnB 1 hts gX2_hasLaterOfAuthor_X6_numberOf_n45 rfl rfl rfl (nw_m (args := #[]) hK.2 3 rfl) (hts (.initialized RX6) (by decide +kernel)) (by decide +kernel) ⟨(Nat.le_of_ble_eq_true rfl), (Nat.le_of_ble_eq_true rfl)⟩, hts (.static yX6_numberOf) (by decide +kernel), trivial⟩ hK hP hS rfl hl.1 rfl (Nat.le_of_ble_eq_true rfl) ⟨Nat.zero_le _, Nat.zero_le _⟩ dX2_hasLaterOfAuthor_6 (fun H locs hP hS => ?_)
  refine lv_iconst (v := 1) hx hb dX2_hasLaterOfAuthor_9 (by decide) ?_
  refine lv_iadd hx hb dX2_hasLaterOfAuthor_10 ?_
  refine lv_istore (lv' := [(4, .int (r14 + 1)), (3, .int r11), (0, .ref (ad (57 + g))), (1, .int u1), (2, .int u2)]) hx hb dX2_hasLaterOfAuthor_11 hl (by decide) rfl (fun ls hl => ?_)
  exact L13 fu _ _ _ _ _ _ _ hM hP hS (lv_sub hl [2, 3, 1, 0] rfl)
set_option maxHeartbeats 4000000 in
set_option maxRecDepth 100000 in
theorem tX2_isInGap (l : Launch) (D : va_G) (cA : ClassId) (ad : Nat → Nat) (hJ : w_J ad KC) (g : Nat) (hg : g < 2) (u1 u2 : Int32) (σ σ' : St) (r : Int32) (hM : mX2_isInGap g u1 u2 σ = some (r, σ')) : Ct l yX2_isInGap wsX2_isInGap 3 67 D cA ad KC [.ref (ad (57 + g)), .int u1, .int u2] σ r σ' := by
  unfold Ct
  refine Met_of (cc := cX2_isInGap) (maxL := 3) (ret := (some .boolean)) hJ (by decide +kernel) rfl (Nat.le_of_ble_eq_true rfl) ?_
  intro p e s m below meth c Z H locs ls hP hS hl
  obtain ⟨hx, hb, hml, hown, hts, hr, hlk, hK, -⟩ := Z
  have hown : s.vm.findClass RX2 = some m.cls := hown
  have hl : lv_has ls 3 [(0, .ref (ad (57 + g))), (1, .int u1), (2, .int u2)] := hl
  have hA : ∀ q, w_A ad KC q → w_A ad KC q := fun _ h => h
  unfold mX2_isInGap at hM
  refine lv_aload_n hx hb dX2_isInGap_0 rfl (lv_at hl 0 rfl) ?_
  refine lv_iload_n hx hb dX2_isInGap_1 rfl (lv_at hl 1 rfl) ?_
  refine lv_iload_n hx hb dX2_isInGap_2 rfl (lv_at hl 2 rfl) ?_
  obtain ⟨r3, σ2, h1, hM⟩ := bnd_i hM
  refine x_callV (As := [.int u1, .int u2]) (rest := []) hA ⟨hx, hb, hml, hown, hts⟩ (tX2_has l D cA ad hJ g (by omega) u1 u2 σ _ _ h1) (cwV 2 hts gX2_isInGap_X2_has rfl rfl rfl (by decide +kernel) ⟨(Nat.le_of_ble_eq_true rfl), (Nat.le_of_ble_eq_true rfl)⟩) hK hP hS (KC_kno g (by omega)) rfl rfl hl.1 rfl (Nat.le_of_ble_eq_true rfl) ⟨Nat.zero_le _, Nat.zero_le _⟩ dX2_isInGap_3 (fun H locs hP hS _ _ => ?_)
  refine lv_if_ne (tgt := 22) hx hb dX2_isInGap_6 (by decide) (fun c4 => ?_) (fun c4 => ?_)
  · have hM := (if_neg c4).symm.trans hM
    refine lv_iconst (v := 0) hx hb dX2_isInGap_22 (by decide) ?_
    exact x_zret hx hb hr hlk hP hS hM dX2_isInGap_23
  · have hM := (if_pos c4).symm.trans hM
    refine lv_aload_n hx hb dX2_isInGap_9 rfl (lv_at hl 0 rfl) ?_
    refine lv_iload_n hx hb dX2_isInGap_10 rfl (lv_at hl 1 rfl) ?_
    refine lv_iload_n hx hb dX2_isInGap_11 rfl (lv_at hl 2 rfl) ?_
    obtain ⟨r7, σ6, h5, hM⟩ := bnd_i hM
    refine x_callV (As := [.int u1, .int u2]) (rest := []) hA ⟨hx, hb, hml, hown, hts⟩ (tX2_hasLaterOfAuthor l D cA ad hJ g (by omega) u1 u2 σ2 _ _ h5) (cwV 2 hts gX2_isInGap_X2_hasLaterOfAuthor rfl rfl rfl (by decide +kernel) ⟨(Nat.le_of_ble_eq_true rfl), (Nat.le_of_ble_eq_true rfl)⟩) hK hP hS (KC_kno g (by omega)) rfl rfl hl.1 rfl (Nat.le_of_ble_eq_true rfl) ⟨Nat.zero_le _, Nat.zero_le _⟩ dX2_isInGap_12 (fun H locs hP hS _ _ => ?_)
    refine lv_if_eq (tgt := 22) hx hb dX2_isInGap_15 (by decide) (fun c8 => ?_) (fun c8 => ?_)
    · have hM := (if_pos c8).symm.trans hM
      refine lv_iconst (v := 0) hx hb dX2_isInGap_22 (by decide) ?_
      exact x_zret hx hb hr hlk hP hS hM dX2_isInGap_23
    · have hM := (if_neg c8).symm.trans hM
      refine lv_iconst (v := 1) hx hb dX2_isInGap_18 (by decide) ?_
      refine lv_goto (tgt := 23) hx hb dX2_isInGap_19 (by decide) ?_
      exact x_zret hx hb hr hlk hP hS hM dX2_isInGap_23
theorem hinX3_X3_clear : ∀ w ∈ u_ws RX3 TX3 2, w ∈ wsX3_clear := by decide +kernel
set_option maxHeartbeats 4000000 in
set_option maxRecDepth 100000 in
theorem tX3_clear (l : Launch) (D : va_G) (cA : ClassId) (ad : Nat → Nat) (hJ : w_J ad KC) (σ σ' : St) (hM : mX3_clear σ = some σ') : Cv l yX3_clear wsX3_clear 1 22 D cA ad KC [.ref (ad 59)] σ σ' := by
  unfold Cv
  refine Met_of (cc := cX3_clear) (maxL := 1) (ret := none) hJ (by decide +kernel) rfl (Nat.le_of_ble_eq_true rfl) ?_
  intro p e s m below meth c Z H locs ls hP hS hl
  obtain ⟨hx, hb, hml, hown, hts, hr, hlk, hK, -⟩ := Z
  have hown : s.vm.findClass RX3 = some m.cls := hown
  have hl : lv_has ls 1 [(0, .ref (ad 59))] := hl
  have hA : ∀ q, w_A ad KC q → w_A ad KC q := fun _ h => h
  unfold mX3_clear at hM
  refine lv_aload_n hx hb dX3_clear_0 rfl (lv_at hl 0 rfl) ?_
  refine x_getr (own := RX3) (C := RX3) (T := TX3) (N := 2) hx hb hts hinX3_X3_clear hown hK hP KC_lnk rfl 0 (by decide) (hts (.fieldLink RX3 14 "StrokeBoard$Links" "counts" "LStrokeBoard$Row;") (by decide +kernel)) rfl dX3_clear_1 ?_
  refine lv_iconst (v := 0) hx hb dX3_clear_4 (by decide) ?_
  obtain ⟨σ2, h1, hM⟩ := bnv_i hM
  refine x_callVv (As := [.int 0]) (rest := []) hA ⟨hx, hb, hml, hown, hts⟩ (tX5_fill l D cA ad hJ 18 (by omega) 0 σ _ h1) (cwV 1 hts gX3_clear_X5_fill rfl rfl rfl (by decide +kernel) ⟨(Nat.le_of_ble_eq_true rfl), (Nat.le_of_ble_eq_true rfl)⟩) hK hP hS (KC_row 18 (by omega)) rfl rfl hl.1 rfl (Nat.le_of_ble_eq_true rfl) ⟨Nat.zero_le _, Nat.zero_le _⟩ dX3_clear_5 (fun H locs hP hS _ _ => ?_)
  exact x_vret hx hb hr hlk hP hS hM dX3_clear_8
theorem hinX3_X3_send : ∀ w ∈ u_ws RX3 TX3 2, w ∈ wsX3_send := by decide +kernel
set_option maxHeartbeats 4000000 in
set_option maxRecDepth 100000 in
theorem tX3_send (l : Launch) (D : va_G) (cA : ClassId) (ad : Nat → Nat) (hJ : w_J ad KC) (u1 u2 u3 : Int32) (σ σ' : St) (hM : mX3_send u1 u2 u3 σ = some σ') : Cv l yX3_send wsX3_send 1 22 D cA ad KC [.ref (ad 59), .int u1, .int u2, .int u3] σ σ' := by
  unfold Cv
  refine Met_of (cc := cX3_send) (maxL := 6) (ret := none) hJ (by decide +kernel) rfl (Nat.le_of_ble_eq_true rfl) ?_
  intro p e s m below meth c Z H locs ls hP hS hl
  obtain ⟨hx, hb, hml, hown, hts, hr, hlk, hK, -⟩ := Z
  have hown : s.vm.findClass RX3 = some m.cls := hown
  have hl : lv_has ls 6 [(0, .ref (ad 59)), (1, .int u1), (2, .int u2), (3, .int u3)] := hl
  have hA : ∀ q, w_A ad KC q → w_A ad KC q := fun _ h => h
  unfold mX3_send at hM
  refine lv_iload_n hx hb dX3_send_0 rfl (lv_at hl 1 rfl) ?_
  refine lv_iconst (v := 5) hx hb dX3_send_1 (by decide) ?_
  refine lv_imul hx hb dX3_send_2 ?_
  refine lv_iload_n hx hb dX3_send_3 rfl (lv_at hl 2 rfl) ?_
  refine lv_iadd hx hb dX3_send_4 ?_
  refine lv_istore (lv' := [(4, .int ((u1 * 5) + u2)), (0, .ref (ad 59)), (1, .int u1), (2, .int u2), (3, .int u3)]) hx hb dX3_send_5 hl (by decide) rfl (fun ls hl => ?_)
  refine lv_aload_n hx hb dX3_send_7 rfl (lv_at hl 1 rfl) ?_
  refine x_getr (own := RX3) (C := RX3) (T := TX3) (N := 2) hx hb hts hinX3_X3_send hown hK hP KC_lnk rfl 0 (by decide) (hts (.fieldLink RX3 14 "StrokeBoard$Links" "counts" "LStrokeBoard$Row;") (by decide +kernel)) rfl dX3_send_8 ?_
  refine lv_iload hx hb dX3_send_11 (lv_at hl 0 rfl) ?_
  obtain ⟨r3, σ2, h1, hM⟩ := bnd_i hM
  refine x_callV (As := [.int ((u1 * 5) + u2)]) (rest := []) hA ⟨hx, hb, hml, hown, hts⟩ (tX5_get l D cA ad hJ 18 (by omega) ((u1 * 5) + u2) σ _ _ h1) (cwV 1 hts gX3_send_X5_get rfl rfl rfl (by decide +kernel) ⟨(Nat.le_of_ble_eq_true rfl), (Nat.le_of_ble_eq_true rfl)⟩) hK hP hS (KC_row 18 (by omega)) rfl rfl hl.1 rfl (Nat.le_of_ble_eq_true rfl) ⟨Nat.zero_le _, Nat.zero_le _⟩ dX3_send_13 (fun H locs hP hS _ _ => ?_)
  refine lv_istore (lv' := [(5, .int r3), (4, .int ((u1 * 5) + u2)), (0, .ref (ad 59)), (1, .int u1), (2, .int u2), (3, .int u3)]) hx hb dX3_send_16 hl (by decide) rfl (fun ls hl => ?_)
  refine lv_iload hx hb dX3_send_18 (lv_at hl 0 rfl) ?_
  refine lv_bipush (v := 10) hx hb dX3_send_20 (by decide) ?_
  refine lv_icmp_ge (tgt := 54) hx hb dX3_send_22 (by decide) (fun c4 => ?_) (fun c4 => ?_)
  · have hM := (if_pos c4).symm.trans hM
    exact x_vret hx hb hr hlk hP hS hM dX3_send_54
  · have hM := (if_neg c4).symm.trans hM
    refine lv_aload_n hx hb dX3_send_25 rfl (lv_at hl 2 rfl) ?_
    refine x_getr (own := RX3) (C := RX3) (T := TX3) (N := 2) hx hb hts hinX3_X3_send hown hK hP KC_lnk rfl 1 (by decide) (hts (.fieldLink RX3 20 "StrokeBoard$Links" "messages" "LStrokeBoard$Row;") (by decide +kernel)) rfl dX3_send_26 ?_
    refine lv_iload hx hb dX3_send_29 (lv_at hl 1 rfl) ?_
    refine lv_bipush (v := 10) hx hb dX3_send_31 (by decide) ?_
    refine lv_imul hx hb dX3_send_33 ?_
    refine lv_iload hx hb dX3_send_34 (lv_at hl 0 rfl) ?_
    refine lv_iadd hx hb dX3_send_36 ?_
    refine lv_iload_n hx hb dX3_send_37 rfl (lv_at hl 5 rfl) ?_
    obtain ⟨σ6, h5, hM⟩ := bnv_i hM
    refine x_callVv (As := [.int ((((u1 * 5) + u2) * 10) + r3), .int u3]) (rest := []) hA ⟨hx, hb, hml, hown, hts⟩ (tX5_set l D cA ad hJ 19 (by omega) ((((u1 * 5) + u2) * 10) + r3) u3 σ2 _ h5) (cwV 2 hts gX3_send_X5_set rfl rfl rfl (by decide +kernel) ⟨(Nat.le_of_ble_eq_true rfl), (Nat.le_of_ble_eq_true rfl)⟩) hK hP hS (KC_row 19 (by omega)) rfl rfl hl.1 rfl (Nat.le_of_ble_eq_true rfl) ⟨Nat.zero_le _, Nat.zero_le _⟩ dX3_send_38 (fun H locs hP hS _ _ => ?_)
    refine lv_aload_n hx hb dX3_send_41 rfl (lv_at hl 2 rfl) ?_
    refine x_getr (own := RX3) (C := RX3) (T := TX3) (N := 2) hx hb hts hinX3_X3_send hown hK hP KC_lnk rfl 0 (by decide) (hts (.fieldLink RX3 14 "StrokeBoard$Links" "counts" "LStrokeBoard$Row;") (by decide +kernel)) rfl dX3_send_42 ?_
    refine lv_iload hx hb dX3_send_45 (lv_at hl 1 rfl) ?_
    refine lv_iload hx hb dX3_send_47 (lv_at hl 0 rfl) ?_
    refine lv_iconst (v := 1) hx hb dX3_send_49 (by decide) ?_
    refine lv_iadd hx hb dX3_send_50 ?_
    obtain ⟨σ8, h7, hM⟩ := bnv_i hM
    refine x_callVv (As := [.int ((u1 * 5) + u2), .int (r3 + 1)]) (rest := []) hA ⟨hx, hb, hml, hown, hts⟩ (tX5_set l D cA ad hJ 18 (by omega) ((u1 * 5) + u2) (r3 + 1) σ6 _ h7) (cwV 2 hts gX3_send_X5_set rfl rfl rfl (by decide +kernel) ⟨(Nat.le_of_ble_eq_true rfl), (Nat.le_of_ble_eq_true rfl)⟩) hK hP hS (KC_row 18 (by omega)) rfl rfl hl.1 rfl (Nat.le_of_ble_eq_true rfl) ⟨Nat.zero_le _, Nat.zero_le _⟩ dX3_send_51 (fun H locs hP hS _ _ => ?_)
    exact x_vret hx hb hr hlk hP hS hM dX3_send_54
theorem hinX3_X3_countIn : ∀ w ∈ u_ws RX3 TX3 2, w ∈ wsX3_countIn := by decide +kernel
set_option maxHeartbeats 4000000 in
set_option maxRecDepth 100000 in
theorem tX3_countIn (l : Launch) (D : va_G) (cA : ClassId) (ad : Nat → Nat) (hJ : w_J ad KC) (u1 u2 : Int32) (σ σ' : St) (r : Int32) (hM : mX3_countIn u1 u2 σ = some (r, σ')) : Ct l yX3_countIn wsX3_countIn 1 21 D cA ad KC [.ref (ad 59), .int u1, .int u2] σ r σ' := by
  unfold Ct
  refine Met_of (cc := cX3_countIn) (maxL := 3) (ret := (some .int)) hJ (by decide +kernel) rfl (Nat.le_of_ble_eq_true rfl) ?_
  intro p e s m below meth c Z H locs ls hP hS hl
  obtain ⟨hx, hb, hml, hown, hts, hr, hlk, hK, -⟩ := Z
  have hown : s.vm.findClass RX3 = some m.cls := hown
  have hl : lv_has ls 3 [(0, .ref (ad 59)), (1, .int u1), (2, .int u2)] := hl
  have hA : ∀ q, w_A ad KC q → w_A ad KC q := fun _ h => h
  unfold mX3_countIn at hM
  refine lv_aload_n hx hb dX3_countIn_0 rfl (lv_at hl 0 rfl) ?_
  refine x_getr (own := RX3) (C := RX3) (T := TX3) (N := 2) hx hb hts hinX3_X3_countIn hown hK hP KC_lnk rfl 0 (by decide) (hts (.fieldLink RX3 14 "StrokeBoard$Links" "counts" "LStrokeBoard$Row;") (by decide +kernel)) rfl dX3_countIn_1 ?_
  refine lv_iload_n hx hb dX3_countIn_4 rfl (lv_at hl 1 rfl) ?_
  refine lv_iconst (v := 5) hx hb dX3_countIn_5 (by decide) ?_
  refine lv_imul hx hb dX3_countIn_6 ?_
  refine lv_iload_n hx hb dX3_countIn_7 rfl (lv_at hl 2 rfl) ?_
  refine lv_iadd hx hb dX3_countIn_8 ?_
  obtain ⟨r3, σ2, h1, hM⟩ := bnd_i hM
  refine x_callV (As := [.int ((u1 * 5) + u2)]) (rest := []) hA ⟨hx, hb, hml, hown, hts⟩ (tX5_get l D cA ad hJ 18 (by omega) ((u1 * 5) + u2) σ _ _ h1) (cwV 1 hts gX3_countIn_X5_get rfl rfl rfl (by decide +kernel) ⟨(Nat.le_of_ble_eq_true rfl), (Nat.le_of_ble_eq_true rfl)⟩) hK hP hS (KC_row 18 (by omega)) rfl rfl hl.1 rfl (Nat.le_of_ble_eq_true rfl) ⟨Nat.zero_le _, Nat.zero_le _⟩ dX3_countIn_9 (fun H locs hP hS _ _ => ?_)
  exact x_iret hx hb hr hlk hP hS hM dX3_countIn_12
theorem hinX3_X3_messageIn : ∀ w ∈ u_ws RX3 TX3 2, w ∈ wsX3_messageIn := by decide +kernel
set_option maxHeartbeats 4000000 in
set_option maxRecDepth 100000 in
theorem tX3_messageIn (l : Launch) (D : va_G) (cA : ClassId) (ad : Nat → Nat) (hJ : w_J ad KC) (u1 u2 u3 : Int32) (σ σ' : St) (r : Int32) (hM : mX3_messageIn u1 u2 u3 σ = some (r, σ')) : Ct l yX3_messageIn wsX3_messageIn 1 21 D cA ad KC [.ref (ad 59), .int u1, .int u2, .int u3] σ r σ' := by
  unfold Ct
  refine Met_of (cc := cX3_messageIn) (maxL := 4) (ret := (some .int)) hJ (by decide +kernel) rfl (Nat.le_of_ble_eq_true rfl) ?_
  intro p e s m below meth c Z H locs ls hP hS hl
  obtain ⟨hx, hb, hml, hown, hts, hr, hlk, hK, -⟩ := Z
  have hown : s.vm.findClass RX3 = some m.cls := hown
  have hl : lv_has ls 4 [(0, .ref (ad 59)), (1, .int u1), (2, .int u2), (3, .int u3)] := hl
  have hA : ∀ q, w_A ad KC q → w_A ad KC q := fun _ h => h
  unfold mX3_messageIn at hM
  refine lv_aload_n hx hb dX3_messageIn_0 rfl (lv_at hl 0 rfl) ?_
  refine x_getr (own := RX3) (C := RX3) (T := TX3) (N := 2) hx hb hts hinX3_X3_messageIn hown hK hP KC_lnk rfl 1 (by decide) (hts (.fieldLink RX3 20 "StrokeBoard$Links" "messages" "LStrokeBoard$Row;") (by decide +kernel)) rfl dX3_messageIn_1 ?_
  refine lv_iload_n hx hb dX3_messageIn_4 rfl (lv_at hl 1 rfl) ?_
  refine lv_iconst (v := 5) hx hb dX3_messageIn_5 (by decide) ?_
  refine lv_imul hx hb dX3_messageIn_6 ?_
  refine lv_iload_n hx hb dX3_messageIn_7 rfl (lv_at hl 2 rfl) ?_
  refine lv_iadd hx hb dX3_messageIn_8 ?_
  refine lv_bipush (v := 10) hx hb dX3_messageIn_9 (by decide) ?_
  refine lv_imul hx hb dX3_messageIn_11 ?_
  refine lv_iload_n hx hb dX3_messageIn_12 rfl (lv_at hl 3 rfl) ?_
  refine lv_iadd hx hb dX3_messageIn_13 ?_
  obtain ⟨r3, σ2, h1, hM⟩ := bnd_i hM
  refine x_callV (As := [.int ((((u1 * 5) + u2) * 10) + u3)]) (rest := []) hA ⟨hx, hb, hml, hown, hts⟩ (tX5_get l D cA ad hJ 19 (by omega) ((((u1 * 5) + u2) * 10) + u3) σ _ _ h1) (cwV 1 hts gX3_messageIn_X5_get rfl rfl rfl (by decide +kernel) ⟨(Nat.le_of_ble_eq_true rfl), (Nat.le_of_ble_eq_true rfl)⟩) hK hP hS (KC_row 19 (by omega)) rfl rfl hl.1 rfl (Nat.le_of_ble_eq_true rfl) ⟨Nat.zero_le _, Nat.zero_le _⟩ dX3_messageIn_14 (fun H locs hP hS _ _ => ?_)
  exact x_iret hx hb hr hlk hP hS hM dX3_messageIn_17
theorem hinX3_X3_dropFirst : ∀ w ∈ u_ws RX3 TX3 2, w ∈ wsX3_dropFirst := by decide +kernel
set_option maxHeartbeats 4000000 in
set_option maxRecDepth 100000 in
theorem tX3_dropFirst (l : Launch) (D : va_G) (cA : ClassId) (ad : Nat → Nat) (hJ : w_J ad KC) (u1 u2 : Int32) (σ σ' : St) (hM : mX3_dropFirst u1 u2 σ = some σ') : Cv l yX3_dropFirst wsX3_dropFirst 1 22 D cA ad KC [.ref (ad 59), .int u1, .int u2] σ σ' := by
  unfold Cv
  refine Met_of (cc := cX3_dropFirst) (maxL := 7) (ret := none) hJ (by decide +kernel) rfl (Nat.le_of_ble_eq_true rfl) ?_
  intro p e s m below meth c Z H locs ls hP hS hl
  obtain ⟨hx, hb, hml, hown, hts, hr, hlk, hK, -⟩ := Z
  have hown : s.vm.findClass RX3 = some m.cls := hown
  have hl : lv_has ls 7 [(0, .ref (ad 59)), (1, .int u1), (2, .int u2)] := hl
  have hA : ∀ q, w_A ad KC q → w_A ad KC q := fun _ h => h
  have b66 : ∀ (x3 x4 : Int32) (σ : St) (H : Heap) (locs : List Loc) (ls : Array Slot), mX3_dropFirst_b66 x3 x4 σ = some σ' → w_P D cA ad KC σ H → va_S (w_A ad KC) s.heap H locs → lv_has ls 7 [(0, .ref (ad 59)), (3, .int x3), (4, .int x4)] → Wm p l e wsX3_dropFirst 1 22 s m ([.ref (ad 59), .int u1, .int u2] : List Value).toArray below meth c (w_Qv D cA ad KC σ') (w_A ad KC) H locs (F0 m 66 ls []) := by
    intro x3 x4 σ H locs ls hM hP hS hl
    unfold mX3_dropFirst_b66 at hM
    refine lv_aload_n hx hb dX3_dropFirst_66 rfl (lv_at hl 0 rfl) ?_
    refine x_getr (own := RX3) (C := RX3) (T := TX3) (N := 2) hx hb hts hinX3_X3_dropFirst hown hK hP KC_lnk rfl 0 (by decide) (hts (.fieldLink RX3 14 "StrokeBoard$Links" "counts" "LStrokeBoard$Row;") (by decide +kernel)) rfl dX3_dropFirst_67 ?_
    refine lv_iload_n hx hb dX3_dropFirst_70 rfl (lv_at hl 1 rfl) ?_
    refine lv_iload hx hb dX3_dropFirst_71 (lv_at hl 2 rfl) ?_
    refine lv_iconst (v := 0) hx hb dX3_dropFirst_73 (by decide) ?_
    refine va_mmax hx hb (hml.trans hl.1.symm) hown (hts (.methodLink RX3 34 Lib.Math.max.name) (by decide +kernel)) (hts (.static Lib.Math.max.name) (by decide +kernel)) (hts (.initialized "java/lang/Math") (by decide +kernel)) (hts (.code Lib.Math.max.name Lib.Math.max.code 2 (some .int)) (by decide +kernel)) (Nat.le_of_ble_eq_true rfl) (Nat.le_of_ble_eq_true rfl) (Nat.zero_le _) (Nat.zero_le _) dX3_dropFirst_74 ?_
    refine lv_topi (fun z1 ez1 => ?_)
    have hM := lti_u ez1 hM
    obtain ⟨σ3, h2, hM⟩ := bnv_i hM
    refine x_callVv (As := [.int x3, .int z1]) (rest := []) hA ⟨hx, hb, hml, hown, hts⟩ (tX5_set l D cA ad hJ 18 (by omega) x3 z1 σ _ h2) (cwV 2 hts gX3_dropFirst_X5_set rfl rfl rfl (by decide +kernel) ⟨(Nat.le_of_ble_eq_true rfl), (Nat.le_of_ble_eq_true rfl)⟩) hK hP hS (KC_row 18 (by omega)) rfl rfl hl.1 rfl (Nat.le_of_ble_eq_true rfl) ⟨Nat.zero_le _, Nat.zero_le _⟩ dX3_dropFirst_77 (fun H locs hP hS _ _ => ?_)
    exact x_vret hx hb hr hlk hP hS hM dX3_dropFirst_80
  have L27 : ∀ (n : Nat) (x3 x4 x5 x6 : Int32) (σ : St) (H : Heap) (locs : List Loc) (ls : Array Slot), mX3_dropFirst_L27 n x3 x4 x5 x6 σ = some σ' → w_P D cA ad KC σ H → va_S (w_A ad KC) s.heap H locs → lv_has ls 7 [(0, .ref (ad 59)), (3, .int x3), (4, .int x4), (5, .int x5), (6, .int x6)] → Wm p l e wsX3_dropFirst 1 22 s m ([.ref (ad 59), .int u1, .int u2] : List Value).toArray below meth c (w_Qv D cA ad KC σ') (w_A ad KC) H locs (F0 m 27 ls []) := by
    intro n27
    induction n27 with
    | zero =>
      intro x3 x4 x5 x6 σ H locs ls hM hP hS hl
      rw [mX3_dropFirst_L27] at hM
      cases hM
    | succ n27 ih27 =>
      intro x3 x4 x5 x6 σ H locs ls hM hP hS hl
      rw [mX3_dropFirst_L27] at hM
      refine lv_iload hx hb dX3_dropFirst_27 (lv_at hl 4 rfl) ?_
      refine lv_iload hx hb dX3_dropFirst_29 (lv_at hl 2 rfl) ?_
      refine lv_icmp_ge (tgt := 66) hx hb dX3_dropFirst_31 (by decide) (fun c4 => ?_) (fun c4 => ?_)
      · have hM := (if_pos c4).symm.trans hM
        exact b66 _ _ _ _ _ _ hM hP hS (lv_sub hl [0, 1, 2] rfl)
      · have hM := (if_neg c4).symm.trans hM
        refine lv_aload_n hx hb dX3_dropFirst_34 rfl (lv_at hl 0 rfl) ?_
        refine x_getr (own := RX3) (C := RX3) (T := TX3) (N := 2) hx hb hts hinX3_X3_dropFirst hown hK hP KC_lnk rfl 1 (by decide) (hts (.fieldLink RX3 20 "StrokeBoard$Links" "messages" "LStrokeBoard$Row;") (by decide +kernel)) rfl dX3_dropFirst_35 ?_
        refine lv_iload hx hb dX3_dropFirst_38 (lv_at hl 3 rfl) ?_
        refine lv_iload hx hb dX3_dropFirst_40 (lv_at hl 4 rfl) ?_
        refine lv_iadd hx hb dX3_dropFirst_42 ?_
        refine lv_aload_n hx hb dX3_dropFirst_43 rfl (lv_at hl 0 rfl) ?_
        refine x_getr (own := RX3) (C := RX3) (T := TX3) (N := 2) hx hb hts hinX3_X3_dropFirst hown hK hP KC_lnk rfl 1 (by decide) (hts (.fieldLink RX3 20 "StrokeBoard$Links" "messages" "LStrokeBoard$Row;") (by decide +kernel)) rfl dX3_dropFirst_44 ?_
        refine lv_iload hx hb dX3_dropFirst_47 (lv_at hl 3 rfl) ?_
        refine lv_iload hx hb dX3_dropFirst_49 (lv_at hl 4 rfl) ?_
        refine lv_iadd hx hb dX3_dropFirst_51 ?_
        refine lv_iconst (v := 1) hx hb dX3_dropFirst_52 (by decide) ?_
        refine lv_iadd hx hb dX3_dropFirst_53 ?_
        obtain ⟨r7, σ6, h5, hM⟩ := bnd_i hM
        refine x_callV (As := [.int ((x5 + x6) + 1)]) (rest := [.int (x5 + x6), .ref (ad (2 * 19))]) hA ⟨hx, hb, hml, hown, hts⟩ (tX5_get l D cA ad hJ 19 (by omega) ((x5 + x6) + 1) σ _ _ h5) (cwV 1 hts gX3_dropFirst_X5_get rfl rfl rfl (by decide +kernel) ⟨(Nat.le_of_ble_eq_true rfl), (Nat.le_of_ble_eq_true rfl)⟩) hK hP hS (KC_row 19 (by omega)) rfl rfl hl.1 rfl (Nat.le_of_ble_eq_true rfl) ⟨Nat.zero_le _, Nat.zero_le _⟩ dX3_dropFirst_54 (fun H locs hP hS _ _ => ?_)
        obtain ⟨σ9, h8, hM⟩ := bnv_i hM
        refine x_callVv (As := [.int (x5 + x6), .int r7]) (rest := []) hA ⟨hx, hb, hml, hown, hts⟩ (tX5_set l D cA ad hJ 19 (by omega) (x5 + x6) r7 σ6 _ h8) (cwV 2 hts gX3_dropFirst_X5_set rfl rfl rfl (by decide +kernel) ⟨(Nat.le_of_ble_eq_true rfl), (Nat.le_of_ble_eq_true rfl)⟩) hK hP hS (KC_row 19 (by omega)) rfl rfl hl.1 rfl (Nat.le_of_ble_eq_true rfl) ⟨Nat.zero_le _, Nat.zero_le _⟩ dX3_dropFirst_57 (fun H locs hP hS _ _ => ?_)
        refine lv_iinc (v := (x6 + 1)) (lv' := [(6, .int (x6 + 1)), (0, .ref (ad 59)), (3, .int x3), (4, .int x4), (5, .int x5)]) hx hb dX3_dropFirst_60 hl (k := 4) rfl rfl (by decide) rfl (fun ls hl => ?_)
        refine lv_goto (tgt := 27) hx hb dX3_dropFirst_63 (by decide) ?_
        exact ih27 _ _ _ _ _ _ _ _ hM hP hS (lv_sub hl [1, 2, 3, 4, 0] rfl)
  unfold mX3_dropFirst at hM
  refine lv_iload_n hx hb dX3_dropFirst_0 rfl (lv_at hl 1 rfl) ?_
  refine lv_iconst (v := 5) hx hb dX3_dropFirst_1 (by decide) ?_
  refine lv_imul hx hb dX3_dropFirst_2 ?_
  refine lv_iload_n hx hb dX3_dropFirst_3 rfl (lv_at hl 2 rfl) ?_
  refine lv_iadd hx hb dX3_dropFirst_4 ?_
  refine lv_istore_n (lv' := [(3, .int ((u1 * 5) + u2)), (0, .ref (ad 59)), (1, .int u1), (2, .int u2)]) hx hb dX3_dropFirst_5 rfl hl (by decide) rfl (fun ls hl => ?_)
  refine lv_aload_n hx hb dX3_dropFirst_6 rfl (lv_at hl 1 rfl) ?_
  refine x_getr (own := RX3) (C := RX3) (T := TX3) (N := 2) hx hb hts hinX3_X3_dropFirst hown hK hP KC_lnk rfl 0 (by decide) (hts (.fieldLink RX3 14 "StrokeBoard$Links" "counts" "LStrokeBoard$Row;") (by decide +kernel)) rfl dX3_dropFirst_7 ?_
  refine lv_iload_n hx hb dX3_dropFirst_10 rfl (lv_at hl 0 rfl) ?_
  obtain ⟨r12, σ11, h10, hM⟩ := bnd_i hM
  refine x_callV (As := [.int ((u1 * 5) + u2)]) (rest := []) hA ⟨hx, hb, hml, hown, hts⟩ (tX5_get l D cA ad hJ 18 (by omega) ((u1 * 5) + u2) σ _ _ h10) (cwV 1 hts gX3_dropFirst_X5_get rfl rfl rfl (by decide +kernel) ⟨(Nat.le_of_ble_eq_true rfl), (Nat.le_of_ble_eq_true rfl)⟩) hK hP hS (KC_row 18 (by omega)) rfl rfl hl.1 rfl (Nat.le_of_ble_eq_true rfl) ⟨Nat.zero_le _, Nat.zero_le _⟩ dX3_dropFirst_11 (fun H locs hP hS _ _ => ?_)
  refine lv_iconst (v := 1) hx hb dX3_dropFirst_14 (by decide) ?_
  refine lv_isub hx hb dX3_dropFirst_15 ?_
  refine lv_istore (lv' := [(4, .int (r12 - 1)), (3, .int ((u1 * 5) + u2)), (0, .ref (ad 59)), (1, .int u1), (2, .int u2)]) hx hb dX3_dropFirst_16 hl (by decide) rfl (fun ls hl => ?_)
  refine lv_iload_n hx hb dX3_dropFirst_18 rfl (lv_at hl 1 rfl) ?_
  refine lv_bipush (v := 10) hx hb dX3_dropFirst_19 (by decide) ?_
  refine lv_imul hx hb dX3_dropFirst_21 ?_
  refine lv_istore (lv' := [(5, .int (((u1 * 5) + u2) * 10)), (4, .int (r12 - 1)), (3, .int ((u1 * 5) + u2)), (0, .ref (ad 59)), (1, .int u1), (2, .int u2)]) hx hb dX3_dropFirst_22 hl (by decide) rfl (fun ls hl => ?_)
  refine lv_iconst (v := 0) hx hb dX3_dropFirst_24 (by decide) ?_
  refine lv_istore (lv' := [(6, .int 0), (5, .int (((u1 * 5) + u2) * 10)), (4, .int (r12 - 1)), (3, .int ((u1 * 5) + u2)), (0, .ref (ad 59)), (1, .int u1), (2, .int u2)]) hx hb dX3_dropFirst_25 hl (by decide) rfl (fun ls hl => ?_)
  exact L27 fu _ _ _ _ _ _ _ _ hM hP hS (lv_sub hl [4, 3, 2, 1, 0] rfl)
theorem hinX3_X3_carry : ∀ w ∈ u_ws RX3 TX3 2, w ∈ wsX3_carry := by decide +kernel
set_option maxHeartbeats 4000000 in
set_option maxRecDepth 100000 in
theorem tX3_carry (l : Launch) (D : va_G) (cA : ClassId) (ad : Nat → Nat) (hJ : w_J ad KC) (u1 : Int32) (σ σ' : St) (r : Int32) (hM : mX3_carry u1 σ = some (r, σ')) : Ct l yX3_carry wsX3_carry 1 21 D cA ad KC [.ref (ad 59), .int u1] σ r σ' := by
  unfold Ct
  refine Met_of (cc := cX3_carry) (maxL := 4) (ret := (some .boolean)) hJ (by decide +kernel) rfl (Nat.le_of_ble_eq_true rfl) ?_
  intro p e s m below meth c Z H locs ls hP hS hl
  obtain ⟨hx, hb, hml, hown, hts, hr, hlk, hK, -⟩ := Z
  have hown : s.vm.findClass RX3 = some m.cls := hown
  have hl : lv_has ls 4 [(0, .ref (ad 59)), (1, .int u1)] := hl
  have hA : ∀ q, w_A ad KC q → w_A ad KC q := fun _ h => h
  have L2 : ∀ (n : Nat) (x1 x2 : Int32) (σ : St) (H : Heap) (locs : List Loc) (ls : Array Slot), mX3_carry_L2 n x1 x2 σ = some (r, σ') → w_P D cA ad KC σ H → va_S (w_A ad KC) s.heap H locs → lv_has ls 4 [(0, .ref (ad 59)), (1, .int x1), (2, .int x2)] → Wm p l e wsX3_carry 1 21 s m ([.ref (ad 59), .int u1] : List Value).toArray below meth c (w_Qi D cA ad KC r σ') (w_A ad KC) H locs (F0 m 2 ls []) := by
    intro n2
    induction n2 with
    | zero =>
      intro x1 x2 σ H locs ls hM hP hS hl
      rw [mX3_carry_L2] at hM
      cases hM
    | succ n2 ih2 =>
      have L10 : ∀ (n : Nat) (x1 x2 x3 : Int32) (σ : St) (H : Heap) (locs : List Loc) (ls : Array Slot), mX3_carry_L10 (mX3_carry_L2 n2) n x1 x2 x3 σ = some (r, σ') → w_P D cA ad KC σ H → va_S (w_A ad KC) s.heap H locs → lv_has ls 4 [(0, .ref (ad 59)), (1, .int x1), (2, .int x2), (3, .int x3)] → Wm p l e wsX3_carry 1 21 s m ([.ref (ad 59), .int u1] : List Value).toArray below meth c (w_Qi D cA ad KC r σ') (w_A ad KC) H locs (F0 m 10 ls []) := by
        intro n10
        induction n10 with
        | zero =>
          intro x1 x2 x3 σ H locs ls hM hP hS hl
          rw [mX3_carry_L10] at hM
          cases hM
        | succ n10 ih10 =>
          intro x1 x2 x3 σ H locs ls hM hP hS hl
          rw [mX3_carry_L10] at hM
          refine lv_iload_n hx hb dX3_carry_10 rfl (lv_at hl 3 rfl) ?_
          refine lv_aload_n hx hb dX3_carry_11 rfl (lv_at hl 0 rfl) ?_
          refine x_getr (own := RX3) (C := RX3) (T := TX3) (N := 2) hx hb hts hinX3_X3_carry hown hK hP KC_lnk rfl 0 (by decide) (hts (.fieldLink RX3 14 "StrokeBoard$Links" "counts" "LStrokeBoard$Row;") (by decide +kernel)) rfl dX3_carry_12 ?_
          refine lv_iload_n hx hb dX3_carry_15 rfl (lv_at hl 2 rfl) ?_
          obtain ⟨r3, σ2, h1, hM⟩ := bnd_i hM
          refine x_callV (As := [.int x2]) (rest := [.int x3]) hA ⟨hx, hb, hml, hown, hts⟩ (tX5_get l D cA ad hJ 18 (by omega) x2 σ _ _ h1) (cwV 1 hts gX3_carry_X5_get rfl rfl rfl (by decide +kernel) ⟨(Nat.le_of_ble_eq_true rfl), (Nat.le_of_ble_eq_true rfl)⟩) hK hP hS (KC_row 18 (by omega)) rfl rfl hl.1 rfl (Nat.le_of_ble_eq_true rfl) ⟨Nat.zero_le _, Nat.zero_le _⟩ dX3_carry_16 (fun H locs hP hS _ _ => ?_)
          refine lv_icmp_ge (tgt := 47) hx hb dX3_carry_19 (by decide) (fun c4 => ?_) (fun c4 => ?_)
          · have hM := (if_pos c4).symm.trans hM
            refine lv_iinc (v := (x2 + 1)) (lv' := [(2, .int (x2 + 1)), (0, .ref (ad 59)), (1, .int x1), (3, .int x3)]) hx hb dX3_carry_47 hl (k := 2) rfl rfl (by decide) rfl (fun ls hl => ?_)
            refine lv_goto (tgt := 2) hx hb dX3_carry_50 (by decide) ?_
            exact ih2 _ _ _ _ _ _ hM hP hS (lv_sub hl [1, 2, 0] rfl)
          · have hM := (if_neg c4).symm.trans hM
            refine lv_aload_n hx hb dX3_carry_22 rfl (lv_at hl 0 rfl) ?_
            refine x_getr (own := RX3) (C := RX3) (T := TX3) (N := 2) hx hb hts hinX3_X3_carry hown hK hP KC_lnk rfl 1 (by decide) (hts (.fieldLink RX3 20 "StrokeBoard$Links" "messages" "LStrokeBoard$Row;") (by decide +kernel)) rfl dX3_carry_23 ?_
            refine lv_iload_n hx hb dX3_carry_26 rfl (lv_at hl 2 rfl) ?_
            refine lv_bipush (v := 10) hx hb dX3_carry_27 (by decide) ?_
            refine lv_imul hx hb dX3_carry_29 ?_
            refine lv_iload_n hx hb dX3_carry_30 rfl (lv_at hl 3 rfl) ?_
            refine lv_iadd hx hb dX3_carry_31 ?_
            obtain ⟨r7, σ6, h5, hM⟩ := bnd_i hM
            refine x_callV (As := [.int ((x2 * 10) + x3)]) (rest := []) hA ⟨hx, hb, hml, hown, hts⟩ (tX5_get l D cA ad hJ 19 (by omega) ((x2 * 10) + x3) σ2 _ _ h5) (cwV 1 hts gX3_carry_X5_get rfl rfl rfl (by decide +kernel) ⟨(Nat.le_of_ble_eq_true rfl), (Nat.le_of_ble_eq_true rfl)⟩) hK hP hS (KC_row 19 (by omega)) rfl rfl hl.1 rfl (Nat.le_of_ble_eq_true rfl) ⟨Nat.zero_le _, Nat.zero_le _⟩ dX3_carry_32 (fun H locs hP hS _ _ => ?_)
            refine lv_iload_n hx hb dX3_carry_35 rfl (lv_at hl 1 rfl) ?_
            refine lv_icmp_ne (tgt := 41) hx hb dX3_carry_36 (by decide) (fun c8 => ?_) (fun c8 => ?_)
            · have hM := (if_neg c8).symm.trans hM
              refine lv_iinc (v := (x3 + 1)) (lv' := [(3, .int (x3 + 1)), (0, .ref (ad 59)), (1, .int x1), (2, .int x2)]) hx hb dX3_carry_41 hl (k := 3) rfl rfl (by decide) rfl (fun ls hl => ?_)
              refine lv_goto (tgt := 10) hx hb dX3_carry_44 (by decide) ?_
              exact ih10 _ _ _ _ _ _ _ hM hP hS (lv_sub hl [1, 2, 3, 0] rfl)
            · have hM := (if_pos c8).symm.trans hM
              refine lv_iconst (v := 1) hx hb dX3_carry_39 (by decide) ?_
              exact x_zret hx hb hr hlk hP hS hM dX3_carry_40
      intro x1 x2 σ H locs ls hM hP hS hl
      rw [mX3_carry_L2] at hM
      refine lv_iload_n hx hb dX3_carry_2 rfl (lv_at hl 2 rfl) ?_
      refine lv_bipush (v := 25) hx hb dX3_carry_3 (by decide) ?_
      refine lv_icmp_ge (tgt := 53) hx hb dX3_carry_5 (by decide) (fun c9 => ?_) (fun c9 => ?_)
      · have hM := (if_pos c9).symm.trans hM
        refine lv_iconst (v := 0) hx hb dX3_carry_53 (by decide) ?_
        exact x_zret hx hb hr hlk hP hS hM dX3_carry_54
      · have hM := (if_neg c9).symm.trans hM
        refine lv_iconst (v := 0) hx hb dX3_carry_8 (by decide) ?_
        refine lv_istore_n (lv' := [(3, .int 0), (0, .ref (ad 59)), (1, .int x1), (2, .int x2)]) hx hb dX3_carry_9 rfl hl (by decide) rfl (fun ls hl => ?_)
        exact L10 fu _ _ _ _ _ _ _ hM hP hS (lv_sub hl [1, 2, 3, 0] rfl)
  unfold mX3_carry at hM
  refine lv_iconst (v := 0) hx hb dX3_carry_0 (by decide) ?_
  refine lv_istore_n (lv' := [(2, .int 0), (0, .ref (ad 59)), (1, .int u1)]) hx hb dX3_carry_1 rfl hl (by decide) rfl (fun ls hl => ?_)
  exact L2 fu _ _ _ _ _ _ hM hP hS (lv_sub hl [1, 2, 0] rfl)
theorem hinX4_X4_clear : ∀ w ∈ u_ws RX4 TX4 8, w ∈ wsX4_clear := by decide +kernel
set_option maxHeartbeats 4000000 in
set_option maxRecDepth 100000 in
theorem tX4_clear (l : Launch) (D : va_G) (cA : ClassId) (ad : Nat → Nat) (hJ : w_J ad KC) (σ σ' : St) (hM : mX4_clear σ = some σ') : Cv l yX4_clear wsX4_clear 1 22 D cA ad KC [.ref (ad 54)] σ σ' := by
  unfold Cv
  refine Met_of (cc := cX4_clear) (maxL := 1) (ret := none) hJ (by decide +kernel) rfl (Nat.le_of_ble_eq_true rfl) ?_
  intro p e s m below meth c Z H locs ls hP hS hl
  obtain ⟨hx, hb, hml, hown, hts, hr, hlk, hK, -⟩ := Z
  have hown : s.vm.findClass RX4 = some m.cls := hown
  have hl : lv_has ls 1 [(0, .ref (ad 54))] := hl
  have hA : ∀ q, w_A ad KC q → w_A ad KC q := fun _ h => h
  unfold mX4_clear at hM
  refine lv_aload_n hx hb dX4_clear_0 rfl (lv_at hl 0 rfl) ?_
  refine x_getr (own := RX4) (C := RX4) (T := TX4) (N := 8) hx hb hts hinX4_X4_clear hown hK hP KC_log rfl 0 (by decide) (hts (.fieldLink RX4 14 "StrokeBoard$Log" "made" "LStrokeBoard$Row;") (by decide +kernel)) rfl dX4_clear_1 ?_
  refine lv_iconst (v := 0) hx hb dX4_clear_4 (by decide) ?_
  obtain ⟨σ2, h1, hM⟩ := bnv_i hM
  refine x_callVv (As := [.int 0]) (rest := []) hA ⟨hx, hb, hml, hown, hts⟩ (tX5_fill l D cA ad hJ 0 (by omega) 0 σ _ h1) (cwV 1 hts gX4_clear_X5_fill rfl rfl rfl (by decide +kernel) ⟨(Nat.le_of_ble_eq_true rfl), (Nat.le_of_ble_eq_true rfl)⟩) hK hP hS (KC_row 0 (by omega)) rfl rfl hl.1 rfl (Nat.le_of_ble_eq_true rfl) ⟨Nat.zero_le _, Nat.zero_le _⟩ dX4_clear_5 (fun H locs hP hS _ _ => ?_)
  refine lv_aload_n hx hb dX4_clear_8 rfl (lv_at hl 0 rfl) ?_
  refine lv_iconst (v := 0) hx hb dX4_clear_9 (by decide) ?_
  refine x_puti (own := RX4) (C := RX4) (T := TX4) (N := 8) hx hb KC_ok hJ hts hinX4_X4_clear tyX4 tyX4_ok nmX4 hown hK hP hS KC_log rfl 7 (by decide) (hts (.fieldLink RX4 45 "StrokeBoard$Log" "total" "I") (by decide +kernel)) rfl rfl rfl (by decide +kernel) dX4_clear_10 (fun H locs hP hS => ?_)
  obtain ⟨σ3, eσ3, hM⟩ := lts_i hM
  rw [← eσ3] at hP
  exact x_vret hx hb hr hlk hP hS hM dX4_clear_13
set_option maxHeartbeats 4000000 in
set_option maxRecDepth 100000 in
theorem tJ6_compare_7cf53 (l : Launch) (D : va_G) (cA : ClassId) (ad : Nat → Nat) (hJ : w_J ad KC) (u0 u1 : Int32) (σ σ' : St) (r : Int32) (hM : mJ6_compare_7cf53 u0 u1 σ = some (r, σ')) : Ct l yJ6_compare_7cf53 wsJ6_compare_7cf53 0 0 D cA ad KC [.int u0, .int u1] σ r σ' := by
  unfold Ct
  refine Met_of (cc := cJ6_compare_7cf53) (maxL := 2) (ret := (some .int)) hJ (by decide +kernel) rfl (Nat.le_of_ble_eq_true rfl) ?_
  intro p e s m below meth c Z H locs ls hP hS hl
  obtain ⟨hx, hb, hml, hown, hts, hr, hlk, hK, -⟩ := Z
  have hown : s.vm.findClass RJ6 = some m.cls := hown
  have hl : lv_has ls 2 [(0, .int u0), (1, .int u1)] := hl
  have hA : ∀ q, w_A ad KC q → w_A ad KC q := fun _ h => h
  unfold mJ6_compare_7cf53 at hM
  refine lv_iload_n hx hb dJ6_compare_7cf53_0 rfl (lv_at hl 0 rfl) ?_
  refine lv_iload_n hx hb dJ6_compare_7cf53_1 rfl (lv_at hl 1 rfl) ?_
  refine lv_icmp_ge (tgt := 9) hx hb dJ6_compare_7cf53_2 (by decide) (fun c1 => ?_) (fun c1 => ?_)
  · have hM := (if_pos c1).symm.trans hM
    refine lv_iload_n hx hb dJ6_compare_7cf53_9 rfl (lv_at hl 0 rfl) ?_
    refine lv_iload_n hx hb dJ6_compare_7cf53_10 rfl (lv_at hl 1 rfl) ?_
    refine lv_icmp_ne (tgt := 18) hx hb dJ6_compare_7cf53_11 (by decide) (fun c2 => ?_) (fun c2 => ?_)
    · have hM := (if_neg c2).symm.trans hM
      refine lv_iconst (v := 1) hx hb dJ6_compare_7cf53_18 (by decide) ?_
      exact x_iret hx hb hr hlk hP hS hM dJ6_compare_7cf53_19
    · have hM := (if_pos c2).symm.trans hM
      refine lv_iconst (v := 0) hx hb dJ6_compare_7cf53_14 (by decide) ?_
      refine lv_goto (tgt := 19) hx hb dJ6_compare_7cf53_15 (by decide) ?_
      exact x_iret hx hb hr hlk hP hS hM dJ6_compare_7cf53_19
  · have hM := (if_neg c1).symm.trans hM
    refine lv_iconst (v := (-1)) hx hb dJ6_compare_7cf53_5 (by decide) ?_
    refine lv_goto (tgt := 19) hx hb dJ6_compare_7cf53_6 (by decide) ?_
    exact x_iret hx hb hr hlk hP hS hM dJ6_compare_7cf53_19
theorem hinX4_X4_comesAfter : ∀ w ∈ u_ws RX4 TX4 8, w ∈ wsX4_comesAfter := by decide +kernel
set_option maxHeartbeats 4000000 in
set_option maxRecDepth 100000 in
theorem tX4_comesAfter (l : Launch) (D : va_G) (cA : ClassId) (ad : Nat → Nat) (hJ : w_J ad KC) (u1 u2 : Int32) (σ σ' : St) (r : Int32) (hM : mX4_comesAfter u1 u2 σ = some (r, σ')) : Ct l yX4_comesAfter wsX4_comesAfter 1 21 D cA ad KC [.ref (ad 54), .int u1, .int u2] σ r σ' := by
  unfold Ct
  refine Met_of (cc := cX4_comesAfter) (maxL := 4) (ret := (some .boolean)) hJ (by decide +kernel) rfl (Nat.le_of_ble_eq_true rfl) ?_
  intro p e s m below meth c Z H locs ls hP hS hl
  obtain ⟨hx, hb, hml, hown, hts, hr, hlk, hK, -⟩ := Z
  have hown : s.vm.findClass RX4 = some m.cls := hown
  have hl : lv_has ls 4 [(0, .ref (ad 54)), (1, .int u1), (2, .int u2)] := hl
  have hA : ∀ q, w_A ad KC q → w_A ad KC q := fun _ h => h
  unfold mX4_comesAfter at hM
  refine lv_aload_n hx hb dX4_comesAfter_0 rfl (lv_at hl 0 rfl) ?_
  refine x_getr (own := RX4) (C := RX4) (T := TX4) (N := 8) hx hb hts hinX4_X4_comesAfter hown hK hP KC_log rfl 2 (by decide) (hts (.fieldLink RX4 23 "StrokeBoard$Log" "times" "LStrokeBoard$Row;") (by decide +kernel)) rfl dX4_comesAfter_1 ?_
  refine lv_iload_n hx hb dX4_comesAfter_4 rfl (lv_at hl 1 rfl) ?_
  obtain ⟨r3, σ2, h1, hM⟩ := bnd_i hM
  refine x_callV (As := [.int u1]) (rest := []) hA ⟨hx, hb, hml, hown, hts⟩ (tX5_get l D cA ad hJ 2 (by omega) u1 σ _ _ h1) (cwV 1 hts gX4_comesAfter_X5_get rfl rfl rfl (by decide +kernel) ⟨(Nat.le_of_ble_eq_true rfl), (Nat.le_of_ble_eq_true rfl)⟩) hK hP hS (KC_row 2 (by omega)) rfl rfl hl.1 rfl (Nat.le_of_ble_eq_true rfl) ⟨Nat.zero_le _, Nat.zero_le _⟩ dX4_comesAfter_5 (fun H locs hP hS _ _ => ?_)
  refine lv_aload_n hx hb dX4_comesAfter_8 rfl (lv_at hl 0 rfl) ?_
  refine x_getr (own := RX4) (C := RX4) (T := TX4) (N := 8) hx hb hts hinX4_X4_comesAfter hown hK hP KC_log rfl 2 (by decide) (hts (.fieldLink RX4 23 "StrokeBoard$Log" "times" "LStrokeBoard$Row;") (by decide +kernel)) rfl dX4_comesAfter_9 ?_
  refine lv_iload_n hx hb dX4_comesAfter_12 rfl (lv_at hl 2 rfl) ?_
  obtain ⟨r6, σ5, h4, hM⟩ := bnd_i hM
  refine x_callV (As := [.int u2]) (rest := [.int r3]) hA ⟨hx, hb, hml, hown, hts⟩ (tX5_get l D cA ad hJ 2 (by omega) u2 σ2 _ _ h4) (cwV 1 hts gX4_comesAfter_X5_get rfl rfl rfl (by decide +kernel) ⟨(Nat.le_of_ble_eq_true rfl), (Nat.le_of_ble_eq_true rfl)⟩) hK hP hS (KC_row 2 (by omega)) rfl rfl hl.1 rfl (Nat.le_of_ble_eq_true rfl) ⟨Nat.zero_le _, Nat.zero_le _⟩ dX4_comesAfter_13 (fun H locs hP hS _ _ => ?_)
  obtain ⟨r9, σ8, h7, hM⟩ := bnd_i hM
  refine x_callS (As := [.int r3, .int r6]) (rest := []) hA ⟨hx, hb, hml, hown, hts⟩ (tJ6_compare_7cf53 l D cA ad hJ r3 r6 σ5 _ _ h7) (va_cwS 2 hts gX4_comesAfter_J6_compare_7cf53 rfl rfl rfl (by decide +kernel) ⟨(Nat.le_of_ble_eq_true rfl), (Nat.le_of_ble_eq_true rfl)⟩) hK hP hS rfl hl.1 rfl (Nat.le_of_ble_eq_true rfl) ⟨Nat.zero_le _, Nat.zero_le _⟩ dX4_comesAfter_16 (fun H locs hP hS => ?_)
  refine lv_istore_n (lv' := [(3, .int r9), (0, .ref (ad 54)), (1, .int u1), (2, .int u2)]) hx hb dX4_comesAfter_19 rfl hl (by decide) rfl (fun ls hl => ?_)
  refine lv_iload_n hx hb dX4_comesAfter_20 rfl (lv_at hl 0 rfl) ?_
  refine lv_if_gt (tgt := 39) hx hb dX4_comesAfter_21 (by decide) (fun c10 => ?_) (fun c10 => ?_)
  · have hM := (if_pos c10).symm.trans hM
    refine lv_iconst (v := 1) hx hb dX4_comesAfter_39 (by decide) ?_
    refine lv_goto (tgt := 44) hx hb dX4_comesAfter_40 (by decide) ?_
    exact x_zret hx hb hr hlk hP hS hM dX4_comesAfter_44
  · have hM := (if_neg c10).symm.trans hM
    refine lv_iload_n hx hb dX4_comesAfter_24 rfl (lv_at hl 0 rfl) ?_
    refine lv_if_ne (tgt := 43) hx hb dX4_comesAfter_25 (by decide) (fun c11 => ?_) (fun c11 => ?_)
    · have hM := (if_neg c11).symm.trans hM
      refine lv_iconst (v := 0) hx hb dX4_comesAfter_43 (by decide) ?_
      exact x_zret hx hb hr hlk hP hS hM dX4_comesAfter_44
    · have hM := (if_pos c11).symm.trans hM
      refine lv_iload_n hx hb dX4_comesAfter_28 rfl (lv_at hl 2 rfl) ?_
      obtain ⟨r14, σ13, h12, hM⟩ := bnd_i hM
      refine x_callSN (As := [.int u1]) (rest := []) hA ⟨hx, hb, hml, hown, hts⟩ (tX6_authorOf l D cA ad hJ u1 σ8 _ _ h12) ⟨va_cnB 1 hts gX4_comesAfter_X6_authorOf_n84 rfl rfl rfl (nw_m (args := #[]) hK.2 1 rfl) (hts (.initialized RX6) (by decide +kernel)) (by decide +kernel) ⟨(Nat.le_of_ble_eq_true rfl), (Nat.le_of_ble_eq_true rfl)⟩, hts (.static yX6_authorOf) (by decide +kernel), trivial⟩ hK hP hS rfl hl.1 rfl (Nat.le_of_ble_eq_true rfl) ⟨Nat.zero_le _, Nat.zero_le _⟩ dX4_comesAfter_29 (fun H locs hP hS => ?_)
      refine lv_iload_n hx hb dX4_comesAfter_32 rfl (lv_at hl 3 rfl) ?_
      obtain ⟨r17, σ16, h15, hM⟩ := bnd_i hM
      refine x_callSN (As := [.int u2]) (rest := [.int r14]) hA ⟨hx, hb, hml, hown, hts⟩ (tX6_authorOf l D cA ad hJ u2 σ13 _ _ h15) ⟨va_cnB 1 hts gX4_comesAfter_X6_authorOf_n84 rfl rfl rfl (nw_m (args := #[]) hK.2 1 rfl) (hts (.initialized RX6) (by decide +kernel)) (by decide +kernel) ⟨(Nat.le_of_ble_eq_true rfl), (Nat.le_of_ble_eq_true rfl)⟩, hts (.static yX6_authorOf) (by decide +kernel), trivial⟩ hK hP hS rfl hl.1 rfl (Nat.le_of_ble_eq_true rfl) ⟨Nat.zero_le _, Nat.zero_le _⟩ dX4_comesAfter_33 (fun H locs hP hS => ?_)
      refine lv_icmp_le (tgt := 43) hx hb dX4_comesAfter_36 (by decide) (fun c18 => ?_) (fun c18 => ?_)
      · have hM := (if_pos c18).symm.trans hM
        refine lv_iconst (v := 0) hx hb dX4_comesAfter_43 (by decide) ?_
        exact x_zret hx hb hr hlk hP hS hM dX4_comesAfter_44
      · have hM := (if_neg c18).symm.trans hM
        refine lv_iconst (v := 1) hx hb dX4_comesAfter_39 (by decide) ?_
        refine lv_goto (tgt := 44) hx hb dX4_comesAfter_40 (by decide) ?_
        exact x_zret hx hb hr hlk hP hS hM dX4_comesAfter_44
