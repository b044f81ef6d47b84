def bdX0 (cA : ClassId) : Nat → (Nat → Nat) → va_W := fun h0 a => [(h0, .inr (0, [.ref (a 0), .ref (a 2), .ref (a 4), .int 0])), (a 0, .inr (5, [.ref (a 1)])), (a 1, .inl (cA, (100, .inl (fun _ => 0)))), (a 2, .inr (5, [.ref (a 3)])), (a 3, .inl (cA, (100, .inl (fun _ => 0)))), (a 4, .inr (5, [.ref (a 5)])), (a 5, .inl (cA, (100, .inl (fun _ => 0))))]
theorem hinX5_X0i : ∀ w ∈ u_ws RX5 TX5 1, w ∈ wsX0_init := by decide +kernel
theorem hinX0_X0i : ∀ w ∈ u_ws RX0 TX0 4, w ∈ wsX0_init := by decide +kernel
set_option maxHeartbeats 4000000 in
set_option maxRecDepth 100000 in
theorem nX0 (l : Launch) (D : va_G) (cA : ClassId) : Cn l yX0_init wsX0_init 2 35 6 (303) D cA 0 [.null, .null, .null, .int 0] [] (bdX0 cA) := by
  refine Cn_of (cc := cX0_init) (maxL := 1) (by decide +kernel) rfl rfl (fun _ => Nat.le_of_ble_eq_true rfl) ?_
  intro p e s m below meth c h0 A hZ H locs ls hP hD hS hl
  obtain ⟨hx, hb, hml, hown, hts, hr, hlk, hK, hnm, hA⟩ := hZ
  have hl : lv_has ls 1 [(0, .ref h0)] := hl
  refine lv_aload_n hx hb dX0_init_0 rfl (lv_at hl 0 rfl) ?_
  refine W.objInit hx hb hown (hts (.methodLink RX0 3 objectInit) (by decide +kernel)) (hts (.instanceMethod objectInit) (by decide +kernel)) (hts (.code objectInit ⟨#[0xb1]⟩ 1 none) (by decide +kernel)) rfl (by rw [hml]; exact hl.1) rfl dX0_init_1 (Nat.le_of_ble_eq_true rfl) (Nat.le_of_ble_eq_true rfl) ?_
  refine W.eq (g2 := F0 m 4 ls []) rfl ?_
  refine lv_aload_n hx hb dX0_init_4 rfl (lv_at hl 0 rfl) ?_
  refine va_new (ci := 5) (fs := [.null]) (C := RX5) (T := TX5) (N := 1) hx hb hts hinX5_X0i tyX5 tyX5_ok hown (hts (.classLink RX0 9 RX5) (by decide +kernel)) (hts (.instantiable RX5 1) (by decide +kernel)) (hts (.initialized RX5) (by decide +kernel)) hK.1 hP hD hS hA rfl (fun j hj => by rcases (show j = 0 by omega) with rfl <;> rfl) (show 0 + 1 ≤ 6 by omega) (show 0 + 1 ≤ 303 by omega) dX0_init_5 (fun q1 H hP hD hS => ?_)
  refine W.widen (k := 1) (n := 1) (by omega) (by omega) ?_
  refine lv_dup hx hb dX0_init_8 rfl ?_
  refine lv_bipush (v := 100) hx hb dX0_init_9 (by decide) ?_
  refine x_made (C := RX0) (T := TX0) (N := 4) (ci := 0) (fs := [.null, .null, .null, .int 0]) (cj := 5) (fs1 := [.null]) (ty := .object "StrokeBoard$Row") (mc := 1) (ms := 100) (bd := (bdRow cA 100)) hx hb hK hA hnm hown hP hD hS (va_runI (As := [.int (nI 100)]) (rest := [.ref q1, .ref h0]) ⟨hx, hb, hml, hown, hts⟩ (nX5 l D cA 100 (by omega) q1 H.size) (cwI 1 hts gX0_init_X5_init rfl rfl rfl (hts (.initialized RX5) (by decide +kernel)) (hts (.methodLink RX0 11 yX5_init) (by decide +kernel)) (hts (.instanceMethod yX5_init) (by decide +kernel)) rfl (by decide +kernel) ⟨(Nat.le_of_ble_eq_true rfl), (Nat.le_of_ble_eq_true rfl)⟩) (n_start hK hP hD) rfl rfl hl.1 rfl (lv_room (Nat.le_of_ble_eq_true rfl)) dX0_init_11 ⟨show 1 + 1 ≤ 6 by omega, show 1 + 100 ≤ 303 by omega⟩) hts hinX0_X0i tyX0 tyX0_ok nmX0 rfl 0 (by decide) (hts (.fieldLink RX0 14 "StrokeBoard$Board" "undone" "LStrokeBoard$Row;") (by decide +kernel)) rfl rfl (by decide +kernel) rfl rfl (Nat.le_of_ble_eq_true rfl) dX0_init_14 (fun a1 H locs hP hD hS => ?_)
  refine W.widen (k := 2) (n := 101) (by omega) (by omega) ?_
  refine lv_aload_n hx hb dX0_init_17 rfl (lv_at hl 0 rfl) ?_
  refine va_new (ci := 5) (fs := [.null]) (C := RX5) (T := TX5) (N := 1) hx hb hts hinX5_X0i tyX5 tyX5_ok hown (hts (.classLink RX0 9 RX5) (by decide +kernel)) (hts (.instantiable RX5 1) (by decide +kernel)) (hts (.initialized RX5) (by decide +kernel)) hK.1 hP hD hS hA rfl (fun j hj => by rcases (show j = 0 by omega) with rfl <;> rfl) (show 2 + 1 ≤ 6 by omega) (show 101 + 1 ≤ 303 by omega) dX0_init_18 (fun q2 H hP hD hS => ?_)
  refine W.widen (k := 3) (n := 102) (by omega) (by omega) ?_
  refine lv_dup hx hb dX0_init_21 rfl ?_
  refine lv_bipush (v := 100) hx hb dX0_init_22 (by decide) ?_
  refine x_made (C := RX0) (T := TX0) (N := 4) (ci := 0) (fs := [.ref q1, .null, .null, .int 0]) (cj := 5) (fs1 := [.null]) (ty := .object "StrokeBoard$Row") (mc := 1) (ms := 100) (bd := (bdRow cA 100)) hx hb hK hA hnm hown hP hD hS (va_runI (As := [.int (nI 100)]) (rest := [.ref q2, .ref h0]) ⟨hx, hb, hml, hown, hts⟩ (nX5 l D cA 100 (by omega) q2 H.size) (cwI 1 hts gX0_init_X5_init rfl rfl rfl (hts (.initialized RX5) (by decide +kernel)) (hts (.methodLink RX0 11 yX5_init) (by decide +kernel)) (hts (.instanceMethod yX5_init) (by decide +kernel)) rfl (by decide +kernel) ⟨(Nat.le_of_ble_eq_true rfl), (Nat.le_of_ble_eq_true rfl)⟩) (n_start hK hP hD) rfl rfl hl.1 rfl (lv_room (Nat.le_of_ble_eq_true rfl)) dX0_init_24 ⟨show 3 + 1 ≤ 6 by omega, show 102 + 100 ≤ 303 by omega⟩) hts hinX0_X0i tyX0 tyX0_ok nmX0 rfl 1 (by decide) (hts (.fieldLink RX0 20 "StrokeBoard$Board" "layers" "LStrokeBoard$Row;") (by decide +kernel)) rfl rfl (by decide +kernel) rfl rfl (Nat.le_of_ble_eq_true rfl) dX0_init_27 (fun a2 H locs hP hD hS => ?_)
  refine W.widen (k := 4) (n := 202) (by omega) (by omega) ?_
  refine lv_aload_n hx hb dX0_init_30 rfl (lv_at hl 0 rfl) ?_
  refine va_new (ci := 5) (fs := [.null]) (C := RX5) (T := TX5) (N := 1) hx hb hts hinX5_X0i tyX5 tyX5_ok hown (hts (.classLink RX0 9 RX5) (by decide +kernel)) (hts (.instantiable RX5 1) (by decide +kernel)) (hts (.initialized RX5) (by decide +kernel)) hK.1 hP hD hS hA rfl (fun j hj => by rcases (show j = 0 by omega) with rfl <;> rfl) (show 4 + 1 ≤ 6 by omega) (show 202 + 1 ≤ 303 by omega) dX0_init_31 (fun q3 H hP hD hS => ?_)
  refine W.widen (k := 5) (n := 203) (by omega) (by omega) ?_
  refine lv_dup hx hb dX0_init_34 rfl ?_
  refine lv_bipush (v := 100) hx hb dX0_init_35 (by decide) ?_
  refine x_made (C := RX0) (T := TX0) (N := 4) (ci := 0) (fs := [.ref q1, .ref q2, .null, .int 0]) (cj := 5) (fs1 := [.null]) (ty := .object "StrokeBoard$Row") (mc := 1) (ms := 100) (bd := (bdRow cA 100)) hx hb hK hA hnm hown hP hD hS (va_runI (As := [.int (nI 100)]) (rest := [.ref q3, .ref h0]) ⟨hx, hb, hml, hown, hts⟩ (nX5 l D cA 100 (by omega) q3 H.size) (cwI 1 hts gX0_init_X5_init rfl rfl rfl (hts (.initialized RX5) (by decide +kernel)) (hts (.methodLink RX0 11 yX5_init) (by decide +kernel)) (hts (.instanceMethod yX5_init) (by decide +kernel)) rfl (by decide +kernel) ⟨(Nat.le_of_ble_eq_true rfl), (Nat.le_of_ble_eq_true rfl)⟩) (n_start hK hP hD) rfl rfl hl.1 rfl (lv_room (Nat.le_of_ble_eq_true rfl)) dX0_init_37 ⟨show 5 + 1 ≤ 6 by omega, show 203 + 100 ≤ 303 by omega⟩) hts hinX0_X0i tyX0 tyX0_ok nmX0 rfl 2 (by decide) (hts (.fieldLink RX0 23 "StrokeBoard$Board" "strokes" "LStrokeBoard$Row;") (by decide +kernel)) rfl rfl (by decide +kernel) rfl rfl (Nat.le_of_ble_eq_true rfl) dX0_init_40 (fun a3 H locs hP hD hS => ?_)
  refine W.widen (k := 6) (n := 303) (by omega) (by omega) ?_
  exact n_ret (bd := (bdX0 cA)) (fun k => ([q1, a1 0, q2, a2 0, q3, a3 0] : List Nat).getD k 0) hx hb hr hlk hP hD hS (by omega) (by omega) dX0_init_43
def bdX1 (cA : ClassId) (N : Nat) : Nat → (Nat → Nat) → va_W := fun h0 a => [(h0, .inr (1, [.ref (a 0), .ref (a 2), .ref (a 4), .ref (a 6), .ref (a 8)])), (a 0, .inr (5, [.ref (a 1)])), (a 1, .inl (cA, (N, .inl (fun _ => 0)))), (a 2, .inr (5, [.ref (a 3)])), (a 3, .inl (cA, (N, .inl (fun _ => 0)))), (a 4, .inr (5, [.ref (a 5)])), (a 5, .inl (cA, (N, .inl (fun _ => 0)))), (a 6, .inr (5, [.ref (a 7)])), (a 7, .inl (cA, (8 * N, .inl (fun _ => 0)))), (a 8, .inr (5, [.ref (a 9)])), (a 9, .inl (cA, (8 * N, .inl (fun _ => 0))))]
theorem hinX5_X1i : ∀ w ∈ u_ws RX5 TX5 1, w ∈ wsX1_init := by decide +kernel
theorem hinX1_X1i : ∀ w ∈ u_ws RX1 TX1 5, w ∈ wsX1_init := by decide +kernel
set_option maxHeartbeats 4000000 in
set_option maxRecDepth 100000 in
theorem nX1 (l : Launch) (D : va_G) (cA : ClassId) (N : Nat) (hN : N ≤ 100) : Cn l yX1_init wsX1_init 2 35 10 (5 + 19 * N) D cA 1 [.null, .null, .null, .null, .null] [.int (nI N)] (bdX1 cA N) := by
  refine Cn_of (cc := cX1_init) (maxL := 2) (by decide +kernel) rfl rfl (fun _ => Nat.le_of_ble_eq_true rfl) ?_
  intro p e s m below meth c h0 A hZ H locs ls hP hD hS hl
  obtain ⟨hx, hb, hml, hown, hts, hr, hlk, hK, hnm, hA⟩ := hZ
  have hl : lv_has ls 2 [(0, .ref h0), (1, .int (nI N))] := hl
  refine lv_aload_n hx hb dX1_init_0 rfl (lv_at hl 0 rfl) ?_
  refine W.objInit hx hb hown (hts (.methodLink RX1 3 objectInit) (by decide +kernel)) (hts (.instanceMethod objectInit) (by decide +kernel)) (hts (.code objectInit ⟨#[0xb1]⟩ 1 none) (by decide +kernel)) rfl (by rw [hml]; exact hl.1) rfl dX1_init_1 (Nat.le_of_ble_eq_true rfl) (Nat.le_of_ble_eq_true rfl) ?_
  refine W.eq (g2 := F0 m 4 ls []) rfl ?_
  refine lv_aload_n hx hb dX1_init_4 rfl (lv_at hl 0 rfl) ?_
  refine va_new (ci := 5) (fs := [.null]) (C := RX5) (T := TX5) (N := 1) hx hb hts hinX5_X1i tyX5 tyX5_ok hown (hts (.classLink RX1 9 RX5) (by decide +kernel)) (hts (.instantiable RX5 1) (by decide +kernel)) (hts (.initialized RX5) (by decide +kernel)) hK.1 hP hD hS hA rfl (fun j hj => by rcases (show j = 0 by omega) with rfl <;> rfl) (show 0 + 1 ≤ 10 by omega) (show 0 + 1 ≤ 5 + 19 * N by omega) dX1_init_5 (fun q1 H hP hD hS => ?_)
  refine W.widen (k := 1) (n := 0 + 1) (by omega) (by omega) ?_
  refine lv_dup hx hb dX1_init_8 rfl ?_
  refine lv_iload_n hx hb dX1_init_9 rfl (lv_at hl 1 rfl) ?_
  refine x_made (C := RX1) (T := TX1) (N := 5) (ci := 1) (fs := [.null, .null, .null, .null, .null]) (cj := 5) (fs1 := [.null]) (ty := .object "StrokeBoard$Row") (mc := 1) (ms := N) (bd := (bdRow cA N)) hx hb hK hA hnm hown hP hD hS (va_runI (As := [.int (nI N)]) (rest := [.ref q1, .ref h0]) ⟨hx, hb, hml, hown, hts⟩ (nX5 l D cA N (by omega) q1 H.size) (cwI 1 hts gX1_init_X5_init rfl rfl rfl (hts (.initialized RX5) (by decide +kernel)) (hts (.methodLink RX1 11 yX5_init) (by decide +kernel)) (hts (.instanceMethod yX5_init) (by decide +kernel)) rfl (by decide +kernel) ⟨(Nat.le_of_ble_eq_true rfl), (Nat.le_of_ble_eq_true rfl)⟩) (n_start hK hP hD) rfl rfl hl.1 rfl (lv_room (Nat.le_of_ble_eq_true rfl)) dX1_init_10 ⟨show 1 + 1 ≤ 10 by omega, show 0 + 1 + N ≤ 5 + 19 * N by omega⟩) hts hinX1_X1i tyX1 tyX1_ok nmX1 rfl 0 (by decide) (hts (.fieldLink RX1 14 "StrokeBoard$Ink" "counts" "LStrokeBoard$Row;") (by decide +kernel)) rfl rfl (by decide +kernel) rfl rfl (Nat.le_of_ble_eq_true rfl) dX1_init_13 (fun a1 H locs hP hD hS => ?_)
  refine W.widen (k := 2) (n := 0 + 1 + N) (by omega) (by omega) ?_
  refine lv_aload_n hx hb dX1_init_16 rfl (lv_at hl 0 rfl) ?_
  refine va_new (ci := 5) (fs := [.null]) (C := RX5) (T := TX5) (N := 1) hx hb hts hinX5_X1i tyX5 tyX5_ok hown (hts (.classLink RX1 9 RX5) (by decide +kernel)) (hts (.instantiable RX5 1) (by decide +kernel)) (hts (.initialized RX5) (by decide +kernel)) hK.1 hP hD hS hA rfl (fun j hj => by rcases (show j = 0 by omega) with rfl <;> rfl) (show 2 + 1 ≤ 10 by omega) (show 0 + 1 + N + 1 ≤ 5 + 19 * N by omega) dX1_init_17 (fun q2 H hP hD hS => ?_)
  refine W.widen (k := 3) (n := 0 + 1 + N + 1) (by omega) (by omega) ?_
  refine lv_dup hx hb dX1_init_20 rfl ?_
  refine lv_iload_n hx hb dX1_init_21 rfl (lv_at hl 1 rfl) ?_
  refine x_made (C := RX1) (T := TX1) (N := 5) (ci := 1) (fs := [.ref q1, .null, .null, .null, .null]) (cj := 5) (fs1 := [.null]) (ty := .object "StrokeBoard$Row") (mc := 1) (ms := N) (bd := (bdRow cA N)) hx hb hK hA hnm hown hP hD hS (va_runI (As := [.int (nI N)]) (rest := [.ref q2, .ref h0]) ⟨hx, hb, hml, hown, hts⟩ (nX5 l D cA N (by omega) q2 H.size) (cwI 1 hts gX1_init_X5_init rfl rfl rfl (hts (.initialized RX5) (by decide +kernel)) (hts (.methodLink RX1 11 yX5_init) (by decide +kernel)) (hts (.instanceMethod yX5_init) (by decide +kernel)) rfl (by decide +kernel) ⟨(Nat.le_of_ble_eq_true rfl), (Nat.le_of_ble_eq_true rfl)⟩) (n_start hK hP hD) rfl rfl hl.1 rfl (lv_room (Nat.le_of_ble_eq_true rfl)) dX1_init_22 ⟨show 3 + 1 ≤ 10 by omega, show 0 + 1 + N + 1 + N ≤ 5 + 19 * N by omega⟩) hts hinX1_X1i tyX1 tyX1_ok nmX1 rfl 1 (by decide) (hts (.fieldLink RX1 20 "StrokeBoard$Ink" "colors" "LStrokeBoard$Row;") (by decide +kernel)) rfl rfl (by decide +kernel) rfl rfl (Nat.le_of_ble_eq_true rfl) dX1_init_25 (fun a2 H locs hP hD hS => ?_)
  refine W.widen (k := 4) (n := 0 + 1 + N + 1 + N) (by omega) (by omega) ?_
  refine lv_aload_n hx hb dX1_init_28 rfl (lv_at hl 0 rfl) ?_
  refine va_new (ci := 5) (fs := [.null]) (C := RX5) (T := TX5) (N := 1) hx hb hts hinX5_X1i tyX5 tyX5_ok hown (hts (.classLink RX1 9 RX5) (by decide +kernel)) (hts (.instantiable RX5 1) (by decide +kernel)) (hts (.initialized RX5) (by decide +kernel)) hK.1 hP hD hS hA rfl (fun j hj => by rcases (show j = 0 by omega) with rfl <;> rfl) (show 4 + 1 ≤ 10 by omega) (show 0 + 1 + N + 1 + N + 1 ≤ 5 + 19 * N by omega) dX1_init_29 (fun q3 H hP hD hS => ?_)
  refine W.widen (k := 5) (n := 0 + 1 + N + 1 + N + 1) (by omega) (by omega) ?_
  refine lv_dup hx hb dX1_init_32 rfl ?_
  refine lv_iload_n hx hb dX1_init_33 rfl (lv_at hl 1 rfl) ?_
  refine x_made (C := RX1) (T := TX1) (N := 5) (ci := 1) (fs := [.ref q1, .ref q2, .null, .null, .null]) (cj := 5) (fs1 := [.null]) (ty := .object "StrokeBoard$Row") (mc := 1) (ms := N) (bd := (bdRow cA N)) hx hb hK hA hnm hown hP hD hS (va_runI (As := [.int (nI N)]) (rest := [.ref q3, .ref h0]) ⟨hx, hb, hml, hown, hts⟩ (nX5 l D cA N (by omega) q3 H.size) (cwI 1 hts gX1_init_X5_init rfl rfl rfl (hts (.initialized RX5) (by decide +kernel)) (hts (.methodLink RX1 11 yX5_init) (by decide +kernel)) (hts (.instanceMethod yX5_init) (by decide +kernel)) rfl (by decide +kernel) ⟨(Nat.le_of_ble_eq_true rfl), (Nat.le_of_ble_eq_true rfl)⟩) (n_start hK hP hD) rfl rfl hl.1 rfl (lv_room (Nat.le_of_ble_eq_true rfl)) dX1_init_34 ⟨show 5 + 1 ≤ 10 by omega, show 0 + 1 + N + 1 + N + 1 + N ≤ 5 + 19 * N by omega⟩) hts hinX1_X1i tyX1 tyX1_ok nmX1 rfl 2 (by decide) (hts (.fieldLink RX1 23 "StrokeBoard$Ink" "layers" "LStrokeBoard$Row;") (by decide +kernel)) rfl rfl (by decide +kernel) rfl rfl (Nat.le_of_ble_eq_true rfl) dX1_init_37 (fun a3 H locs hP hD hS => ?_)
  refine W.widen (k := 6) (n := 0 + 1 + N + 1 + N + 1 + N) (by omega) (by omega) ?_
  refine lv_aload_n hx hb dX1_init_40 rfl (lv_at hl 0 rfl) ?_
  refine va_new (ci := 5) (fs := [.null]) (C := RX5) (T := TX5) (N := 1) hx hb hts hinX5_X1i tyX5 tyX5_ok hown (hts (.classLink RX1 9 RX5) (by decide +kernel)) (hts (.instantiable RX5 1) (by decide +kernel)) (hts (.initialized RX5) (by decide +kernel)) hK.1 hP hD hS hA rfl (fun j hj => by rcases (show j = 0 by omega) with rfl <;> rfl) (show 6 + 1 ≤ 10 by omega) (show 0 + 1 + N + 1 + N + 1 + N + 1 ≤ 5 + 19 * N by omega) dX1_init_41 (fun q4 H hP hD hS => ?_)
  refine W.widen (k := 7) (n := 0 + 1 + N + 1 + N + 1 + N + 1) (by omega) (by omega) ?_
  refine lv_dup hx hb dX1_init_44 rfl ?_
  refine lv_iload_n hx hb dX1_init_45 rfl (lv_at hl 1 rfl) ?_
  refine lv_bipush (v := 8) hx hb dX1_init_46 (by decide) ?_
  refine lv_imul hx hb dX1_init_48 ?_
  rw [show nI N * 8 = nI (8 * N) from by rw [show (8 : Int32) = nI 8 from rfl, pk_mul, Nat.mul_comm]]
  refine x_made (C := RX1) (T := TX1) (N := 5) (ci := 1) (fs := [.ref q1, .ref q2, .ref q3, .null, .null]) (cj := 5) (fs1 := [.null]) (ty := .object "StrokeBoard$Row") (mc := 1) (ms := (8 * N)) (bd := (bdRow cA (8 * N))) hx hb hK hA hnm hown hP hD hS (va_runI (As := [.int (nI (8 * N))]) (rest := [.ref q4, .ref h0]) ⟨hx, hb, hml, hown, hts⟩ (nX5 l D cA (8 * N) (by omega) q4 H.size) (cwI 1 hts gX1_init_X5_init rfl rfl rfl (hts (.initialized RX5) (by decide +kernel)) (hts (.methodLink RX1 11 yX5_init) (by decide +kernel)) (hts (.instanceMethod yX5_init) (by decide +kernel)) rfl (by decide +kernel) ⟨(Nat.le_of_ble_eq_true rfl), (Nat.le_of_ble_eq_true rfl)⟩) (n_start hK hP hD) rfl rfl hl.1 rfl (lv_room (Nat.le_of_ble_eq_true rfl)) dX1_init_49 ⟨show 7 + 1 ≤ 10 by omega, show 0 + 1 + N + 1 + N + 1 + N + 1 + (8 * N) ≤ 5 + 19 * N by omega⟩) hts hinX1_X1i tyX1 tyX1_ok nmX1 rfl 3 (by decide) (hts (.fieldLink RX1 26 "StrokeBoard$Ink" "xs" "LStrokeBoard$Row;") (by decide +kernel)) rfl rfl (by decide +kernel) rfl rfl (Nat.le_of_ble_eq_true rfl) dX1_init_52 (fun a4 H locs hP hD hS => ?_)
  refine W.widen (k := 8) (n := 0 + 1 + N + 1 + N + 1 + N + 1 + (8 * N)) (by omega) (by omega) ?_
  refine lv_aload_n hx hb dX1_init_55 rfl (lv_at hl 0 rfl) ?_
  refine va_new (ci := 5) (fs := [.null]) (C := RX5) (T := TX5) (N := 1) hx hb hts hinX5_X1i tyX5 tyX5_ok hown (hts (.classLink RX1 9 RX5) (by decide +kernel)) (hts (.instantiable RX5 1) (by decide +kernel)) (hts (.initialized RX5) (by decide +kernel)) hK.1 hP hD hS hA rfl (fun j hj => by rcases (show j = 0 by omega) with rfl <;> rfl) (show 8 + 1 ≤ 10 by omega) (show 0 + 1 + N + 1 + N + 1 + N + 1 + (8 * N) + 1 ≤ 5 + 19 * N by omega) dX1_init_56 (fun q5 H hP hD hS => ?_)
  refine W.widen (k := 9) (n := 0 + 1 + N + 1 + N + 1 + N + 1 + (8 * N) + 1) (by omega) (by omega) ?_
  refine lv_dup hx hb dX1_init_59 rfl ?_
  refine lv_iload_n hx hb dX1_init_60 rfl (lv_at hl 1 rfl) ?_
  refine lv_bipush (v := 8) hx hb dX1_init_61 (by decide) ?_
  refine lv_imul hx hb dX1_init_63 ?_
  rw [show nI N * 8 = nI (8 * N) from by rw [show (8 : Int32) = nI 8 from rfl, pk_mul, Nat.mul_comm]]
  refine x_made (C := RX1) (T := TX1) (N := 5) (ci := 1) (fs := [.ref q1, .ref q2, .ref q3, .ref q4, .null]) (cj := 5) (fs1 := [.null]) (ty := .object "StrokeBoard$Row") (mc := 1) (ms := (8 * N)) (bd := (bdRow cA (8 * N))) hx hb hK hA hnm hown hP hD hS (va_runI (As := [.int (nI (8 * N))]) (rest := [.ref q5, .ref h0]) ⟨hx, hb, hml, hown, hts⟩ (nX5 l D cA (8 * N) (by omega) q5 H.size) (cwI 1 hts gX1_init_X5_init rfl rfl rfl (hts (.initialized RX5) (by decide +kernel)) (hts (.methodLink RX1 11 yX5_init) (by decide +kernel)) (hts (.instanceMethod yX5_init) (by decide +kernel)) rfl (by decide +kernel) ⟨(Nat.le_of_ble_eq_true rfl), (Nat.le_of_ble_eq_true rfl)⟩) (n_start hK hP hD) rfl rfl hl.1 rfl (lv_room (Nat.le_of_ble_eq_true rfl)) dX1_init_64 ⟨show 9 + 1 ≤ 10 by omega, show 0 + 1 + N + 1 + N + 1 + N + 1 + (8 * N) + 1 + (8 * N) ≤ 5 + 19 * N by omega⟩) hts hinX1_X1i tyX1 tyX1_ok nmX1 rfl 4 (by decide) (hts (.fieldLink RX1 29 "StrokeBoard$Ink" "ys" "LStrokeBoard$Row;") (by decide +kernel)) rfl rfl (by decide +kernel) rfl rfl (Nat.le_of_ble_eq_true rfl) dX1_init_67 (fun a5 H locs hP hD hS => ?_)
  refine W.widen (k := 10) (n := 0 + 1 + N + 1 + N + 1 + N + 1 + (8 * N) + 1 + (8 * N)) (by omega) (by omega) ?_
  exact n_ret (bd := (bdX1 cA N)) (fun k => ([q1, a1 0, q2, a2 0, q3, a3 0, q4, a4 0, q5, a5 0] : List Nat).getD k 0) hx hb hr hlk hP hD hS (by omega) (by omega) dX1_init_70
def bdX2 (cA : ClassId) : Nat → (Nat → Nat) → va_W := fun h0 a => [(h0, .inr (2, [.ref (a 0)])), (a 0, .inr (5, [.ref (a 1)])), (a 1, .inl (cA, (500, .inl (fun _ => 0))))]
theorem hinX5_X2i : ∀ w ∈ u_ws RX5 TX5 1, w ∈ wsX2_init := by decide +kernel
theorem hinX2_X2i : ∀ w ∈ u_ws RX2 TX2 1, w ∈ wsX2_init := by decide +kernel
set_option maxHeartbeats 4000000 in
set_option maxRecDepth 100000 in
theorem nX2 (l : Launch) (D : va_G) (cA : ClassId) : Cn l yX2_init wsX2_init 2 35 2 (501) D cA 2 [.null] [] (bdX2 cA) := by
  refine Cn_of (cc := cX2_init) (maxL := 1) (by decide +kernel) rfl rfl (fun _ => Nat.le_of_ble_eq_true rfl) ?_
  intro p e s m below meth c h0 A hZ H locs ls hP hD hS hl
  obtain ⟨hx, hb, hml, hown, hts, hr, hlk, hK, hnm, hA⟩ := hZ
  have hl : lv_has ls 1 [(0, .ref h0)] := hl
  refine lv_aload_n hx hb dX2_init_0 rfl (lv_at hl 0 rfl) ?_
  refine W.objInit hx hb hown (hts (.methodLink RX2 3 objectInit) (by decide +kernel)) (hts (.instanceMethod objectInit) (by decide +kernel)) (hts (.code objectInit ⟨#[0xb1]⟩ 1 none) (by decide +kernel)) rfl (by rw [hml]; exact hl.1) rfl dX2_init_1 (Nat.le_of_ble_eq_true rfl) (Nat.le_of_ble_eq_true rfl) ?_
  refine W.eq (g2 := F0 m 4 ls []) rfl ?_
  refine lv_aload_n hx hb dX2_init_4 rfl (lv_at hl 0 rfl) ?_
  refine va_new (ci := 5) (fs := [.null]) (C := RX5) (T := TX5) (N := 1) hx hb hts hinX5_X2i tyX5 tyX5_ok hown (hts (.classLink RX2 9 RX5) (by decide +kernel)) (hts (.instantiable RX5 1) (by decide +kernel)) (hts (.initialized RX5) (by decide +kernel)) hK.1 hP hD hS hA rfl (fun j hj => by rcases (show j = 0 by omega) with rfl <;> rfl) (show 0 + 1 ≤ 2 by omega) (show 0 + 1 ≤ 501 by omega) dX2_init_5 (fun q1 H hP hD hS => ?_)
  refine W.widen (k := 1) (n := 1) (by omega) (by omega) ?_
  refine lv_dup hx hb dX2_init_8 rfl ?_
  refine lv_sipush (v := 500) hx hb dX2_init_9 (by decide) ?_
  refine x_made (C := RX2) (T := TX2) (N := 1) (ci := 2) (fs := [.null]) (cj := 5) (fs1 := [.null]) (ty := .object "StrokeBoard$Row") (mc := 1) (ms := 500) (bd := (bdRow cA 500)) hx hb hK hA hnm hown hP hD hS (va_runI (As := [.int (nI 500)]) (rest := [.ref q1, .ref h0]) ⟨hx, hb, hml, hown, hts⟩ (nX5 l D cA 500 (by omega) q1 H.size) (cwI 1 hts gX2_init_X5_init rfl rfl rfl (hts (.initialized RX5) (by decide +kernel)) (hts (.methodLink RX2 11 yX5_init) (by decide +kernel)) (hts (.instanceMethod yX5_init) (by decide +kernel)) rfl (by decide +kernel) ⟨(Nat.le_of_ble_eq_true rfl), (Nat.le_of_ble_eq_true rfl)⟩) (n_start hK hP hD) rfl rfl hl.1 rfl (lv_room (Nat.le_of_ble_eq_true rfl)) dX2_init_12 ⟨show 1 + 1 ≤ 2 by omega, show 1 + 500 ≤ 501 by omega⟩) hts hinX2_X2i tyX2 tyX2_ok nmX2 rfl 0 (by decide) (hts (.fieldLink RX2 14 "StrokeBoard$Knowledge" "known" "LStrokeBoard$Row;") (by decide +kernel)) rfl rfl (by decide +kernel) rfl rfl (Nat.le_of_ble_eq_true rfl) dX2_init_15 (fun a1 H locs hP hD hS => ?_)
  refine W.widen (k := 2) (n := 501) (by omega) (by omega) ?_
  exact n_ret (bd := (bdX2 cA)) (fun k => ([q1, a1 0] : List Nat).getD k 0) hx hb hr hlk hP hD hS (by omega) (by omega) dX2_init_18
def bdX3 (cA : ClassId) : Nat → (Nat → Nat) → va_W := fun h0 a => [(h0, .inr (3, [.ref (a 0), .ref (a 2)])), (a 0, .inr (5, [.ref (a 1)])), (a 1, .inl (cA, (25, .inl (fun _ => 0)))), (a 2, .inr (5, [.ref (a 3)])), (a 3, .inl (cA, (250, .inl (fun _ => 0))))]
theorem hinX5_X3i : ∀ w ∈ u_ws RX5 TX5 1, w ∈ wsX3_init := by decide +kernel
theorem hinX3_X3i : ∀ w ∈ u_ws RX3 TX3 2, w ∈ wsX3_init := by decide +kernel
set_option maxHeartbeats 4000000 in
set_option maxRecDepth 100000 in
theorem nX3 (l : Launch) (D : va_G) (cA : ClassId) : Cn l yX3_init wsX3_init 2 35 4 (277) D cA 3 [.null, .null] [] (bdX3 cA) := by
  refine Cn_of (cc := cX3_init) (maxL := 1) (by decide +kernel) rfl rfl (fun _ => Nat.le_of_ble_eq_true rfl) ?_
  intro p e s m below meth c h0 A hZ H locs ls hP hD hS hl
  obtain ⟨hx, hb, hml, hown, hts, hr, hlk, hK, hnm, hA⟩ := hZ
  have hl : lv_has ls 1 [(0, .ref h0)] := hl
  refine lv_aload_n hx hb dX3_init_0 rfl (lv_at hl 0 rfl) ?_
  refine W.objInit hx hb hown (hts (.methodLink RX3 3 objectInit) (by decide +kernel)) (hts (.instanceMethod objectInit) (by decide +kernel)) (hts (.code objectInit ⟨#[0xb1]⟩ 1 none) (by decide +kernel)) rfl (by rw [hml]; exact hl.1) rfl dX3_init_1 (Nat.le_of_ble_eq_true rfl) (Nat.le_of_ble_eq_true rfl) ?_
  refine W.eq (g2 := F0 m 4 ls []) rfl ?_
  refine lv_aload_n hx hb dX3_init_4 rfl (lv_at hl 0 rfl) ?_
  refine va_new (ci := 5) (fs := [.null]) (C := RX5) (T := TX5) (N := 1) hx hb hts hinX5_X3i tyX5 tyX5_ok hown (hts (.classLink RX3 9 RX5) (by decide +kernel)) (hts (.instantiable RX5 1) (by decide +kernel)) (hts (.initialized RX5) (by decide +kernel)) hK.1 hP hD hS hA rfl (fun j hj => by rcases (show j = 0 by omega) with rfl <;> rfl) (show 0 + 1 ≤ 4 by omega) (show 0 + 1 ≤ 277 by omega) dX3_init_5 (fun q1 H hP hD hS => ?_)
  refine W.widen (k := 1) (n := 1) (by omega) (by omega) ?_
  refine lv_dup hx hb dX3_init_8 rfl ?_
  refine lv_bipush (v := 25) hx hb dX3_init_9 (by decide) ?_
  refine x_made (C := RX3) (T := TX3) (N := 2) (ci := 3) (fs := [.null, .null]) (cj := 5) (fs1 := [.null]) (ty := .object "StrokeBoard$Row") (mc := 1) (ms := 25) (bd := (bdRow cA 25)) hx hb hK hA hnm hown hP hD hS (va_runI (As := [.int (nI 25)]) (rest := [.ref q1, .ref h0]) ⟨hx, hb, hml, hown, hts⟩ (nX5 l D cA 25 (by omega) q1 H.size) (cwI 1 hts gX3_init_X5_init rfl rfl rfl (hts (.initialized RX5) (by decide +kernel)) (hts (.methodLink RX3 11 yX5_init) (by decide +kernel)) (hts (.instanceMethod yX5_init) (by decide +kernel)) rfl (by decide +kernel) ⟨(Nat.le_of_ble_eq_true rfl), (Nat.le_of_ble_eq_true rfl)⟩) (n_start hK hP hD) rfl rfl hl.1 rfl (lv_room (Nat.le_of_ble_eq_true rfl)) dX3_init_11 ⟨show 1 + 1 ≤ 4 by omega, show 1 + 25 ≤ 277 by omega⟩) hts hinX3_X3i tyX3 tyX3_ok nmX3 rfl 0 (by decide) (hts (.fieldLink RX3 14 "StrokeBoard$Links" "counts" "LStrokeBoard$Row;") (by decide +kernel)) rfl rfl (by decide +kernel) rfl rfl (Nat.le_of_ble_eq_true rfl) dX3_init_14 (fun a1 H locs hP hD hS => ?_)
  refine W.widen (k := 2) (n := 26) (by omega) (by omega) ?_
  refine lv_aload_n hx hb dX3_init_17 rfl (lv_at hl 0 rfl) ?_
  refine va_new (ci := 5) (fs := [.null]) (C := RX5) (T := TX5) (N := 1) hx hb hts hinX5_X3i tyX5 tyX5_ok hown (hts (.classLink RX3 9 RX5) (by decide +kernel)) (hts (.instantiable RX5 1) (by decide +kernel)) (hts (.initialized RX5) (by decide +kernel)) hK.1 hP hD hS hA rfl (fun j hj => by rcases (show j = 0 by omega) with rfl <;> rfl) (show 2 + 1 ≤ 4 by omega) (show 26 + 1 ≤ 277 by omega) dX3_init_18 (fun q2 H hP hD hS => ?_)
  refine W.widen (k := 3) (n := 27) (by omega) (by omega) ?_
  refine lv_dup hx hb dX3_init_21 rfl ?_
  refine lv_sipush (v := 250) hx hb dX3_init_22 (by decide) ?_
  refine x_made (C := RX3) (T := TX3) (N := 2) (ci := 3) (fs := [.ref q1, .null]) (cj := 5) (fs1 := [.null]) (ty := .object "StrokeBoard$Row") (mc := 1) (ms := 250) (bd := (bdRow cA 250)) hx hb hK hA hnm hown hP hD hS (va_runI (As := [.int (nI 250)]) (rest := [.ref q2, .ref h0]) ⟨hx, hb, hml, hown, hts⟩ (nX5 l D cA 250 (by omega) q2 H.size) (cwI 1 hts gX3_init_X5_init rfl rfl rfl (hts (.initialized RX5) (by decide +kernel)) (hts (.methodLink RX3 11 yX5_init) (by decide +kernel)) (hts (.instanceMethod yX5_init) (by decide +kernel)) rfl (by decide +kernel) ⟨(Nat.le_of_ble_eq_true rfl), (Nat.le_of_ble_eq_true rfl)⟩) (n_start hK hP hD) rfl rfl hl.1 rfl (lv_room (Nat.le_of_ble_eq_true rfl)) dX3_init_25 ⟨show 3 + 1 ≤ 4 by omega, show 27 + 250 ≤ 277 by omega⟩) hts hinX3_X3i tyX3 tyX3_ok nmX3 rfl 1 (by decide) (hts (.fieldLink RX3 20 "StrokeBoard$Links" "messages" "LStrokeBoard$Row;") (by decide +kernel)) rfl rfl (by decide +kernel) rfl rfl (Nat.le_of_ble_eq_true rfl) dX3_init_28 (fun a2 H locs hP hD hS => ?_)
  refine W.widen (k := 4) (n := 277) (by omega) (by omega) ?_
  exact n_ret (bd := (bdX3 cA)) (fun k => ([q1, a1 0, q2, a2 0] : List Nat).getD k 0) hx hb hr hlk hP hD hS (by omega) (by omega) dX3_init_31
