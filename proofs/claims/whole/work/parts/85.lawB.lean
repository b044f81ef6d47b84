set_option maxHeartbeats 4000000 in
set_option maxRecDepth 100000 in
theorem lc_reset {p : Program} {l : Launch} {e : Env} {s : State} {m : MethodId} {below : List Frame} {meth : Method} {c : Code} {b0 L : Nat} {xs : Nat → Int32} {D : va_G} {cA : ClassId} {a b : Nat → Nat} {A : Nat → Prop} {cells slots i : Nat} {Q : State → Prop} {σ τ : St} {H : Heap} {locs : List Loc} {ls : Array Slot} (F : lc_F p s m c b0 L xs D cA a b A) (hl : lv_has ls 4 (lc_lv b0 a b i)) (hi : i + 6 ≤ L) (S : lc_S s D cA a b A σ τ H locs) (hc : cells ≤ 600000) (hs : slots ≤ 7302250)
    (next : ∀ (σ τ : St) (H : Heap) (locs : List Loc), lc_S s D cA a b A σ τ H locs → W p l e room_1 s m #[Value.ref b0] below meth c H locs cells slots Q (F0 m 960 ls [])) : W p l e room_1 s m #[Value.ref b0] below meth c H locs cells slots Q (F0 m 152 ls []) := by
  obtain ⟨hx, hb, hml, hown, hts, hK, hJa, hJb, hX, hbl, hbA, hAa, hAb, hba, hab, hL⟩ := F
  obtain ⟨hP, hP2, hRel, hS⟩ := S
  have hf : cells ≤ room_1.cells ∧ slots ≤ room_1.slots := ⟨hc, hs⟩
  have hv1 : vp_in (nI i + 1) L := lc_in 1 hi hL (by omega)
  obtain ⟨r, σ1, τ1, h1, h2, hR1⟩ := op_reset hRel (xs (Int32.toNatClampNeg (nI i + 1)))
  refine lv_aload_n hx hb dL_law_152 rfl (lv_at hl 2 rfl) ?_
  refine lv_aload_n hx hb dL_law_153 rfl (lv_at hl 3 rfl) ?_
  refine lv_iload_n hx hb dL_law_154 rfl (lv_at hl 0 rfl) ?_
  refine lv_iconst (v := 1) hx hb dL_law_155 (by decide) ?_
  refine lv_iadd hx hb dL_law_156 ?_
  refine va_sld hx hb hX hbl hbA hS hv1 dL_law_157 ?_
  refine x_callV (As := [.int (xs (Int32.toNatClampNeg (nI i + 1)))]) (rest := []) hAa ⟨hx, hb, hml, hown, hts⟩ (tX6_reset l D cA a hJa (xs (Int32.toNatClampNeg (nI i + 1))) σ _ _ h1) (cwV 1 hts gL_law_X6_reset rfl rfl rfl (by decide +kernel) ⟨(Nat.le_of_ble_eq_true rfl), (Nat.le_of_ble_eq_true rfl)⟩) hK hP hS KC_sb rfl rfl hl.1 rfl (Nat.le_of_ble_eq_true rfl) hf dL_law_158 (fun H1 locs1 hP hS hz hk => ?_)
  have hP2 := lc_keep hP2 hba hk
  refine lv_aload_n hx hb dL_law_161 rfl (lv_at hl 1 rfl) ?_
  refine lv_aload_n hx hb dL_law_162 rfl (lv_at hl 3 rfl) ?_
  refine lv_iload_n hx hb dL_law_163 rfl (lv_at hl 0 rfl) ?_
  refine lv_iconst (v := 1) hx hb dL_law_164 (by decide) ?_
  refine lv_iadd hx hb dL_law_165 ?_
  refine va_sld hx hb hX hbl hbA hS hv1 dL_law_166 ?_
  refine x_callV (As := [.int (xs (Int32.toNatClampNeg (nI i + 1)))]) (rest := [.int r]) hAb ⟨hx, hb, hml, hown, hts⟩ (tX7_reset l D cA b hJb (xs (Int32.toNatClampNeg (nI i + 1))) τ _ _ h2) (cwV 1 hts gL_law_X7_reset rfl rfl rfl (by decide +kernel) ⟨(Nat.le_of_ble_eq_true rfl), (Nat.le_of_ble_eq_true rfl)⟩) hK hP2 hS KM_obj rfl rfl hl.1 rfl (Nat.le_of_ble_eq_true rfl) hf dL_law_167 (fun H2 locs2 hP2 hS hz2 hk2 => ?_)
  have hP := lc_keep hP hab hk2
  exact lv_icmp_eq (tgt := 960) hx hb dL_law_170 (by decide) (fun _ => next _ _ _ _ ⟨hP, hP2, hR1, hS⟩) (fun hne => absurd rfl hne)
set_option maxHeartbeats 4000000 in
set_option maxRecDepth 100000 in
theorem lc_join {p : Program} {l : Launch} {e : Env} {s : State} {m : MethodId} {below : List Frame} {meth : Method} {c : Code} {b0 L : Nat} {xs : Nat → Int32} {D : va_G} {cA : ClassId} {a b : Nat → Nat} {A : Nat → Prop} {cells slots i : Nat} {Q : State → Prop} {σ τ : St} {H : Heap} {locs : List Loc} {ls : Array Slot} (F : lc_F p s m c b0 L xs D cA a b A) (hl : lv_has ls 4 (lc_lv b0 a b i)) (hi : i + 6 ≤ L) (S : lc_S s D cA a b A σ τ H locs) (hc : cells ≤ 600000) (hs : slots ≤ 7302250)
    (next : ∀ (σ τ : St) (H : Heap) (locs : List Loc), lc_S s D cA a b A σ τ H locs → W p l e room_1 s m #[Value.ref b0] below meth c H locs cells slots Q (F0 m 960 ls [])) : W p l e room_1 s m #[Value.ref b0] below meth c H locs cells slots Q (F0 m 175 ls []) := by
  obtain ⟨hx, hb, hml, hown, hts, hK, hJa, hJb, hX, hbl, hbA, hAa, hAb, hba, hab, hL⟩ := F
  obtain ⟨hP, hP2, hRel, hS⟩ := S
  have hf : cells ≤ room_1.cells ∧ slots ≤ room_1.slots := ⟨hc, hs⟩
  obtain ⟨r, σ1, τ1, h1, h2, hR1⟩ := op_join hRel
  refine lv_aload_n hx hb dL_law_175 rfl (lv_at hl 2 rfl) ?_
  refine x_callV (As := []) (rest := []) hAa ⟨hx, hb, hml, hown, hts⟩ (tX6_join l D cA a hJa σ _ _ h1) (cwV 0 hts gL_law_X6_join rfl rfl rfl (by decide +kernel) ⟨(Nat.le_of_ble_eq_true rfl), (Nat.le_of_ble_eq_true rfl)⟩) hK hP hS KC_sb rfl rfl hl.1 rfl (Nat.le_of_ble_eq_true rfl) hf dL_law_176 (fun H1 locs1 hP hS hz hk => ?_)
  have hP2 := lc_keep hP2 hba hk
  refine lv_aload_n hx hb dL_law_179 rfl (lv_at hl 1 rfl) ?_
  refine x_callV (As := []) (rest := [.int r]) hAb ⟨hx, hb, hml, hown, hts⟩ (tX7_join l D cA b hJb τ _ _ h2) (cwV 0 hts gL_law_X7_join rfl rfl rfl (by decide +kernel) ⟨(Nat.le_of_ble_eq_true rfl), (Nat.le_of_ble_eq_true rfl)⟩) hK hP2 hS KM_obj rfl rfl hl.1 rfl (Nat.le_of_ble_eq_true rfl) hf dL_law_180 (fun H2 locs2 hP2 hS hz2 hk2 => ?_)
  have hP := lc_keep hP hab hk2
  exact lv_icmp_eq (tgt := 960) hx hb dL_law_183 (by decide) (fun _ => next _ _ _ _ ⟨hP, hP2, hR1, hS⟩) (fun hne => absurd rfl hne)
set_option maxHeartbeats 4000000 in
set_option maxRecDepth 100000 in
theorem lc_sites {p : Program} {l : Launch} {e : Env} {s : State} {m : MethodId} {below : List Frame} {meth : Method} {c : Code} {b0 L : Nat} {xs : Nat → Int32} {D : va_G} {cA : ClassId} {a b : Nat → Nat} {A : Nat → Prop} {cells slots i : Nat} {Q : State → Prop} {σ τ : St} {H : Heap} {locs : List Loc} {ls : Array Slot} (F : lc_F p s m c b0 L xs D cA a b A) (hl : lv_has ls 4 (lc_lv b0 a b i)) (hi : i + 6 ≤ L) (S : lc_S s D cA a b A σ τ H locs) (hc : cells ≤ 600000) (hs : slots ≤ 7302250)
    (next : ∀ (σ τ : St) (H : Heap) (locs : List Loc), lc_S s D cA a b A σ τ H locs → W p l e room_1 s m #[Value.ref b0] below meth c H locs cells slots Q (F0 m 960 ls [])) : W p l e room_1 s m #[Value.ref b0] below meth c H locs cells slots Q (F0 m 188 ls []) := by
  obtain ⟨hx, hb, hml, hown, hts, hK, hJa, hJb, hX, hbl, hbA, hAa, hAb, hba, hab, hL⟩ := F
  obtain ⟨hP, hP2, hRel, hS⟩ := S
  have hf : cells ≤ room_1.cells ∧ slots ≤ room_1.slots := ⟨hc, hs⟩
  obtain ⟨r, σ1, τ1, h1, h2, hR1⟩ := op_sites hRel
  refine lv_aload_n hx hb dL_law_188 rfl (lv_at hl 2 rfl) ?_
  refine x_callV (As := []) (rest := []) hAa ⟨hx, hb, hml, hown, hts⟩ (tX6_sites l D cA a hJa σ _ _ h1) (cwV 0 hts gL_law_X6_sites rfl rfl rfl (by decide +kernel) ⟨(Nat.le_of_ble_eq_true rfl), (Nat.le_of_ble_eq_true rfl)⟩) hK hP hS KC_sb rfl rfl hl.1 rfl (Nat.le_of_ble_eq_true rfl) hf dL_law_189 (fun H1 locs1 hP hS hz hk => ?_)
  have hP2 := lc_keep hP2 hba hk
  refine lv_aload_n hx hb dL_law_192 rfl (lv_at hl 1 rfl) ?_
  refine x_callV (As := []) (rest := [.int r]) hAb ⟨hx, hb, hml, hown, hts⟩ (tX7_sites l D cA b hJb τ _ _ h2) (cwV 0 hts gL_law_X7_sites rfl rfl rfl (by decide +kernel) ⟨(Nat.le_of_ble_eq_true rfl), (Nat.le_of_ble_eq_true rfl)⟩) hK hP2 hS KM_obj rfl rfl hl.1 rfl (Nat.le_of_ble_eq_true rfl) hf dL_law_193 (fun H2 locs2 hP2 hS hz2 hk2 => ?_)
  have hP := lc_keep hP hab hk2
  exact lv_icmp_eq (tgt := 960) hx hb dL_law_196 (by decide) (fun _ => next _ _ _ _ ⟨hP, hP2, hR1, hS⟩) (fun hne => absurd rfl hne)
set_option maxHeartbeats 4000000 in
set_option maxRecDepth 100000 in
theorem lc_siteInfo {p : Program} {l : Launch} {e : Env} {s : State} {m : MethodId} {below : List Frame} {meth : Method} {c : Code} {b0 L : Nat} {xs : Nat → Int32} {D : va_G} {cA : ClassId} {a b : Nat → Nat} {A : Nat → Prop} {cells slots i : Nat} {Q : State → Prop} {σ τ : St} {H : Heap} {locs : List Loc} {ls : Array Slot} (F : lc_F p s m c b0 L xs D cA a b A) (hl : lv_has ls 4 (lc_lv b0 a b i)) (hi : i + 6 ≤ L) (S : lc_S s D cA a b A σ τ H locs) (hc : cells ≤ 600000) (hs : slots ≤ 7302250)
    (next : ∀ (σ τ : St) (H : Heap) (locs : List Loc), lc_S s D cA a b A σ τ H locs → W p l e room_1 s m #[Value.ref b0] below meth c H locs cells slots Q (F0 m 960 ls [])) : W p l e room_1 s m #[Value.ref b0] below meth c H locs cells slots Q (F0 m 201 ls []) := by
  obtain ⟨hx, hb, hml, hown, hts, hK, hJa, hJb, hX, hbl, hbA, hAa, hAb, hba, hab, hL⟩ := F
  obtain ⟨hP, hP2, hRel, hS⟩ := S
  have hf : cells ≤ room_1.cells ∧ slots ≤ room_1.slots := ⟨hc, hs⟩
  have hv1 : vp_in (nI i + 1) L := lc_in 1 hi hL (by omega)
  have hv2 : vp_in (nI i + 2) L := lc_in 2 hi hL (by omega)
  obtain ⟨r, σ1, τ1, h1, h2, hR1⟩ := op_siteInfo hRel (xs (Int32.toNatClampNeg (nI i + 1))) (xs (Int32.toNatClampNeg (nI i + 2)))
  refine lv_aload_n hx hb dL_law_201 rfl (lv_at hl 2 rfl) ?_
  refine lv_aload_n hx hb dL_law_202 rfl (lv_at hl 3 rfl) ?_
  refine lv_iload_n hx hb dL_law_203 rfl (lv_at hl 0 rfl) ?_
  refine lv_iconst (v := 1) hx hb dL_law_204 (by decide) ?_
  refine lv_iadd hx hb dL_law_205 ?_
  refine va_sld hx hb hX hbl hbA hS hv1 dL_law_206 ?_
  refine lv_aload_n hx hb dL_law_207 rfl (lv_at hl 3 rfl) ?_
  refine lv_iload_n hx hb dL_law_208 rfl (lv_at hl 0 rfl) ?_
  refine lv_iconst (v := 2) hx hb dL_law_209 (by decide) ?_
  refine lv_iadd hx hb dL_law_210 ?_
  refine va_sld hx hb hX hbl hbA hS hv2 dL_law_211 ?_
  refine x_callV (As := [.int (xs (Int32.toNatClampNeg (nI i + 1))), .int (xs (Int32.toNatClampNeg (nI i + 2)))]) (rest := []) hAa ⟨hx, hb, hml, hown, hts⟩ (tX6_siteInfo l D cA a hJa (xs (Int32.toNatClampNeg (nI i + 1))) (xs (Int32.toNatClampNeg (nI i + 2))) σ _ _ h1) (cwV 2 hts gL_law_X6_siteInfo rfl rfl rfl (by decide +kernel) ⟨(Nat.le_of_ble_eq_true rfl), (Nat.le_of_ble_eq_true rfl)⟩) hK hP hS KC_sb rfl rfl hl.1 rfl (Nat.le_of_ble_eq_true rfl) hf dL_law_212 (fun H1 locs1 hP hS hz hk => ?_)
  have hP2 := lc_keep hP2 hba hk
  refine lv_aload_n hx hb dL_law_215 rfl (lv_at hl 1 rfl) ?_
  refine lv_aload_n hx hb dL_law_216 rfl (lv_at hl 3 rfl) ?_
  refine lv_iload_n hx hb dL_law_217 rfl (lv_at hl 0 rfl) ?_
  refine lv_iconst (v := 1) hx hb dL_law_218 (by decide) ?_
  refine lv_iadd hx hb dL_law_219 ?_
  refine va_sld hx hb hX hbl hbA hS hv1 dL_law_220 ?_
  refine lv_aload_n hx hb dL_law_221 rfl (lv_at hl 3 rfl) ?_
  refine lv_iload_n hx hb dL_law_222 rfl (lv_at hl 0 rfl) ?_
  refine lv_iconst (v := 2) hx hb dL_law_223 (by decide) ?_
  refine lv_iadd hx hb dL_law_224 ?_
  refine va_sld hx hb hX hbl hbA hS hv2 dL_law_225 ?_
  refine x_callV (As := [.int (xs (Int32.toNatClampNeg (nI i + 1))), .int (xs (Int32.toNatClampNeg (nI i + 2)))]) (rest := [.int r]) hAb ⟨hx, hb, hml, hown, hts⟩ (tX7_siteInfo l D cA b hJb (xs (Int32.toNatClampNeg (nI i + 1))) (xs (Int32.toNatClampNeg (nI i + 2))) τ _ _ h2) (cwV 2 hts gL_law_X7_siteInfo rfl rfl rfl (by decide +kernel) ⟨(Nat.le_of_ble_eq_true rfl), (Nat.le_of_ble_eq_true rfl)⟩) hK hP2 hS KM_obj rfl rfl hl.1 rfl (Nat.le_of_ble_eq_true rfl) hf dL_law_226 (fun H2 locs2 hP2 hS hz2 hk2 => ?_)
  have hP := lc_keep hP hab hk2
  exact lv_icmp_eq (tgt := 960) hx hb dL_law_229 (by decide) (fun _ => next _ _ _ _ ⟨hP, hP2, hR1, hS⟩) (fun hne => absurd rfl hne)
set_option maxHeartbeats 4000000 in
set_option maxRecDepth 100000 in
theorem lc_penDown {p : Program} {l : Launch} {e : Env} {s : State} {m : MethodId} {below : List Frame} {meth : Method} {c : Code} {b0 L : Nat} {xs : Nat → Int32} {D : va_G} {cA : ClassId} {a b : Nat → Nat} {A : Nat → Prop} {cells slots i : Nat} {Q : State → Prop} {σ τ : St} {H : Heap} {locs : List Loc} {ls : Array Slot} (F : lc_F p s m c b0 L xs D cA a b A) (hl : lv_has ls 4 (lc_lv b0 a b i)) (hi : i + 6 ≤ L) (S : lc_S s D cA a b A σ τ H locs) (hc : cells ≤ 600000) (hs : slots ≤ 7302250)
    (next : ∀ (σ τ : St) (H : Heap) (locs : List Loc), lc_S s D cA a b A σ τ H locs → W p l e room_1 s m #[Value.ref b0] below meth c H locs cells slots Q (F0 m 960 ls [])) : W p l e room_1 s m #[Value.ref b0] below meth c H locs cells slots Q (F0 m 234 ls []) := by
  obtain ⟨hx, hb, hml, hown, hts, hK, hJa, hJb, hX, hbl, hbA, hAa, hAb, hba, hab, hL⟩ := F
  obtain ⟨hP, hP2, hRel, hS⟩ := S
  have hf : cells ≤ room_1.cells ∧ slots ≤ room_1.slots := ⟨hc, hs⟩
  have hv1 : vp_in (nI i + 1) L := lc_in 1 hi hL (by omega)
  have hv2 : vp_in (nI i + 2) L := lc_in 2 hi hL (by omega)
  have hv3 : vp_in (nI i + 3) L := lc_in 3 hi hL (by omega)
  have hv4 : vp_in (nI i + 4) L := lc_in 4 hi hL (by omega)
  have hv5 : vp_in (nI i + 5) L := lc_in 5 hi hL (by omega)
  obtain ⟨r, σ1, τ1, h1, h2, hR1⟩ := op_penDown hRel (xs (Int32.toNatClampNeg (nI i + 1))) (xs (Int32.toNatClampNeg (nI i + 2))) (xs (Int32.toNatClampNeg (nI i + 3))) (xs (Int32.toNatClampNeg (nI i + 4))) (xs (Int32.toNatClampNeg (nI i + 5)))
  refine lv_aload_n hx hb dL_law_234 rfl (lv_at hl 2 rfl) ?_
  refine lv_aload_n hx hb dL_law_235 rfl (lv_at hl 3 rfl) ?_
  refine lv_iload_n hx hb dL_law_236 rfl (lv_at hl 0 rfl) ?_
  refine lv_iconst (v := 1) hx hb dL_law_237 (by decide) ?_
  refine lv_iadd hx hb dL_law_238 ?_
  refine va_sld hx hb hX hbl hbA hS hv1 dL_law_239 ?_
  refine lv_aload_n hx hb dL_law_240 rfl (lv_at hl 3 rfl) ?_
  refine lv_iload_n hx hb dL_law_241 rfl (lv_at hl 0 rfl) ?_
  refine lv_iconst (v := 2) hx hb dL_law_242 (by decide) ?_
  refine lv_iadd hx hb dL_law_243 ?_
  refine va_sld hx hb hX hbl hbA hS hv2 dL_law_244 ?_
  refine lv_aload_n hx hb dL_law_245 rfl (lv_at hl 3 rfl) ?_
  refine lv_iload_n hx hb dL_law_246 rfl (lv_at hl 0 rfl) ?_
  refine lv_iconst (v := 3) hx hb dL_law_247 (by decide) ?_
  refine lv_iadd hx hb dL_law_248 ?_
  refine va_sld hx hb hX hbl hbA hS hv3 dL_law_249 ?_
  refine lv_aload_n hx hb dL_law_250 rfl (lv_at hl 3 rfl) ?_
  refine lv_iload_n hx hb dL_law_251 rfl (lv_at hl 0 rfl) ?_
  refine lv_iconst (v := 4) hx hb dL_law_252 (by decide) ?_
  refine lv_iadd hx hb dL_law_253 ?_
  refine va_sld hx hb hX hbl hbA hS hv4 dL_law_254 ?_
  refine lv_aload_n hx hb dL_law_255 rfl (lv_at hl 3 rfl) ?_
  refine lv_iload_n hx hb dL_law_256 rfl (lv_at hl 0 rfl) ?_
  refine lv_iconst (v := 5) hx hb dL_law_257 (by decide) ?_
  refine lv_iadd hx hb dL_law_258 ?_
  refine va_sld hx hb hX hbl hbA hS hv5 dL_law_259 ?_
  refine x_callV (As := [.int (xs (Int32.toNatClampNeg (nI i + 1))), .int (xs (Int32.toNatClampNeg (nI i + 2))), .int (xs (Int32.toNatClampNeg (nI i + 3))), .int (xs (Int32.toNatClampNeg (nI i + 4))), .int (xs (Int32.toNatClampNeg (nI i + 5)))]) (rest := []) hAa ⟨hx, hb, hml, hown, hts⟩ (tX6_penDown l D cA a hJa (xs (Int32.toNatClampNeg (nI i + 1))) (xs (Int32.toNatClampNeg (nI i + 2))) (xs (Int32.toNatClampNeg (nI i + 3))) (xs (Int32.toNatClampNeg (nI i + 4))) (xs (Int32.toNatClampNeg (nI i + 5))) σ _ _ h1) (cwV 5 hts gL_law_X6_penDown rfl rfl rfl (by decide +kernel) ⟨(Nat.le_of_ble_eq_true rfl), (Nat.le_of_ble_eq_true rfl)⟩) hK hP hS KC_sb rfl rfl hl.1 rfl (Nat.le_of_ble_eq_true rfl) hf dL_law_260 (fun H1 locs1 hP hS hz hk => ?_)
  have hP2 := lc_keep hP2 hba hk
  refine lv_aload_n hx hb dL_law_263 rfl (lv_at hl 1 rfl) ?_
  refine lv_aload_n hx hb dL_law_264 rfl (lv_at hl 3 rfl) ?_
  refine lv_iload_n hx hb dL_law_265 rfl (lv_at hl 0 rfl) ?_
  refine lv_iconst (v := 1) hx hb dL_law_266 (by decide) ?_
  refine lv_iadd hx hb dL_law_267 ?_
  refine va_sld hx hb hX hbl hbA hS hv1 dL_law_268 ?_
  refine lv_aload_n hx hb dL_law_269 rfl (lv_at hl 3 rfl) ?_
  refine lv_iload_n hx hb dL_law_270 rfl (lv_at hl 0 rfl) ?_
  refine lv_iconst (v := 2) hx hb dL_law_271 (by decide) ?_
  refine lv_iadd hx hb dL_law_272 ?_
  refine va_sld hx hb hX hbl hbA hS hv2 dL_law_273 ?_
  refine lv_aload_n hx hb dL_law_274 rfl (lv_at hl 3 rfl) ?_
  refine lv_iload_n hx hb dL_law_275 rfl (lv_at hl 0 rfl) ?_
  refine lv_iconst (v := 3) hx hb dL_law_276 (by decide) ?_
  refine lv_iadd hx hb dL_law_277 ?_
  refine va_sld hx hb hX hbl hbA hS hv3 dL_law_278 ?_
  refine lv_aload_n hx hb dL_law_279 rfl (lv_at hl 3 rfl) ?_
  refine lv_iload_n hx hb dL_law_280 rfl (lv_at hl 0 rfl) ?_
  refine lv_iconst (v := 4) hx hb dL_law_281 (by decide) ?_
  refine lv_iadd hx hb dL_law_282 ?_
  refine va_sld hx hb hX hbl hbA hS hv4 dL_law_283 ?_
  refine lv_aload_n hx hb dL_law_284 rfl (lv_at hl 3 rfl) ?_
  refine lv_iload_n hx hb dL_law_285 rfl (lv_at hl 0 rfl) ?_
  refine lv_iconst (v := 5) hx hb dL_law_286 (by decide) ?_
  refine lv_iadd hx hb dL_law_287 ?_
  refine va_sld hx hb hX hbl hbA hS hv5 dL_law_288 ?_
  refine x_callV (As := [.int (xs (Int32.toNatClampNeg (nI i + 1))), .int (xs (Int32.toNatClampNeg (nI i + 2))), .int (xs (Int32.toNatClampNeg (nI i + 3))), .int (xs (Int32.toNatClampNeg (nI i + 4))), .int (xs (Int32.toNatClampNeg (nI i + 5)))]) (rest := [.int r]) hAb ⟨hx, hb, hml, hown, hts⟩ (tX7_penDown l D cA b hJb (xs (Int32.toNatClampNeg (nI i + 1))) (xs (Int32.toNatClampNeg (nI i + 2))) (xs (Int32.toNatClampNeg (nI i + 3))) (xs (Int32.toNatClampNeg (nI i + 4))) (xs (Int32.toNatClampNeg (nI i + 5))) τ _ _ h2) (cwV 5 hts gL_law_X7_penDown rfl rfl rfl (by decide +kernel) ⟨(Nat.le_of_ble_eq_true rfl), (Nat.le_of_ble_eq_true rfl)⟩) hK hP2 hS KM_obj rfl rfl hl.1 rfl (Nat.le_of_ble_eq_true rfl) hf dL_law_289 (fun H2 locs2 hP2 hS hz2 hk2 => ?_)
  have hP := lc_keep hP hab hk2
  exact lv_icmp_eq (tgt := 960) hx hb dL_law_292 (by decide) (fun _ => next _ _ _ _ ⟨hP, hP2, hR1, hS⟩) (fun hne => absurd rfl hne)
set_option maxHeartbeats 4000000 in
set_option maxRecDepth 100000 in
theorem lc_penMove {p : Program} {l : Launch} {e : Env} {s : State} {m : MethodId} {below : List Frame} {meth : Method} {c : Code} {b0 L : Nat} {xs : Nat → Int32} {D : va_G} {cA : ClassId} {a b : Nat → Nat} {A : Nat → Prop} {cells slots i : Nat} {Q : State → Prop} {σ τ : St} {H : Heap} {locs : List Loc} {ls : Array Slot} (F : lc_F p s m c b0 L xs D cA a b A) (hl : lv_has ls 4 (lc_lv b0 a b i)) (hi : i + 6 ≤ L) (S : lc_S s D cA a b A σ τ H locs) (hc : cells ≤ 600000) (hs : slots ≤ 7302250)
    (next : ∀ (σ τ : St) (H : Heap) (locs : List Loc), lc_S s D cA a b A σ τ H locs → W p l e room_1 s m #[Value.ref b0] below meth c H locs cells slots Q (F0 m 960 ls [])) : W p l e room_1 s m #[Value.ref b0] below meth c H locs cells slots Q (F0 m 297 ls []) := by
  obtain ⟨hx, hb, hml, hown, hts, hK, hJa, hJb, hX, hbl, hbA, hAa, hAb, hba, hab, hL⟩ := F
  obtain ⟨hP, hP2, hRel, hS⟩ := S
  have hf : cells ≤ room_1.cells ∧ slots ≤ room_1.slots := ⟨hc, hs⟩
  have hv1 : vp_in (nI i + 1) L := lc_in 1 hi hL (by omega)
  have hv2 : vp_in (nI i + 2) L := lc_in 2 hi hL (by omega)
  have hv3 : vp_in (nI i + 3) L := lc_in 3 hi hL (by omega)
  obtain ⟨r, σ1, τ1, h1, h2, hR1⟩ := op_penMove hRel (xs (Int32.toNatClampNeg (nI i + 1))) (xs (Int32.toNatClampNeg (nI i + 2))) (xs (Int32.toNatClampNeg (nI i + 3)))
  refine lv_aload_n hx hb dL_law_297 rfl (lv_at hl 2 rfl) ?_
  refine lv_aload_n hx hb dL_law_298 rfl (lv_at hl 3 rfl) ?_
  refine lv_iload_n hx hb dL_law_299 rfl (lv_at hl 0 rfl) ?_
  refine lv_iconst (v := 1) hx hb dL_law_300 (by decide) ?_
  refine lv_iadd hx hb dL_law_301 ?_
  refine va_sld hx hb hX hbl hbA hS hv1 dL_law_302 ?_
  refine lv_aload_n hx hb dL_law_303 rfl (lv_at hl 3 rfl) ?_
  refine lv_iload_n hx hb dL_law_304 rfl (lv_at hl 0 rfl) ?_
  refine lv_iconst (v := 2) hx hb dL_law_305 (by decide) ?_
  refine lv_iadd hx hb dL_law_306 ?_
  refine va_sld hx hb hX hbl hbA hS hv2 dL_law_307 ?_
  refine lv_aload_n hx hb dL_law_308 rfl (lv_at hl 3 rfl) ?_
  refine lv_iload_n hx hb dL_law_309 rfl (lv_at hl 0 rfl) ?_
  refine lv_iconst (v := 3) hx hb dL_law_310 (by decide) ?_
  refine lv_iadd hx hb dL_law_311 ?_
  refine va_sld hx hb hX hbl hbA hS hv3 dL_law_312 ?_
  refine x_callV (As := [.int (xs (Int32.toNatClampNeg (nI i + 1))), .int (xs (Int32.toNatClampNeg (nI i + 2))), .int (xs (Int32.toNatClampNeg (nI i + 3)))]) (rest := []) hAa ⟨hx, hb, hml, hown, hts⟩ (tX6_penMove l D cA a hJa (xs (Int32.toNatClampNeg (nI i + 1))) (xs (Int32.toNatClampNeg (nI i + 2))) (xs (Int32.toNatClampNeg (nI i + 3))) σ _ _ h1) (cwV 3 hts gL_law_X6_penMove rfl rfl rfl (by decide +kernel) ⟨(Nat.le_of_ble_eq_true rfl), (Nat.le_of_ble_eq_true rfl)⟩) hK hP hS KC_sb rfl rfl hl.1 rfl (Nat.le_of_ble_eq_true rfl) hf dL_law_313 (fun H1 locs1 hP hS hz hk => ?_)
  have hP2 := lc_keep hP2 hba hk
  refine lv_aload_n hx hb dL_law_316 rfl (lv_at hl 1 rfl) ?_
  refine lv_aload_n hx hb dL_law_317 rfl (lv_at hl 3 rfl) ?_
  refine lv_iload_n hx hb dL_law_318 rfl (lv_at hl 0 rfl) ?_
  refine lv_iconst (v := 1) hx hb dL_law_319 (by decide) ?_
  refine lv_iadd hx hb dL_law_320 ?_
  refine va_sld hx hb hX hbl hbA hS hv1 dL_law_321 ?_
  refine lv_aload_n hx hb dL_law_322 rfl (lv_at hl 3 rfl) ?_
  refine lv_iload_n hx hb dL_law_323 rfl (lv_at hl 0 rfl) ?_
  refine lv_iconst (v := 2) hx hb dL_law_324 (by decide) ?_
  refine lv_iadd hx hb dL_law_325 ?_
  refine va_sld hx hb hX hbl hbA hS hv2 dL_law_326 ?_
  refine lv_aload_n hx hb dL_law_327 rfl (lv_at hl 3 rfl) ?_
  refine lv_iload_n hx hb dL_law_328 rfl (lv_at hl 0 rfl) ?_
  refine lv_iconst (v := 3) hx hb dL_law_329 (by decide) ?_
  refine lv_iadd hx hb dL_law_330 ?_
  refine va_sld hx hb hX hbl hbA hS hv3 dL_law_331 ?_
  refine x_callV (As := [.int (xs (Int32.toNatClampNeg (nI i + 1))), .int (xs (Int32.toNatClampNeg (nI i + 2))), .int (xs (Int32.toNatClampNeg (nI i + 3)))]) (rest := [.int r]) hAb ⟨hx, hb, hml, hown, hts⟩ (tX7_penMove l D cA b hJb (xs (Int32.toNatClampNeg (nI i + 1))) (xs (Int32.toNatClampNeg (nI i + 2))) (xs (Int32.toNatClampNeg (nI i + 3))) τ _ _ h2) (cwV 3 hts gL_law_X7_penMove rfl rfl rfl (by decide +kernel) ⟨(Nat.le_of_ble_eq_true rfl), (Nat.le_of_ble_eq_true rfl)⟩) hK hP2 hS KM_obj rfl rfl hl.1 rfl (Nat.le_of_ble_eq_true rfl) hf dL_law_332 (fun H2 locs2 hP2 hS hz2 hk2 => ?_)
  have hP := lc_keep hP hab hk2
  exact lv_icmp_eq (tgt := 960) hx hb dL_law_335 (by decide) (fun _ => next _ _ _ _ ⟨hP, hP2, hR1, hS⟩) (fun hne => absurd rfl hne)
set_option maxHeartbeats 4000000 in
set_option maxRecDepth 100000 in
theorem lc_penUp {p : Program} {l : Launch} {e : Env} {s : State} {m : MethodId} {below : List Frame} {meth : Method} {c : Code} {b0 L : Nat} {xs : Nat → Int32} {D : va_G} {cA : ClassId} {a b : Nat → Nat} {A : Nat → Prop} {cells slots i : Nat} {Q : State → Prop} {σ τ : St} {H : Heap} {locs : List Loc} {ls : Array Slot} (F : lc_F p s m c b0 L xs D cA a b A) (hl : lv_has ls 4 (lc_lv b0 a b i)) (hi : i + 6 ≤ L) (S : lc_S s D cA a b A σ τ H locs) (hc : cells ≤ 600000) (hs : slots ≤ 7302250)
    (next : ∀ (σ τ : St) (H : Heap) (locs : List Loc), lc_S s D cA a b A σ τ H locs → W p l e room_1 s m #[Value.ref b0] below meth c H locs cells slots Q (F0 m 960 ls [])) : W p l e room_1 s m #[Value.ref b0] below meth c H locs cells slots Q (F0 m 340 ls []) := by
  obtain ⟨hx, hb, hml, hown, hts, hK, hJa, hJb, hX, hbl, hbA, hAa, hAb, hba, hab, hL⟩ := F
  obtain ⟨hP, hP2, hRel, hS⟩ := S
  have hf : cells ≤ room_1.cells ∧ slots ≤ room_1.slots := ⟨hc, hs⟩
  have hv1 : vp_in (nI i + 1) L := lc_in 1 hi hL (by omega)
  obtain ⟨r, σ1, τ1, h1, h2, hR1⟩ := op_penUp hRel (xs (Int32.toNatClampNeg (nI i + 1)))
  refine lv_aload_n hx hb dL_law_340 rfl (lv_at hl 2 rfl) ?_
  refine lv_aload_n hx hb dL_law_341 rfl (lv_at hl 3 rfl) ?_
  refine lv_iload_n hx hb dL_law_342 rfl (lv_at hl 0 rfl) ?_
  refine lv_iconst (v := 1) hx hb dL_law_343 (by decide) ?_
  refine lv_iadd hx hb dL_law_344 ?_
  refine va_sld hx hb hX hbl hbA hS hv1 dL_law_345 ?_
  refine x_callV (As := [.int (xs (Int32.toNatClampNeg (nI i + 1)))]) (rest := []) hAa ⟨hx, hb, hml, hown, hts⟩ (tX6_penUp l D cA a hJa (xs (Int32.toNatClampNeg (nI i + 1))) σ _ _ h1) (cwV 1 hts gL_law_X6_penUp rfl rfl rfl (by decide +kernel) ⟨(Nat.le_of_ble_eq_true rfl), (Nat.le_of_ble_eq_true rfl)⟩) hK hP hS KC_sb rfl rfl hl.1 rfl (Nat.le_of_ble_eq_true rfl) hf dL_law_346 (fun H1 locs1 hP hS hz hk => ?_)
  have hP2 := lc_keep hP2 hba hk
  refine lv_aload_n hx hb dL_law_349 rfl (lv_at hl 1 rfl) ?_
  refine lv_aload_n hx hb dL_law_350 rfl (lv_at hl 3 rfl) ?_
  refine lv_iload_n hx hb dL_law_351 rfl (lv_at hl 0 rfl) ?_
  refine lv_iconst (v := 1) hx hb dL_law_352 (by decide) ?_
  refine lv_iadd hx hb dL_law_353 ?_
  refine va_sld hx hb hX hbl hbA hS hv1 dL_law_354 ?_
  refine x_callV (As := [.int (xs (Int32.toNatClampNeg (nI i + 1)))]) (rest := [.int r]) hAb ⟨hx, hb, hml, hown, hts⟩ (tX7_penUp l D cA b hJb (xs (Int32.toNatClampNeg (nI i + 1))) τ _ _ h2) (cwV 1 hts gL_law_X7_penUp rfl rfl rfl (by decide +kernel) ⟨(Nat.le_of_ble_eq_true rfl), (Nat.le_of_ble_eq_true rfl)⟩) hK hP2 hS KM_obj rfl rfl hl.1 rfl (Nat.le_of_ble_eq_true rfl) hf dL_law_355 (fun H2 locs2 hP2 hS hz2 hk2 => ?_)
  have hP := lc_keep hP hab hk2
  exact lv_icmp_eq (tgt := 960) hx hb dL_law_358 (by decide) (fun _ => next _ _ _ _ ⟨hP, hP2, hR1, hS⟩) (fun hne => absurd rfl hne)
set_option maxHeartbeats 4000000 in
set_option maxRecDepth 100000 in
theorem lc_undo {p : Program} {l : Launch} {e : Env} {s : State} {m : MethodId} {below : List Frame} {meth : Method} {c : Code} {b0 L : Nat} {xs : Nat → Int32} {D : va_G} {cA : ClassId} {a b : Nat → Nat} {A : Nat → Prop} {cells slots i : Nat} {Q : State → Prop} {σ τ : St} {H : Heap} {locs : List Loc} {ls : Array Slot} (F : lc_F p s m c b0 L xs D cA a b A) (hl : lv_has ls 4 (lc_lv b0 a b i)) (hi : i + 6 ≤ L) (S : lc_S s D cA a b A σ τ H locs) (hc : cells ≤ 600000) (hs : slots ≤ 7302250)
    (next : ∀ (σ τ : St) (H : Heap) (locs : List Loc), lc_S s D cA a b A σ τ H locs → W p l e room_1 s m #[Value.ref b0] below meth c H locs cells slots Q (F0 m 960 ls [])) : W p l e room_1 s m #[Value.ref b0] below meth c H locs cells slots Q (F0 m 363 ls []) := by
  obtain ⟨hx, hb, hml, hown, hts, hK, hJa, hJb, hX, hbl, hbA, hAa, hAb, hba, hab, hL⟩ := F
  obtain ⟨hP, hP2, hRel, hS⟩ := S
  have hf : cells ≤ room_1.cells ∧ slots ≤ room_1.slots := ⟨hc, hs⟩
  have hv1 : vp_in (nI i + 1) L := lc_in 1 hi hL (by omega)
  obtain ⟨r, σ1, τ1, h1, h2, hR1⟩ := op_undo hRel (xs (Int32.toNatClampNeg (nI i + 1)))
  refine lv_aload_n hx hb dL_law_363 rfl (lv_at hl 2 rfl) ?_
  refine lv_aload_n hx hb dL_law_364 rfl (lv_at hl 3 rfl) ?_
  refine lv_iload_n hx hb dL_law_365 rfl (lv_at hl 0 rfl) ?_
  refine lv_iconst (v := 1) hx hb dL_law_366 (by decide) ?_
  refine lv_iadd hx hb dL_law_367 ?_
  refine va_sld hx hb hX hbl hbA hS hv1 dL_law_368 ?_
  refine x_callV (As := [.int (xs (Int32.toNatClampNeg (nI i + 1)))]) (rest := []) hAa ⟨hx, hb, hml, hown, hts⟩ (tX6_undo l D cA a hJa (xs (Int32.toNatClampNeg (nI i + 1))) σ _ _ h1) (cwV 1 hts gL_law_X6_undo rfl rfl rfl (by decide +kernel) ⟨(Nat.le_of_ble_eq_true rfl), (Nat.le_of_ble_eq_true rfl)⟩) hK hP hS KC_sb rfl rfl hl.1 rfl (Nat.le_of_ble_eq_true rfl) hf dL_law_369 (fun H1 locs1 hP hS hz hk => ?_)
  have hP2 := lc_keep hP2 hba hk
  refine lv_aload_n hx hb dL_law_372 rfl (lv_at hl 1 rfl) ?_
  refine lv_aload_n hx hb dL_law_373 rfl (lv_at hl 3 rfl) ?_
  refine lv_iload_n hx hb dL_law_374 rfl (lv_at hl 0 rfl) ?_
  refine lv_iconst (v := 1) hx hb dL_law_375 (by decide) ?_
  refine lv_iadd hx hb dL_law_376 ?_
  refine va_sld hx hb hX hbl hbA hS hv1 dL_law_377 ?_
  refine x_callV (As := [.int (xs (Int32.toNatClampNeg (nI i + 1)))]) (rest := [.int r]) hAb ⟨hx, hb, hml, hown, hts⟩ (tX7_undo l D cA b hJb (xs (Int32.toNatClampNeg (nI i + 1))) τ _ _ h2) (cwV 1 hts gL_law_X7_undo rfl rfl rfl (by decide +kernel) ⟨(Nat.le_of_ble_eq_true rfl), (Nat.le_of_ble_eq_true rfl)⟩) hK hP2 hS KM_obj rfl rfl hl.1 rfl (Nat.le_of_ble_eq_true rfl) hf dL_law_378 (fun H2 locs2 hP2 hS hz2 hk2 => ?_)
  have hP := lc_keep hP hab hk2
  exact lv_icmp_eq (tgt := 960) hx hb dL_law_381 (by decide) (fun _ => next _ _ _ _ ⟨hP, hP2, hR1, hS⟩) (fun hne => absurd rfl hne)
set_option maxHeartbeats 4000000 in
set_option maxRecDepth 100000 in
theorem lc_redo {p : Program} {l : Launch} {e : Env} {s : State} {m : MethodId} {below : List Frame} {meth : Method} {c : Code} {b0 L : Nat} {xs : Nat → Int32} {D : va_G} {cA : ClassId} {a b : Nat → Nat} {A : Nat → Prop} {cells slots i : Nat} {Q : State → Prop} {σ τ : St} {H : Heap} {locs : List Loc} {ls : Array Slot} (F : lc_F p s m c b0 L xs D cA a b A) (hl : lv_has ls 4 (lc_lv b0 a b i)) (hi : i + 6 ≤ L) (S : lc_S s D cA a b A σ τ H locs) (hc : cells ≤ 600000) (hs : slots ≤ 7302250)
    (next : ∀ (σ τ : St) (H : Heap) (locs : List Loc), lc_S s D cA a b A σ τ H locs → W p l e room_1 s m #[Value.ref b0] below meth c H locs cells slots Q (F0 m 960 ls [])) : W p l e room_1 s m #[Value.ref b0] below meth c H locs cells slots Q (F0 m 386 ls []) := by
  obtain ⟨hx, hb, hml, hown, hts, hK, hJa, hJb, hX, hbl, hbA, hAa, hAb, hba, hab, hL⟩ := F
  obtain ⟨hP, hP2, hRel, hS⟩ := S
  have hf : cells ≤ room_1.cells ∧ slots ≤ room_1.slots := ⟨hc, hs⟩
  have hv1 : vp_in (nI i + 1) L := lc_in 1 hi hL (by omega)
  obtain ⟨r, σ1, τ1, h1, h2, hR1⟩ := op_redo hRel (xs (Int32.toNatClampNeg (nI i + 1)))
  refine lv_aload_n hx hb dL_law_386 rfl (lv_at hl 2 rfl) ?_
  refine lv_aload_n hx hb dL_law_387 rfl (lv_at hl 3 rfl) ?_
  refine lv_iload_n hx hb dL_law_388 rfl (lv_at hl 0 rfl) ?_
  refine lv_iconst (v := 1) hx hb dL_law_389 (by decide) ?_
  refine lv_iadd hx hb dL_law_390 ?_
  refine va_sld hx hb hX hbl hbA hS hv1 dL_law_391 ?_
  refine x_callV (As := [.int (xs (Int32.toNatClampNeg (nI i + 1)))]) (rest := []) hAa ⟨hx, hb, hml, hown, hts⟩ (tX6_redo l D cA a hJa (xs (Int32.toNatClampNeg (nI i + 1))) σ _ _ h1) (cwV 1 hts gL_law_X6_redo rfl rfl rfl (by decide +kernel) ⟨(Nat.le_of_ble_eq_true rfl), (Nat.le_of_ble_eq_true rfl)⟩) hK hP hS KC_sb rfl rfl hl.1 rfl (Nat.le_of_ble_eq_true rfl) hf dL_law_392 (fun H1 locs1 hP hS hz hk => ?_)
  have hP2 := lc_keep hP2 hba hk
  refine lv_aload_n hx hb dL_law_395 rfl (lv_at hl 1 rfl) ?_
  refine lv_aload_n hx hb dL_law_396 rfl (lv_at hl 3 rfl) ?_
  refine lv_iload_n hx hb dL_law_397 rfl (lv_at hl 0 rfl) ?_
  refine lv_iconst (v := 1) hx hb dL_law_398 (by decide) ?_
  refine lv_iadd hx hb dL_law_399 ?_
  refine va_sld hx hb hX hbl hbA hS hv1 dL_law_400 ?_
  refine x_callV (As := [.int (xs (Int32.toNatClampNeg (nI i + 1)))]) (rest := [.int r]) hAb ⟨hx, hb, hml, hown, hts⟩ (tX7_redo l D cA b hJb (xs (Int32.toNatClampNeg (nI i + 1))) τ _ _ h2) (cwV 1 hts gL_law_X7_redo rfl rfl rfl (by decide +kernel) ⟨(Nat.le_of_ble_eq_true rfl), (Nat.le_of_ble_eq_true rfl)⟩) hK hP2 hS KM_obj rfl rfl hl.1 rfl (Nat.le_of_ble_eq_true rfl) hf dL_law_401 (fun H2 locs2 hP2 hS hz2 hk2 => ?_)
  have hP := lc_keep hP hab hk2
  exact lv_icmp_eq (tgt := 960) hx hb dL_law_404 (by decide) (fun _ => next _ _ _ _ ⟨hP, hP2, hR1, hS⟩) (fun hne => absurd rfl hne)
set_option maxHeartbeats 4000000 in
set_option maxRecDepth 100000 in
theorem lc_lift {p : Program} {l : Launch} {e : Env} {s : State} {m : MethodId} {below : List Frame} {meth : Method} {c : Code} {b0 L : Nat} {xs : Nat → Int32} {D : va_G} {cA : ClassId} {a b : Nat → Nat} {A : Nat → Prop} {cells slots i : Nat} {Q : State → Prop} {σ τ : St} {H : Heap} {locs : List Loc} {ls : Array Slot} (F : lc_F p s m c b0 L xs D cA a b A) (hl : lv_has ls 4 (lc_lv b0 a b i)) (hi : i + 6 ≤ L) (S : lc_S s D cA a b A σ τ H locs) (hc : cells ≤ 600000) (hs : slots ≤ 7302250)
    (next : ∀ (σ τ : St) (H : Heap) (locs : List Loc), lc_S s D cA a b A σ τ H locs → W p l e room_1 s m #[Value.ref b0] below meth c H locs cells slots Q (F0 m 960 ls [])) : W p l e room_1 s m #[Value.ref b0] below meth c H locs cells slots Q (F0 m 409 ls []) := by
  obtain ⟨hx, hb, hml, hown, hts, hK, hJa, hJb, hX, hbl, hbA, hAa, hAb, hba, hab, hL⟩ := F
  obtain ⟨hP, hP2, hRel, hS⟩ := S
  have hf : cells ≤ room_1.cells ∧ slots ≤ room_1.slots := ⟨hc, hs⟩
  have hv1 : vp_in (nI i + 1) L := lc_in 1 hi hL (by omega)
  have hv2 : vp_in (nI i + 2) L := lc_in 2 hi hL (by omega)
  have hv3 : vp_in (nI i + 3) L := lc_in 3 hi hL (by omega)
  obtain ⟨r, σ1, τ1, h1, h2, hR1⟩ := op_lift hRel (xs (Int32.toNatClampNeg (nI i + 1))) (xs (Int32.toNatClampNeg (nI i + 2))) (xs (Int32.toNatClampNeg (nI i + 3)))
  refine lv_aload_n hx hb dL_law_409 rfl (lv_at hl 2 rfl) ?_
  refine lv_aload_n hx hb dL_law_410 rfl (lv_at hl 3 rfl) ?_
  refine lv_iload_n hx hb dL_law_411 rfl (lv_at hl 0 rfl) ?_
  refine lv_iconst (v := 1) hx hb dL_law_412 (by decide) ?_
  refine lv_iadd hx hb dL_law_413 ?_
  refine va_sld hx hb hX hbl hbA hS hv1 dL_law_414 ?_
  refine lv_aload_n hx hb dL_law_415 rfl (lv_at hl 3 rfl) ?_
  refine lv_iload_n hx hb dL_law_416 rfl (lv_at hl 0 rfl) ?_
  refine lv_iconst (v := 2) hx hb dL_law_417 (by decide) ?_
  refine lv_iadd hx hb dL_law_418 ?_
  refine va_sld hx hb hX hbl hbA hS hv2 dL_law_419 ?_
  refine lv_aload_n hx hb dL_law_420 rfl (lv_at hl 3 rfl) ?_
  refine lv_iload_n hx hb dL_law_421 rfl (lv_at hl 0 rfl) ?_
  refine lv_iconst (v := 3) hx hb dL_law_422 (by decide) ?_
  refine lv_iadd hx hb dL_law_423 ?_
  refine va_sld hx hb hX hbl hbA hS hv3 dL_law_424 ?_
  refine x_callV (As := [.int (xs (Int32.toNatClampNeg (nI i + 1))), .int (xs (Int32.toNatClampNeg (nI i + 2))), .int (xs (Int32.toNatClampNeg (nI i + 3)))]) (rest := []) hAa ⟨hx, hb, hml, hown, hts⟩ (tX6_lift l D cA a hJa (xs (Int32.toNatClampNeg (nI i + 1))) (xs (Int32.toNatClampNeg (nI i + 2))) (xs (Int32.toNatClampNeg (nI i + 3))) σ _ _ h1) (cwV 3 hts gL_law_X6_lift rfl rfl rfl (by decide +kernel) ⟨(Nat.le_of_ble_eq_true rfl), (Nat.le_of_ble_eq_true rfl)⟩) hK hP hS KC_sb rfl rfl hl.1 rfl (Nat.le_of_ble_eq_true rfl) hf dL_law_425 (fun H1 locs1 hP hS hz hk => ?_)
  have hP2 := lc_keep hP2 hba hk
  refine lv_aload_n hx hb dL_law_428 rfl (lv_at hl 1 rfl) ?_
  refine lv_aload_n hx hb dL_law_429 rfl (lv_at hl 3 rfl) ?_
  refine lv_iload_n hx hb dL_law_430 rfl (lv_at hl 0 rfl) ?_
  refine lv_iconst (v := 1) hx hb dL_law_431 (by decide) ?_
  refine lv_iadd hx hb dL_law_432 ?_
  refine va_sld hx hb hX hbl hbA hS hv1 dL_law_433 ?_
  refine lv_aload_n hx hb dL_law_434 rfl (lv_at hl 3 rfl) ?_
  refine lv_iload_n hx hb dL_law_435 rfl (lv_at hl 0 rfl) ?_
  refine lv_iconst (v := 2) hx hb dL_law_436 (by decide) ?_
  refine lv_iadd hx hb dL_law_437 ?_
  refine va_sld hx hb hX hbl hbA hS hv2 dL_law_438 ?_
  refine lv_aload_n hx hb dL_law_439 rfl (lv_at hl 3 rfl) ?_
  refine lv_iload_n hx hb dL_law_440 rfl (lv_at hl 0 rfl) ?_
  refine lv_iconst (v := 3) hx hb dL_law_441 (by decide) ?_
  refine lv_iadd hx hb dL_law_442 ?_
  refine va_sld hx hb hX hbl hbA hS hv3 dL_law_443 ?_
  refine x_callV (As := [.int (xs (Int32.toNatClampNeg (nI i + 1))), .int (xs (Int32.toNatClampNeg (nI i + 2))), .int (xs (Int32.toNatClampNeg (nI i + 3)))]) (rest := [.int r]) hAb ⟨hx, hb, hml, hown, hts⟩ (tX7_lift l D cA b hJb (xs (Int32.toNatClampNeg (nI i + 1))) (xs (Int32.toNatClampNeg (nI i + 2))) (xs (Int32.toNatClampNeg (nI i + 3))) τ _ _ h2) (cwV 3 hts gL_law_X7_lift rfl rfl rfl (by decide +kernel) ⟨(Nat.le_of_ble_eq_true rfl), (Nat.le_of_ble_eq_true rfl)⟩) hK hP2 hS KM_obj rfl rfl hl.1 rfl (Nat.le_of_ble_eq_true rfl) hf dL_law_444 (fun H2 locs2 hP2 hS hz2 hk2 => ?_)
  have hP := lc_keep hP hab hk2
  exact lv_icmp_eq (tgt := 960) hx hb dL_law_447 (by decide) (fun _ => next _ _ _ _ ⟨hP, hP2, hR1, hS⟩) (fun hne => absurd rfl hne)
set_option maxHeartbeats 4000000 in
set_option maxRecDepth 100000 in
theorem lc_deliver {p : Program} {l : Launch} {e : Env} {s : State} {m : MethodId} {below : List Frame} {meth : Method} {c : Code} {b0 L : Nat} {xs : Nat → Int32} {D : va_G} {cA : ClassId} {a b : Nat → Nat} {A : Nat → Prop} {cells slots i : Nat} {Q : State → Prop} {σ τ : St} {H : Heap} {locs : List Loc} {ls : Array Slot} (F : lc_F p s m c b0 L xs D cA a b A) (hl : lv_has ls 4 (lc_lv b0 a b i)) (hi : i + 6 ≤ L) (S : lc_S s D cA a b A σ τ H locs) (hc : cells ≤ 600000) (hs : slots ≤ 7302250)
    (next : ∀ (σ τ : St) (H : Heap) (locs : List Loc), lc_S s D cA a b A σ τ H locs → W p l e room_1 s m #[Value.ref b0] below meth c H locs cells slots Q (F0 m 960 ls [])) : W p l e room_1 s m #[Value.ref b0] below meth c H locs cells slots Q (F0 m 452 ls []) := by
  obtain ⟨hx, hb, hml, hown, hts, hK, hJa, hJb, hX, hbl, hbA, hAa, hAb, hba, hab, hL⟩ := F
  obtain ⟨hP, hP2, hRel, hS⟩ := S
  have hf : cells ≤ room_1.cells ∧ slots ≤ room_1.slots := ⟨hc, hs⟩
  have hv1 : vp_in (nI i + 1) L := lc_in 1 hi hL (by omega)
  have hv2 : vp_in (nI i + 2) L := lc_in 2 hi hL (by omega)
  obtain ⟨r, σ1, τ1, h1, h2, hR1⟩ := op_deliver hRel (xs (Int32.toNatClampNeg (nI i + 1))) (xs (Int32.toNatClampNeg (nI i + 2)))
  refine lv_aload_n hx hb dL_law_452 rfl (lv_at hl 2 rfl) ?_
  refine lv_aload_n hx hb dL_law_453 rfl (lv_at hl 3 rfl) ?_
  refine lv_iload_n hx hb dL_law_454 rfl (lv_at hl 0 rfl) ?_
  refine lv_iconst (v := 1) hx hb dL_law_455 (by decide) ?_
  refine lv_iadd hx hb dL_law_456 ?_
  refine va_sld hx hb hX hbl hbA hS hv1 dL_law_457 ?_
  refine lv_aload_n hx hb dL_law_458 rfl (lv_at hl 3 rfl) ?_
  refine lv_iload_n hx hb dL_law_459 rfl (lv_at hl 0 rfl) ?_
  refine lv_iconst (v := 2) hx hb dL_law_460 (by decide) ?_
  refine lv_iadd hx hb dL_law_461 ?_
  refine va_sld hx hb hX hbl hbA hS hv2 dL_law_462 ?_
  refine x_callV (As := [.int (xs (Int32.toNatClampNeg (nI i + 1))), .int (xs (Int32.toNatClampNeg (nI i + 2)))]) (rest := []) hAa ⟨hx, hb, hml, hown, hts⟩ (tX6_deliver l D cA a hJa (xs (Int32.toNatClampNeg (nI i + 1))) (xs (Int32.toNatClampNeg (nI i + 2))) σ _ _ h1) (cwV 2 hts gL_law_X6_deliver rfl rfl rfl (by decide +kernel) ⟨(Nat.le_of_ble_eq_true rfl), (Nat.le_of_ble_eq_true rfl)⟩) hK hP hS KC_sb rfl rfl hl.1 rfl (Nat.le_of_ble_eq_true rfl) hf dL_law_463 (fun H1 locs1 hP hS hz hk => ?_)
  have hP2 := lc_keep hP2 hba hk
  refine lv_aload_n hx hb dL_law_466 rfl (lv_at hl 1 rfl) ?_
  refine lv_aload_n hx hb dL_law_467 rfl (lv_at hl 3 rfl) ?_
  refine lv_iload_n hx hb dL_law_468 rfl (lv_at hl 0 rfl) ?_
  refine lv_iconst (v := 1) hx hb dL_law_469 (by decide) ?_
  refine lv_iadd hx hb dL_law_470 ?_
  refine va_sld hx hb hX hbl hbA hS hv1 dL_law_471 ?_
  refine lv_aload_n hx hb dL_law_472 rfl (lv_at hl 3 rfl) ?_
  refine lv_iload_n hx hb dL_law_473 rfl (lv_at hl 0 rfl) ?_
  refine lv_iconst (v := 2) hx hb dL_law_474 (by decide) ?_
  refine lv_iadd hx hb dL_law_475 ?_
  refine va_sld hx hb hX hbl hbA hS hv2 dL_law_476 ?_
  refine x_callV (As := [.int (xs (Int32.toNatClampNeg (nI i + 1))), .int (xs (Int32.toNatClampNeg (nI i + 2)))]) (rest := [.int r]) hAb ⟨hx, hb, hml, hown, hts⟩ (tX7_deliver l D cA b hJb (xs (Int32.toNatClampNeg (nI i + 1))) (xs (Int32.toNatClampNeg (nI i + 2))) τ _ _ h2) (cwV 2 hts gL_law_X7_deliver rfl rfl rfl (by decide +kernel) ⟨(Nat.le_of_ble_eq_true rfl), (Nat.le_of_ble_eq_true rfl)⟩) hK hP2 hS KM_obj rfl rfl hl.1 rfl (Nat.le_of_ble_eq_true rfl) hf dL_law_477 (fun H2 locs2 hP2 hS hz2 hk2 => ?_)
  have hP := lc_keep hP hab hk2
  exact lv_icmp_eq (tgt := 960) hx hb dL_law_480 (by decide) (fun _ => next _ _ _ _ ⟨hP, hP2, hR1, hS⟩) (fun hne => absurd rfl hne)
set_option maxHeartbeats 4000000 in
set_option maxRecDepth 100000 in
theorem lc_lose {p : Program} {l : Launch} {e : Env} {s : State} {m : MethodId} {below : List Frame} {meth : Method} {c : Code} {b0 L : Nat} {xs : Nat → Int32} {D : va_G} {cA : ClassId} {a b : Nat → Nat} {A : Nat → Prop} {cells slots i : Nat} {Q : State → Prop} {σ τ : St} {H : Heap} {locs : List Loc} {ls : Array Slot} (F : lc_F p s m c b0 L xs D cA a b A) (hl : lv_has ls 4 (lc_lv b0 a b i)) (hi : i + 6 ≤ L) (S : lc_S s D cA a b A σ τ H locs) (hc : cells ≤ 600000) (hs : slots ≤ 7302250)
    (next : ∀ (σ τ : St) (H : Heap) (locs : List Loc), lc_S s D cA a b A σ τ H locs → W p l e room_1 s m #[Value.ref b0] below meth c H locs cells slots Q (F0 m 960 ls [])) : W p l e room_1 s m #[Value.ref b0] below meth c H locs cells slots Q (F0 m 485 ls []) := by
  obtain ⟨hx, hb, hml, hown, hts, hK, hJa, hJb, hX, hbl, hbA, hAa, hAb, hba, hab, hL⟩ := F
  obtain ⟨hP, hP2, hRel, hS⟩ := S
  have hf : cells ≤ room_1.cells ∧ slots ≤ room_1.slots := ⟨hc, hs⟩
  have hv1 : vp_in (nI i + 1) L := lc_in 1 hi hL (by omega)
  have hv2 : vp_in (nI i + 2) L := lc_in 2 hi hL (by omega)
  obtain ⟨r, σ1, τ1, h1, h2, hR1⟩ := op_lose hRel (xs (Int32.toNatClampNeg (nI i + 1))) (xs (Int32.toNatClampNeg (nI i + 2)))
  refine lv_aload_n hx hb dL_law_485 rfl (lv_at hl 2 rfl) ?_
  refine lv_aload_n hx hb dL_law_486 rfl (lv_at hl 3 rfl) ?_
  refine lv_iload_n hx hb dL_law_487 rfl (lv_at hl 0 rfl) ?_
  refine lv_iconst (v := 1) hx hb dL_law_488 (by decide) ?_
  refine lv_iadd hx hb dL_law_489 ?_
  refine va_sld hx hb hX hbl hbA hS hv1 dL_law_490 ?_
  refine lv_aload_n hx hb dL_law_491 rfl (lv_at hl 3 rfl) ?_
  refine lv_iload_n hx hb dL_law_492 rfl (lv_at hl 0 rfl) ?_
  refine lv_iconst (v := 2) hx hb dL_law_493 (by decide) ?_
  refine lv_iadd hx hb dL_law_494 ?_
  refine va_sld hx hb hX hbl hbA hS hv2 dL_law_495 ?_
  refine x_callV (As := [.int (xs (Int32.toNatClampNeg (nI i + 1))), .int (xs (Int32.toNatClampNeg (nI i + 2)))]) (rest := []) hAa ⟨hx, hb, hml, hown, hts⟩ (tX6_lose l D cA a hJa (xs (Int32.toNatClampNeg (nI i + 1))) (xs (Int32.toNatClampNeg (nI i + 2))) σ _ _ h1) (cwV 2 hts gL_law_X6_lose rfl rfl rfl (by decide +kernel) ⟨(Nat.le_of_ble_eq_true rfl), (Nat.le_of_ble_eq_true rfl)⟩) hK hP hS KC_sb rfl rfl hl.1 rfl (Nat.le_of_ble_eq_true rfl) hf dL_law_496 (fun H1 locs1 hP hS hz hk => ?_)
  have hP2 := lc_keep hP2 hba hk
  refine lv_aload_n hx hb dL_law_499 rfl (lv_at hl 1 rfl) ?_
  refine lv_aload_n hx hb dL_law_500 rfl (lv_at hl 3 rfl) ?_
  refine lv_iload_n hx hb dL_law_501 rfl (lv_at hl 0 rfl) ?_
  refine lv_iconst (v := 1) hx hb dL_law_502 (by decide) ?_
  refine lv_iadd hx hb dL_law_503 ?_
  refine va_sld hx hb hX hbl hbA hS hv1 dL_law_504 ?_
  refine lv_aload_n hx hb dL_law_505 rfl (lv_at hl 3 rfl) ?_
  refine lv_iload_n hx hb dL_law_506 rfl (lv_at hl 0 rfl) ?_
  refine lv_iconst (v := 2) hx hb dL_law_507 (by decide) ?_
  refine lv_iadd hx hb dL_law_508 ?_
  refine va_sld hx hb hX hbl hbA hS hv2 dL_law_509 ?_
  refine x_callV (As := [.int (xs (Int32.toNatClampNeg (nI i + 1))), .int (xs (Int32.toNatClampNeg (nI i + 2)))]) (rest := [.int r]) hAb ⟨hx, hb, hml, hown, hts⟩ (tX7_lose l D cA b hJb (xs (Int32.toNatClampNeg (nI i + 1))) (xs (Int32.toNatClampNeg (nI i + 2))) τ _ _ h2) (cwV 2 hts gL_law_X7_lose rfl rfl rfl (by decide +kernel) ⟨(Nat.le_of_ble_eq_true rfl), (Nat.le_of_ble_eq_true rfl)⟩) hK hP2 hS KM_obj rfl rfl hl.1 rfl (Nat.le_of_ble_eq_true rfl) hf dL_law_510 (fun H2 locs2 hP2 hS hz2 hk2 => ?_)
  have hP := lc_keep hP hab hk2
  exact lv_icmp_eq (tgt := 960) hx hb dL_law_513 (by decide) (fun _ => next _ _ _ _ ⟨hP, hP2, hR1, hS⟩) (fun hne => absurd rfl hne)
set_option maxHeartbeats 4000000 in
set_option maxRecDepth 100000 in
theorem lc_deliverAll {p : Program} {l : Launch} {e : Env} {s : State} {m : MethodId} {below : List Frame} {meth : Method} {c : Code} {b0 L : Nat} {xs : Nat → Int32} {D : va_G} {cA : ClassId} {a b : Nat → Nat} {A : Nat → Prop} {cells slots i : Nat} {Q : State → Prop} {σ τ : St} {H : Heap} {locs : List Loc} {ls : Array Slot} (F : lc_F p s m c b0 L xs D cA a b A) (hl : lv_has ls 4 (lc_lv b0 a b i)) (hi : i + 6 ≤ L) (S : lc_S s D cA a b A σ τ H locs) (hc : cells ≤ 600000) (hs : slots ≤ 7302250)
    (next : ∀ (σ τ : St) (H : Heap) (locs : List Loc), lc_S s D cA a b A σ τ H locs → W p l e room_1 s m #[Value.ref b0] below meth c H locs cells slots Q (F0 m 960 ls [])) : W p l e room_1 s m #[Value.ref b0] below meth c H locs cells slots Q (F0 m 518 ls []) := by
  obtain ⟨hx, hb, hml, hown, hts, hK, hJa, hJb, hX, hbl, hbA, hAa, hAb, hba, hab, hL⟩ := F
  obtain ⟨hP, hP2, hRel, hS⟩ := S
  have hf : cells ≤ room_1.cells ∧ slots ≤ room_1.slots := ⟨hc, hs⟩
  obtain ⟨r, σ1, τ1, h1, h2, hR1⟩ := op_deliverAll hRel
  refine lv_aload_n hx hb dL_law_518 rfl (lv_at hl 2 rfl) ?_
  refine x_callV (As := []) (rest := []) hAa ⟨hx, hb, hml, hown, hts⟩ (tX6_deliverAll l D cA a hJa σ _ _ h1) (cwV 0 hts gL_law_X6_deliverAll rfl rfl rfl (by decide +kernel) ⟨(Nat.le_of_ble_eq_true rfl), (Nat.le_of_ble_eq_true rfl)⟩) hK hP hS KC_sb rfl rfl hl.1 rfl (Nat.le_of_ble_eq_true rfl) hf dL_law_519 (fun H1 locs1 hP hS hz hk => ?_)
  have hP2 := lc_keep hP2 hba hk
  refine lv_aload_n hx hb dL_law_522 rfl (lv_at hl 1 rfl) ?_
  refine x_callV (As := []) (rest := [.int r]) hAb ⟨hx, hb, hml, hown, hts⟩ (tX7_deliverAll l D cA b hJb τ _ _ h2) (cwV 0 hts gL_law_X7_deliverAll rfl rfl rfl (by decide +kernel) ⟨(Nat.le_of_ble_eq_true rfl), (Nat.le_of_ble_eq_true rfl)⟩) hK hP2 hS KM_obj rfl rfl hl.1 rfl (Nat.le_of_ble_eq_true rfl) hf dL_law_523 (fun H2 locs2 hP2 hS hz2 hk2 => ?_)
  have hP := lc_keep hP hab hk2
  exact lv_icmp_eq (tgt := 960) hx hb dL_law_526 (by decide) (fun _ => next _ _ _ _ ⟨hP, hP2, hR1, hS⟩) (fun hne => absurd rfl hne)
