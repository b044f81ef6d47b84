/-! From the law's entry to its end. -/
theorem nw_in : ∀ w ∈ nw_l.map (fun q => Cond.methodLinkNest q.1 q.2.1 q.2.2 "StrokeBoard"), w ∈ lw_tbl := mem_r _ [365, 380, 608, 609, 610, 554, 629, 630, 44, 118, 130, 145] (by decide +kernel)
theorem nf_in : ∀ w ∈ nf_l.map (fun q => Cond.fieldLinkNest q.1 q.2.1 q.2.2.1 q.2.2.2.1 q.2.2.2.2 "StrokeBoard"), w ∈ lw_tbl := mem_r _ [91, 94, 95] (by decide +kernel)
theorem nw_of {s : State} {args : Array Value} (h : ∀ w ∈ lw_tbl, w.before args s = true) : nw_K s :=
  ⟨fun q hq => va_Nw.of rfl (h _ (nw_in _ (List.mem_map.mpr ⟨q, hq, rfl⟩))), fun q hq => va_Nw.of rfl (h _ (nf_in _ (List.mem_map.mpr ⟨q, hq, rfl⟩)))⟩
theorem wK_of {s : State} {args : Array Value} (h : ∀ w ∈ lw_tbl, w.before args s = true) : ∃ (D : va_G) (cA : ClassId), w_K D cA s := by
  have hts : ∀ w ∈ wsL_law, w.before args s = true := fun w hw => h w (wsL_law_in w hw)
  have sub1 : ∀ w ∈ wsL_law_r1, w ∈ wsL_law := fun w hw => by unfold wsL_law; simp only [List.mem_append]; simp only [hw, true_or]
  have sub2 : ∀ w ∈ wsL_law_r2, w ∈ wsL_law := fun w hw => by unfold wsL_law; simp only [List.mem_append]; simp only [hw, true_or, or_true]
  have sub3 : ∀ w ∈ wsL_law_r3, w ∈ wsL_law := fun w hw => by unfold wsL_law; simp only [List.mem_append]; simp only [hw, true_or, or_true]
  obtain ⟨c0, i0, k0⟩ := u_known (C := RX0) (T := TX0) (N := 4) (n := 4) hts inlX0 (hts _ (sub2 _ (by decide +kernel : Cond.instantiable RX0 4 ∈ wsL_law_r2)))
  obtain ⟨c1, i1, k1⟩ := u_known (C := RX1) (T := TX1) (N := 5) (n := 5) hts inlX1 (hts _ (sub1 _ (by decide +kernel : Cond.instantiable RX1 5 ∈ wsL_law_r1)))
  obtain ⟨c2, i2, k2⟩ := u_known (C := RX2) (T := TX2) (N := 1) (n := 1) hts inlX2 (hts _ (sub1 _ (by decide +kernel : Cond.instantiable RX2 1 ∈ wsL_law_r1)))
  obtain ⟨c3, i3, k3⟩ := u_known (C := RX3) (T := TX3) (N := 2) (n := 2) hts inlX3 (hts _ (sub2 _ (by decide +kernel : Cond.instantiable RX3 2 ∈ wsL_law_r2)))
  obtain ⟨c4, i4, k4⟩ := u_known (C := RX4) (T := TX4) (N := 8) (n := 8) hts inlX4 (hts _ (sub1 _ (by decide +kernel : Cond.instantiable RX4 8 ∈ wsL_law_r1)))
  obtain ⟨c5, i5, k5⟩ := u_known (C := RX5) (T := TX5) (N := 1) (n := 1) hts inlX5 (hts _ (sub2 _ (by decide +kernel : Cond.instantiable RX5 1 ∈ wsL_law_r2)))
  obtain ⟨c6, i6, k6⟩ := u_known (C := RX6) (T := TX6) (N := 9) (n := 9) hts inlX6 (hts _ (sub1 _ (by decide +kernel : Cond.instantiable RX6 9 ∈ wsL_law_r1)))
  obtain ⟨cA, kA, comp, a1, a2, a3⟩ := Cond.arrayClass_spec (hts (.arrayClass .int) (sub3 _ (by decide +kernel)))
  refine ⟨(fun k => [c0, c1, c2, c3, c4, c5, c6].getD k c0, fun k => [i0, i1, i2, i3, i4, i5, i6].getD k i0), cA, ⟨fun k q hq => ?_, fun k q hq => ?_⟩, nw_of h⟩
  · have hk : k < 7 := (List.getElem?_eq_some_iff.mp hq).1
    rcases (show k = 0 ∨ k = 1 ∨ k = 2 ∨ k = 3 ∨ k = 4 ∨ k = 5 ∨ k = 6 by omega) with rfl | rfl | rfl | rfl | rfl | rfl | rfl
    · cases hq; exact k0
    · cases hq; exact k1
    · cases hq; exact k2
    · cases hq; exact k3
    · cases hq; exact k4
    · cases hq; exact k5
    · cases hq; exact k6
  · have hk : k < 1 := (List.getElem?_eq_some_iff.mp hq).1
    rw [show k = 0 by omega] at hq
    cases hq
    exact ⟨fun n z => ⟨fun k h => (by cases h), kA, a2, comp, a3⟩, a1⟩
section NM
variable {p : Program} {l : Launch} {e : Env} {R : Room} {s : State} {m : MethodId} {args : Array Value} {below : List Frame} {meth : Method} {c : Code} {H : Heap} {locs : List Loc} {cells slots : Nat} {Q : State → Prop} {pc : Nat} {ls : Array Slot} {st0 rest : List Value} {D : va_G} {A : Nat → Prop} {ws : va_W} {mc ms q cj : Nat} {fs1 : List Value} {bd : Nat → (Nat → Nat) → va_W} {av : Array Value}
/-- a constructor's call on the newest cell -/
theorem x_make0 (hA : ∀ q, s.heap.size ≤ q → A q) (hP : va_P D vwCl (ws ++ [(q, .inr (cj, fs1))]) H) (hD : va_D A (ws ++ [(q, .inr (cj, fs1))])) (hS : va_S A s.heap H locs)
    (hr : va_Run p l e R s m args below meth c H locs cells slots mc ms (F0 m pc ls st0) rest (n_Qa D bd q (va_A [(q, .inr (cj, fs1))] H.size) av) (va_A [(q, .inr (cj, fs1))] H.size))
    (kk : ∀ (a : Nat → Nat) (H1 : Heap) (locs1 : List Loc), va_P D vwCl (ws ++ bd q a) H1 → va_D A (ws ++ bd q a) → va_S A s.heap H1 locs1 → W p l e R s m args below meth c H1 locs1 (cells + mc) (slots + ms) Q (F0 m (pc + 3) ls rest)) : W p l e R s m args below meth c H locs cells slots Q (F0 m pc ls st0) := by
  have hF := n_free hD hS hA
  refine va_callv hr hS (fun x _ h => hF x h) hF (fun u t H1 locs1 ht _ _ hB hz hk1 hS1 => ?_)
  obtain ⟨hP1, hD1⟩ := hB
  rw [ht] at hP1
  obtain ⟨hP2, hD2⟩ := n_join hP hD hk1 hF hP1 hD1
  exact kk u H1 locs1 hP2 hD2 hS1
end NM
set_option maxHeartbeats 4000000 in
set_option maxRecDepth 100000 in
/-- from the entry, for every script of at most 260 ints, the law comes to its end with true -/
theorem whole_start {p : Program} {e : Env} {s : State} {m : MethodId} {below : List Frame} {meth : Method} {c : Code} (l : Launch) (hflags : l.flags = flags0) {b L : Nat} {xs : Nat → Int32} (hL : L ≤ 260) (C0 : lw_At p s m meth c b L xs) : W p l e room_1 s m #[Value.ref b] below meth c s.heap [] 0 0 (lw_Z below #[Value.ref b] s) (entryFrame m ([Value.ref b] : List Value).toArray 14) := by
  obtain ⟨hx, hb, hr, hml, hown, hts0, hX, hbl, hlk, hgv⟩ := C0
  have hts : ∀ w ∈ wsL_law, w.before #[Value.ref b] s = true := fun w hw => hts0 w (wsL_law_in w hw)
  have sub1 : ∀ w ∈ wsL_law_r1, w ∈ wsL_law := fun w hw => by unfold wsL_law; simp only [List.mem_append]; simp only [hw, true_or]
  have hb : c.code = cL_law := hb
  have hown : s.vm.findClass RL = some m.cls := hown
  obtain ⟨D, cA, hK⟩ := wK_of hts0
  have hl := lv_entry ([Value.ref b]) (n := 14) (Nat.le_of_ble_eq_true rfl)
  rw [lg_entry_eq]
  generalize (lg_sl ([Value.ref b]) ++ List.replicate (14 - (lg_sl ([Value.ref b])).length) Slot.unset).toArray = ls at hl ⊢
  have hl : lv_has ls 14 [(0, .ref b)] := hl
  generalize hAe : (fun q : Nat => s.heap.size ≤ q) = A
  have hA : ∀ q : Nat, s.heap.size ≤ q → A q := fun q h => by rw [← hAe]; exact h
  have hA' : ∀ q : Nat, A q → s.heap.size ≤ q := fun q h => by rw [← hAe] at h; exact h
  have hbA : ¬ A b := fun h => by have := hA' b h; omega
  have hS : va_S A s.heap s.heap [] := va_S.rf
  have hP : va_P D vwCl [] s.heap := fun k q h => by cases h
  have hD : va_D A [] := ⟨fun i j p q h => (by cases h), fun k q h => (by cases h)⟩
  refine va_new (ci := 6) (fs := [.null, .null, .null, .null, .null, .null, .null, .null, .int 0]) (C := RX6) (T := TX6) (N := 9) hx hb hts inlX6 tyX6 tyX6_ok hown (hts (.classLink RL 10 RX6) (sub1 _ (by decide +kernel))) (hts (.instantiable RX6 9) (sub1 _ (by decide +kernel))) (hts (.initialized RX6) (sub1 _ (by decide +kernel))) hK.1 hP hD hS hA rfl (fun j hj => by rcases (show j = 0 ∨ j = 1 ∨ j = 2 ∨ j = 3 ∨ j = 4 ∨ j = 5 ∨ j = 6 ∨ j = 7 ∨ j = 8 by omega) with rfl | rfl | rfl | rfl | rfl | rfl | rfl | rfl | rfl <;> rfl) (Nat.le_of_ble_eq_true rfl) (Nat.le_of_ble_eq_true rfl) dL_law_0 (fun q1 H hP hD hS => ?_)
  refine W.widen (k := 1) (n := 9) (by omega) (by omega) ?_
  refine lv_dup hx hb dL_law_3 rfl ?_
  refine x_make0 (cj := 6) (fs1 := [.null, .null, .null, .null, .null, .null, .null, .null, .int 0]) (mc := 62) (ms := 4437) (bd := (bdX6 cA)) hA hP hD hS (va_runI (As := []) (rest := [.ref q1]) ⟨hx, hb, hml, hown, hts⟩ (nX6 l D cA q1 H.size) (cwI 0 hts gL_law_X6_init rfl rfl rfl (hts (.initialized RX6) (sub1 _ (by decide +kernel))) (hts (.methodLink RL 95 yX6_init) (sub1 _ (by decide +kernel))) (hts (.instanceMethod yX6_init) (sub1 _ (by decide +kernel))) rfl (by decide +kernel) ⟨Nat.le_of_ble_eq_true rfl, Nat.le_of_ble_eq_true rfl⟩) (n_start hK hP hD) rfl rfl hl.1 rfl (lv_room (Nat.le_of_ble_eq_true rfl)) dL_law_4 ⟨Nat.le_of_ble_eq_true rfl, Nat.le_of_ble_eq_true rfl⟩) (fun a1 H locs hP hD hS => ?_)
  refine W.widen (k := 63) (n := 4446) (by omega) (by omega) ?_
  refine lv_astore_n (lv' := [(1, .ref q1), (0, .ref b)]) hx hb dL_law_7 rfl hl (by decide) rfl (fun ls hl => ?_)
  have hP : va_P D vwCl (bdX6 cA q1 a1) H := hP
  have hD : va_D A (bdX6 cA q1 a1) := hD
  obtain ⟨wP1, wJ1, wA1, e1⟩ := n_C hP hD
  have hl : lv_has ls 14 [(1, .ref (adC q1 a1 62)), (0, .ref b)] := by rw [e1]; exact hl
  obtain ⟨r, σ', av, vv, h1, -, h2⟩ := c_law (xs := xs) hL
  rw [h2] at h1
  exact tL_law l hx hb hr hml hown hts hlk hK wJ1 hX hbl hbA (fun q h => by obtain ⟨o, h1, rfl⟩ := h; exact wA1 o h1) hA' iniC H locs ls h1 wP1 hS hl
