/-! Constructors: what a constructor makes, one fresh world beside the caller's. -/
abbrev n_Pc (D : va_G) (cA : ClassId) (ci : Nat) (fs As : List Value) (h0 sz : Nat) : Array Value → State → Prop := va_Pc (.ref h0 :: As) (fun U => U.heap.size = sz ∧ va_P D vwCl [(h0, .inr (ci, fs))] U.heap ∧ w_K D cA U ∧ va_D (fun _ => True) [(h0, .inr (ci, fs))])
abbrev n_Qa (D : va_G) (bd : Nat → (Nat → Nat) → va_W) (h0 : Nat) (A : Nat → Prop) : Array Value → State → Outcome → State → Prop := va_Qv (fun _ : Nat → Nat => True) (fun a t => va_P D vwCl (bd h0 a) t.heap ∧ va_D A (bd h0 a)) A
/-- a constructor's contract: on an object of kind ci with the fields fs, alone, it leaves the world bd h0 a, the a's being fresh -/
def Cn (l : Launch) (y : MethodName) (ws : List Cond) (fr lo mc ms : Nat) (D : va_G) (cA : ClassId) (ci : Nat) (fs As : List Value) (bd : Nat → (Nat → Nat) → va_W) : Prop := ∀ h0 sz : Nat, Met l y ws ({ frames := fr, cells := mc, slots := ms, locals := lo }) (n_Pc D cA ci fs As h0 sz) (n_Qa D bd h0 (va_A [(h0, .inr (ci, fs))] sz)) mc ms (va_A [(h0, .inr (ci, fs))] sz)
theorem n_blind {D : va_G} {cA : ClassId} {ci : Nat} {fs As : List Value} {h0 sz : Nat} : FrameBlind (n_Pc D cA ci fs As h0 sz) := fun a U g mk q => ⟨q.1, q.2.1, q.2.2.1, ⟨va_K.moved (u := U) (U := U.calling g mk a) (Vm.Alike.refl U.vm) q.2.2.2.1.1, nw_K.same (s := U) (U := U.calling g mk a) rfl q.2.2.2.1.2⟩, q.2.2.2.2⟩
/-- what holds at a constructor's entry -/
def n_Z (p : Program) (s : State) (m : MethodId) (args : Array Value) (meth : Method) (c : Code) (D : va_G) (cA : ClassId) (own : String) (ws : List Cond) (cc : ByteArray) (maxL : Nat) (A : Nat → Prop) : Prop := p.tables.exec = Jvm.exec ∧ c.code = cc ∧ c.maxLocals = maxL ∧ s.vm.findClass own = some m.cls ∧ (∀ w ∈ ws, w.before args s = true) ∧ meth.sig.returnType = none ∧ meth.locks = false ∧ w_K D cA s ∧ meth.name = "<init>" ∧ ∀ q : Nat, s.heap.size ≤ q → A q
theorem Cn_of {l : Launch} {y : MethodName} {ws ws' : List Cond} {fr lo mc ms : Nat} {D : va_G} {cA : ClassId} {ci : Nat} {fs As : List Value} {bd : Nat → (Nat → Nat) → va_W} {cc : ByteArray} {maxL : Nat} (hy : plainName y.cls = true) (hy1 : y.name = "<init>") (hw : ws = Cond.code y cc maxL none :: ws') (hn : ∀ h0 : Nat, (lg_sl (.ref h0 :: As)).length ≤ maxL)
    (body : ∀ (p : Program) (e : Env) (s : State) (m : MethodId) (below : List Frame) (meth : Method) (c : Code) (h0 : Nat) (A : Nat → Prop), n_Z p s m (Value.ref h0 :: As).toArray meth c D cA y.cls ws cc maxL A → ∀ (H : Heap) (locs : List Loc) (ls : Array Slot), va_P D vwCl [(h0, .inr (ci, fs))] H → va_D A [(h0, .inr (ci, fs))] → va_S A s.heap H locs → lv_has ls maxL (lv_args 0 (Value.ref h0 :: As)) → W p l e (headSpec ws ({ frames := fr, cells := mc, slots := ms, locals := lo })).room s m (Value.ref h0 :: As).toArray below meth c H locs 0 0 (MQ below (n_Qa D bd h0 A) (Value.ref h0 :: As).toArray s mc ms A) (F0 m 0 ls [])) : Cn l y ws fr lo mc ms D cA ci fs As bd := by
  intro h0 sz
  refine Met.ofW (cc := cc) (maxL := maxL) (ret := none) hy hw ?_
  intro p e s m args below meth c s₁ B hml hv
  obtain ⟨rfl, hsz, hP, hK, hD0⟩ := hv
  subst hsz
  have hl := lv_entry (Value.ref h0 :: As) (n := maxL) (hn h0)
  rw [lg_entry_eq]
  exact body p e s m below meth c h0 _ ⟨B.exec, B.bytes, hml, findClass_of_methodNamed B.named, atoms_spec (ws := ws) B.pre, B.returns, B.notSynchronized, hK, (name_of_methodNamed B.named B.method).1.trans hy1, fun q h => Or.inr h⟩ s.heap [] _ hP hD0.self va_S.rf hl
theorem n_start {s : State} {H : Heap} {D : va_G} {cA : ClassId} {ci : Nat} {fs As : List Value} {q : Nat} {ws : va_W} {A : Nat → Prop} (hK : w_K D cA s) (hP : va_P D vwCl (ws ++ [(q, .inr (ci, fs))]) H) (hD : va_D A (ws ++ [(q, .inr (ci, fs))])) : PreS s H (n_Pc D cA ci fs As q H.size) (.ref q :: As) := by
  have h1 : (ws ++ [(q, (.inr (ci, fs) : va_E))])[ws.length]? = some (q, .inr (ci, fs)) := by rw [List.getElem?_append_right (Nat.le_refl _), Nat.sub_self]; rfl
  have hf : [ws.length].filterMap (fun i => (ws ++ [(q, (.inr (ci, fs) : va_E))])[i]?) = [(q, .inr (ci, fs))] := by rw [List.filterMap_cons, h1]; rfl
  have hm : [ws.length].map (fun i => (ws ++ [(q, (.inr (ci, fs) : va_E))])[i]?) = [(q, (.inr (ci, fs) : va_E))].map some := by rw [List.map_cons, h1]; rfl
  exact ⟨n_blind, fun U hU hW => ⟨rfl, by rw [hU], by rw [hU]; exact hP.sub [ws.length] hf, ⟨va_K.moved hW.alike hK.1, hK.2.warm hW⟩, (hD.sub [ws.length] rfl hm).weaken (fun _ _ _ _ => trivial)⟩⟩
theorem n_free {s : State} {H : Heap} {locs : List Loc} {e : va_E} {q : Nat} {ws : va_W} {A : Nat → Prop} (hD : va_D A (ws ++ [(q, e)])) (hS : va_S A s.heap H locs) (hA : ∀ q : Nat, s.heap.size ≤ q → A q) : ∀ x, va_A [(q, e)] H.size x → A x := by
  have h1 : (ws ++ [(q, e)])[ws.length]? = some (q, e) := by rw [List.getElem?_append_right (Nat.le_refl _), Nat.sub_self]; rfl
  exact va_free hD hS hA [ws.length] (by rw [List.map_cons, h1]; rfl)
/-- behind a constructor's call on the last cell of the world -/
theorem n_join {D : va_G} {H H1 : Heap} {q : Nat} {e : va_E} {ws w1 : va_W} {A : Nat → Prop} (hP : va_P D vwCl (ws ++ [(q, e)]) H) (hD : va_D A (ws ++ [(q, e)])) (hk : ∀ x : Nat, x < H.size → ¬ va_A [(q, e)] H.size x → H1[x]? = H[x]?) (hF : ∀ x, va_A [(q, e)] H.size x → A x) (hP1 : va_P D vwCl w1 H1) (hD1 : va_D (va_A [(q, e)] H.size) w1) : va_P D vwCl (ws ++ w1) H1 ∧ va_D A (ws ++ w1) := by
  have h1 : (ws ++ [(q, e)])[ws.length]? = some (q, e) := by rw [List.getElem?_append_right (Nat.le_refl _), Nat.sub_self]; rfl
  have h2 : ∀ (k : Nat) (x : Nat × va_E), ws[k]? = some x → (ws ++ [(q, e)])[k]? = some x := fun k x h => by rw [List.getElem?_append_left (List.getElem?_eq_some_iff.mp h).1]; exact h
  have apart : ∀ (k : Nat) (x : Nat × va_E), ws[k]? = some x → x.1 < H.size ∧ ¬ va_A [(q, e)] H.size x.1 := by
    intro k x hx
    have hl := (hP k x (h2 k x hx)).lt
    refine ⟨hl, fun h => ?_⟩
    rcases h with ⟨j, e1, h⟩ | h
    · have hj : j = 0 := by
        have := (List.getElem?_eq_some_iff.mp h).1
        simp only [List.length_cons, List.length_nil] at this
        omega
      subst hj
      have hq : q = x.1 := (Prod.mk.inj (Option.some.inj h)).1
      have := hD.1 k ws.length x (q, e) (h2 k x hx) h1 hq.symm
      have := (List.getElem?_eq_some_iff.mp hx).1
      omega
    · omega
  refine ⟨va_P.app (fun k x hx => ?_) hP1, va_D.app ⟨fun i j x y hx hy hxy => hD.1 i j x y (h2 i x hx) (h2 j y hy) hxy, fun k x hx => hD.2 k x (h2 k x hx)⟩ (hD1.weaken (fun k x _ h => hF x.1 h)) (fun i j x y hx hy hxy => ?_)⟩
  · exact (hP k x (h2 k x hx)).kept (hk x.1 (apart k x hx).1 (apart k x hx).2)
  · exact (apart i x hx).2 (by rw [hxy]; exact hD1.2 j y hy)
section NW
variable {p : Program} {l : Launch} {e : Env} {R : Room} {s : State} {m : MethodId} {args : Array Value} {below : List Frame} {meth : Method} {c : Code} {H : Heap} {locs : List Loc} {cells slots : Nat} {Q : State → Prop} {cc : ByteArray} {pc : Nat} {ls : Array Slot} {rest st0 : List Value} {D : va_G} {cA : ClassId} {A : Nat → Prop} {ws : va_W}
/-- a new int row: its class is the one that the tables name -/
theorem x_newa (hx : p.tables.exec = Jvm.exec) (hb : c.code = cc) (harr : (Cond.arrayClass .int).before args s = true) (hK : w_K D cA s) (hP : va_P D vwCl ws H) (hD : va_D A ws) (hS : va_S A s.heap H locs) (hA : ∀ q, s.heap.size ≤ q → A q) {n : Int32} {N : Nat} (hn : ¬ n < 0) (hN : n.toNatClampNeg = N) (hby : N ≤ 5000) (hcells : cells + 1 ≤ R.cells) (hslots : slots + N ≤ R.slots) (hdg : decode cc pc = .ok (.newarray .int, 2))
    (kk : ∀ (q : Nat) (H1 : Heap), va_P D vwCl (ws ++ [(q, .inl (cA, (N, .inl (fun _ => 0))))]) H1 → va_D A (ws ++ [(q, .inl (cA, (N, .inl (fun _ => 0))))]) → va_S A s.heap H1 locs → W p l e R s m args below meth c H1 locs (cells + 1) (slots + N) Q (F0 m (pc + 2) ls (.ref q :: rest))) : W p l e R s m args below meth c H locs cells slots Q (F0 m pc ls (.int n :: rest)) := by
  refine va_newa (atype := .int) (ty := .int) (a0 := (N, .inl (fun _ => 0))) hx hb harr rfl hK.1 hP hD hS hA (fun _ => rfl) hn hN (by show N * 4 ≤ 536870912; omega) hcells hslots hdg (fun q cB H1 hK1 hP1 hD1 hS1 => ?_)
  have e1 := (hK1.2 1 (cB, .int) rfl).2
  have e2 := (hK.1.2 0 (cA, .int) rfl).2
  have e3 : cB = cA := Option.some.inj (e1.symm.trans e2)
  subst e3
  exact kk q H1 hP1 hD1 hS1
variable {A1 : Nat → Prop} {mc ms : Nat} {h0 q ci cj : Nat} {fs fs1 : List Value} {ws1 : va_W} {bd : Nat → (Nat → Nat) → va_W} {own C : String} {T : u_T} {N index : Nat} {Ts : List Cond} {av : Array Value}
/-- a constructor's call on the newest cell, and its reference into a final field of the object in hand -/
theorem x_made (hx : p.tables.exec = Jvm.exec) (hb : c.code = cc) (hK : w_K D cA s) (hA : ∀ q, s.heap.size ≤ q → A q) (hin2 : meth.name = "<init>") (hown : s.vm.findClass C = some m.cls)
    (hP : va_P D vwCl ((h0, .inr (ci, fs)) :: ws1 ++ [(q, .inr (cj, fs1))]) H) (hD : va_D A ((h0, .inr (ci, fs)) :: ws1 ++ [(q, .inr (cj, fs1))])) (hS : va_S A s.heap H locs)
    (hr : va_Run p l e R s m args below meth c H locs cells slots mc ms (F0 m pc ls st0) [.ref q, .ref h0] (n_Qa D bd q (va_A [(q, .inr (cj, fs1))] H.size) av) (va_A [(q, .inr (cj, fs1))] H.size))
    (hts : ∀ w ∈ Ts, w.before args s = true) (hin : ∀ w ∈ u_ws C T N, w ∈ Ts) (ty0 : Nat → FieldType) (hty : ∀ k, k < N → parseFieldDescriptor (T k).2.2.1 = some (ty0 k)) (hnm : ∀ a, a < N → ∀ b, b < N → a ≠ b → (T a).2.1 ≠ (T b).2.1) (hc : vwCl[ci]? = some (C, T, N)) (k : Nat) (hk : k < N) (hlink : (Cond.fieldLink C index (T k).1 (T k).2.1 (T k).2.2.1).before args s = true) (hfin : (T k).2.2.2 = true) (hdecl : (T k).1 = C) {ty : FieldType} (hd : parseFieldDescriptor (T k).2.2.1 = some ty) (hn : narrow ty (.ref q) = .ref q) (hfit : fits ty (.ref q) = true) (hl : k < fs.length)
    (hdg : decode cc (pc + 3) = .ok (.putfield index, 3))
    (kk : ∀ (a : Nat → Nat) (H1 : Heap) (locs1 : List Loc), va_P D vwCl ((h0, .inr (ci, fs.set k (.ref q))) :: (ws1 ++ bd q a)) H1 → va_D A ((h0, .inr (ci, fs.set k (.ref q))) :: (ws1 ++ bd q a)) → va_S A s.heap H1 locs1 → W p l e R s m args below meth c H1 locs1 (cells + mc) (slots + ms) Q (F0 m (pc + 3 + 3) ls [])) : W p l e R s m args below meth c H locs cells slots Q (F0 m pc ls st0) := by
  have hF := n_free hD hS hA
  refine va_callv hr hS (fun x _ h => hF x h) hF (fun u t H1 locs1 ht _ _ hB hz hk1 hS1 => ?_)
  obtain ⟨hP1, hD1⟩ := hB
  rw [ht] at hP1
  obtain ⟨hP2, hD2⟩ := n_join hP hD hk1 hF hP1 hD1
  exact va_putF (D := D) (ci := ci) (v := .ref q) (ty := ty) (C := C) (T := T) (N := N) hx hb hts hin ty0 hty hnm hown hK.1 hP2 hD2 hS1 0 rfl hc k hk hlink (fun _ h9 => h9) hfin hin2 hdecl hd hn hfit hl hdg (fun H2 locs2 hP3 hD3 hS3 => kk u H2 locs2 hP3 hD3 hS3)
/-- a constructor's end -/
theorem n_ret {bd : Nat → (Nat → Nat) → va_W} (a : Nat → Nat) (hx : p.tables.exec = Jvm.exec) (hb : c.code = cc) (hr : meth.sig.returnType = none) (hlocks : meth.locks = false) (hP : va_P D vwCl (bd h0 a) H) (hD : va_D A (bd h0 a)) (hS : va_S A s.heap H locs) (hc : cells ≤ mc) (hs : slots ≤ ms) (hdg : decode cc pc = .ok (.return_, 1)) : W p l e R s m args below meth c H locs cells slots (MQ below (n_Qa D bd h0 A) args s mc ms A) (F0 m pc ls []) :=
  W.widen hc hs (W.vret hx hb hr (fun t ht hW => ⟨⟨a, rfl, trivial, by rw [ht]; exact hP, hD⟩, hS.F ht⟩) hS.2.2 hdg hlocks)
end NW
/-- a row of N ints -/
def bdRow (cA : ClassId) (N : Nat) : Nat → (Nat → Nat) → va_W := fun h0 a => [(h0, .inr (5, [.ref (a 0)])), (a 0, .inl (cA, (N, .inl (fun _ => 0))))]
theorem hinX5_init : ∀ w ∈ u_ws RX5 TX5 1, w ∈ wsX5_init := by decide +kernel
set_option maxHeartbeats 4000000 in
set_option maxRecDepth 100000 in
theorem nX5 (l : Launch) (D : va_G) (cA : ClassId) (N : Nat) (hN : N ≤ 5000) : Cn l yX5_init wsX5_init 1 14 1 N D cA 5 [.null] [.int (nI N)] (bdRow cA N) := by
  refine Cn_of (cc := cX5_init) (maxL := 2) (by decide +kernel) rfl rfl (fun _ => Nat.le_of_ble_eq_true rfl) ?_
  intro p e s m below meth c h0 A hZ H locs ls hP hD hS hl
  obtain ⟨hx, hb, hml, hown, hts, hr, hlk, hK, hnm, hA⟩ := hZ
  have hl : lv_has ls 2 [(0, .ref h0), (1, .int (nI N))] := hl
  refine lv_aload_n hx hb dX5_init_0 rfl (lv_at hl 0 rfl) ?_
  refine W.objInit hx hb hown (hts (.methodLink RX5 1 objectInit) (by decide +kernel)) (hts (.instanceMethod objectInit) (by decide +kernel)) (hts (.code objectInit ⟨#[0xb1]⟩ 1 none) (by decide +kernel)) rfl (by rw [hml]; exact hl.1) rfl dX5_init_1 (Nat.le_of_ble_eq_true rfl) (Nat.le_of_ble_eq_true rfl) ?_
  refine W.eq (g2 := F0 m 4 ls []) rfl ?_
  refine lv_aload_n hx hb dX5_init_4 rfl (lv_at hl 0 rfl) ?_
  refine lv_iload_n hx hb dX5_init_5 rfl (lv_at hl 1 rfl) ?_
  refine lv_iconst (v := 0) hx hb dX5_init_6 (by decide) ?_
  refine va_mmax hx hb (hml.trans hl.1.symm) hown (hts (.methodLink RX5 7 Lib.Math.max.name) (by decide +kernel)) (hts (.static Lib.Math.max.name) (by decide +kernel)) (hts (.initialized "java/lang/Math") (by decide +kernel)) (hts (.code Lib.Math.max.name Lib.Math.max.code 2 (some .int)) (by decide +kernel)) (Nat.le_of_ble_eq_true rfl) (Nat.le_of_ble_eq_true rfl) (Nat.zero_le _) (Nat.zero_le _) dX5_init_7 ?_
  rw [show (if nI N < 0 then (0 : Int32) else nI N) = nI N from if_neg (nI_pos (by omega))]
  refine x_newa hx hb (hts (.arrayClass .int) (by decide +kernel)) hK hP hD hS hA (nI_pos (by omega)) (nI_clamp (n := N) (by omega)) hN (show 0 + 1 ≤ 1 by omega) (show 0 + N ≤ N by omega) dX5_init_10 (fun q H hP hD hS => ?_)
  refine va_putF (D := D) (ci := 5) (v := .ref q) (ty := .array .int) (C := RX5) (T := TX5) (N := 1) hx hb hts hinX5_init tyX5 tyX5_ok nmX5 hown hK.1 hP hD hS 0 rfl rfl 0 (by decide) (hts (.fieldLink RX5 13 "StrokeBoard$Row" "cells" "[I") (by decide +kernel)) (fun _ h9 => h9) rfl hnm rfl (by decide +kernel) rfl rfl (Nat.le_of_ble_eq_true rfl) dX5_init_12 (fun H locs hP hD hS => ?_)
  exact n_ret (bd := bdRow cA N) (fun _ => q) hx hb hr hlk hP hD hS (by omega) (by omega) dX5_init_15
