/-! THE CLAIM OUT OF ONE WALK OF THE LAW'S BODY. Your part is whole_start (and what it stands on); all else here is the same for every law, but numbers. -/
def R_law : String := "StrokeBoardLaw"
def lw_P (b : Addr) (xs : List Int32) (args : Array Value) (s : State) : Prop := args = #[.ref b] ∧ s.IntsAt b xs ∧ xs.length ≤ 260 ∧ (Jvm.Cond.and given_1 narrow_1).before args s = true
def lw_Q (_ : Array Value) (s : State) (o : Outcome) (t : State) : Prop := o = .returned (some (.int 1)) ∧ Framed s o t [] 600000 7302250
def lw_Z (below : List Frame) (a : Array Value) (s : State) : State → Prop := fun t => ∃ o, t.status = .running ∧ Ended t below o ∧ lw_Q a s o t
/-- the law's own end, with 1 on the stack, nothing written that was there before, its room as the claim has it -/
theorem lw_ret {p : Program} {l : Launch} {e : Env} {s : State} {m : MethodId} {below : List Frame} {meth : Method} {c : Code} {b : Nat} (hx : p.tables.exec = Jvm.exec) (hb : c.code = code) (hr : meth.sig.returnType = ret) (hlocks : meth.locks = false) {pc : Nat} {H : Heap} {ls : Array Slot} (hdg : decode code pc = .ok (.ireturn, 1)) : W p l e room_1 s m #[Value.ref b] below meth c H [] 600000 7302250 (lw_Z below #[Value.ref b] s) (F0 m pc ls [.int 1]) := by
  intro T hT X
  obtain ⟨fs, hret, hrun, hended, hW, hframe⟩ := X.leave (v := some (.int 1)) (hlocks := hlocks) (fun h => by rw [hr] at h; cases h)
  have hmeth' : T.vm.method? m = some meth := X.method'
  refine ⟨T.setFrames fs, ?_, .returned (some (.int 1)), hrun, hended, rfl, ⟨_, rfl⟩, hW, hframe⟩
  jvm_step X.here [X.here.top, hx, hb, hdg, hmeth', hr, ret, narrow_b1]
  (try refine ⟨rfl, ?_⟩); (try refine ⟨rfl, ?_⟩)
  first | (intro acts; rw [hret _ acts rfl rfl rfl]) | rw [hret _ _ rfl rfl rfl]
  exact Steps.refl _
/-- what holds at the law's entry: the machine, the code, the tables' words (any of lw_tbl by 'hts w (by decide +kernel)'), the script of L ints xs at the cell b, what the Statement gives of the start (any of its parts by flat_of_before) -/
def lw_At (p : Program) (s : State) (m : MethodId) (meth : Method) (c : Code) (b L : Nat) (xs : Nat → Int32) : Prop :=
  p.tables.exec = Jvm.exec ∧ c.code = code ∧ meth.sig.returnType = ret ∧ c.maxLocals = 14 ∧ s.vm.findClass R_law = some m.cls ∧ (∀ w ∈ lw_tbl, w.before #[Value.ref b] s = true) ∧ va_X b L xs s s.heap ∧ b < s.heap.size ∧ meth.locks = false ∧ (Jvm.Cond.and given_1 narrow_1).before #[Value.ref b] s = true
/-- the law's end -/
theorem lw_end {p : Program} {l : Launch} {e : Env} {s : State} {m : MethodId} {below : List Frame} {meth : Method} {c : Code} {b0 pc : Nat} {A : Nat → Prop} {H : Heap} {locs : List Loc} {ls : Array Slot} {v : Int32} {σ σ' : St} (hx : p.tables.exec = Jvm.exec) (hb : c.code = cL_law) (hr : meth.sig.returnType = ret) (hlk : meth.locks = false) (hA' : ∀ q : Nat, A q → s.heap.size ≤ q) (hS : va_S A s.heap H locs) (hM : rz v σ = some (1, σ')) (hdg : decode cL_law pc = .ok (.ireturn, 1)) : W p l e room_1 s m #[Value.ref b0] below meth c H locs 63 4446 (lw_Z below #[Value.ref b0] s) (F0 m pc ls [.int v]) := by
  obtain ⟨-, rfl, -⟩ := rz_i hM
  refine va_forget (fun q hq => hA' _ (hS.2.2 q hq)) ?_
  refine W.widen (k := 600000) (n := 7302250) (Nat.le_of_ble_eq_true rfl) (Nat.le_of_ble_eq_true rfl) ?_
  exact lw_ret hx hb hr hlk hdg
set_option maxHeartbeats 4000000 in
set_option maxRecDepth 100000 in
theorem tL_cell (l : Launch) (b0 L : Nat) (xs : Nat → Int32) (k r : Int32) (hM : mL_cell xs L k = some r) : Met l yL_cell wsL_cell (rmZ 0 0) (va_Pc [.ref b0, .int k] (fun U => va_X b0 L xs U U.heap)) (va_Qi (fun (r1 : Int32) (_ : Unit) => r1 = r) (fun _ _ => True) (fun _ => False)) 0 0 (fun _ => False) := by
  refine Met.ofW (cc := cL_cell) (maxL := 2) (ret := (some .int)) (by decide +kernel) rfl ?_
  intro p e s m args below meth c s₁ B hml hv
  obtain ⟨rfl, hX⟩ := hv
  have hl := lv_entry [Value.ref b0, Value.int k] (n := 2) (Nat.le_of_ble_eq_true rfl)
  rw [lg_entry_eq]
  generalize (lg_sl [Value.ref b0, Value.int k] ++ List.replicate (2 - (lg_sl [Value.ref b0, Value.int k]).length) Slot.unset).toArray = ls at hl ⊢
  have hx := B.exec
  have hb : c.code = cL_cell := B.bytes
  have hown : s.vm.findClass RL = some m.cls := findClass_of_methodNamed B.named
  have hts : ∀ w ∈ wsL_cell, w.before [Value.ref b0, Value.int k].toArray s = true := atoms_spec (ws := wsL_cell) B.pre
  have hr := B.returns
  have hlk := B.notSynchronized
  have hbl : b0 < s.heap.size := (Array.getElem?_eq_some_iff.mp hX.choose_spec.1).1
  have hS : va_S (fun _ => False) s.heap s.heap [] := va_S.rf
  have hl : lv_has ls 2 [(0, .ref b0), (1, .int k)] := hl
  unfold mL_cell at hM
  refine lv_iload_n hx hb dL_cell_0 rfl (lv_at hl 1 rfl) ?_
  refine lv_aload_n hx hb dL_cell_1 rfl (lv_at hl 0 rfl) ?_
  refine va_slen hx hb hX hbl (fun h => h) hS dL_cell_2 ?_
  refine lv_icmp_ge (tgt := 12) hx hb dL_cell_3 (by decide) (fun c1 => ?_) (fun c1 => ?_)
  · rw [if_pos c1] at hM
    refine lv_ldc (own := RL) (v := 435606711) hx hb hown (hts (.constant RL 7 435606711) (by decide +kernel)) dL_cell_12 ?_
    refine lv_iload_n hx hb dL_cell_14 rfl (lv_at hl 1 rfl) ?_
    refine lv_sipush (v := 1283) hx hb dL_cell_15 (by decide) ?_
    refine lv_iadd hx hb dL_cell_18 ?_
    refine lv_imul hx hb dL_cell_19 ?_
    refine lv_sipush (v := 1091) hx hb dL_cell_20 (by decide) ?_
    refine lv_iadd hx hb dL_cell_23 ?_
    exact W.iret hx hb hr (fun t ht hW => ⟨⟨_, (), rfl, Option.some.inj hM, trivial⟩, hS.F ht⟩) hS.2.2 dL_cell_24 hlk
  · rw [if_neg c1] at hM
    by_cases h2 : k < 0 ∨ L ≤ k.toNatClampNeg
    · rw [if_pos h2] at hM; cases hM
    · rw [if_neg h2] at hM
      refine lv_aload_n hx hb dL_cell_6 rfl (lv_at hl 0 rfl) ?_
      refine lv_iload_n hx hb dL_cell_7 rfl (lv_at hl 1 rfl) ?_
      refine va_sld hx hb hX hbl (fun h => h) hS h2 dL_cell_8 ?_
      refine lv_goto (tgt := 24) hx hb dL_cell_9 (by decide) ?_
      exact W.iret hx hb hr (fun t ht hW => ⟨⟨_, (), rfl, Option.some.inj hM, trivial⟩, hS.F ht⟩) hS.2.2 dL_cell_24 hlk
theorem x_cell {p : Program} {l : Launch} {e : Env} {s : State} {m : MethodId} {below : List Frame} {meth : Method} {c : Code} {b0 L pc : Nat} {xs : Nat → Int32} {D : va_G} {cA : ClassId} {ad : Nat → Nat} {A : Nat → Prop} {H : Heap} {locs : List Loc} {ls : Array Slot} {Q : State → Prop} {rest : List Value} {k r : Int32} {σ : St} (S : CallFix p m c cL_law 14 s #[Value.ref b0] wsL_law RL) (hX : va_X b0 L xs s s.heap) (hbl : b0 < s.heap.size) (hbA : ¬ A b0) (hP : w_P D cA ad KC σ H) (hS : va_S A s.heap H locs) (ho : mL_cell xs L k = some r) (hsize : ls.size = 14) (hW : (rest.map fun v => v.category).sum ≤ 8) (hdg : decode cL_law pc = .ok (.invokestatic 96, 3))
    (kk : ∀ (H1 : Heap) (locs : List Loc), w_P D cA ad KC σ H1 → va_S A s.heap H1 locs → W p l e room_1 s m #[Value.ref b0] below meth c H1 locs 63 4446 Q (F0 m (pc + 3) ls (.int r :: rest))) : W p l e room_1 s m #[Value.ref b0] below meth c H locs 63 4446 Q (F0 m pc ls (.int k :: .ref b0 :: rest)) := by
  have S0 := S
  obtain ⟨hx, hb, hml, hown, hts⟩ := S
  have hXH : va_X b0 L xs s H := va_X.kept hX (hS.2.1 b0 hbl hbA)
  refine va_calli (va_runS (As := [.ref b0, .int k]) (rest := rest) (g := F0 m pc ls (.int k :: .ref b0 :: rest)) S0 (tL_cell l b0 L xs k r ho) (va_cwS 2 hts gL_law_L_cell rfl rfl rfl (by decide +kernel) ⟨Nat.le_of_ble_eq_true rfl, Nat.le_of_ble_eq_true rfl⟩) ⟨fun a U g mk q => ⟨q.1, va_X.moved (u := U) (U := U.calling g mk a) (Vm.Alike.refl U.vm) q.2⟩, fun U hU hW => ⟨rfl, va_X.moved hW.alike (by rw [hU]; exact hXH)⟩⟩ rfl rfl hsize rfl (lv_room hW) hdg ⟨Nat.le_of_ble_eq_true rfl, Nat.le_of_ble_eq_true rfl⟩) hS (fun q _ h => h.elim) (fun q h => h.elim) (fun r1 u t H1 locs1 ht _ hw hB hz hk hS1 => ?_)
  obtain rfl := hw
  exact kk H1 locs1 (va_P.kept hP (fun k q hq => hk _ (hP k q hq).lt (fun h => h))) hS1
