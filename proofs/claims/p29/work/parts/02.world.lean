/-! The world of a system whose objects are all made at its start: a list of shapes; the state: what each int row and each int field holds. -/
abbrev St : Type := Nat → Nat → Int32
/-- .inl (n, k): an int row of n cells, held by row k of the state; .inr (ci, fs): an object of kind ci; a field .inl o: the object o; .inr k: the int at cell 0 of row k -/
abbrev sh_T : Type := (Nat × Nat) ⊕ (Nat × List (Nat ⊕ Nat))
def sh_v (ad : Nat → Nat) (σ : St) (x : Nat ⊕ Nat) : Value := match x with
  | .inl o => .ref (ad o)
  | .inr k => .int (σ k 0)
def sh_e (cA : ClassId) (ad : Nat → Nat) (σ : St) (x : sh_T) : va_E := match x with
  | .inl q => .inl (cA, (q.1, .inl (σ q.2)))
  | .inr q => .inr (q.1, q.2.map (sh_v ad σ))
def sh_w (cA : ClassId) (ad : Nat → Nat) (σ : St) (K : List sh_T) : va_W := K.zipIdx.map (fun q => (ad q.2, sh_e cA ad σ q.1))
theorem sh_get (cA : ClassId) (ad : Nat → Nat) (σ : St) (K : List sh_T) (o : Nat) : (sh_w cA ad σ K)[o]? = (K[o]?).map (fun x => (ad o, sh_e cA ad σ x)) := by
  unfold sh_w
  rw [List.getElem?_map, List.getElem?_zipIdx]
  cases K[o]? with
  | none => rfl
  | some x => simp
theorem sh_at {cA : ClassId} {ad : Nat → Nat} {σ : St} {K : List sh_T} {o : Nat} {x : sh_T} (h : K[o]? = some x) : (sh_w cA ad σ K)[o]? = some (ad o, sh_e cA ad σ x) := by rw [sh_get, h]; rfl
/-- which rows of the state a shape speaks of -/
def sh_u (x : sh_T) : List Nat := match x with
  | .inl q => [q.2]
  | .inr q => q.2.filterMap (fun y => match y with
    | .inl _ => none
    | .inr k => some k)
/-- each row of the state is spoken of by one shape alone -/
def sh_ok (K : List sh_T) : Prop := (List.range K.length).all (fun i => (List.range K.length).all (fun j => decide (i = j) || (sh_u (K.getD i (.inl (0, 0)))).all (fun k => decide (k ∉ sh_u (K.getD j (.inl (0, 0))))))) = true
theorem sh_apart {K : List sh_T} (hok : sh_ok K) {i j k : Nat} {x y : sh_T} (hi : K[i]? = some x) (hj : K[j]? = some y) (hij : i ≠ j) (hk : k ∈ sh_u x) : k ∉ sh_u y := by
  have li := (List.getElem?_eq_some_iff.mp hi).1
  have lj := (List.getElem?_eq_some_iff.mp hj).1
  have h1 := List.all_eq_true.mp (List.all_eq_true.mp hok i (List.mem_range.mpr li)) j (List.mem_range.mpr lj)
  rw [List.getD_eq_getElem?_getD, hi, List.getD_eq_getElem?_getD, hj] at h1
  rcases Bool.or_eq_true_iff.mp h1 with h | h
  · exact absurd (of_decide_eq_true h) hij
  · exact of_decide_eq_true (List.all_eq_true.mp h k hk)
/-- the state with one cell written -/
def ups (σ : St) (k i : Nat) (v : Int32) : St := fun k' => if k' = k then upd (σ k) i v else σ k'
theorem ups_at (σ : St) (k i : Nat) (v : Int32) (k' j : Nat) : ups σ k i v k' j = if k' = k ∧ j = i then v else σ k' j := by
  unfold ups upd
  by_cases h : k' = k
  · subst h
    by_cases h2 : j = i
    · simp [h2]
    · simp [h2]
  · simp [h]
theorem ups_row {σ : St} {k i : Nat} {v : Int32} {k' : Nat} (h : k' ≠ k) : ups σ k i v k' = σ k' := by unfold ups; rw [if_neg h]
theorem ups_same {σ : St} {k i : Nat} {v : Int32} : ups σ k i v k = upd (σ k) i v := by unfold ups; rw [if_pos rfl]
theorem sh_v_ne {ad : Nat → Nat} {σ : St} {k i : Nat} {v : Int32} {y : Nat ⊕ Nat} (h : y ≠ .inr k) : sh_v ad (ups σ k i v) y = sh_v ad σ y := by
  cases y with
  | inl o => rfl
  | inr k' =>
    show Value.int (ups σ k i v k' 0) = Value.int (σ k' 0)
    rw [ups_row (fun e => h (by rw [e]))]
theorem sh_e_ne {cA : ClassId} {ad : Nat → Nat} {σ : St} {k i : Nat} {v : Int32} {x : sh_T} (h : k ∉ sh_u x) : sh_e cA ad (ups σ k i v) x = sh_e cA ad σ x := by
  cases x with
  | inl q =>
    show (Sum.inl (cA, (q.1, Sum.inl (ups σ k i v q.2))) : va_E) = Sum.inl (cA, (q.1, Sum.inl (σ q.2)))
    rw [show ups σ k i v q.2 = σ q.2 from ups_row (fun e => h (by rw [← e]; exact List.mem_cons_self))]
  | inr q =>
    show (Sum.inr (q.1, q.2.map (sh_v ad (ups σ k i v))) : va_E) = Sum.inr (q.1, q.2.map (sh_v ad σ))
    rw [List.map_congr_left (fun y hy => sh_v_ne (fun e => h (by
      subst e
      exact List.mem_filterMap.mpr ⟨_, hy, rfl⟩)))]
theorem sh_put {K : List sh_T} (hok : sh_ok K) {cA : ClassId} {ad : Nat → Nat} {σ : St} {o k i : Nat} {v : Int32} {x : sh_T} {y : va_E} (ho : K[o]? = some x) (hk : k ∈ sh_u x) (hy : y = sh_e cA ad (ups σ k i v) x) : (sh_w cA ad σ K).set o (ad o, y) = sh_w cA ad (ups σ k i v) K := by
  subst hy
  apply List.ext_getElem?
  intro j
  have hl : o < (sh_w cA ad σ K).length := (List.getElem?_eq_some_iff.mp (sh_at ho)).1
  by_cases h : o = j
  · subst h
    rw [List.getElem?_set_self hl, sh_get, ho]
    rfl
  · rw [List.getElem?_set_ne h, sh_get, sh_get]
    cases hj : K[j]? with
    | none => rfl
    | some z =>
      show some (ad j, sh_e cA ad σ z) = some (ad j, sh_e cA ad (ups σ k i v) z)
      rw [sh_e_ne (sh_apart hok ho hj h hk)]
/-- the cells of a world are apart -/
def w_J (ad : Nat → Nat) (K : List sh_T) : Prop := ∀ i j, i < K.length → j < K.length → ad i = ad j → i = j
def w_A (ad : Nat → Nat) (K : List sh_T) : Nat → Prop := fun q => ∃ o, o < K.length ∧ q = ad o
theorem w_D {cA : ClassId} {ad : Nat → Nat} {K : List sh_T} (hJ : w_J ad K) (σ : St) : va_D (w_A ad K) (sh_w cA ad σ K) := by
  have key : ∀ (k : Nat) (q : Nat × va_E), (sh_w cA ad σ K)[k]? = some q → k < K.length ∧ q.1 = ad k := by
    intro k q h
    rw [sh_get] at h
    cases hk : K[k]? with
    | none => rw [hk] at h; cases h
    | some x =>
      rw [hk] at h
      cases h
      exact ⟨(List.getElem?_eq_some_iff.mp hk).1, rfl⟩
  refine ⟨fun i j p q hi hj hpq => ?_, fun k q h => ⟨k, (key k q h).1, (key k q h).2⟩⟩
  obtain ⟨h1, h2⟩ := key i p hi
  obtain ⟨h3, h4⟩ := key j q hj
  exact hJ i j h1 h3 (by rw [← h2, ← h4]; exact hpq)
def w_P (D : va_G) (cA : ClassId) (ad : Nat → Nat) (K : List sh_T) (σ : St) (H : Heap) : Prop := va_P D vwCl (sh_w cA ad σ K) H
/-- words that no list of words carries: links to private members of nest mates -/
def nw_l : List (String × Nat × MethodName) := [("StrokeBoard$Log", 68, yX6_idOf), ("StrokeBoard$Log", 84, yX6_authorOf), ("StrokeBoard$Knowledge", 42, yX6_authorOf), ("StrokeBoard$Knowledge", 45, yX6_numberOf), ("StrokeBoard$Knowledge", 48, yX6_idOf), ("StrokeBoard$Ink", 69, yX6_isWithin), ("StrokeBoard$Board", 89, yX6_authorOf), ("StrokeBoard$Board", 92, yX6_numberOf), ("StrokeBoard", 11, yX4_init), ("StrokeBoard", 27, yX2_init), ("StrokeBoard", 37, yX3_init), ("StrokeBoard", 44, yX0_init)]
def nf_l : List (String × Nat × String × String × String) := [("StrokeBoard$Board", 35, "StrokeBoard$Log", "layers", "LStrokeBoard$Row;"), ("StrokeBoard$Board", 95, "StrokeBoard$Log", "ink", "LStrokeBoard$Ink;"), ("StrokeBoard", 207, "StrokeBoard$Log", "ink", "LStrokeBoard$Ink;")]
def nw_K (U : State) : Prop := (∀ q ∈ nw_l, va_Nw (.methodLinkNest q.1 q.2.1 q.2.2 "StrokeBoard") U) ∧ ∀ q ∈ nf_l, va_Nw (.fieldLinkNest q.1 q.2.1 q.2.2.1 q.2.2.2.1 q.2.2.2.2 "StrokeBoard") U
theorem nw_K.warm {s U : State} (hW : s.WarmedH U.vm) (h : nw_K s) : nw_K U := ⟨fun q hq => va_Nw.warmM hW (h.1 q hq), fun q hq => va_Nw.warmF hW (h.2 q hq)⟩
theorem nw_K.same {s U : State} (hW : s.vm = U.vm) (h : nw_K s) : nw_K U := ⟨fun q hq => va_Nw.same rfl hW (h.1 q hq), fun q hq => va_Nw.same rfl hW (h.2 q hq)⟩
theorem nw_m {s : State} {args : Array Value} (h : nw_K s) (i : Nat) {a : String} {n : Nat} {y : MethodName} (hi : nw_l[i]? = some (a, n, y)) : va_Nw (.methodLinkNest a n y "StrokeBoard") s := h.1 _ (List.mem_of_getElem? hi)
theorem nw_f {s : State} {args : Array Value} (h : nw_K s) (i : Nat) {a : String} {n : Nat} {b x d : String} (hi : nf_l[i]? = some (a, n, b, x, d)) : (Cond.fieldLinkNest a n b x d "StrokeBoard").before args s = true := va_Nw.use rfl (h.2 _ (List.mem_of_getElem? hi))
def w_K (D : va_G) (cA : ClassId) (U : State) : Prop := va_K D vwCl [(cA, .int)] U ∧ nw_K U
def w_Pc (D : va_G) (cA : ClassId) (ad : Nat → Nat) (K : List sh_T) (av : List Value) (σ : St) : Array Value → State → Prop := va_Pc av (fun U => w_P D cA ad K σ U.heap ∧ w_K D cA U)
def w_B (D : va_G) (cA : ClassId) (ad : Nat → Nat) (K : List sh_T) : St → State → Prop := fun σ t => w_P D cA ad K σ t.heap
def w_Qi (D : va_G) (cA : ClassId) (ad : Nat → Nat) (K : List sh_T) (r : Int32) (σ' : St) : Array Value → State → Outcome → State → Prop := va_Qi (fun (r1 : Int32) (s1 : St) => r1 = r ∧ s1 = σ') (w_B D cA ad K) (w_A ad K)
def w_Qv (D : va_G) (cA : ClassId) (ad : Nat → Nat) (K : List sh_T) (σ' : St) : Array Value → State → Outcome → State → Prop := va_Qv (fun (s1 : St) => s1 = σ') (w_B D cA ad K) (w_A ad K)
abbrev rmZ (fr lo : Nat) : Room := { frames := fr, cells := 0, slots := 0, locals := lo }
/-- a method's contract: from the state σ it answers r, and the state is σ' -/
def Ct (l : Launch) (y : MethodName) (ws : List Cond) (fr lo : Nat) (D : va_G) (cA : ClassId) (ad : Nat → Nat) (K : List sh_T) (av : List Value) (σ : St) (r : Int32) (σ' : St) : Prop := Met l y ws (rmZ fr lo) (w_Pc D cA ad K av σ) (w_Qi D cA ad K r σ') 0 0 (w_A ad K)
def Cv (l : Launch) (y : MethodName) (ws : List Cond) (fr lo : Nat) (D : va_G) (cA : ClassId) (ad : Nat → Nat) (K : List sh_T) (av : List Value) (σ : St) (σ' : St) : Prop := Met l y ws (rmZ fr lo) (w_Pc D cA ad K av σ) (w_Qv D cA ad K σ') 0 0 (w_A ad K)
theorem w_blind {D : va_G} {cA : ClassId} {ad : Nat → Nat} {K : List sh_T} {av : List Value} {σ : St} : FrameBlind (w_Pc D cA ad K av σ) := fun a U g mk q => ⟨q.1, q.2.1, va_K.moved (u := U) (U := U.calling g mk a) (Vm.Alike.refl U.vm) q.2.2.1, nw_K.same (s := U) (U := U.calling g mk a) rfl q.2.2.2⟩
/-- what holds at a method's entry, besides its world -/
def w_Z (p : Program) (s : State) (m : MethodId) (args : Array Value) (meth : Method) (c : Code) (D : va_G) (cA : ClassId) (ad : Nat → Nat) (K : List sh_T) (own : String) (ws : List Cond) (cc : ByteArray) (maxL : Nat) (ret : Option FieldType) : Prop := p.tables.exec = Jvm.exec ∧ c.code = cc ∧ c.maxLocals = maxL ∧ s.vm.findClass own = some m.cls ∧ (∀ w ∈ ws, w.before args s = true) ∧ meth.sig.returnType = ret ∧ meth.locks = false ∧ w_K D cA s ∧ w_J ad K
abbrev Wm (p : Program) (l : Launch) (e : Env) (ws : List Cond) (fr lo : Nat) (s : State) (m : MethodId) (args : Array Value) (below : List Frame) (meth : Method) (c : Code) (Qc : Array Value → State → Outcome → State → Prop) (free : Addr → Prop) (H : Heap) (locs : List Loc) (g : JFrame) : Prop := W p l e (headSpec ws (rmZ fr lo)).room s m args below meth c H locs 0 0 (MQ below Qc args s 0 0 free) g
theorem Met_of {l : Launch} {y : MethodName} {ws ws' : List Cond} {fr lo : Nat} {D : va_G} {cA : ClassId} {ad : Nat → Nat} {K : List sh_T} {av : List Value} {σ : St} {Qc : Array Value → State → Outcome → State → Prop} {cc : ByteArray} {maxL : Nat} {ret : Option FieldType} (hJ : w_J ad K) (hy : plainName y.cls = true) (hw : ws = Cond.code y cc maxL ret :: ws') (hn : (lg_sl av).length ≤ maxL)
    (body : ∀ (p : Program) (e : Env) (s : State) (m : MethodId) (below : List Frame) (meth : Method) (c : Code), w_Z p s m av.toArray meth c D cA ad K y.cls ws cc maxL ret → ∀ (H : Heap) (locs : List Loc) (ls : Array Slot), w_P D cA ad K σ H → va_S (w_A ad K) s.heap H locs → lv_has ls maxL (lv_args 0 av) → Wm p l e ws fr lo s m av.toArray below meth c Qc (w_A ad K) H locs (F0 m 0 ls [])) : Met l y ws (rmZ fr lo) (w_Pc D cA ad K av σ) Qc 0 0 (w_A ad K) := by
  refine Met.ofW (cc := cc) (maxL := maxL) (ret := ret) hy hw ?_
  intro p e s m args below meth c s₁ B hml hv
  obtain ⟨rfl, hP, hK⟩ := hv
  have hl := lv_entry av (n := maxL) hn
  rw [lg_entry_eq]
  exact body p e s m below meth c ⟨B.exec, B.bytes, hml, findClass_of_methodNamed B.named, atoms_spec (ws := ws) B.pre, B.returns, B.notSynchronized, hK, hJ⟩ s.heap [] _ hP va_S.rf hl
section WR
variable {p : Program} {l : Launch} {e : Env} {R : Room} {s : State} {m : MethodId} {args : Array Value} {below : List Frame} {meth : Method} {c : Code} {H : Heap} {locs : List Loc} {cells slots : Nat} {Q : State → Prop} {cc : ByteArray} {pc : Nat} {ls : Array Slot} {rest : List Value} {D : va_G} {cA : ClassId} {ad : Nat → Nat} {K : List sh_T} {σ σ' : St} {H0 : Heap}
theorem x_getr {own C : String} {T : u_T} {N ci index : Nat} {Ts : List Cond} {fs : List (Nat ⊕ Nat)} {o o' : Nat} (hx : p.tables.exec = Jvm.exec) (hb : c.code = cc) (hts : ∀ w ∈ Ts, w.before args s = true) (hin : ∀ w ∈ u_ws C T N, w ∈ Ts) (hown : s.vm.findClass own = some m.cls) (hK : w_K D cA s) (hP : w_P D cA ad K σ H) (hs : K[o]? = some (.inr (ci, fs))) (hc : vwCl[ci]? = some (C, T, N)) (j : Nat) (hj : j < N) (hlink : (Cond.fieldLink own index (T j).1 (T j).2.1 (T j).2.2.1).before args s = true) (hv : fs[j]? = some (.inl o')) (hdg : decode cc pc = .ok (.getfield index, 3))
    (kk : W p l e R s m args below meth c H locs cells slots Q (F0 m (pc + 3) ls (.ref (ad o') :: rest))) : W p l e R s m args below meth c H locs cells slots Q (F0 m pc ls (.ref (ad o) :: rest)) :=
  va_get (D := D) (ci := ci) (v := .ref (ad o')) (C := C) (T := T) (N := N) (fs := fs.map (sh_v ad σ)) hx hb hts hin hown hK.1 hP o (sh_at hs) hc j hj hlink (fun _ h9 => h9) (by rw [List.getElem?_map, hv]; rfl) hdg kk
theorem x_getrN {own C host : String} {T : u_T} {N ci index : Nat} {Ts : List Cond} {fs : List (Nat ⊕ Nat)} {o o' : Nat} (hx : p.tables.exec = Jvm.exec) (hb : c.code = cc) (hts : ∀ w ∈ Ts, w.before args s = true) (hin : ∀ w ∈ u_ws C T N, w ∈ Ts) (hown : s.vm.findClass own = some m.cls) (hK : w_K D cA s) (hP : w_P D cA ad K σ H) (hs : K[o]? = some (.inr (ci, fs))) (hc : vwCl[ci]? = some (C, T, N)) (j : Nat) (hj : j < N) (hlink : (Cond.fieldLinkNest own index (T j).1 (T j).2.1 (T j).2.2.1 host).before args s = true) (hv : fs[j]? = some (.inl o')) (hdg : decode cc pc = .ok (.getfield index, 3))
    (kk : W p l e R s m args below meth c H locs cells slots Q (F0 m (pc + 3) ls (.ref (ad o') :: rest))) : W p l e R s m args below meth c H locs cells slots Q (F0 m pc ls (.ref (ad o) :: rest)) :=
  va_getN (D := D) (ci := ci) (v := .ref (ad o')) (C := C) (T := T) (N := N) (fs := fs.map (sh_v ad σ)) hx hb hts hin hown hK.1 hP o (sh_at hs) hc j hj hlink (fun _ h9 => h9) (by rw [List.getElem?_map, hv]; rfl) hdg kk
theorem x_geti {own C : String} {T : u_T} {N ci index : Nat} {Ts : List Cond} {fs : List (Nat ⊕ Nat)} {o k : Nat} (hx : p.tables.exec = Jvm.exec) (hb : c.code = cc) (hts : ∀ w ∈ Ts, w.before args s = true) (hin : ∀ w ∈ u_ws C T N, w ∈ Ts) (hown : s.vm.findClass own = some m.cls) (hK : w_K D cA s) (hP : w_P D cA ad K σ H) (hs : K[o]? = some (.inr (ci, fs))) (hc : vwCl[ci]? = some (C, T, N)) (j : Nat) (hj : j < N) (hlink : (Cond.fieldLink own index (T j).1 (T j).2.1 (T j).2.2.1).before args s = true) (hv : fs[j]? = some (.inr k)) (hdg : decode cc pc = .ok (.getfield index, 3))
    (kk : W p l e R s m args below meth c H locs cells slots Q (F0 m (pc + 3) ls (.int (σ k 0) :: rest))) : W p l e R s m args below meth c H locs cells slots Q (F0 m pc ls (.ref (ad o) :: rest)) :=
  va_get (D := D) (ci := ci) (v := .int (σ k 0)) (C := C) (T := T) (N := N) (fs := fs.map (sh_v ad σ)) hx hb hts hin hown hK.1 hP o (sh_at hs) hc j hj hlink (fun _ h9 => h9) (by rw [List.getElem?_map, hv]; rfl) hdg kk
theorem x_puti {own C : String} {T : u_T} {N ci index : Nat} {Ts : List Cond} {fs : List (Nat ⊕ Nat)} {o k : Nat} {v : Int32} (hx : p.tables.exec = Jvm.exec) (hb : c.code = cc) (hok : sh_ok K) (hJ : w_J ad K) (hts : ∀ w ∈ Ts, w.before args s = true) (hin : ∀ w ∈ u_ws C T N, w ∈ Ts) (ty0 : Nat → FieldType) (hty : ∀ k, k < N → parseFieldDescriptor (T k).2.2.1 = some (ty0 k)) (hnm : ∀ a, a < N → ∀ b, b < N → a ≠ b → (T a).2.1 ≠ (T b).2.1) (hown : s.vm.findClass own = some m.cls) (hK : w_K D cA s) (hP : w_P D cA ad K σ H) (hS : va_S (w_A ad K) H0 H locs) (hs : K[o]? = some (.inr (ci, fs))) (hc : vwCl[ci]? = some (C, T, N)) (j : Nat) (hj : j < N) (hlink : (Cond.fieldLink own index (T j).1 (T j).2.1 (T j).2.2.1).before args s = true) (hv : fs[j]? = some (.inr k)) (hone : (fs.set j (.inl 0)).all (fun y => decide (y ≠ .inr k)) = true) (hfin : (T j).2.2.2 = false) (hd : parseFieldDescriptor (T j).2.2.1 = some .int) (hdg : decode cc pc = .ok (.putfield index, 3))
    (kk : ∀ (H : Heap) (locs : List Loc), w_P D cA ad K (ups σ k 0 v) H → va_S (w_A ad K) H0 H locs → W p l e R s m args below meth c H locs cells slots Q (F0 m (pc + 3) ls rest)) : W p l e R s m args below meth c H locs cells slots Q (F0 m pc ls (.int v :: .ref (ad o) :: rest)) := by
  have hl := (List.getElem?_eq_some_iff.mp hv).1
  refine va_put (D := D) (ci := ci) (v := .int v) (ty := .int) (C := C) (T := T) (N := N) (fs := fs.map (sh_v ad σ)) hx hb hts hin ty0 hty hnm hown hK.1 hP (w_D hJ σ) hS o (sh_at hs) hc j hj hlink (fun _ h9 => h9) hfin hd rfl rfl (by rw [List.length_map]; exact hl) hdg (fun H1 locs1 hP1 _ hS1 => kk H1 locs1 ?_ hS1)
  have hu : k ∈ sh_u (.inr (ci, fs) : sh_T) := List.mem_filterMap.mpr ⟨_, List.mem_of_getElem? hv, rfl⟩
  have e := sh_put (cA := cA) (ad := ad) (σ := σ) (i := 0) (v := v) (y := .inr (ci, (fs.map (sh_v ad σ)).set j (.int v))) hok hs hu (by
    show (Sum.inr (ci, (fs.map (sh_v ad σ)).set j (.int v)) : va_E) = Sum.inr (ci, fs.map (sh_v ad (ups σ k 0 v)))
    congr 2
    apply List.ext_getElem?
    intro i
    by_cases h : j = i
    · subst h
      rw [List.getElem?_set_self (by rw [List.length_map]; exact hl), List.getElem?_map, hv]
      show some (Value.int v) = some (Value.int (ups σ k 0 v k 0))
      rw [ups_at, if_pos ⟨rfl, rfl⟩]
    · rw [List.getElem?_set_ne h, List.getElem?_map, List.getElem?_map]
      cases hi : fs[i]? with
      | none => rfl
      | some y =>
        show some (sh_v ad σ y) = some (sh_v ad (ups σ k 0 v) y)
        rw [sh_v_ne]
        have h9 := List.all_eq_true.mp hone y (List.mem_of_getElem? (i := i) (by rw [List.getElem?_set_ne h]; exact hi))
        exact of_decide_eq_true h9)
  rw [e] at hP1
  exact hP1
theorem x_iald {o n k : Nat} {i : Int32} (hx : p.tables.exec = Jvm.exec) (hb : c.code = cc) (hK : w_K D cA s) (hP : w_P D cA ad K σ H) (hs : K[o]? = some (.inl (n, k))) (hin : vp_in i n) (hdg : decode cc pc = .ok (.iaload, 1))
    (kk : W p l e R s m args below meth c H locs cells slots Q (F0 m (pc + 1) ls (.int (σ k i.toNatClampNeg) :: rest))) : W p l e R s m args below meth c H locs cells slots Q (F0 m pc ls (.int i :: .ref (ad o) :: rest)) :=
  va_iald (D := D) hx hb hK.1 hP o 0 (f := σ k) (n := n) (sh_at hs) rfl hin hdg kk
theorem x_iast {o n k : Nat} {i v : Int32} (hx : p.tables.exec = Jvm.exec) (hb : c.code = cc) (hok : sh_ok K) (hJ : w_J ad K) (hK : w_K D cA s) (hP : w_P D cA ad K σ H) (hS : va_S (w_A ad K) H0 H locs) (hs : K[o]? = some (.inl (n, k))) (hin : vp_in i n) (hdg : decode cc pc = .ok (.iastore, 1))
    (kk : ∀ (H : Heap) (locs : List Loc), w_P D cA ad K (ups σ k i.toNatClampNeg v) H → va_S (w_A ad K) H0 H locs → W p l e R s m args below meth c H locs cells slots Q (F0 m (pc + 1) ls rest)) : W p l e R s m args below meth c H locs cells slots Q (F0 m pc ls (.int v :: .int i :: .ref (ad o) :: rest)) := by
  refine va_iast (D := D) hx hb hK.1 hP (w_D hJ σ) hS o 0 (f := σ k) (n := n) (sh_at hs) rfl hin hdg (fun H1 locs1 hP1 _ hS1 => kk H1 locs1 ?_ hS1)
  have e := sh_put (cA := cA) (ad := ad) (σ := σ) (k := k) (i := i.toNatClampNeg) (v := v) (y := .inl (cA, (n, .inl (upd (σ k) i.toNatClampNeg v)))) hok hs (List.mem_cons_self) (by
    show _ = (Sum.inl (cA, (n, .inl (ups σ k i.toNatClampNeg v k))) : va_E)
    rw [ups_same])
  rw [e] at hP1
  exact hP1
theorem x_alen {o n k : Nat} (hx : p.tables.exec = Jvm.exec) (hb : c.code = cc) (hK : w_K D cA s) (hP : w_P D cA ad K σ H) (hs : K[o]? = some (.inl (n, k))) (hdg : decode cc pc = .ok (.arraylength, 1))
    (kk : W p l e R s m args below meth c H locs cells slots Q (F0 m (pc + 1) ls (.int (nI n) :: rest))) : W p l e R s m args below meth c H locs cells slots Q (F0 m pc ls (.ref (ad o) :: rest)) :=
  va_alen (D := D) hx hb hK.1 hP o 0 (sh_at hs) rfl (v := nI n) rfl hdg kk
theorem w_start {av : List Value} (hK : w_K D cA s) (hP : w_P D cA ad K σ H) : ∀ U : State, U.heap = H → s.WarmedH U.vm → w_Pc D cA ad K av σ av.toArray U := fun U hU hW => ⟨rfl, by rw [hU]; exact hP, va_K.moved hW.alike hK.1, hK.2.warm hW⟩
section WC
variable {A0 : Nat → Prop} {nL index n maxL fr lo o ci N : Nat} {own C : String} {T : u_T} {fs : List (Nat ⊕ Nat)} {Ts ws : List Cond} {bytes : ByteArray} {ret : Option FieldType} {y : MethodName} {As st : List Value} {r : Int32} {hh : String}
theorem x_callV (hA : ∀ q, w_A ad K q → A0 q) (S : CallFix p m c cc nL s args Ts own) (hM : Ct l y ws fr lo D cA ad K (.ref (ad o) :: As) σ r σ') (cw : CallW R s args own C index y bytes maxL ret ws (rmZ fr lo) 0 0 n) (hK : w_K D cA s) (hP : w_P D cA ad K σ H) (hS : va_S A0 H0 H locs) (hs : K[o]? = some (.inr (ci, fs))) (hc : vwCl[ci]? = some (C, T, N)) (hn : As.length = n) (hsize : ls.size = nL) (hst : st = As.reverse ++ .ref (ad o) :: rest) (hW : (rest.map fun v => v.category).sum ≤ 8) (hf : cells ≤ R.cells ∧ slots ≤ R.slots) (hdg : decode cc pc = .ok (.invokevirtual index, 3))
    (kk : ∀ (H1 : Heap) (locs : List Loc), w_P D cA ad K σ' H1 → va_S A0 H0 H1 locs → H.size ≤ H1.size → (∀ q : Nat, q < H.size → ¬ w_A ad K q → H1[q]? = H[q]?) → W p l e R s m args below meth c H1 locs cells slots Q (F0 m (pc + 3) ls (.int r :: rest))) : W p l e R s m args below meth c H locs cells slots Q (F0 m pc ls st) := by
  subst hst
  refine va_calli (va_runV (As := As) (rest := rest) (g := F0 m pc ls (As.reverse ++ .ref (ad o) :: rest)) S hM cw ⟨w_blind, va_recv hK.1 hP (ci := ci) (q0 := o) hc (sh_at hs), w_start hK hP⟩ rfl hn hsize rfl (lv_room hW) hdg hf) hS (fun q _ h => hA q h) hA (fun r1 u t H1 locs1 ht _ hw hB hz hk hS1 => ?_)
  obtain ⟨rfl, rfl⟩ := hw
  exact kk H1 locs1 (by rw [← ht]; exact hB) hS1 hz hk
theorem x_callVv (hA : ∀ q, w_A ad K q → A0 q) (S : CallFix p m c cc nL s args Ts own) (hM : Cv l y ws fr lo D cA ad K (.ref (ad o) :: As) σ σ') (cw : CallW R s args own C index y bytes maxL ret ws (rmZ fr lo) 0 0 n) (hK : w_K D cA s) (hP : w_P D cA ad K σ H) (hS : va_S A0 H0 H locs) (hs : K[o]? = some (.inr (ci, fs))) (hc : vwCl[ci]? = some (C, T, N)) (hn : As.length = n) (hsize : ls.size = nL) (hst : st = As.reverse ++ .ref (ad o) :: rest) (hW : (rest.map fun v => v.category).sum ≤ 8) (hf : cells ≤ R.cells ∧ slots ≤ R.slots) (hdg : decode cc pc = .ok (.invokevirtual index, 3))
    (kk : ∀ (H1 : Heap) (locs : List Loc), w_P D cA ad K σ' H1 → va_S A0 H0 H1 locs → H.size ≤ H1.size → (∀ q : Nat, q < H.size → ¬ w_A ad K q → H1[q]? = H[q]?) → W p l e R s m args below meth c H1 locs cells slots Q (F0 m (pc + 3) ls rest)) : W p l e R s m args below meth c H locs cells slots Q (F0 m pc ls st) := by
  subst hst
  refine va_callv (va_runV (As := As) (rest := rest) (g := F0 m pc ls (As.reverse ++ .ref (ad o) :: rest)) S hM cw ⟨w_blind, va_recv hK.1 hP (ci := ci) (q0 := o) hc (sh_at hs), w_start hK hP⟩ rfl hn hsize rfl (lv_room hW) hdg hf) hS (fun q _ h => hA q h) hA (fun u t H1 locs1 ht _ hw hB hz hk hS1 => ?_)
  obtain rfl := hw
  exact kk H1 locs1 (by rw [← ht]; exact hB) hS1 hz hk
theorem x_callS (hA : ∀ q, w_A ad K q → A0 q) (S : CallFix p m c cc nL s args Ts own) (hM : Ct l y ws fr lo D cA ad K As σ r σ') (cw : CallB R s args own index y bytes maxL ret ws (rmZ fr lo) 0 0 n ∧ (Cond.static y).before args s = true) (hK : w_K D cA s) (hP : w_P D cA ad K σ H) (hS : va_S A0 H0 H locs) (hn : As.length = n) (hsize : ls.size = nL) (hst : st = As.reverse ++ rest) (hW : (rest.map fun v => v.category).sum ≤ 8) (hf : cells ≤ R.cells ∧ slots ≤ R.slots) (hdg : decode cc pc = .ok (.invokestatic index, 3))
    (kk : ∀ (H1 : Heap) (locs : List Loc), w_P D cA ad K σ' H1 → va_S A0 H0 H1 locs → W p l e R s m args below meth c H1 locs cells slots Q (F0 m (pc + 3) ls (.int r :: rest))) : W p l e R s m args below meth c H locs cells slots Q (F0 m pc ls st) := by
  subst hst
  refine va_calli (va_runS (As := As) (rest := rest) (g := F0 m pc ls (As.reverse ++ rest)) S hM cw ⟨w_blind, w_start hK hP⟩ rfl hn hsize rfl (lv_room hW) hdg hf) hS (fun q _ h => hA q h) hA (fun r1 u t H1 locs1 ht _ hw hB hz hk hS1 => ?_)
  obtain ⟨rfl, rfl⟩ := hw
  exact kk H1 locs1 (by rw [← ht]; exact hB) hS1
theorem x_callSN (hA : ∀ q, w_A ad K q → A0 q) (S : CallFix p m c cc nL s args Ts own) (hM : Ct l y ws fr lo D cA ad K As σ r σ') (cw : va_CN R s args own index y hh bytes maxL ret ws (rmZ fr lo) 0 0 n ∧ (Cond.static y).before args s = true ∧ True) (hK : w_K D cA s) (hP : w_P D cA ad K σ H) (hS : va_S A0 H0 H locs) (hn : As.length = n) (hsize : ls.size = nL) (hst : st = As.reverse ++ rest) (hW : (rest.map fun v => v.category).sum ≤ 8) (hf : cells ≤ R.cells ∧ slots ≤ R.slots) (hdg : decode cc pc = .ok (.invokestatic index, 3))
    (kk : ∀ (H1 : Heap) (locs : List Loc), w_P D cA ad K σ' H1 → va_S A0 H0 H1 locs → W p l e R s m args below meth c H1 locs cells slots Q (F0 m (pc + 3) ls (.int r :: rest))) : W p l e R s m args below meth c H locs cells slots Q (F0 m pc ls st) := by
  subst hst
  refine va_calli (va_runSN (As := As) (rest := rest) (g := F0 m pc ls (As.reverse ++ rest)) S hM cw ⟨w_blind, w_start hK hP⟩ rfl hn hsize rfl (lv_room hW) hdg hf) hS (fun q _ h => hA q h) hA (fun r1 u t H1 locs1 ht _ hw hB hz hk hS1 => ?_)
  obtain ⟨rfl, rfl⟩ := hw
  exact kk H1 locs1 (by rw [← ht]; exact hB) hS1
end WC
section WE
variable {r v : Int32} {st0 : State}
theorem x_iret (hx : p.tables.exec = Jvm.exec) (hb : c.code = cc) (hr : meth.sig.returnType = some .int) (hlocks : meth.locks = false) (hP : w_P D cA ad K σ H) (hS : va_S (w_A ad K) s.heap H locs) (hM : some (v, σ) = some (r, σ')) (hdg : decode cc pc = .ok (.ireturn, 1)) : W p l e R s m args below meth c H locs cells slots (MQ below (w_Qi D cA ad K r σ') args s cells slots (w_A ad K)) (F0 m pc ls [.int v]) :=
  W.iret (v := v) hx hb hr (fun t ht hW => ⟨⟨v, σ, rfl, Prod.mk.inj (Option.some.inj hM), by show w_P D cA ad K σ t.heap; rw [ht]; exact hP⟩, hS.F ht⟩) hS.2.2 hdg hlocks
/-- what a method of boolean type may answer -/
def rz (v : Int32) (σ : St) : Option (Int32 × St) := if v = 0 ∨ v = 1 then some (v, σ) else none
theorem rz_0 (σ : St) : rz 0 σ = some (0, σ) := rfl
theorem rz_1 (σ : St) : rz 1 σ = some (1, σ) := rfl
theorem rz_i (h : rz v σ = some (r, σ')) : (v = 0 ∨ v = 1) ∧ v = r ∧ σ = σ' := by
  unfold rz at h
  by_cases h1 : v = 0 ∨ v = 1
  · rw [if_pos h1] at h
    exact ⟨h1, Prod.mk.inj (Option.some.inj h)⟩
  · rw [if_neg h1] at h
    cases h
theorem x_zret (hx : p.tables.exec = Jvm.exec) (hb : c.code = cc) (hr : meth.sig.returnType = some .boolean) (hlocks : meth.locks = false) (hP : w_P D cA ad K σ H) (hS : va_S (w_A ad K) s.heap H locs) (hM : rz v σ = some (r, σ')) (hdg : decode cc pc = .ok (.ireturn, 1)) : W p l e R s m args below meth c H locs cells slots (MQ below (w_Qi D cA ad K r σ') args s cells slots (w_A ad K)) (F0 m pc ls [.int v]) := by
  obtain ⟨h, e⟩ := rz_i hM
  exact W.zret (v := v) hx hb hr (by rcases h with h | h <;> rw [h] <;> rfl) (fun t ht hW => ⟨⟨v, σ, rfl, e, by show w_P D cA ad K σ t.heap; rw [ht]; exact hP⟩, hS.F ht⟩) hS.2.2 hdg hlocks
theorem x_vret (hx : p.tables.exec = Jvm.exec) (hb : c.code = cc) (hr : meth.sig.returnType = none) (hlocks : meth.locks = false) (hP : w_P D cA ad K σ H) (hS : va_S (w_A ad K) s.heap H locs) (hM : some σ = some σ') (hdg : decode cc pc = .ok (.return_, 1)) : W p l e R s m args below meth c H locs cells slots (MQ below (w_Qv D cA ad K σ') args s cells slots (w_A ad K)) (F0 m pc ls []) :=
  W.vret hx hb hr (fun t ht hW => ⟨⟨σ, rfl, Option.some.inj hM, by show w_P D cA ad K σ t.heap; rw [ht]; exact hP⟩, hS.F ht⟩) hS.2.2 hdg hlocks
end WE
end WR
/-- an answer and the state behind it go on -/
def bnd {β : Type} (o : Option (Int32 × St)) (f : Int32 → St → Option β) : Option β := match o with
  | none => none
  | some q => f q.1 q.2
def bnv {β : Type} (o : Option St) (f : St → Option β) : Option β := match o with
  | none => none
  | some q => f q
theorem bnd_i {β : Type} {o : Option (Int32 × St)} {f : Int32 → St → Option β} {y : β} (h : bnd o f = some y) : ∃ (a : Int32) (b : St), o = some (a, b) ∧ f a b = some y := by
  cases o with
  | none => cases h
  | some q => exact ⟨q.1, q.2, rfl, h⟩
theorem bnv_i {β : Type} {o : Option St} {f : St → Option β} {y : β} (h : bnv o f = some y) : ∃ b : St, o = some b ∧ f b = some y := by
  cases o with
  | none => cases h
  | some q => exact ⟨q, rfl, h⟩
theorem bnd_s {β : Type} {a : Int32} {b : St} {f : Int32 → St → Option β} : bnd (some (a, b)) f = f a b := rfl
theorem bnv_s {β : Type} {b : St} {f : St → Option β} : bnv (some b) f = f b := rfl
/-- an index that must be within -/
def ix {β : Type} (i : Int32) (n : Nat) (x : Option β) : Option β := if i < 0 ∨ n ≤ i.toNatClampNeg then none else x
theorem ix_i {β : Type} {i : Int32} {n : Nat} {x : Option β} {y : β} (h : ix i n x = some y) : vp_in i n ∧ x = some y := by
  unfold ix at h
  by_cases h1 : i < 0 ∨ n ≤ i.toNatClampNeg
  · rw [if_pos h1] at h; cases h
  · rw [if_neg h1] at h; exact ⟨h1, h⟩
theorem ix_n {β : Type} {i n : Nat} {x : Option β} (h : i < n) (hn : n < 2 ^ 31) : ix (nI i) n x = x := by
  unfold ix
  rw [if_neg (nI_in h hn)]
theorem x_tab {x : Int32} (n : Nat) (lo : Int) (hn : (lo + n).toNat < 2 ^ 31) (h0 : 0 ≤ lo) (h : ∀ k, k < n → x ≠ Int32.ofInt (lo + k)) : x.toInt < lo ∨ lo + n - 1 < x.toInt := by
  by_cases h1 : x.toInt < lo
  · exact Or.inl h1
  · by_cases h2 : lo + n - 1 < x.toInt
    · exact Or.inr h2
    · exfalso
      refine h (x.toInt - lo).toNat (by omega) ?_
      rw [show lo + ((x.toInt - lo).toNat : Int) = x.toInt by omega, Int32.ofInt_toInt]
/-- how long a loop may go on -/
def fu : Nat := 4000
