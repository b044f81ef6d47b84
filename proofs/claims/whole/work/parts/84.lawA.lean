/-! The law's walk: one pair of calls a step. -/
def lc_F (p : Program) (s : State) (m : MethodId) (c : Code) (b0 L : Nat) (xs : Nat → Int32) (D : va_G) (cA : ClassId) (a b : Nat → Nat) (A : Nat → Prop) : Prop := p.tables.exec = Jvm.exec ∧ c.code = cL_law ∧ c.maxLocals = 4 ∧ s.vm.findClass RL = some m.cls ∧ (∀ w ∈ wsL_law, w.before #[Value.ref b0] s = true) ∧ w_K D cA s ∧ w_J a KC ∧ w_J b KM ∧ va_X b0 L xs s s.heap ∧ b0 < s.heap.size ∧ ¬ A b0 ∧ (∀ q, w_A a KC q → A q) ∧ (∀ q, w_A b KM q → A q) ∧ (∀ o, o < KM.length → ¬ w_A a KC (b o)) ∧ (∀ o, o < KC.length → ¬ w_A b KM (a o)) ∧ L ≤ 3072
def lc_S (s : State) (D : va_G) (cA : ClassId) (a b : Nat → Nat) (A : Nat → Prop) (σ τ : St) (H : Heap) (locs : List Loc) : Prop := w_P D cA a KC σ H ∧ w_P D cA b KM τ H ∧ Rel σ τ ∧ va_S A s.heap H locs
abbrev lc_lv (b0 : Nat) (a b : Nat → Nat) (i : Nat) : List (Nat × Value) := [(3, .int (nI i)), (2, .ref (b 0)), (1, .ref (a 62)), (0, .ref b0)]
theorem lc_in {i L : Nat} (j : Nat) (hi : i + 6 ≤ L) (hL : L ≤ 3072) (hj : j < 6) : vp_in (nI i + nI j) L := by
  rw [nI_add]
  exact vp_in_nI (by omega) (by omega)
theorem lc_keep {D : va_G} {cA : ClassId} {K K' : List sh_T} {a b : Nat → Nat} {τ : St} {H H1 : Heap} (hP : w_P D cA b K' τ H) (hd : ∀ o, o < K'.length → ¬ w_A a K (b o)) (hk : ∀ q : Nat, q < H.size → ¬ w_A a K q → H1[q]? = H[q]?) : w_P D cA b K' τ H1 := by
  refine va_P.kept hP (fun k q hq => ?_)
  have hlt := (hP k q hq).lt
  rw [sh_get] at hq
  cases hk2 : K'[k]? with
  | none => rw [hk2] at hq; cases hq
  | some x =>
    rw [hk2] at hq
    cases hq
    exact hk _ hlt (hd k (List.getElem?_eq_some_iff.mp hk2).1)
theorem lc_cmp {i L : Nat} (hi : i ≤ 4000) (hL : L ≤ 3072) (h : ¬ nI L - 6 < nI i) : i + 6 ≤ L := by
  have e1 : (nI L - 6).toInt = (L : Int) - 6 := pk_sub_toInt (b := 6) (by omega) (by omega)
  have e2 : (nI i).toInt = (i : Int) := nI_toInt (by omega)
  rw [Int32.lt_iff_toInt_lt, e1, e2] at h
  omega
