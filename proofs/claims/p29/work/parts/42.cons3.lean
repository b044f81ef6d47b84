/-- where the cells of KC stand in the order of their making -/
def isC : List Nat := [2, 3, 4, 5, 6, 7, 8, 9, 10, 11, 12, 13, 15, 16, 17, 18, 19, 20, 21, 22, 23, 24, 26, 27, 28, 29, 30, 31, 32, 33, 34, 35, 37, 38, 40, 41, 43, 44, 45, 46, 48, 49, 50, 51, 52, 53, 55, 56, 57, 58, 59, 60, 61, 62, 1, 14, 25, 36, 39, 42, 47, 54, 0]
def adC (h0 : Nat) (a : Nat → Nat) : Nat → Nat := fun k => if k = 62 then h0 else a (isC.getD k 0 - 1)
set_option maxHeartbeats 4000000 in
set_option maxRecDepth 100000 in
theorem bdX6_w (cA : ClassId) (h0 : Nat) (a : Nat → Nat) : isC.map (fun i => (bdX6 cA h0 a)[i]?) = (sh_w cA (adC h0 a) iniC KC).map some := rfl
theorem n_fm {α : Type} {f : Nat → Option α} : ∀ {is : List Nat} {w : List α}, is.map f = w.map some → is.filterMap f = w := by
  intro is
  induction is with
  | nil => intro w h; cases w with
    | nil => rfl
    | cons x w => cases h
  | cons i is ih => intro w h; cases w with
    | nil => cases h
    | cons x w =>
      rw [List.map_cons, List.map_cons] at h
      obtain ⟨h1, h2⟩ := List.cons.inj h
      rw [List.filterMap_cons, h1]
      show x :: is.filterMap f = x :: w
      rw [ih h2]
theorem w_J_of {cA : ClassId} {ad : Nat → Nat} {σ : St} {K : List sh_T} {A : Nat → Prop} (hD : va_D A (sh_w cA ad σ K)) : w_J ad K ∧ ∀ o, o < K.length → A (ad o) := by
  have key : ∀ i, i < K.length → ∃ e, (sh_w cA ad σ K)[i]? = some (ad i, e) := fun i hi => ⟨_, sh_at (List.getElem?_eq_getElem hi)⟩
  refine ⟨fun i j hi hj h => ?_, fun o ho => ?_⟩
  · obtain ⟨e1, h1⟩ := key i hi
    obtain ⟨e2, h2⟩ := key j hj
    exact hD.1 i j _ _ h1 h2 h
  · obtain ⟨e1, h1⟩ := key o ho
    exact hD.2 o _ h1
theorem n_C {D : va_G} {cA : ClassId} {h0 : Nat} {a : Nat → Nat} {A : Nat → Prop} {H : Heap} (hP : va_P D vwCl (bdX6 cA h0 a) H) (hD : va_D A (bdX6 cA h0 a)) : w_P D cA (adC h0 a) KC iniC H ∧ w_J (adC h0 a) KC ∧ (∀ o, o < KC.length → A (adC h0 a o)) ∧ adC h0 a 62 = h0 :=
  ⟨hP.sub isC (n_fm (bdX6_w cA h0 a)), (w_J_of (hD.sub isC (by decide +kernel) (bdX6_w cA h0 a))).1, (w_J_of (hD.sub isC (by decide +kernel) (bdX6_w cA h0 a))).2, if_pos rfl⟩
