/-! The shapes of the class's objects (KC). -/
def KC_rows : List Nat := [5, 100, 100, 100, 100, 100, 100, 100, 100, 800, 800, 5, 5, 5, 40, 40, 500, 500, 25, 250, 100, 100, 100, 100, 100, 100, 5]
/-- how many cells the class's row k has -/
def rl (k : Nat) : Nat := KC_rows.getD k 0
def KC_row2 (k : Nat) : List sh_T := [.inr (5, [.inl (2 * k + 1)]), .inl (rl k, k)]
def KC : List sh_T := (List.range 27).flatMap KC_row2 ++ [.inr (4, [.inl (2 * 0), .inl (2 * 1), .inl (2 * 2), .inl (2 * 3), .inl (2 * 4), .inl (2 * 5), .inl 55, .inr 28]), .inr (1, [.inl 12, .inl 14, .inl 16, .inl 18, .inl 20]), .inr (1, [.inl 22, .inl 24, .inl 26, .inl 28, .inl 30]), .inr (2, [.inl 32]), .inr (2, [.inl 34]), .inr (3, [.inl 36, .inl 38]), .inr (0, [.inl 40, .inl 42, .inl 44, .inr 29]), .inr (0, [.inl 46, .inl 48, .inl 50, .inr 30]), .inr (6, [.inl 54, .inl 56, .inl 57, .inl 58, .inl 59, .inl 60, .inl 61, .inl 52, .inr 27])]
theorem KC_len : KC.length = 63 := by decide +kernel
theorem KC_ok : sh_ok KC := by unfold sh_ok; decide +kernel
theorem KC_row : ∀ k, k < 27 → KC[2 * k]? = some (.inr (5, [.inl (2 * k + 1)])) := fun k hk => by
  rcases (show k = 0 ∨ k = 1 ∨ k = 2 ∨ k = 3 ∨ k = 4 ∨ k = 5 ∨ k = 6 ∨ k = 7 ∨ k = 8 ∨ k = 9 ∨ k = 10 ∨ k = 11 ∨ k = 12 ∨ k = 13 ∨ k = 14 ∨ k = 15 ∨ k = 16 ∨ k = 17 ∨ k = 18 ∨ k = 19 ∨ k = 20 ∨ k = 21 ∨ k = 22 ∨ k = 23 ∨ k = 24 ∨ k = 25 ∨ k = 26 by omega) with rfl | rfl | rfl | rfl | rfl | rfl | rfl | rfl | rfl | rfl | rfl | rfl | rfl | rfl | rfl | rfl | rfl | rfl | rfl | rfl | rfl | rfl | rfl | rfl | rfl | rfl | rfl <;> rfl
theorem KC_arr : ∀ k, k < 27 → KC[2 * k + 1]? = some (.inl (rl k, k)) := fun k hk => by
  rcases (show k = 0 ∨ k = 1 ∨ k = 2 ∨ k = 3 ∨ k = 4 ∨ k = 5 ∨ k = 6 ∨ k = 7 ∨ k = 8 ∨ k = 9 ∨ k = 10 ∨ k = 11 ∨ k = 12 ∨ k = 13 ∨ k = 14 ∨ k = 15 ∨ k = 16 ∨ k = 17 ∨ k = 18 ∨ k = 19 ∨ k = 20 ∨ k = 21 ∨ k = 22 ∨ k = 23 ∨ k = 24 ∨ k = 25 ∨ k = 26 by omega) with rfl | rfl | rfl | rfl | rfl | rfl | rfl | rfl | rfl | rfl | rfl | rfl | rfl | rfl | rfl | rfl | rfl | rfl | rfl | rfl | rfl | rfl | rfl | rfl | rfl | rfl | rfl <;> rfl
theorem KC_log : KC[54]? = some (.inr (4, [.inl (2 * 0), .inl (2 * 1), .inl (2 * 2), .inl (2 * 3), .inl (2 * 4), .inl (2 * 5), .inl (55 + 0), .inr 28])) := by decide +kernel
theorem KC_ink : ∀ t, t < 2 → KC[55 + t]? = some (.inr (1, [.inl (2 * (6 + 5 * t)), .inl (2 * (7 + 5 * t)), .inl (2 * (8 + 5 * t)), .inl (2 * (9 + 5 * t)), .inl (2 * (10 + 5 * t))])) := fun t ht => by
  rcases (show t = 0 ∨ t = 1 by omega) with rfl | rfl <;> rfl
theorem KC_kno : ∀ g, g < 2 → KC[57 + g]? = some (.inr (2, [.inl (2 * (16 + g))])) := fun g hg => by
  rcases (show g = 0 ∨ g = 1 by omega) with rfl | rfl <;> rfl
theorem KC_lnk : KC[59]? = some (.inr (3, [.inl (2 * 18), .inl (2 * 19)])) := by decide +kernel
theorem KC_brd : ∀ b, b < 2 → KC[60 + b]? = some (.inr (0, [.inl (2 * (20 + 3 * b)), .inl (2 * (21 + 3 * b)), .inl (2 * (22 + 3 * b)), .inr (29 + b)])) := fun b hb => by
  rcases (show b = 0 ∨ b = 1 by omega) with rfl | rfl <;> rfl
theorem KC_sb : KC[62]? = some (.inr (6, [.inl 54, .inl (55 + 1), .inl (57 + 0), .inl (57 + 1), .inl 59, .inl (60 + 0), .inl (60 + 1), .inl (2 * 26), .inr 27])) := by decide +kernel
/-- a state, or an int, named -/
def lts {β : Type} (a : St) (f : St → Option β) : Option β := f a
def lti {β : Type} (a : Int32) (f : Int32 → Option β) : Option β := f a
theorem lts_i {β : Type} {a : St} {f : St → Option β} {y : β} (h : lts a f = some y) : ∃ b : St, b = a ∧ f b = some y := ⟨a, rfl, h⟩
theorem lti_u {β : Type} {a b : Int32} {f : Int32 → Option β} {y : β} (e : b = a) (h : lti a f = some y) : f b = some y := by subst e; exact h
