section
-- ===== PART A: goes FIRST, ahead of the names: the tables' words, and 'selects' of the private methods out of them =====
/-- a private method of a class that the tables say can be made, by its rows of tables_1 -/
def lw_okq (q : MethodName × Nat) : Prop := (q.1.cls ≠ "java/lang/invoke/MethodHandle" ∧ q.1.cls ≠ "java/lang/invoke/VarHandle") ∧ Cond.instantiable q.1.cls q.2 ∈ tables_1 ∧ Cond.privateMethod q.1 ∈ tables_1 ∧ Cond.instanceMethod q.1 ∈ tables_1
theorem lw_p0 : lw_okq (⟨"StrokeBoard", "isSite", "(I)Z"⟩, 9) := ⟨⟨by decide +kernel, by decide +kernel⟩, List.mem_of_getElem? (i := 11) (by decide +kernel), List.mem_of_getElem? (i := 207) (by decide +kernel), List.mem_of_getElem? (i := 208) (by decide +kernel)⟩
theorem lw_p1 : lw_okq (⟨"StrokeBoard$Board", "apply", "(LStrokeBoard$Log;I)V"⟩, 4) := ⟨⟨by decide +kernel, by decide +kernel⟩, List.mem_of_getElem? (i := 120) (by decide +kernel), List.mem_of_getElem? (i := 248) (by decide +kernel), List.mem_of_getElem? (i := 249) (by decide +kernel)⟩
theorem lw_p2 : lw_okq (⟨"StrokeBoard$Board", "collect", "(LStrokeBoard$Log;LStrokeBoard$Knowledge;II)V"⟩, 4) := ⟨⟨by decide +kernel, by decide +kernel⟩, List.mem_of_getElem? (i := 120) (by decide +kernel), List.mem_of_getElem? (i := 268) (by decide +kernel), List.mem_of_getElem? (i := 269) (by decide +kernel)⟩
theorem lw_p3 : lw_okq (⟨"StrokeBoard", "hasMadeAll", "(I)Z"⟩, 9) := ⟨⟨by decide +kernel, by decide +kernel⟩, List.mem_of_getElem? (i := 11) (by decide +kernel), List.mem_of_getElem? (i := 325) (by decide +kernel), List.mem_of_getElem? (i := 326) (by decide +kernel)⟩
theorem lw_p4 : lw_okq (⟨"StrokeBoard", "tick", "(I)I"⟩, 9) := ⟨⟨by decide +kernel, by decide +kernel⟩, List.mem_of_getElem? (i := 11) (by decide +kernel), List.mem_of_getElem? (i := 329) (by decide +kernel), List.mem_of_getElem? (i := 330) (by decide +kernel)⟩
theorem lw_p5 : lw_okq (⟨"StrokeBoard$Log", "addOperation", "(III)I"⟩, 8) := ⟨⟨by decide +kernel, by decide +kernel⟩, List.mem_of_getElem? (i := 19) (by decide +kernel), List.mem_of_getElem? (i := 338) (by decide +kernel), List.mem_of_getElem? (i := 339) (by decide +kernel)⟩
theorem lw_p6 : lw_okq (⟨"StrokeBoard$Log", "insert", "(I)V"⟩, 8) := ⟨⟨by decide +kernel, by decide +kernel⟩, List.mem_of_getElem? (i := 19) (by decide +kernel), List.mem_of_getElem? (i := 346) (by decide +kernel), List.mem_of_getElem? (i := 347) (by decide +kernel)⟩
theorem lw_p7 : lw_okq (⟨"StrokeBoard$Log", "comesAfter", "(II)Z"⟩, 8) := ⟨⟨by decide +kernel, by decide +kernel⟩, List.mem_of_getElem? (i := 19) (by decide +kernel), List.mem_of_getElem? (i := 350) (by decide +kernel), List.mem_of_getElem? (i := 351) (by decide +kernel)⟩
theorem lw_p8 : lw_okq (⟨"StrokeBoard", "publish", "(II)V"⟩, 9) := ⟨⟨by decide +kernel, by decide +kernel⟩, List.mem_of_getElem? (i := 11) (by decide +kernel), List.mem_of_getElem? (i := 379) (by decide +kernel), List.mem_of_getElem? (i := 380) (by decide +kernel)⟩
theorem lw_p9 : lw_okq (⟨"StrokeBoard", "lastUndoneOwn", "(I)I"⟩, 9) := ⟨⟨by decide +kernel, by decide +kernel⟩, List.mem_of_getElem? (i := 11) (by decide +kernel), List.mem_of_getElem? (i := 401) (by decide +kernel), List.mem_of_getElem? (i := 402) (by decide +kernel)⟩
theorem lw_p10 : lw_okq (⟨"StrokeBoard", "changeOwn", "(III)I"⟩, 9) := ⟨⟨by decide +kernel, by decide +kernel⟩, List.mem_of_getElem? (i := 11) (by decide +kernel), List.mem_of_getElem? (i := 409) (by decide +kernel), List.mem_of_getElem? (i := 410) (by decide +kernel)⟩
theorem lw_p11 : lw_okq (⟨"StrokeBoard", "areTwoSites", "(II)Z"⟩, 9) := ⟨⟨by decide +kernel, by decide +kernel⟩, List.mem_of_getElem? (i := 11) (by decide +kernel), List.mem_of_getElem? (i := 429) (by decide +kernel), List.mem_of_getElem? (i := 430) (by decide +kernel)⟩
theorem lw_p12 : lw_okq (⟨"StrokeBoard", "receive", "(II)V"⟩, 9) := ⟨⟨by decide +kernel, by decide +kernel⟩, List.mem_of_getElem? (i := 11) (by decide +kernel), List.mem_of_getElem? (i := 447) (by decide +kernel), List.mem_of_getElem? (i := 448) (by decide +kernel)⟩
theorem lw_p13 : lw_okq (⟨"StrokeBoard", "deliverLink", "(II)I"⟩, 9) := ⟨⟨by decide +kernel, by decide +kernel⟩, List.mem_of_getElem? (i := 11) (by decide +kernel), List.mem_of_getElem? (i := 465) (by decide +kernel), List.mem_of_getElem? (i := 466) (by decide +kernel)⟩
theorem lw_p14 : lw_okq (⟨"StrokeBoard", "showSame", "(LStrokeBoard$Knowledge;II)Z"⟩, 9) := ⟨⟨by decide +kernel, by decide +kernel⟩, List.mem_of_getElem? (i := 11) (by decide +kernel), List.mem_of_getElem? (i := 482) (by decide +kernel), List.mem_of_getElem? (i := 483) (by decide +kernel)⟩
theorem lw_p15 : lw_okq (⟨"StrokeBoard", "lookAhead", "()V"⟩, 9) := ⟨⟨by decide +kernel, by decide +kernel⟩, List.mem_of_getElem? (i := 11) (by decide +kernel), List.mem_of_getElem? (i := 499) (by decide +kernel), List.mem_of_getElem? (i := 500) (by decide +kernel)⟩
def lw_privs_1 : List (MethodName × Nat) := [(⟨"StrokeBoard", "isSite", "(I)Z"⟩, 9), (⟨"StrokeBoard$Board", "apply", "(LStrokeBoard$Log;I)V"⟩, 4), (⟨"StrokeBoard$Board", "collect", "(LStrokeBoard$Log;LStrokeBoard$Knowledge;II)V"⟩, 4), (⟨"StrokeBoard", "hasMadeAll", "(I)Z"⟩, 9), (⟨"StrokeBoard", "tick", "(I)I"⟩, 9), (⟨"StrokeBoard$Log", "addOperation", "(III)I"⟩, 8), (⟨"StrokeBoard$Log", "insert", "(I)V"⟩, 8), (⟨"StrokeBoard$Log", "comesAfter", "(II)Z"⟩, 8), (⟨"StrokeBoard", "publish", "(II)V"⟩, 9), (⟨"StrokeBoard", "lastUndoneOwn", "(I)I"⟩, 9), (⟨"StrokeBoard", "changeOwn", "(III)I"⟩, 9), (⟨"StrokeBoard", "areTwoSites", "(II)Z"⟩, 9), (⟨"StrokeBoard", "receive", "(II)V"⟩, 9), (⟨"StrokeBoard", "deliverLink", "(II)I"⟩, 9), (⟨"StrokeBoard", "showSame", "(LStrokeBoard$Knowledge;II)Z"⟩, 9), (⟨"StrokeBoard", "lookAhead", "()V"⟩, 9)]
theorem lw_r1 : ∀ q ∈ lw_privs_1, lw_okq q := List.forall_mem_cons.mpr ⟨lw_p0, List.forall_mem_cons.mpr ⟨lw_p1, List.forall_mem_cons.mpr ⟨lw_p2, List.forall_mem_cons.mpr ⟨lw_p3, List.forall_mem_cons.mpr ⟨lw_p4, List.forall_mem_cons.mpr ⟨lw_p5, List.forall_mem_cons.mpr ⟨lw_p6, List.forall_mem_cons.mpr ⟨lw_p7, List.forall_mem_cons.mpr ⟨lw_p8, List.forall_mem_cons.mpr ⟨lw_p9, List.forall_mem_cons.mpr ⟨lw_p10, List.forall_mem_cons.mpr ⟨lw_p11, List.forall_mem_cons.mpr ⟨lw_p12, List.forall_mem_cons.mpr ⟨lw_p13, List.forall_mem_cons.mpr ⟨lw_p14, List.forall_mem_cons.mpr ⟨lw_p15, fun _ h => absurd h List.not_mem_nil⟩⟩⟩⟩⟩⟩⟩⟩⟩⟩⟩⟩⟩⟩⟩⟩
theorem lw_p16 : lw_okq (⟨"StrokeBoard", "coordinate", "(II)I"⟩, 9) := ⟨⟨by decide +kernel, by decide +kernel⟩, List.mem_of_getElem? (i := 11) (by decide +kernel), List.mem_of_getElem? (i := 538) (by decide +kernel), List.mem_of_getElem? (i := 539) (by decide +kernel)⟩
theorem lw_p17 : lw_okq (⟨"StrokeBoard", "strokeValue", "(II)I"⟩, 9) := ⟨⟨by decide +kernel, by decide +kernel⟩, List.mem_of_getElem? (i := 11) (by decide +kernel), List.mem_of_getElem? (i := 542) (by decide +kernel), List.mem_of_getElem? (i := 543) (by decide +kernel)⟩
theorem lw_p18 : lw_okq (⟨"StrokeBoard", "isKnownBeside", "(II)Z"⟩, 9) := ⟨⟨by decide +kernel, by decide +kernel⟩, List.mem_of_getElem? (i := 11) (by decide +kernel), List.mem_of_getElem? (i := 552) (by decide +kernel), List.mem_of_getElem? (i := 553) (by decide +kernel)⟩
theorem lw_p19 : lw_okq (⟨"StrokeBoard", "repairable", "(II)I"⟩, 9) := ⟨⟨by decide +kernel, by decide +kernel⟩, List.mem_of_getElem? (i := 11) (by decide +kernel), List.mem_of_getElem? (i := 569) (by decide +kernel), List.mem_of_getElem? (i := 570) (by decide +kernel)⟩
theorem lw_p20 : lw_okq (⟨"StrokeBoard", "canRepair", "(III)Z"⟩, 9) := ⟨⟨by decide +kernel, by decide +kernel⟩, List.mem_of_getElem? (i := 11) (by decide +kernel), List.mem_of_getElem? (i := 573) (by decide +kernel), List.mem_of_getElem? (i := 574) (by decide +kernel)⟩
theorem lw_p21 : lw_okq (⟨"StrokeBoard$Knowledge", "hasLaterOfAuthor", "(II)Z"⟩, 1) := ⟨⟨by decide +kernel, by decide +kernel⟩, List.mem_of_getElem? (i := 93) (by decide +kernel), List.mem_of_getElem? (i := 581) (by decide +kernel), List.mem_of_getElem? (i := 582) (by decide +kernel)⟩
theorem lw_p22 : lw_okq (⟨"StrokeBoard$Board", "hashPoints", "(ILStrokeBoard$Ink;I)I"⟩, 4) := ⟨⟨by decide +kernel, by decide +kernel⟩, List.mem_of_getElem? (i := 120) (by decide +kernel), List.mem_of_getElem? (i := 609) (by decide +kernel), List.mem_of_getElem? (i := 610) (by decide +kernel)⟩
theorem lw_p23 : lw_okq (⟨"StrokeBoard", "lastVisibleOwn", "(I)I"⟩, 9) := ⟨⟨by decide +kernel, by decide +kernel⟩, List.mem_of_getElem? (i := 11) (by decide +kernel), List.mem_of_getElem? (i := 637) (by decide +kernel), List.mem_of_getElem? (i := 638) (by decide +kernel)⟩
def lw_privs_2 : List (MethodName × Nat) := [(⟨"StrokeBoard", "coordinate", "(II)I"⟩, 9), (⟨"StrokeBoard", "strokeValue", "(II)I"⟩, 9), (⟨"StrokeBoard", "isKnownBeside", "(II)Z"⟩, 9), (⟨"StrokeBoard", "repairable", "(II)I"⟩, 9), (⟨"StrokeBoard", "canRepair", "(III)Z"⟩, 9), (⟨"StrokeBoard$Knowledge", "hasLaterOfAuthor", "(II)Z"⟩, 1), (⟨"StrokeBoard$Board", "hashPoints", "(ILStrokeBoard$Ink;I)I"⟩, 4), (⟨"StrokeBoard", "lastVisibleOwn", "(I)I"⟩, 9)]
theorem lw_r2 : ∀ q ∈ lw_privs_2, lw_okq q := List.forall_mem_cons.mpr ⟨lw_p16, List.forall_mem_cons.mpr ⟨lw_p17, List.forall_mem_cons.mpr ⟨lw_p18, List.forall_mem_cons.mpr ⟨lw_p19, List.forall_mem_cons.mpr ⟨lw_p20, List.forall_mem_cons.mpr ⟨lw_p21, List.forall_mem_cons.mpr ⟨lw_p22, List.forall_mem_cons.mpr ⟨lw_p23, fun _ h => absurd h List.not_mem_nil⟩⟩⟩⟩⟩⟩⟩⟩
def lw_privs : List (MethodName × Nat) := lw_privs_1 ++ (lw_privs_2)
def lw_tbl : List Cond := k2_sels lw_privs ++ tables_1
theorem lw_privs_ok : ∀ q ∈ lw_privs, lw_okq q := by
  show ∀ q ∈ lw_privs_1 ++ (lw_privs_2), lw_okq q
  exact List.forall_mem_append.mpr ⟨lw_r1, lw_r2⟩
/-! ===== BEGIN words of one list among another's, by their places ===== -/
theorem goodIn_r {big : List Cond} (ws : List Cond) (ps : List Nat) (hp : ws = ps.filterMap (fun i => big[i]?)) (h : ws.all goodWord = true) : GoodIn big ws := by
  intro w hw
  have h1 := List.all_eq_true.mp h w hw
  rw [hp] at hw
  obtain ⟨i, -, hi⟩ := List.mem_filterMap.mp hw
  have hm : w ∈ big := by first | exact List.mem_of_getElem? hi | exact List.getElem?_mem hi
  exact ⟨hm, good_of_word h1⟩
theorem goodIn_app {big a b : List Cond} (ha : GoodIn big a) (hb : GoodIn big b) : GoodIn big (a ++ b) := fun w h => (List.mem_append.mp h).elim (ha w) (hb w)
theorem goodIn_ca {big a b : List Cond} {c : Cond} (ha : GoodIn big (c :: a)) (hb : GoodIn big b) : GoodIn big (c :: (a ++ b)) := fun w h => (List.mem_cons.mp h).elim (fun e => ha w (List.mem_cons.mpr (Or.inl e))) (fun h => (List.mem_append.mp h).elim (fun h => ha w (List.mem_cons.mpr (Or.inr h))) (hb w))
theorem goodIn_sub {big ws : List Cond} (hm : ∀ w ∈ ws, w ∈ big) (h : ws.all goodWord = true) : GoodIn big ws := fun w hw => ⟨hm w hw, good_of_word (List.all_eq_true.mp h w hw)⟩
/-! ===== END ===== -/

/-! ===== BEGIN printed: names, fields, word lists, decode rows ===== -/
def RX0 : String := "StrokeBoard$Board"
def TX0 : u_T := fun k => match k with
  | 0 => ("StrokeBoard$Board", "undone", "LStrokeBoard$Row;", true)
  | 1 => ("StrokeBoard$Board", "layers", "LStrokeBoard$Row;", true)
  | 2 => ("StrokeBoard$Board", "strokes", "LStrokeBoard$Row;", true)
  | _ => ("StrokeBoard$Board", "count", "I", false)
def tyX0 : Nat → FieldType := fun k => match k with
  | 0 => .object "StrokeBoard$Row"
  | 1 => .object "StrokeBoard$Row"
  | 2 => .object "StrokeBoard$Row"
  | _ => .int
abbrev wsX00 : List Cond := u_ws RX0 TX0 4
theorem nmX0 : ∀ a, a < 4 → ∀ b, b < 4 → a ≠ b → (TX0 a).2.1 ≠ (TX0 b).2.1 := by decide +kernel
theorem tyX0_ok : ∀ k, k < 4 → parseFieldDescriptor (TX0 k).2.2.1 = some (tyX0 k) := by decide +kernel
abbrev cX0_init : ByteArray := prog_2_method_1_code
def yX0_init : MethodName := ⟨RX0, "<init>", "()V"⟩
abbrev cX0_show : ByteArray := prog_2_method_2_code
def yX0_show : MethodName := ⟨RX0, "show", "(LStrokeBoard$Log;LStrokeBoard$Knowledge;I)V"⟩
abbrev cX0_apply : ByteArray := prog_2_method_3_code
def yX0_apply : MethodName := ⟨RX0, "apply", "(LStrokeBoard$Log;I)V"⟩
abbrev cX0_collect : ByteArray := prog_2_method_4_code
def yX0_collect : MethodName := ⟨RX0, "collect", "(LStrokeBoard$Log;LStrokeBoard$Knowledge;II)V"⟩
abbrev cX0_isUndone : ByteArray := prog_2_method_5_code
def yX0_isUndone : MethodName := ⟨RX0, "isUndone", "(I)Z"⟩
abbrev cX0_strokeCount : ByteArray := prog_2_method_6_code
def yX0_strokeCount : MethodName := ⟨RX0, "strokeCount", "()I"⟩
abbrev cX0_strokeIn : ByteArray := prog_2_method_7_code
def yX0_strokeIn : MethodName := ⟨RX0, "strokeIn", "(I)I"⟩
abbrev cX0_layerOf : ByteArray := prog_2_method_8_code
def yX0_layerOf : MethodName := ⟨RX0, "layerOf", "(I)I"⟩
abbrev cX0_matches : ByteArray := prog_2_method_9_code
def yX0_matches : MethodName := ⟨RX0, "matches", "(LStrokeBoard$Board;)Z"⟩
abbrev cX0_hash : ByteArray := prog_2_method_10_code
def yX0_hash : MethodName := ⟨RX0, "hash", "(LStrokeBoard$Log;)I"⟩
abbrev cX0_hashPoints : ByteArray := prog_2_method_11_code
def yX0_hashPoints : MethodName := ⟨RX0, "hashPoints", "(ILStrokeBoard$Ink;I)I"⟩
def RX1 : String := "StrokeBoard$Ink"
def TX1 : u_T := fun k => match k with
  | 0 => ("StrokeBoard$Ink", "counts", "LStrokeBoard$Row;", true)
  | 1 => ("StrokeBoard$Ink", "colors", "LStrokeBoard$Row;", true)
  | 2 => ("StrokeBoard$Ink", "layers", "LStrokeBoard$Row;", true)
  | 3 => ("StrokeBoard$Ink", "xs", "LStrokeBoard$Row;", true)
  | _ => ("StrokeBoard$Ink", "ys", "LStrokeBoard$Row;", true)
def tyX1 : Nat → FieldType := fun k => match k with
  | 0 => .object "StrokeBoard$Row"
  | 1 => .object "StrokeBoard$Row"
  | 2 => .object "StrokeBoard$Row"
  | 3 => .object "StrokeBoard$Row"
  | _ => .object "StrokeBoard$Row"
abbrev wsX10 : List Cond := u_ws RX1 TX1 5
theorem nmX1 : ∀ a, a < 5 → ∀ b, b < 5 → a ≠ b → (TX1 a).2.1 ≠ (TX1 b).2.1 := by decide +kernel
theorem tyX1_ok : ∀ k, k < 5 → parseFieldDescriptor (TX1 k).2.2.1 = some (tyX1 k) := by decide +kernel
abbrev cX1_init : ByteArray := prog_3_method_1_code
def yX1_init : MethodName := ⟨RX1, "<init>", "(I)V"⟩
abbrev cX1_clear : ByteArray := prog_3_method_2_code
def yX1_clear : MethodName := ⟨RX1, "clear", "()V"⟩
abbrev cX1_empty : ByteArray := prog_3_method_3_code
def yX1_empty : MethodName := ⟨RX1, "empty", "(I)V"⟩
abbrev cX1_start : ByteArray := prog_3_method_4_code
def yX1_start : MethodName := ⟨RX1, "start", "(III)V"⟩
abbrev cX1_addPoint : ByteArray := prog_3_method_5_code
def yX1_addPoint : MethodName := ⟨RX1, "addPoint", "(III)V"⟩
abbrev cX1_copyFrom : ByteArray := prog_3_method_6_code
def yX1_copyFrom : MethodName := ⟨RX1, "copyFrom", "(LStrokeBoard$Ink;II)V"⟩
abbrev cX1_pointCount : ByteArray := prog_3_method_7_code
def yX1_pointCount : MethodName := ⟨RX1, "pointCount", "(I)I"⟩
abbrev cX1_colorOf : ByteArray := prog_3_method_8_code
def yX1_colorOf : MethodName := ⟨RX1, "colorOf", "(I)I"⟩
abbrev cX1_layerOf : ByteArray := prog_3_method_9_code
def yX1_layerOf : MethodName := ⟨RX1, "layerOf", "(I)I"⟩
abbrev cX1_xOf : ByteArray := prog_3_method_10_code
def yX1_xOf : MethodName := ⟨RX1, "xOf", "(II)I"⟩
abbrev cX1_yOf : ByteArray := prog_3_method_11_code
def yX1_yOf : MethodName := ⟨RX1, "yOf", "(II)I"⟩
abbrev cX1_hasPoint : ByteArray := prog_3_method_12_code
def yX1_hasPoint : MethodName := ⟨RX1, "hasPoint", "(III)Z"⟩
abbrev cX1_sizeOf : ByteArray := prog_3_method_13_code
def yX1_sizeOf : MethodName := ⟨RX1, "sizeOf", "(I)I"⟩
def RX2 : String := "StrokeBoard$Knowledge"
def TX2 : u_T := fun k => match k with
  | _ => ("StrokeBoard$Knowledge", "known", "LStrokeBoard$Row;", true)
def tyX2 : Nat → FieldType := fun k => match k with
  | _ => .object "StrokeBoard$Row"
abbrev wsX20 : List Cond := u_ws RX2 TX2 1
theorem nmX2 : ∀ a, a < 1 → ∀ b, b < 1 → a ≠ b → (TX2 a).2.1 ≠ (TX2 b).2.1 := by decide +kernel
theorem tyX2_ok : ∀ k, k < 1 → parseFieldDescriptor (TX2 k).2.2.1 = some (tyX2 k) := by decide +kernel
abbrev cX2_init : ByteArray := prog_4_method_1_code
def yX2_init : MethodName := ⟨RX2, "<init>", "()V"⟩
abbrev cX2_clear : ByteArray := prog_4_method_2_code
def yX2_clear : MethodName := ⟨RX2, "clear", "()V"⟩
abbrev cX2_copyFrom : ByteArray := prog_4_method_3_code
def yX2_copyFrom : MethodName := ⟨RX2, "copyFrom", "(LStrokeBoard$Knowledge;)V"⟩
abbrev cX2_learn : ByteArray := prog_4_method_4_code
def yX2_learn : MethodName := ⟨RX2, "learn", "(II)V"⟩
abbrev cX2_has : ByteArray := prog_4_method_5_code
def yX2_has : MethodName := ⟨RX2, "has", "(II)Z"⟩
abbrev cX2_countOf : ByteArray := prog_4_method_6_code
def yX2_countOf : MethodName := ⟨RX2, "countOf", "(I)I"⟩
abbrev cX2_isInGap : ByteArray := prog_4_method_7_code
def yX2_isInGap : MethodName := ⟨RX2, "isInGap", "(II)Z"⟩
abbrev cX2_hasLaterOfAuthor : ByteArray := prog_4_method_8_code
def yX2_hasLaterOfAuthor : MethodName := ⟨RX2, "hasLaterOfAuthor", "(II)Z"⟩
def RX3 : String := "StrokeBoard$Links"
def TX3 : u_T := fun k => match k with
  | 0 => ("StrokeBoard$Links", "counts", "LStrokeBoard$Row;", true)
  | _ => ("StrokeBoard$Links", "messages", "LStrokeBoard$Row;", true)
def tyX3 : Nat → FieldType := fun k => match k with
  | 0 => .object "StrokeBoard$Row"
  | _ => .object "StrokeBoard$Row"
abbrev wsX30 : List Cond := u_ws RX3 TX3 2
theorem nmX3 : ∀ a, a < 2 → ∀ b, b < 2 → a ≠ b → (TX3 a).2.1 ≠ (TX3 b).2.1 := by decide +kernel
theorem tyX3_ok : ∀ k, k < 2 → parseFieldDescriptor (TX3 k).2.2.1 = some (tyX3 k) := by decide +kernel
abbrev cX3_init : ByteArray := prog_5_method_1_code
def yX3_init : MethodName := ⟨RX3, "<init>", "()V"⟩
abbrev cX3_clear : ByteArray := prog_5_method_2_code
def yX3_clear : MethodName := ⟨RX3, "clear", "()V"⟩
abbrev cX3_send : ByteArray := prog_5_method_3_code
def yX3_send : MethodName := ⟨RX3, "send", "(III)V"⟩
abbrev cX3_countIn : ByteArray := prog_5_method_4_code
def yX3_countIn : MethodName := ⟨RX3, "countIn", "(II)I"⟩
abbrev cX3_messageIn : ByteArray := prog_5_method_5_code
def yX3_messageIn : MethodName := ⟨RX3, "messageIn", "(III)I"⟩
abbrev cX3_dropFirst : ByteArray := prog_5_method_6_code
def yX3_dropFirst : MethodName := ⟨RX3, "dropFirst", "(II)V"⟩
abbrev cX3_carry : ByteArray := prog_5_method_7_code
def yX3_carry : MethodName := ⟨RX3, "carry", "(I)Z"⟩
def RX4 : String := "StrokeBoard$Log"
def TX4 : u_T := fun k => match k with
  | 0 => ("StrokeBoard$Log", "made", "LStrokeBoard$Row;", true)
  | 1 => ("StrokeBoard$Log", "kinds", "LStrokeBoard$Row;", true)
  | 2 => ("StrokeBoard$Log", "times", "LStrokeBoard$Row;", true)
  | 3 => ("StrokeBoard$Log", "targets", "LStrokeBoard$Row;", true)
  | 4 => ("StrokeBoard$Log", "layers", "LStrokeBoard$Row;", true)
  | 5 => ("StrokeBoard$Log", "order", "LStrokeBoard$Row;", true)
  | 6 => ("StrokeBoard$Log", "ink", "LStrokeBoard$Ink;", true)
  | _ => ("StrokeBoard$Log", "total", "I", false)
def tyX4 : Nat → FieldType := fun k => match k with
  | 0 => .object "StrokeBoard$Row"
  | 1 => .object "StrokeBoard$Row"
  | 2 => .object "StrokeBoard$Row"
  | 3 => .object "StrokeBoard$Row"
  | 4 => .object "StrokeBoard$Row"
  | 5 => .object "StrokeBoard$Row"
  | 6 => .object "StrokeBoard$Ink"
  | _ => .int
abbrev wsX40 : List Cond := u_ws RX4 TX4 8
theorem nmX4 : ∀ a, a < 8 → ∀ b, b < 8 → a ≠ b → (TX4 a).2.1 ≠ (TX4 b).2.1 := by decide +kernel
theorem tyX4_ok : ∀ k, k < 8 → parseFieldDescriptor (TX4 k).2.2.1 = some (tyX4 k) := by decide +kernel
abbrev cX4_init : ByteArray := prog_6_method_1_code
def yX4_init : MethodName := ⟨RX4, "<init>", "()V"⟩
abbrev cX4_clear : ByteArray := prog_6_method_2_code
def yX4_clear : MethodName := ⟨RX4, "clear", "()V"⟩
abbrev cX4_addStroke : ByteArray := prog_6_method_3_code
def yX4_addStroke : MethodName := ⟨RX4, "addStroke", "(IILStrokeBoard$Ink;)I"⟩
abbrev cX4_addChange : ByteArray := prog_6_method_4_code
def yX4_addChange : MethodName := ⟨RX4, "addChange", "(IIIII)I"⟩
abbrev cX4_addOperation : ByteArray := prog_6_method_5_code
def yX4_addOperation : MethodName := ⟨RX4, "addOperation", "(III)I"⟩
abbrev cX4_insert : ByteArray := prog_6_method_6_code
def yX4_insert : MethodName := ⟨RX4, "insert", "(I)V"⟩
abbrev cX4_comesAfter : ByteArray := prog_6_method_7_code
def yX4_comesAfter : MethodName := ⟨RX4, "comesAfter", "(II)Z"⟩
abbrev cX4_madeBy : ByteArray := prog_6_method_8_code
def yX4_madeBy : MethodName := ⟨RX4, "madeBy", "(I)I"⟩
abbrev cX4_totalCount : ByteArray := prog_6_method_9_code
def yX4_totalCount : MethodName := ⟨RX4, "totalCount", "()I"⟩
abbrev cX4_inOrder : ByteArray := prog_6_method_10_code
def yX4_inOrder : MethodName := ⟨RX4, "inOrder", "(I)I"⟩
abbrev cX4_kindOf : ByteArray := prog_6_method_11_code
def yX4_kindOf : MethodName := ⟨RX4, "kindOf", "(I)I"⟩
abbrev cX4_isStroke : ByteArray := prog_6_method_12_code
def yX4_isStroke : MethodName := ⟨RX4, "isStroke", "(I)Z"⟩
abbrev cX4_timeOf : ByteArray := prog_6_method_13_code
def yX4_timeOf : MethodName := ⟨RX4, "timeOf", "(I)I"⟩
abbrev cX4_targetOf : ByteArray := prog_6_method_14_code
def yX4_targetOf : MethodName := ⟨RX4, "targetOf", "(I)I"⟩
abbrev cX4_layerOf : ByteArray := prog_6_method_15_code
def yX4_layerOf : MethodName := ⟨RX4, "layerOf", "(I)I"⟩
abbrev cX4_sizeOf : ByteArray := prog_6_method_16_code
def yX4_sizeOf : MethodName := ⟨RX4, "sizeOf", "(I)I"⟩
def RX5 : String := "StrokeBoard$Row"
def TX5 : u_T := fun k => match k with
  | _ => ("StrokeBoard$Row", "cells", "[I", true)
def tyX5 : Nat → FieldType := fun k => match k with
  | _ => .array .int
abbrev wsX50 : List Cond := u_ws RX5 TX5 1
theorem nmX5 : ∀ a, a < 1 → ∀ b, b < 1 → a ≠ b → (TX5 a).2.1 ≠ (TX5 b).2.1 := by decide +kernel
theorem tyX5_ok : ∀ k, k < 1 → parseFieldDescriptor (TX5 k).2.2.1 = some (tyX5 k) := by decide +kernel
abbrev cX5_init : ByteArray := prog_7_method_1_code
def yX5_init : MethodName := ⟨RX5, "<init>", "(I)V"⟩
abbrev cX5_get : ByteArray := prog_7_method_2_code
def yX5_get : MethodName := ⟨RX5, "get", "(I)I"⟩
abbrev cX5_set : ByteArray := prog_7_method_3_code
def yX5_set : MethodName := ⟨RX5, "set", "(II)V"⟩
abbrev cX5_fill : ByteArray := prog_7_method_4_code
def yX5_fill : MethodName := ⟨RX5, "fill", "(I)V"⟩
abbrev cX5_copyFrom : ByteArray := prog_7_method_5_code
def yX5_copyFrom : MethodName := ⟨RX5, "copyFrom", "(LStrokeBoard$Row;)V"⟩
def RX6 : String := "StrokeBoard"
def TX6 : u_T := fun k => match k with
  | 0 => ("StrokeBoard", "log", "LStrokeBoard$Log;", true)
  | 1 => ("StrokeBoard", "pens", "LStrokeBoard$Ink;", true)
  | 2 => ("StrokeBoard", "knowledge", "LStrokeBoard$Knowledge;", true)
  | 3 => ("StrokeBoard", "future", "LStrokeBoard$Knowledge;", true)
  | 4 => ("StrokeBoard", "links", "LStrokeBoard$Links;", true)
  | 5 => ("StrokeBoard", "board", "LStrokeBoard$Board;", true)
  | 6 => ("StrokeBoard", "secondBoard", "LStrokeBoard$Board;", true)
  | 7 => ("StrokeBoard", "clocks", "LStrokeBoard$Row;", true)
  | _ => ("StrokeBoard", "siteCount", "I", false)
def tyX6 : Nat → FieldType := fun k => match k with
  | 0 => .object "StrokeBoard$Log"
  | 1 => .object "StrokeBoard$Ink"
  | 2 => .object "StrokeBoard$Knowledge"
  | 3 => .object "StrokeBoard$Knowledge"
  | 4 => .object "StrokeBoard$Links"
  | 5 => .object "StrokeBoard$Board"
  | 6 => .object "StrokeBoard$Board"
  | 7 => .object "StrokeBoard$Row"
  | _ => .int
abbrev wsX60 : List Cond := u_ws RX6 TX6 9
theorem nmX6 : ∀ a, a < 9 → ∀ b, b < 9 → a ≠ b → (TX6 a).2.1 ≠ (TX6 b).2.1 := by decide +kernel
theorem tyX6_ok : ∀ k, k < 9 → parseFieldDescriptor (TX6 k).2.2.1 = some (tyX6 k) := by decide +kernel
abbrev cX6_init : ByteArray := prog_1_method_1_code
def yX6_init : MethodName := ⟨RX6, "<init>", "()V"⟩
abbrev cX6_reset : ByteArray := prog_1_method_2_code
def yX6_reset : MethodName := ⟨RX6, "reset", "(I)I"⟩
abbrev cX6_sites : ByteArray := prog_1_method_4_code
def yX6_sites : MethodName := ⟨RX6, "sites", "()I"⟩
abbrev cX6_siteInfo : ByteArray := prog_1_method_5_code
def yX6_siteInfo : MethodName := ⟨RX6, "siteInfo", "(II)I"⟩
abbrev cX6_penDown : ByteArray := prog_1_method_6_code
def yX6_penDown : MethodName := ⟨RX6, "penDown", "(IIIII)I"⟩
abbrev cX6_penMove : ByteArray := prog_1_method_7_code
def yX6_penMove : MethodName := ⟨RX6, "penMove", "(III)I"⟩
abbrev cX6_penUp : ByteArray := prog_1_method_8_code
def yX6_penUp : MethodName := ⟨RX6, "penUp", "(I)I"⟩
abbrev cX6_undo : ByteArray := prog_1_method_9_code
def yX6_undo : MethodName := ⟨RX6, "undo", "(I)I"⟩
abbrev cX6_redo : ByteArray := prog_1_method_10_code
def yX6_redo : MethodName := ⟨RX6, "redo", "(I)I"⟩
abbrev cX6_lift : ByteArray := prog_1_method_11_code
def yX6_lift : MethodName := ⟨RX6, "lift", "(III)I"⟩
abbrev cX6_deliver : ByteArray := prog_1_method_12_code
def yX6_deliver : MethodName := ⟨RX6, "deliver", "(II)I"⟩
abbrev cX6_lose : ByteArray := prog_1_method_13_code
def yX6_lose : MethodName := ⟨RX6, "lose", "(II)I"⟩
abbrev cX6_deliverAll : ByteArray := prog_1_method_14_code
def yX6_deliverAll : MethodName := ⟨RX6, "deliverAll", "()I"⟩
abbrev cX6_waiting : ByteArray := prog_1_method_15_code
def yX6_waiting : MethodName := ⟨RX6, "waiting", "(II)I"⟩
abbrev cX6_gap : ByteArray := prog_1_method_16_code
def yX6_gap : MethodName := ⟨RX6, "gap", "(III)I"⟩
abbrev cX6_repair : ByteArray := prog_1_method_17_code
def yX6_repair : MethodName := ⟨RX6, "repair", "(II)I"⟩
abbrev cX6_transfer : ByteArray := prog_1_method_18_code
def yX6_transfer : MethodName := ⟨RX6, "transfer", "(II)I"⟩
abbrev cX6_operation : ByteArray := prog_1_method_19_code
def yX6_operation : MethodName := ⟨RX6, "operation", "(III)I"⟩
abbrev cX6_knows : ByteArray := prog_1_method_20_code
def yX6_knows : MethodName := ⟨RX6, "knows", "(III)I"⟩
abbrev cX6_stroke : ByteArray := prog_1_method_21_code
def yX6_stroke : MethodName := ⟨RX6, "stroke", "(III)I"⟩
abbrev cX6_strokeAt : ByteArray := prog_1_method_22_code
def yX6_strokeAt : MethodName := ⟨RX6, "strokeAt", "(III)I"⟩
abbrev cX6_digest : ByteArray := prog_1_method_23_code
def yX6_digest : MethodName := ⟨RX6, "digest", "(I)I"⟩
abbrev cX6_areSame : ByteArray := prog_1_method_24_code
def yX6_areSame : MethodName := ⟨RX6, "areSame", "(II)I"⟩
abbrev cX6_differing : ByteArray := prog_1_method_25_code
def yX6_differing : MethodName := ⟨RX6, "differing", "()I"⟩
abbrev cX6_bestHelper : ByteArray := prog_1_method_26_code
def yX6_bestHelper : MethodName := ⟨RX6, "bestHelper", "(I)I"⟩
abbrev cX6_endangered : ByteArray := prog_1_method_27_code
def yX6_endangered : MethodName := ⟨RX6, "endangered", "(I)I"⟩
abbrev cX6_isWithin : ByteArray := prog_1_method_28_code
def yX6_isWithin : MethodName := ⟨RX6, "isWithin", "(III)Z"⟩
abbrev cX6_isSite : ByteArray := prog_1_method_29_code
def yX6_isSite : MethodName := ⟨RX6, "isSite", "(I)Z"⟩
abbrev cX6_areTwoSites : ByteArray := prog_1_method_30_code
def yX6_areTwoSites : MethodName := ⟨RX6, "areTwoSites", "(II)Z"⟩
abbrev cX6_hasMadeAll : ByteArray := prog_1_method_31_code
def yX6_hasMadeAll : MethodName := ⟨RX6, "hasMadeAll", "(I)Z"⟩
abbrev cX6_idOf : ByteArray := prog_1_method_32_code
def yX6_idOf : MethodName := ⟨RX6, "idOf", "(II)I"⟩
abbrev cX6_authorOf : ByteArray := prog_1_method_33_code
def yX6_authorOf : MethodName := ⟨RX6, "authorOf", "(I)I"⟩
abbrev cX6_numberOf : ByteArray := prog_1_method_34_code
def yX6_numberOf : MethodName := ⟨RX6, "numberOf", "(I)I"⟩
abbrev cX6_tick : ByteArray := prog_1_method_35_code
def yX6_tick : MethodName := ⟨RX6, "tick", "(I)I"⟩
abbrev cX6_publish : ByteArray := prog_1_method_36_code
def yX6_publish : MethodName := ⟨RX6, "publish", "(II)V"⟩
abbrev cX6_receive : ByteArray := prog_1_method_37_code
def yX6_receive : MethodName := ⟨RX6, "receive", "(II)V"⟩
abbrev cX6_changeOwn : ByteArray := prog_1_method_38_code
def yX6_changeOwn : MethodName := ⟨RX6, "changeOwn", "(III)I"⟩
abbrev cX6_lastVisibleOwn : ByteArray := prog_1_method_39_code
def yX6_lastVisibleOwn : MethodName := ⟨RX6, "lastVisibleOwn", "(I)I"⟩
abbrev cX6_lastUndoneOwn : ByteArray := prog_1_method_40_code
def yX6_lastUndoneOwn : MethodName := ⟨RX6, "lastUndoneOwn", "(I)I"⟩
abbrev cX6_deliverLink : ByteArray := prog_1_method_41_code
def yX6_deliverLink : MethodName := ⟨RX6, "deliverLink", "(II)I"⟩
abbrev cX6_canRepair : ByteArray := prog_1_method_42_code
def yX6_canRepair : MethodName := ⟨RX6, "canRepair", "(III)Z"⟩
abbrev cX6_repairable : ByteArray := prog_1_method_43_code
def yX6_repairable : MethodName := ⟨RX6, "repairable", "(II)I"⟩
abbrev cX6_strokeValue : ByteArray := prog_1_method_44_code
def yX6_strokeValue : MethodName := ⟨RX6, "strokeValue", "(II)I"⟩
abbrev cX6_coordinate : ByteArray := prog_1_method_45_code
def yX6_coordinate : MethodName := ⟨RX6, "coordinate", "(II)I"⟩
abbrev cX6_showSame : ByteArray := prog_1_method_46_code
def yX6_showSame : MethodName := ⟨RX6, "showSame", "(LStrokeBoard$Knowledge;II)Z"⟩
abbrev cX6_lookAhead : ByteArray := prog_1_method_47_code
def yX6_lookAhead : MethodName := ⟨RX6, "lookAhead", "()V"⟩
abbrev cX6_isKnownBeside : ByteArray := prog_1_method_48_code
def yX6_isKnownBeside : MethodName := ⟨RX6, "isKnownBeside", "(II)Z"⟩
def RX7 : String := "StrokeBoardModel"
def TX7 : u_T := fun k => match k with
  | _ => ("", "", "", false)
def tyX7 : Nat → FieldType := fun k => match k with
  | _ => .int
abbrev wsX70 : List Cond := u_ws RX7 TX7 0
theorem nmX7 : ∀ a, a < 0 → ∀ b, b < 0 → a ≠ b → (TX7 a).2.1 ≠ (TX7 b).2.1 := by decide +kernel
theorem tyX7_ok : ∀ k, k < 0 → parseFieldDescriptor (TX7 k).2.2.1 = some (tyX7 k) := by decide +kernel
def RJ6 : String := "java/lang/Integer"
def TJ6 : u_T := fun k => match k with
  | _ => ("", "", "", false)
def tyJ6 : Nat → FieldType := fun k => match k with
  | _ => .int
abbrev wsJ60 : List Cond := u_ws RJ6 TJ6 0
theorem nmJ6 : ∀ a, a < 0 → ∀ b, b < 0 → a ≠ b → (TJ6 a).2.1 ≠ (TJ6 b).2.1 := by decide +kernel
theorem tyJ6_ok : ∀ k, k < 0 → parseFieldDescriptor (TJ6 k).2.2.1 = some (tyJ6 k) := by decide +kernel
abbrev cJ6_compare_7cf53 : ByteArray := prog_10_method_40_code
def yJ6_compare_7cf53 : MethodName := ⟨RJ6, "compare", "(II)I"⟩
def RJ9 : String := "java/lang/Math"
def TJ9 : u_T := fun k => match k with
  | _ => ("", "", "", false)
def tyJ9 : Nat → FieldType := fun k => match k with
  | _ => .int
abbrev wsJ90 : List Cond := u_ws RJ9 TJ9 0
theorem nmJ9 : ∀ a, a < 0 → ∀ b, b < 0 → a ≠ b → (TJ9 a).2.1 ≠ (TJ9 b).2.1 := by decide +kernel
theorem tyJ9_ok : ∀ k, k < 0 → parseFieldDescriptor (TJ9 k).2.2.1 = some (tyJ9 k) := by decide +kernel
abbrev cJ9_max_7cf53 : ByteArray := prog_11_method_65_code
def yJ9_max_7cf53 : MethodName := ⟨RJ9, "max", "(II)I"⟩
def RL : String := "StrokeBoardLaw"
abbrev cL_cell : ByteArray := method_2_code
def yL_cell : MethodName := ⟨RL, "cell", "([II)I"⟩
abbrev cL_low : ByteArray := method_3_code
def yL_low : MethodName := ⟨RL, "low", "(II)I"⟩
abbrev cL_sound : ByteArray := method_4_code
def yL_sound : MethodName := ⟨RL, "sound", "(LStrokeBoard;II)Z"⟩
abbrev cL_knowSame : ByteArray := method_5_code
def yL_knowSame : MethodName := ⟨RL, "knowSame", "(LStrokeBoard;II)Z"⟩
abbrev cL_pairs : ByteArray := method_6_code
def yL_pairs : MethodName := ⟨RL, "pairs", "(LStrokeBoard;)Z"⟩
abbrev cL_repairs : ByteArray := method_7_code
def yL_repairs : MethodName := ⟨RL, "repairs", "(LStrokeBoard;II)Z"⟩
abbrev cL_transfers : ByteArray := method_8_code
def yL_transfers : MethodName := ⟨RL, "transfers", "(LStrokeBoard;II)Z"⟩
abbrev cL_turns : ByteArray := method_9_code
def yL_turns : MethodName := ⟨RL, "turns", "(LStrokeBoard;I)Z"⟩
abbrev cL_refuses : ByteArray := method_10_code
def yL_refuses : MethodName := ⟨RL, "refuses", "(LStrokeBoard;)Z"⟩
abbrev cL_law : ByteArray := code
def yL_law : MethodName := ⟨RL, "law", "([I)Z"⟩
def wsX5_init : List Cond := .code yX5_init cX5_init 2 none :: ([.methodLink RX5 1 objectInit, .instanceMethod objectInit, .code objectInit ⟨#[0xb1]⟩ 1 none, .methodLink RX5 7 Lib.Math.max.name, .static Lib.Math.max.name, .initialized "java/lang/Math", .code Lib.Math.max.name Lib.Math.max.code 2 (some .int), .arrayClass .int, .fieldLink RX5 13 "StrokeBoard$Row" "cells" "[I"] ++ wsX50)
def wsX0_init : List Cond := .code yX0_init cX0_init 1 none :: ([.methodLink RX0 3 objectInit, .instanceMethod objectInit, .code objectInit ⟨#[0xb1]⟩ 1 none, .classLink RX0 9 RX5, .instantiable RX5 1, .initialized RX5, .fieldLink RX0 14 "StrokeBoard$Board" "undone" "LStrokeBoard$Row;", .fieldLink RX0 20 "StrokeBoard$Board" "layers" "LStrokeBoard$Row;", .fieldLink RX0 23 "StrokeBoard$Board" "strokes" "LStrokeBoard$Row;", .methodLink RX0 11 yX5_init, .instanceMethod yX5_init, .code yX5_init cX5_init 2 none, .methodLink RX5 1 objectInit, .methodLink RX5 7 Lib.Math.max.name, .static Lib.Math.max.name, .initialized "java/lang/Math", .code Lib.Math.max.name Lib.Math.max.code 2 (some .int), .arrayClass .int, .fieldLink RX5 13 "StrokeBoard$Row" "cells" "[I"] ++ wsX50 ++ wsX00)
def wsX4_totalCount : List Cond := .code yX4_totalCount cX4_totalCount 1 (some .int) :: ([.fieldLink RX4 45 "StrokeBoard$Log" "total" "I"] ++ wsX40)
def wsX5_fill : List Cond := .code yX5_fill cX5_fill 3 none :: ([.fieldLink RX5 13 "StrokeBoard$Row" "cells" "[I"] ++ wsX50)
def wsX5_get : List Cond := .code yX5_get cX5_get 2 (some .int) :: ([.fieldLink RX5 13 "StrokeBoard$Row" "cells" "[I"] ++ wsX50)
def wsX5_copyFrom : List Cond := .code yX5_copyFrom cX5_copyFrom 3 none :: ([.fieldLink RX5 13 "StrokeBoard$Row" "cells" "[I", .methodLink RX5 19 yX5_get, .instanceMethod yX5_get, .selects RX5 yX5_get yX5_get, .initialized RX5, .code yX5_get cX5_get 2 (some .int)] ++ wsX50)
def wsX4_inOrder : List Cond := .code yX4_inOrder cX4_inOrder 2 (some .int) :: ([.fieldLink RX4 32 "StrokeBoard$Log" "order" "LStrokeBoard$Row;", .methodLink RX4 65 yX5_get, .instanceMethod yX5_get, .selects RX5 yX5_get yX5_get, .initialized RX5, .code yX5_get cX5_get 2 (some .int), .fieldLink RX5 13 "StrokeBoard$Row" "cells" "[I"] ++ wsX40 ++ wsX50)
def wsX2_has : List Cond := .code yX2_has cX2_has 3 (some .boolean) :: ([.fieldLink RX2 14 "StrokeBoard$Knowledge" "known" "LStrokeBoard$Row;", .methodLink RX2 31 yX5_get, .instanceMethod yX5_get, .selects RX5 yX5_get yX5_get, .initialized RX5, .code yX5_get cX5_get 2 (some .int), .fieldLink RX5 13 "StrokeBoard$Row" "cells" "[I"] ++ wsX20 ++ wsX50)
def wsX4_targetOf : List Cond := .code yX4_targetOf cX4_targetOf 2 (some .int) :: ([.fieldLink RX4 26 "StrokeBoard$Log" "targets" "LStrokeBoard$Row;", .methodLink RX4 65 yX5_get, .instanceMethod yX5_get, .selects RX5 yX5_get yX5_get, .initialized RX5, .code yX5_get cX5_get 2 (some .int), .fieldLink RX5 13 "StrokeBoard$Row" "cells" "[I"] ++ wsX40 ++ wsX50)
def wsX4_kindOf : List Cond := .code yX4_kindOf cX4_kindOf 2 (some .int) :: ([.fieldLink RX4 20 "StrokeBoard$Log" "kinds" "LStrokeBoard$Row;", .methodLink RX4 65 yX5_get, .instanceMethod yX5_get, .selects RX5 yX5_get yX5_get, .initialized RX5, .code yX5_get cX5_get 2 (some .int), .fieldLink RX5 13 "StrokeBoard$Row" "cells" "[I"] ++ wsX40 ++ wsX50)
def wsX5_set : List Cond := .code yX5_set cX5_set 3 none :: ([.fieldLink RX5 13 "StrokeBoard$Row" "cells" "[I"] ++ wsX50)
def wsX4_layerOf : List Cond := .code yX4_layerOf cX4_layerOf 2 (some .int) :: ([.fieldLink RX4 29 "StrokeBoard$Log" "layers" "LStrokeBoard$Row;", .methodLink RX4 65 yX5_get, .instanceMethod yX5_get, .selects RX5 yX5_get yX5_get, .initialized RX5, .code yX5_get cX5_get 2 (some .int), .fieldLink RX5 13 "StrokeBoard$Row" "cells" "[I"] ++ wsX40 ++ wsX50)
def wsX0_apply_r1 : List Cond := [Cond.fieldLink RX0 14 "StrokeBoard$Board" "undone" "LStrokeBoard$Row;", Cond.fieldLink RX0 20 "StrokeBoard$Board" "layers" "LStrokeBoard$Row;", Cond.methodLink RX0 62 yX4_targetOf, Cond.instanceMethod yX4_targetOf, Cond.selects RX4 yX4_targetOf yX4_targetOf, Cond.initialized RX4, Cond.code yX4_targetOf cX4_targetOf 2 (some .int), Cond.fieldLink RX4 26 "StrokeBoard$Log" "targets" "LStrokeBoard$Row;", Cond.methodLink RX4 65 yX5_get, Cond.instanceMethod yX5_get, Cond.selects RX5 yX5_get yX5_get, Cond.initialized RX5, Cond.code yX5_get cX5_get 2 (some .int), Cond.fieldLink RX5 13 "StrokeBoard$Row" "cells" "[I", Cond.methodLink RX0 65 yX4_kindOf, Cond.instanceMethod yX4_kindOf, Cond.selects RX4 yX4_kindOf yX4_kindOf, Cond.code yX4_kindOf cX4_kindOf 2 (some .int), Cond.fieldLink RX4 20 "StrokeBoard$Log" "kinds" "LStrokeBoard$Row;", Cond.methodLink RX0 68 yX5_set, Cond.instanceMethod yX5_set, Cond.selects RX5 yX5_set yX5_set, Cond.code yX5_set cX5_set 3 none, Cond.methodLink RX0 72 yX4_layerOf]
def wsX0_apply_r2 : List Cond := [Cond.instanceMethod yX4_layerOf, Cond.selects RX4 yX4_layerOf yX4_layerOf, Cond.code yX4_layerOf cX4_layerOf 2 (some .int), Cond.fieldLink RX4 29 "StrokeBoard$Log" "layers" "LStrokeBoard$Row;"]
def wsX0_apply : List Cond := .code yX0_apply cX0_apply 4 none :: ((wsX0_apply_r1 ++ wsX0_apply_r2) ++ wsX00 ++ wsX40 ++ wsX50)
def wsX4_isStroke : List Cond := .code yX4_isStroke cX4_isStroke 2 (some .boolean) :: ([.fieldLink RX4 20 "StrokeBoard$Log" "kinds" "LStrokeBoard$Row;", .methodLink RX4 65 yX5_get, .instanceMethod yX5_get, .selects RX5 yX5_get yX5_get, .initialized RX5, .code yX5_get cX5_get 2 (some .int), .fieldLink RX5 13 "StrokeBoard$Row" "cells" "[I"] ++ wsX40 ++ wsX50)
def wsX0_isUndone : List Cond := .code yX0_isUndone cX0_isUndone 2 (some .boolean) :: ([.fieldLink RX0 14 "StrokeBoard$Board" "undone" "LStrokeBoard$Row;", .methodLink RX0 79 yX5_get, .instanceMethod yX5_get, .selects RX5 yX5_get yX5_get, .initialized RX5, .code yX5_get cX5_get 2 (some .int), .fieldLink RX5 13 "StrokeBoard$Row" "cells" "[I"] ++ wsX00 ++ wsX50)
def wsX0_collect_r1 : List Cond := [Cond.fieldLink RX0 20 "StrokeBoard$Board" "layers" "LStrokeBoard$Row;", Cond.fieldLink RX0 23 "StrokeBoard$Board" "strokes" "LStrokeBoard$Row;", Cond.fieldLink RX0 40 "StrokeBoard$Board" "count" "I", Cond.methodLink RX0 26 yX4_totalCount, Cond.instanceMethod yX4_totalCount, Cond.selects RX4 yX4_totalCount yX4_totalCount, Cond.initialized RX4, Cond.code yX4_totalCount cX4_totalCount 1 (some .int), Cond.fieldLink RX4 45 "StrokeBoard$Log" "total" "I", Cond.methodLink RX0 44 yX4_inOrder, Cond.instanceMethod yX4_inOrder, Cond.selects RX4 yX4_inOrder yX4_inOrder, Cond.code yX4_inOrder cX4_inOrder 2 (some .int), Cond.fieldLink RX4 32 "StrokeBoard$Log" "order" "LStrokeBoard$Row;", Cond.methodLink RX4 65 yX5_get, Cond.instanceMethod yX5_get, Cond.selects RX5 yX5_get yX5_get, Cond.initialized RX5, Cond.code yX5_get cX5_get 2 (some .int), Cond.fieldLink RX5 13 "StrokeBoard$Row" "cells" "[I", Cond.methodLink RX0 75 yX4_isStroke, Cond.instanceMethod yX4_isStroke, Cond.selects RX4 yX4_isStroke yX4_isStroke, Cond.code yX4_isStroke cX4_isStroke 2 (some .boolean)]
def wsX0_collect_r2 : List Cond := [Cond.fieldLink RX4 20 "StrokeBoard$Log" "kinds" "LStrokeBoard$Row;", Cond.methodLink RX0 79 yX5_get, Cond.methodLink RX0 82 yX0_isUndone, Cond.instanceMethod yX0_isUndone, Cond.selects RX0 yX0_isUndone yX0_isUndone, Cond.initialized RX0, Cond.code yX0_isUndone cX0_isUndone 2 (some .boolean), Cond.fieldLink RX0 14 "StrokeBoard$Board" "undone" "LStrokeBoard$Row;", Cond.methodLink RX0 48 yX2_has, Cond.instanceMethod yX2_has, Cond.selects RX2 yX2_has yX2_has, Cond.initialized RX2, Cond.code yX2_has cX2_has 3 (some .boolean), Cond.fieldLink RX2 14 "StrokeBoard$Knowledge" "known" "LStrokeBoard$Row;", Cond.methodLink RX2 31 yX5_get, Cond.methodLink RX0 68 yX5_set, Cond.instanceMethod yX5_set, Cond.selects RX5 yX5_set yX5_set, Cond.code yX5_set cX5_set 3 none]
def wsX0_collect : List Cond := .code yX0_collect cX0_collect 8 none :: ((wsX0_collect_r1 ++ wsX0_collect_r2) ++ wsX00 ++ wsX40 ++ wsX50 ++ wsX20)
def wsX0_show_r1 : List Cond := [Cond.fieldLink RX0 14 "StrokeBoard$Board" "undone" "LStrokeBoard$Row;", Cond.fieldLink RX0 20 "StrokeBoard$Board" "layers" "LStrokeBoard$Row;", Cond.fieldLink RX0 40 "StrokeBoard$Board" "count" "I", Cond.methodLink RX0 26 yX4_totalCount, Cond.instanceMethod yX4_totalCount, Cond.selects RX4 yX4_totalCount yX4_totalCount, Cond.initialized RX4, Cond.code yX4_totalCount cX4_totalCount 1 (some .int), Cond.fieldLink RX4 45 "StrokeBoard$Log" "total" "I", Cond.methodLink RX0 32 yX5_fill, Cond.instanceMethod yX5_fill, Cond.selects RX5 yX5_fill yX5_fill, Cond.initialized RX5, Cond.code yX5_fill cX5_fill 3 none, Cond.fieldLink RX5 13 "StrokeBoard$Row" "cells" "[I", Cond.methodLink RX0 36 yX5_copyFrom, Cond.instanceMethod yX5_copyFrom, Cond.selects RX5 yX5_copyFrom yX5_copyFrom, Cond.code yX5_copyFrom cX5_copyFrom 3 none, Cond.methodLink RX5 19 yX5_get, Cond.instanceMethod yX5_get, Cond.selects RX5 yX5_get yX5_get, Cond.code yX5_get cX5_get 2 (some .int), Cond.methodLink RX0 44 yX4_inOrder]
def wsX0_show_r2 : List Cond := [Cond.instanceMethod yX4_inOrder, Cond.selects RX4 yX4_inOrder yX4_inOrder, Cond.code yX4_inOrder cX4_inOrder 2 (some .int), Cond.fieldLink RX4 32 "StrokeBoard$Log" "order" "LStrokeBoard$Row;", Cond.methodLink RX4 65 yX5_get, Cond.methodLink RX0 48 yX2_has, Cond.instanceMethod yX2_has, Cond.selects RX2 yX2_has yX2_has, Cond.initialized RX2, Cond.code yX2_has cX2_has 3 (some .boolean), Cond.fieldLink RX2 14 "StrokeBoard$Knowledge" "known" "LStrokeBoard$Row;", Cond.methodLink RX2 31 yX5_get, Cond.methodLink RX0 54 yX0_apply, Cond.instanceMethod yX0_apply, Cond.selects RX0 yX0_apply yX0_apply, Cond.initialized RX0, Cond.code yX0_apply cX0_apply 4 none, Cond.methodLink RX0 62 yX4_targetOf, Cond.instanceMethod yX4_targetOf, Cond.selects RX4 yX4_targetOf yX4_targetOf, Cond.code yX4_targetOf cX4_targetOf 2 (some .int), Cond.fieldLink RX4 26 "StrokeBoard$Log" "targets" "LStrokeBoard$Row;", Cond.methodLink RX0 65 yX4_kindOf, Cond.instanceMethod yX4_kindOf]
def wsX0_show_r3 : List Cond := [Cond.selects RX4 yX4_kindOf yX4_kindOf, Cond.code yX4_kindOf cX4_kindOf 2 (some .int), Cond.fieldLink RX4 20 "StrokeBoard$Log" "kinds" "LStrokeBoard$Row;", Cond.methodLink RX0 68 yX5_set, Cond.instanceMethod yX5_set, Cond.selects RX5 yX5_set yX5_set, Cond.code yX5_set cX5_set 3 none, Cond.methodLink RX0 72 yX4_layerOf, Cond.instanceMethod yX4_layerOf, Cond.selects RX4 yX4_layerOf yX4_layerOf, Cond.code yX4_layerOf cX4_layerOf 2 (some .int), Cond.fieldLink RX4 29 "StrokeBoard$Log" "layers" "LStrokeBoard$Row;", Cond.methodLink RX0 58 yX0_collect, Cond.instanceMethod yX0_collect, Cond.selects RX0 yX0_collect yX0_collect, Cond.code yX0_collect cX0_collect 8 none, Cond.fieldLink RX0 23 "StrokeBoard$Board" "strokes" "LStrokeBoard$Row;", Cond.methodLink RX0 75 yX4_isStroke, Cond.instanceMethod yX4_isStroke, Cond.selects RX4 yX4_isStroke yX4_isStroke, Cond.code yX4_isStroke cX4_isStroke 2 (some .boolean), Cond.methodLink RX0 79 yX5_get, Cond.methodLink RX0 82 yX0_isUndone, Cond.instanceMethod yX0_isUndone]
def wsX0_show_r4 : List Cond := [Cond.selects RX0 yX0_isUndone yX0_isUndone, Cond.code yX0_isUndone cX0_isUndone 2 (some .boolean)]
def wsX0_show : List Cond := .code yX0_show cX0_show 7 none :: ((wsX0_show_r1 ++ (wsX0_show_r2 ++ (wsX0_show_r3 ++ wsX0_show_r4))) ++ wsX00 ++ wsX40 ++ wsX50 ++ wsX20)
def wsX0_strokeCount : List Cond := .code yX0_strokeCount cX0_strokeCount 1 (some .int) :: ([.fieldLink RX0 40 "StrokeBoard$Board" "count" "I"] ++ wsX00)
def wsX0_strokeIn : List Cond := .code yX0_strokeIn cX0_strokeIn 2 (some .int) :: ([.fieldLink RX0 23 "StrokeBoard$Board" "strokes" "LStrokeBoard$Row;", .methodLink RX0 79 yX5_get, .instanceMethod yX5_get, .selects RX5 yX5_get yX5_get, .initialized RX5, .code yX5_get cX5_get 2 (some .int), .fieldLink RX5 13 "StrokeBoard$Row" "cells" "[I"] ++ wsX00 ++ wsX50)
def wsX0_layerOf : List Cond := .code yX0_layerOf cX0_layerOf 2 (some .int) :: ([.fieldLink RX0 20 "StrokeBoard$Board" "layers" "LStrokeBoard$Row;", .methodLink RX0 79 yX5_get, .instanceMethod yX5_get, .selects RX5 yX5_get yX5_get, .initialized RX5, .code yX5_get cX5_get 2 (some .int), .fieldLink RX5 13 "StrokeBoard$Row" "cells" "[I"] ++ wsX00 ++ wsX50)
def wsX0_matches : List Cond := .code yX0_matches cX0_matches 4 (some .boolean) :: ([.fieldLink RX0 40 "StrokeBoard$Board" "count" "I", .fieldLink RX0 23 "StrokeBoard$Board" "strokes" "LStrokeBoard$Row;", .fieldLink RX0 20 "StrokeBoard$Board" "layers" "LStrokeBoard$Row;", .methodLink RX0 79 yX5_get, .instanceMethod yX5_get, .selects RX5 yX5_get yX5_get, .initialized RX5, .code yX5_get cX5_get 2 (some .int), .fieldLink RX5 13 "StrokeBoard$Row" "cells" "[I", .methodLink RX0 85 yX0_strokeIn, .instanceMethod yX0_strokeIn, .selects RX0 yX0_strokeIn yX0_strokeIn, .initialized RX0, .code yX0_strokeIn cX0_strokeIn 2 (some .int), .methodLink RX0 88 yX0_layerOf, .instanceMethod yX0_layerOf, .selects RX0 yX0_layerOf yX0_layerOf, .code yX0_layerOf cX0_layerOf 2 (some .int)] ++ wsX00 ++ wsX50)
def wsX6_authorOf : List Cond := .code yX6_authorOf cX6_authorOf 1 (some .int) :: ([])
def wsX6_numberOf : List Cond := .code yX6_numberOf cX6_numberOf 1 (some .int) :: ([])
def wsX1_colorOf : List Cond := .code yX1_colorOf cX1_colorOf 2 (some .int) :: ([.fieldLink RX1 20 "StrokeBoard$Ink" "colors" "LStrokeBoard$Row;", .methodLink RX1 42 yX5_get, .instanceMethod yX5_get, .selects RX5 yX5_get yX5_get, .initialized RX5, .code yX5_get cX5_get 2 (some .int), .fieldLink RX5 13 "StrokeBoard$Row" "cells" "[I"] ++ wsX10 ++ wsX50)
def wsX1_pointCount : List Cond := .code yX1_pointCount cX1_pointCount 2 (some .int) :: ([.fieldLink RX1 14 "StrokeBoard$Ink" "counts" "LStrokeBoard$Row;", .methodLink RX1 42 yX5_get, .instanceMethod yX5_get, .selects RX5 yX5_get yX5_get, .initialized RX5, .code yX5_get cX5_get 2 (some .int), .fieldLink RX5 13 "StrokeBoard$Row" "cells" "[I"] ++ wsX10 ++ wsX50)
def wsX1_xOf : List Cond := .code yX1_xOf cX1_xOf 3 (some .int) :: ([.fieldLink RX1 26 "StrokeBoard$Ink" "xs" "LStrokeBoard$Row;", .methodLink RX1 42 yX5_get, .instanceMethod yX5_get, .selects RX5 yX5_get yX5_get, .initialized RX5, .code yX5_get cX5_get 2 (some .int), .fieldLink RX5 13 "StrokeBoard$Row" "cells" "[I"] ++ wsX10 ++ wsX50)
def wsX1_yOf : List Cond := .code yX1_yOf cX1_yOf 3 (some .int) :: ([.fieldLink RX1 29 "StrokeBoard$Ink" "ys" "LStrokeBoard$Row;", .methodLink RX1 42 yX5_get, .instanceMethod yX5_get, .selects RX5 yX5_get yX5_get, .initialized RX5, .code yX5_get cX5_get 2 (some .int), .fieldLink RX5 13 "StrokeBoard$Row" "cells" "[I"] ++ wsX10 ++ wsX50)
def wsX0_hashPoints : List Cond := .code yX0_hashPoints cX0_hashPoints 6 (some .int) :: ([.methodLink RX0 108 yX1_pointCount, .instanceMethod yX1_pointCount, .selects RX1 yX1_pointCount yX1_pointCount, .initialized RX1, .code yX1_pointCount cX1_pointCount 2 (some .int), .fieldLink RX1 14 "StrokeBoard$Ink" "counts" "LStrokeBoard$Row;", .methodLink RX1 42 yX5_get, .instanceMethod yX5_get, .selects RX5 yX5_get yX5_get, .initialized RX5, .code yX5_get cX5_get 2 (some .int), .fieldLink RX5 13 "StrokeBoard$Row" "cells" "[I", .methodLink RX0 111 yX1_xOf, .instanceMethod yX1_xOf, .selects RX1 yX1_xOf yX1_xOf, .code yX1_xOf cX1_xOf 3 (some .int), .fieldLink RX1 26 "StrokeBoard$Ink" "xs" "LStrokeBoard$Row;", .methodLink RX0 115 yX1_yOf, .instanceMethod yX1_yOf, .selects RX1 yX1_yOf yX1_yOf, .code yX1_yOf cX1_yOf 3 (some .int), .fieldLink RX1 29 "StrokeBoard$Ink" "ys" "LStrokeBoard$Row;"] ++ wsX10 ++ wsX50)
def wsX0_hash_r1 : List Cond := [Cond.fieldLink RX0 40 "StrokeBoard$Board" "count" "I", Cond.fieldLink RX0 23 "StrokeBoard$Board" "strokes" "LStrokeBoard$Row;", Cond.fieldLink RX0 20 "StrokeBoard$Board" "layers" "LStrokeBoard$Row;", Cond.methodLink RX0 79 yX5_get, Cond.instanceMethod yX5_get, Cond.selects RX5 yX5_get yX5_get, Cond.initialized RX5, Cond.code yX5_get cX5_get 2 (some .int), Cond.fieldLink RX5 13 "StrokeBoard$Row" "cells" "[I", Cond.static yX6_authorOf, Cond.initialized RX6, Cond.code yX6_authorOf cX6_authorOf 1 (some .int), Cond.static yX6_numberOf, Cond.code yX6_numberOf cX6_numberOf 1 (some .int), Cond.methodLink RX0 99 yX1_colorOf, Cond.instanceMethod yX1_colorOf, Cond.selects RX1 yX1_colorOf yX1_colorOf, Cond.initialized RX1, Cond.code yX1_colorOf cX1_colorOf 2 (some .int), Cond.fieldLink RX1 20 "StrokeBoard$Ink" "colors" "LStrokeBoard$Row;", Cond.methodLink RX1 42 yX5_get, Cond.methodLink RX0 104 yX0_hashPoints, Cond.instanceMethod yX0_hashPoints, Cond.selects RX0 yX0_hashPoints yX0_hashPoints]
def wsX0_hash_r2 : List Cond := [Cond.initialized RX0, Cond.code yX0_hashPoints cX0_hashPoints 6 (some .int), Cond.methodLink RX0 108 yX1_pointCount, Cond.instanceMethod yX1_pointCount, Cond.selects RX1 yX1_pointCount yX1_pointCount, Cond.code yX1_pointCount cX1_pointCount 2 (some .int), Cond.fieldLink RX1 14 "StrokeBoard$Ink" "counts" "LStrokeBoard$Row;", Cond.methodLink RX0 111 yX1_xOf, Cond.instanceMethod yX1_xOf, Cond.selects RX1 yX1_xOf yX1_xOf, Cond.code yX1_xOf cX1_xOf 3 (some .int), Cond.fieldLink RX1 26 "StrokeBoard$Ink" "xs" "LStrokeBoard$Row;", Cond.methodLink RX0 115 yX1_yOf, Cond.instanceMethod yX1_yOf, Cond.selects RX1 yX1_yOf yX1_yOf, Cond.code yX1_yOf cX1_yOf 3 (some .int), Cond.fieldLink RX1 29 "StrokeBoard$Ink" "ys" "LStrokeBoard$Row;"]
def wsX0_hash : List Cond := .code yX0_hash cX0_hash 5 (some .int) :: ((wsX0_hash_r1 ++ wsX0_hash_r2) ++ wsX00 ++ wsX40 ++ wsX50 ++ wsX10)
def wsX1_init : List Cond := .code yX1_init cX1_init 2 none :: ([.methodLink RX1 3 objectInit, .instanceMethod objectInit, .code objectInit ⟨#[0xb1]⟩ 1 none, .classLink RX1 9 RX5, .instantiable RX5 1, .initialized RX5, .fieldLink RX1 14 "StrokeBoard$Ink" "counts" "LStrokeBoard$Row;", .fieldLink RX1 20 "StrokeBoard$Ink" "colors" "LStrokeBoard$Row;", .fieldLink RX1 23 "StrokeBoard$Ink" "layers" "LStrokeBoard$Row;", .fieldLink RX1 26 "StrokeBoard$Ink" "xs" "LStrokeBoard$Row;", .fieldLink RX1 29 "StrokeBoard$Ink" "ys" "LStrokeBoard$Row;", .methodLink RX1 11 yX5_init, .instanceMethod yX5_init, .code yX5_init cX5_init 2 none, .methodLink RX5 1 objectInit, .methodLink RX5 7 Lib.Math.max.name, .static Lib.Math.max.name, .initialized "java/lang/Math", .code Lib.Math.max.name Lib.Math.max.code 2 (some .int), .arrayClass .int, .fieldLink RX5 13 "StrokeBoard$Row" "cells" "[I"] ++ wsX50 ++ wsX10)
def wsX1_clear : List Cond := .code yX1_clear cX1_clear 1 none :: ([.fieldLink RX1 14 "StrokeBoard$Ink" "counts" "LStrokeBoard$Row;", .methodLink RX1 32 yX5_fill, .instanceMethod yX5_fill, .selects RX5 yX5_fill yX5_fill, .initialized RX5, .code yX5_fill cX5_fill 3 none, .fieldLink RX5 13 "StrokeBoard$Row" "cells" "[I"] ++ wsX10 ++ wsX50)
def wsX1_empty : List Cond := .code yX1_empty cX1_empty 2 none :: ([.fieldLink RX1 14 "StrokeBoard$Ink" "counts" "LStrokeBoard$Row;", .methodLink RX1 35 yX5_set, .instanceMethod yX5_set, .selects RX5 yX5_set yX5_set, .initialized RX5, .code yX5_set cX5_set 3 none, .fieldLink RX5 13 "StrokeBoard$Row" "cells" "[I"] ++ wsX10 ++ wsX50)
def wsX1_start : List Cond := .code yX1_start cX1_start 4 none :: ([.fieldLink RX1 20 "StrokeBoard$Ink" "colors" "LStrokeBoard$Row;", .fieldLink RX1 23 "StrokeBoard$Ink" "layers" "LStrokeBoard$Row;", .methodLink RX1 39 yX1_empty, .instanceMethod yX1_empty, .selects RX1 yX1_empty yX1_empty, .initialized RX1, .code yX1_empty cX1_empty 2 none, .fieldLink RX1 14 "StrokeBoard$Ink" "counts" "LStrokeBoard$Row;", .methodLink RX1 35 yX5_set, .instanceMethod yX5_set, .selects RX5 yX5_set yX5_set, .initialized RX5, .code yX5_set cX5_set 3 none, .fieldLink RX5 13 "StrokeBoard$Row" "cells" "[I"] ++ wsX10 ++ wsX50)
def wsX1_addPoint : List Cond := .code yX1_addPoint cX1_addPoint 5 none :: ([.fieldLink RX1 14 "StrokeBoard$Ink" "counts" "LStrokeBoard$Row;", .fieldLink RX1 26 "StrokeBoard$Ink" "xs" "LStrokeBoard$Row;", .fieldLink RX1 29 "StrokeBoard$Ink" "ys" "LStrokeBoard$Row;", .methodLink RX1 42 yX5_get, .instanceMethod yX5_get, .selects RX5 yX5_get yX5_get, .initialized RX5, .code yX5_get cX5_get 2 (some .int), .fieldLink RX5 13 "StrokeBoard$Row" "cells" "[I", .methodLink RX1 35 yX5_set, .instanceMethod yX5_set, .selects RX5 yX5_set yX5_set, .code yX5_set cX5_set 3 none] ++ wsX10 ++ wsX50)
def wsX1_layerOf : List Cond := .code yX1_layerOf cX1_layerOf 2 (some .int) :: ([.fieldLink RX1 23 "StrokeBoard$Ink" "layers" "LStrokeBoard$Row;", .methodLink RX1 42 yX5_get, .instanceMethod yX5_get, .selects RX5 yX5_get yX5_get, .initialized RX5, .code yX5_get cX5_get 2 (some .int), .fieldLink RX5 13 "StrokeBoard$Row" "cells" "[I"] ++ wsX10 ++ wsX50)
def wsX1_copyFrom_r1 : List Cond := [Cond.methodLink RX1 46 yX1_pointCount, Cond.instanceMethod yX1_pointCount, Cond.selects RX1 yX1_pointCount yX1_pointCount, Cond.initialized RX1, Cond.code yX1_pointCount cX1_pointCount 2 (some .int), Cond.fieldLink RX1 14 "StrokeBoard$Ink" "counts" "LStrokeBoard$Row;", Cond.methodLink RX1 42 yX5_get, Cond.instanceMethod yX5_get, Cond.selects RX5 yX5_get yX5_get, Cond.initialized RX5, Cond.code yX5_get cX5_get 2 (some .int), Cond.fieldLink RX5 13 "StrokeBoard$Row" "cells" "[I", Cond.methodLink RX1 49 yX1_colorOf, Cond.instanceMethod yX1_colorOf, Cond.selects RX1 yX1_colorOf yX1_colorOf, Cond.code yX1_colorOf cX1_colorOf 2 (some .int), Cond.fieldLink RX1 20 "StrokeBoard$Ink" "colors" "LStrokeBoard$Row;", Cond.methodLink RX1 52 yX1_layerOf, Cond.instanceMethod yX1_layerOf, Cond.selects RX1 yX1_layerOf yX1_layerOf, Cond.code yX1_layerOf cX1_layerOf 2 (some .int), Cond.fieldLink RX1 23 "StrokeBoard$Ink" "layers" "LStrokeBoard$Row;", Cond.methodLink RX1 55 yX1_start, Cond.instanceMethod yX1_start]
def wsX1_copyFrom_r2 : List Cond := [Cond.selects RX1 yX1_start yX1_start, Cond.code yX1_start cX1_start 4 none, Cond.methodLink RX1 39 yX1_empty, Cond.instanceMethod yX1_empty, Cond.selects RX1 yX1_empty yX1_empty, Cond.code yX1_empty cX1_empty 2 none, Cond.methodLink RX1 35 yX5_set, Cond.instanceMethod yX5_set, Cond.selects RX5 yX5_set yX5_set, Cond.code yX5_set cX5_set 3 none, Cond.methodLink RX1 59 yX1_xOf, Cond.instanceMethod yX1_xOf, Cond.selects RX1 yX1_xOf yX1_xOf, Cond.code yX1_xOf cX1_xOf 3 (some .int), Cond.fieldLink RX1 26 "StrokeBoard$Ink" "xs" "LStrokeBoard$Row;", Cond.methodLink RX1 63 yX1_yOf, Cond.instanceMethod yX1_yOf, Cond.selects RX1 yX1_yOf yX1_yOf, Cond.code yX1_yOf cX1_yOf 3 (some .int), Cond.fieldLink RX1 29 "StrokeBoard$Ink" "ys" "LStrokeBoard$Row;", Cond.methodLink RX1 66 yX1_addPoint, Cond.instanceMethod yX1_addPoint, Cond.selects RX1 yX1_addPoint yX1_addPoint, Cond.code yX1_addPoint cX1_addPoint 5 none]
def wsX1_copyFrom : List Cond := .code yX1_copyFrom cX1_copyFrom 6 none :: ((wsX1_copyFrom_r1 ++ wsX1_copyFrom_r2) ++ wsX10 ++ wsX50)
def wsX1_hasPoint : List Cond := .code yX1_hasPoint cX1_hasPoint 5 (some .boolean) :: ([.fieldLink RX1 14 "StrokeBoard$Ink" "counts" "LStrokeBoard$Row;", .methodLink RX1 42 yX5_get, .instanceMethod yX5_get, .selects RX5 yX5_get yX5_get, .initialized RX5, .code yX5_get cX5_get 2 (some .int), .fieldLink RX5 13 "StrokeBoard$Row" "cells" "[I", .methodLink RX1 59 yX1_xOf, .instanceMethod yX1_xOf, .selects RX1 yX1_xOf yX1_xOf, .initialized RX1, .code yX1_xOf cX1_xOf 3 (some .int), .fieldLink RX1 26 "StrokeBoard$Ink" "xs" "LStrokeBoard$Row;", .methodLink RX1 63 yX1_yOf, .instanceMethod yX1_yOf, .selects RX1 yX1_yOf yX1_yOf, .code yX1_yOf cX1_yOf 3 (some .int), .fieldLink RX1 29 "StrokeBoard$Ink" "ys" "LStrokeBoard$Row;"] ++ wsX10 ++ wsX50)
def wsX6_isWithin : List Cond := .code yX6_isWithin cX6_isWithin 3 (some .boolean) :: ([])
def wsX1_sizeOf : List Cond := .code yX1_sizeOf cX1_sizeOf 5 (some .int) :: ([.fieldLink RX1 14 "StrokeBoard$Ink" "counts" "LStrokeBoard$Row;", .methodLink RX1 42 yX5_get, .instanceMethod yX5_get, .selects RX5 yX5_get yX5_get, .initialized RX5, .code yX5_get cX5_get 2 (some .int), .fieldLink RX5 13 "StrokeBoard$Row" "cells" "[I", .methodLink RX1 59 yX1_xOf, .instanceMethod yX1_xOf, .selects RX1 yX1_xOf yX1_xOf, .initialized RX1, .code yX1_xOf cX1_xOf 3 (some .int), .fieldLink RX1 26 "StrokeBoard$Ink" "xs" "LStrokeBoard$Row;", .static yX6_isWithin, .initialized RX6, .code yX6_isWithin cX6_isWithin 3 (some .boolean), .methodLink RX1 63 yX1_yOf, .instanceMethod yX1_yOf, .selects RX1 yX1_yOf yX1_yOf, .code yX1_yOf cX1_yOf 3 (some .int), .fieldLink RX1 29 "StrokeBoard$Ink" "ys" "LStrokeBoard$Row;"] ++ wsX10 ++ wsX50)
def wsX2_init : List Cond := .code yX2_init cX2_init 1 none :: ([.methodLink RX2 3 objectInit, .instanceMethod objectInit, .code objectInit ⟨#[0xb1]⟩ 1 none, .classLink RX2 9 RX5, .instantiable RX5 1, .initialized RX5, .fieldLink RX2 14 "StrokeBoard$Knowledge" "known" "LStrokeBoard$Row;", .methodLink RX2 11 yX5_init, .instanceMethod yX5_init, .code yX5_init cX5_init 2 none, .methodLink RX5 1 objectInit, .methodLink RX5 7 Lib.Math.max.name, .static Lib.Math.max.name, .initialized "java/lang/Math", .code Lib.Math.max.name Lib.Math.max.code 2 (some .int), .arrayClass .int, .fieldLink RX5 13 "StrokeBoard$Row" "cells" "[I"] ++ wsX50 ++ wsX20)
def wsX2_clear : List Cond := .code yX2_clear cX2_clear 1 none :: ([.fieldLink RX2 14 "StrokeBoard$Knowledge" "known" "LStrokeBoard$Row;", .methodLink RX2 20 yX5_fill, .instanceMethod yX5_fill, .selects RX5 yX5_fill yX5_fill, .initialized RX5, .code yX5_fill cX5_fill 3 none, .fieldLink RX5 13 "StrokeBoard$Row" "cells" "[I"] ++ wsX20 ++ wsX50)
def wsX2_copyFrom : List Cond := .code yX2_copyFrom cX2_copyFrom 2 none :: ([.fieldLink RX2 14 "StrokeBoard$Knowledge" "known" "LStrokeBoard$Row;", .methodLink RX2 23 yX5_copyFrom, .instanceMethod yX5_copyFrom, .selects RX5 yX5_copyFrom yX5_copyFrom, .initialized RX5, .code yX5_copyFrom cX5_copyFrom 3 none, .fieldLink RX5 13 "StrokeBoard$Row" "cells" "[I", .methodLink RX5 19 yX5_get, .instanceMethod yX5_get, .selects RX5 yX5_get yX5_get, .code yX5_get cX5_get 2 (some .int)] ++ wsX20 ++ wsX50)
def wsX2_learn : List Cond := .code yX2_learn cX2_learn 3 none :: ([.fieldLink RX2 14 "StrokeBoard$Knowledge" "known" "LStrokeBoard$Row;", .methodLink RX2 27 yX5_set, .instanceMethod yX5_set, .selects RX5 yX5_set yX5_set, .initialized RX5, .code yX5_set cX5_set 3 none, .fieldLink RX5 13 "StrokeBoard$Row" "cells" "[I"] ++ wsX20 ++ wsX50)
def wsX2_countOf : List Cond := .code yX2_countOf cX2_countOf 4 (some .int) :: ([.methodLink RX2 35 yX2_has, .instanceMethod yX2_has, .selects RX2 yX2_has yX2_has, .initialized RX2, .code yX2_has cX2_has 3 (some .boolean), .fieldLink RX2 14 "StrokeBoard$Knowledge" "known" "LStrokeBoard$Row;", .methodLink RX2 31 yX5_get, .instanceMethod yX5_get, .selects RX5 yX5_get yX5_get, .initialized RX5, .code yX5_get cX5_get 2 (some .int), .fieldLink RX5 13 "StrokeBoard$Row" "cells" "[I"] ++ wsX20 ++ wsX50)
def wsX6_idOf : List Cond := .code yX6_idOf cX6_idOf 2 (some .int) :: ([])
def wsX2_hasLaterOfAuthor : List Cond := .code yX2_hasLaterOfAuthor cX2_hasLaterOfAuthor 5 (some .boolean) :: ([.static yX6_authorOf, .initialized RX6, .code yX6_authorOf cX6_authorOf 1 (some .int), .static yX6_numberOf, .code yX6_numberOf cX6_numberOf 1 (some .int), .static yX6_idOf, .code yX6_idOf cX6_idOf 2 (some .int), .methodLink RX2 35 yX2_has, .instanceMethod yX2_has, .selects RX2 yX2_has yX2_has, .initialized RX2, .code yX2_has cX2_has 3 (some .boolean), .fieldLink RX2 14 "StrokeBoard$Knowledge" "known" "LStrokeBoard$Row;", .methodLink RX2 31 yX5_get, .instanceMethod yX5_get, .selects RX5 yX5_get yX5_get, .initialized RX5, .code yX5_get cX5_get 2 (some .int), .fieldLink RX5 13 "StrokeBoard$Row" "cells" "[I"] ++ wsX20 ++ wsX50)
def wsX2_isInGap : List Cond := .code yX2_isInGap cX2_isInGap 3 (some .boolean) :: ([.methodLink RX2 35 yX2_has, .instanceMethod yX2_has, .selects RX2 yX2_has yX2_has, .initialized RX2, .code yX2_has cX2_has 3 (some .boolean), .fieldLink RX2 14 "StrokeBoard$Knowledge" "known" "LStrokeBoard$Row;", .methodLink RX2 31 yX5_get, .instanceMethod yX5_get, .selects RX5 yX5_get yX5_get, .initialized RX5, .code yX5_get cX5_get 2 (some .int), .fieldLink RX5 13 "StrokeBoard$Row" "cells" "[I", .methodLink RX2 39 yX2_hasLaterOfAuthor, .instanceMethod yX2_hasLaterOfAuthor, .selects RX2 yX2_hasLaterOfAuthor yX2_hasLaterOfAuthor, .code yX2_hasLaterOfAuthor cX2_hasLaterOfAuthor 5 (some .boolean), .static yX6_authorOf, .initialized RX6, .code yX6_authorOf cX6_authorOf 1 (some .int), .static yX6_numberOf, .code yX6_numberOf cX6_numberOf 1 (some .int), .static yX6_idOf, .code yX6_idOf cX6_idOf 2 (some .int)] ++ wsX20 ++ wsX50)
def wsX3_init : List Cond := .code yX3_init cX3_init 1 none :: ([.methodLink RX3 3 objectInit, .instanceMethod objectInit, .code objectInit ⟨#[0xb1]⟩ 1 none, .classLink RX3 9 RX5, .instantiable RX5 1, .initialized RX5, .fieldLink RX3 14 "StrokeBoard$Links" "counts" "LStrokeBoard$Row;", .fieldLink RX3 20 "StrokeBoard$Links" "messages" "LStrokeBoard$Row;", .methodLink RX3 11 yX5_init, .instanceMethod yX5_init, .code yX5_init cX5_init 2 none, .methodLink RX5 1 objectInit, .methodLink RX5 7 Lib.Math.max.name, .static Lib.Math.max.name, .initialized "java/lang/Math", .code Lib.Math.max.name Lib.Math.max.code 2 (some .int), .arrayClass .int, .fieldLink RX5 13 "StrokeBoard$Row" "cells" "[I"] ++ wsX50 ++ wsX30)
def wsX3_clear : List Cond := .code yX3_clear cX3_clear 1 none :: ([.fieldLink RX3 14 "StrokeBoard$Links" "counts" "LStrokeBoard$Row;", .methodLink RX3 23 yX5_fill, .instanceMethod yX5_fill, .selects RX5 yX5_fill yX5_fill, .initialized RX5, .code yX5_fill cX5_fill 3 none, .fieldLink RX5 13 "StrokeBoard$Row" "cells" "[I"] ++ wsX30 ++ wsX50)
def wsX3_send : List Cond := .code yX3_send cX3_send 6 none :: ([.fieldLink RX3 14 "StrokeBoard$Links" "counts" "LStrokeBoard$Row;", .fieldLink RX3 20 "StrokeBoard$Links" "messages" "LStrokeBoard$Row;", .methodLink RX3 26 yX5_get, .instanceMethod yX5_get, .selects RX5 yX5_get yX5_get, .initialized RX5, .code yX5_get cX5_get 2 (some .int), .fieldLink RX5 13 "StrokeBoard$Row" "cells" "[I", .methodLink RX3 30 yX5_set, .instanceMethod yX5_set, .selects RX5 yX5_set yX5_set, .code yX5_set cX5_set 3 none] ++ wsX30 ++ wsX50)
def wsX3_countIn : List Cond := .code yX3_countIn cX3_countIn 3 (some .int) :: ([.fieldLink RX3 14 "StrokeBoard$Links" "counts" "LStrokeBoard$Row;", .methodLink RX3 26 yX5_get, .instanceMethod yX5_get, .selects RX5 yX5_get yX5_get, .initialized RX5, .code yX5_get cX5_get 2 (some .int), .fieldLink RX5 13 "StrokeBoard$Row" "cells" "[I"] ++ wsX30 ++ wsX50)
def wsX3_messageIn : List Cond := .code yX3_messageIn cX3_messageIn 4 (some .int) :: ([.fieldLink RX3 20 "StrokeBoard$Links" "messages" "LStrokeBoard$Row;", .methodLink RX3 26 yX5_get, .instanceMethod yX5_get, .selects RX5 yX5_get yX5_get, .initialized RX5, .code yX5_get cX5_get 2 (some .int), .fieldLink RX5 13 "StrokeBoard$Row" "cells" "[I"] ++ wsX30 ++ wsX50)
def wsX3_dropFirst : List Cond := .code yX3_dropFirst cX3_dropFirst 7 none :: ([.fieldLink RX3 14 "StrokeBoard$Links" "counts" "LStrokeBoard$Row;", .fieldLink RX3 20 "StrokeBoard$Links" "messages" "LStrokeBoard$Row;", .methodLink RX3 34 Lib.Math.max.name, .static Lib.Math.max.name, .initialized "java/lang/Math", .code Lib.Math.max.name Lib.Math.max.code 2 (some .int), .methodLink RX3 26 yX5_get, .instanceMethod yX5_get, .selects RX5 yX5_get yX5_get, .initialized RX5, .code yX5_get cX5_get 2 (some .int), .fieldLink RX5 13 "StrokeBoard$Row" "cells" "[I", .methodLink RX3 30 yX5_set, .instanceMethod yX5_set, .selects RX5 yX5_set yX5_set, .code yX5_set cX5_set 3 none] ++ wsX30 ++ wsX50)
def wsX3_carry : List Cond := .code yX3_carry cX3_carry 4 (some .boolean) :: ([.fieldLink RX3 14 "StrokeBoard$Links" "counts" "LStrokeBoard$Row;", .fieldLink RX3 20 "StrokeBoard$Links" "messages" "LStrokeBoard$Row;", .methodLink RX3 26 yX5_get, .instanceMethod yX5_get, .selects RX5 yX5_get yX5_get, .initialized RX5, .code yX5_get cX5_get 2 (some .int), .fieldLink RX5 13 "StrokeBoard$Row" "cells" "[I"] ++ wsX30 ++ wsX50)
def wsX4_init_r1 : List Cond := [Cond.methodLink RX4 3 objectInit, Cond.instanceMethod objectInit, Cond.code objectInit ⟨#[0xb1]⟩ 1 none, Cond.classLink RX4 9 RX5, Cond.instantiable RX5 1, Cond.initialized RX5, Cond.fieldLink RX4 14 "StrokeBoard$Log" "made" "LStrokeBoard$Row;", Cond.fieldLink RX4 20 "StrokeBoard$Log" "kinds" "LStrokeBoard$Row;", Cond.fieldLink RX4 23 "StrokeBoard$Log" "times" "LStrokeBoard$Row;", Cond.fieldLink RX4 26 "StrokeBoard$Log" "targets" "LStrokeBoard$Row;", Cond.fieldLink RX4 29 "StrokeBoard$Log" "layers" "LStrokeBoard$Row;", Cond.fieldLink RX4 32 "StrokeBoard$Log" "order" "LStrokeBoard$Row;", Cond.classLink RX4 35 RX1, Cond.instantiable RX1 5, Cond.initialized RX1, Cond.fieldLink RX4 38 "StrokeBoard$Log" "ink" "LStrokeBoard$Ink;", Cond.methodLink RX4 11 yX5_init, Cond.instanceMethod yX5_init, Cond.code yX5_init cX5_init 2 none, Cond.methodLink RX5 1 objectInit, Cond.methodLink RX5 7 Lib.Math.max.name, Cond.static Lib.Math.max.name, Cond.initialized "java/lang/Math", Cond.code Lib.Math.max.name Lib.Math.max.code 2 (some .int)]
def wsX4_init_r2 : List Cond := [Cond.arrayClass .int, Cond.fieldLink RX5 13 "StrokeBoard$Row" "cells" "[I", Cond.methodLink RX4 37 yX1_init, Cond.instanceMethod yX1_init, Cond.code yX1_init cX1_init 2 none, Cond.methodLink RX1 3 objectInit, Cond.classLink RX1 9 RX5, Cond.fieldLink RX1 14 "StrokeBoard$Ink" "counts" "LStrokeBoard$Row;", Cond.fieldLink RX1 20 "StrokeBoard$Ink" "colors" "LStrokeBoard$Row;", Cond.fieldLink RX1 23 "StrokeBoard$Ink" "layers" "LStrokeBoard$Row;", Cond.fieldLink RX1 26 "StrokeBoard$Ink" "xs" "LStrokeBoard$Row;", Cond.fieldLink RX1 29 "StrokeBoard$Ink" "ys" "LStrokeBoard$Row;", Cond.methodLink RX1 11 yX5_init]
def wsX4_init : List Cond := .code yX4_init cX4_init 1 none :: ((wsX4_init_r1 ++ wsX4_init_r2) ++ wsX50 ++ wsX40 ++ wsX10)
def wsX4_clear : List Cond := .code yX4_clear cX4_clear 1 none :: ([.fieldLink RX4 14 "StrokeBoard$Log" "made" "LStrokeBoard$Row;", .fieldLink RX4 45 "StrokeBoard$Log" "total" "I", .methodLink RX4 42 yX5_fill, .instanceMethod yX5_fill, .selects RX5 yX5_fill yX5_fill, .initialized RX5, .code yX5_fill cX5_fill 3 none, .fieldLink RX5 13 "StrokeBoard$Row" "cells" "[I"] ++ wsX40 ++ wsX50)
def wsJ6_compare_7cf53 : List Cond := .code yJ6_compare_7cf53 cJ6_compare_7cf53 2 (some .int) :: ([])
def wsX4_comesAfter : List Cond := .code yX4_comesAfter cX4_comesAfter 4 (some .boolean) :: ([.fieldLink RX4 23 "StrokeBoard$Log" "times" "LStrokeBoard$Row;", .methodLink RX4 65 yX5_get, .instanceMethod yX5_get, .selects RX5 yX5_get yX5_get, .initialized RX5, .code yX5_get cX5_get 2 (some .int), .fieldLink RX5 13 "StrokeBoard$Row" "cells" "[I", .methodLink RX4 79 yJ6_compare_7cf53, .static yJ6_compare_7cf53, .initialized RJ6, .code yJ6_compare_7cf53 cJ6_compare_7cf53 2 (some .int), .static yX6_authorOf, .initialized RX6, .code yX6_authorOf cX6_authorOf 1 (some .int)] ++ wsX40 ++ wsX50)
def wsX4_insert_r1 : List Cond := [Cond.fieldLink RX4 45 "StrokeBoard$Log" "total" "I", Cond.fieldLink RX4 32 "StrokeBoard$Log" "order" "LStrokeBoard$Row;", Cond.methodLink RX4 65 yX5_get, Cond.instanceMethod yX5_get, Cond.selects RX5 yX5_get yX5_get, Cond.initialized RX5, Cond.code yX5_get cX5_get 2 (some .int), Cond.fieldLink RX5 13 "StrokeBoard$Row" "cells" "[I", Cond.methodLink RX4 75 yX4_comesAfter, Cond.instanceMethod yX4_comesAfter, Cond.selects RX4 yX4_comesAfter yX4_comesAfter, Cond.initialized RX4, Cond.code yX4_comesAfter cX4_comesAfter 4 (some .boolean), Cond.fieldLink RX4 23 "StrokeBoard$Log" "times" "LStrokeBoard$Row;", Cond.methodLink RX4 79 yJ6_compare_7cf53, Cond.static yJ6_compare_7cf53, Cond.initialized RJ6, Cond.code yJ6_compare_7cf53 cJ6_compare_7cf53 2 (some .int), Cond.static yX6_authorOf, Cond.initialized RX6, Cond.code yX6_authorOf cX6_authorOf 1 (some .int), Cond.methodLink RX4 61 yX5_set, Cond.instanceMethod yX5_set, Cond.selects RX5 yX5_set yX5_set]
def wsX4_insert_r2 : List Cond := [Cond.code yX5_set cX5_set 3 none]
def wsX4_insert : List Cond := .code yX4_insert cX4_insert 3 none :: ((wsX4_insert_r1 ++ wsX4_insert_r2) ++ wsX40 ++ wsX50)
def wsX4_addOperation_r1 : List Cond := [Cond.fieldLink RX4 14 "StrokeBoard$Log" "made" "LStrokeBoard$Row;", Cond.fieldLink RX4 23 "StrokeBoard$Log" "times" "LStrokeBoard$Row;", Cond.fieldLink RX4 20 "StrokeBoard$Log" "kinds" "LStrokeBoard$Row;", Cond.methodLink RX4 65 yX5_get, Cond.instanceMethod yX5_get, Cond.selects RX5 yX5_get yX5_get, Cond.initialized RX5, Cond.code yX5_get cX5_get 2 (some .int), Cond.fieldLink RX5 13 "StrokeBoard$Row" "cells" "[I", Cond.static yX6_idOf, Cond.initialized RX6, Cond.code yX6_idOf cX6_idOf 2 (some .int), Cond.methodLink RX4 61 yX5_set, Cond.instanceMethod yX5_set, Cond.selects RX5 yX5_set yX5_set, Cond.code yX5_set cX5_set 3 none, Cond.methodLink RX4 72 yX4_insert, Cond.instanceMethod yX4_insert, Cond.selects RX4 yX4_insert yX4_insert, Cond.initialized RX4, Cond.code yX4_insert cX4_insert 3 none, Cond.fieldLink RX4 45 "StrokeBoard$Log" "total" "I", Cond.fieldLink RX4 32 "StrokeBoard$Log" "order" "LStrokeBoard$Row;", Cond.methodLink RX4 75 yX4_comesAfter]
def wsX4_addOperation_r2 : List Cond := [Cond.instanceMethod yX4_comesAfter, Cond.selects RX4 yX4_comesAfter yX4_comesAfter, Cond.code yX4_comesAfter cX4_comesAfter 4 (some .boolean), Cond.methodLink RX4 79 yJ6_compare_7cf53, Cond.static yJ6_compare_7cf53, Cond.initialized RJ6, Cond.code yJ6_compare_7cf53 cJ6_compare_7cf53 2 (some .int), Cond.static yX6_authorOf, Cond.code yX6_authorOf cX6_authorOf 1 (some .int)]
def wsX4_addOperation : List Cond := .code yX4_addOperation cX4_addOperation 6 (some .int) :: ((wsX4_addOperation_r1 ++ wsX4_addOperation_r2) ++ wsX40 ++ wsX50)
def wsX4_addStroke_r1 : List Cond := [Cond.fieldLink RX4 38 "StrokeBoard$Log" "ink" "LStrokeBoard$Ink;", Cond.fieldLink RX4 29 "StrokeBoard$Log" "layers" "LStrokeBoard$Row;", Cond.methodLink RX4 49 yX4_addOperation, Cond.instanceMethod yX4_addOperation, Cond.selects RX4 yX4_addOperation yX4_addOperation, Cond.initialized RX4, Cond.code yX4_addOperation cX4_addOperation 6 (some .int), Cond.fieldLink RX4 14 "StrokeBoard$Log" "made" "LStrokeBoard$Row;", Cond.fieldLink RX4 23 "StrokeBoard$Log" "times" "LStrokeBoard$Row;", Cond.fieldLink RX4 20 "StrokeBoard$Log" "kinds" "LStrokeBoard$Row;", Cond.methodLink RX4 65 yX5_get, Cond.instanceMethod yX5_get, Cond.selects RX5 yX5_get yX5_get, Cond.initialized RX5, Cond.code yX5_get cX5_get 2 (some .int), Cond.fieldLink RX5 13 "StrokeBoard$Row" "cells" "[I", Cond.static yX6_idOf, Cond.initialized RX6, Cond.code yX6_idOf cX6_idOf 2 (some .int), Cond.methodLink RX4 61 yX5_set, Cond.instanceMethod yX5_set, Cond.selects RX5 yX5_set yX5_set, Cond.code yX5_set cX5_set 3 none, Cond.methodLink RX4 72 yX4_insert]
def wsX4_addStroke_r2 : List Cond := [Cond.instanceMethod yX4_insert, Cond.selects RX4 yX4_insert yX4_insert, Cond.code yX4_insert cX4_insert 3 none, Cond.fieldLink RX4 45 "StrokeBoard$Log" "total" "I", Cond.fieldLink RX4 32 "StrokeBoard$Log" "order" "LStrokeBoard$Row;", Cond.methodLink RX4 75 yX4_comesAfter, Cond.instanceMethod yX4_comesAfter, Cond.selects RX4 yX4_comesAfter yX4_comesAfter, Cond.code yX4_comesAfter cX4_comesAfter 4 (some .boolean), Cond.methodLink RX4 79 yJ6_compare_7cf53, Cond.static yJ6_compare_7cf53, Cond.initialized RJ6, Cond.code yJ6_compare_7cf53 cJ6_compare_7cf53 2 (some .int), Cond.static yX6_authorOf, Cond.code yX6_authorOf cX6_authorOf 1 (some .int), Cond.methodLink RX4 53 yX1_copyFrom, Cond.instanceMethod yX1_copyFrom, Cond.selects RX1 yX1_copyFrom yX1_copyFrom, Cond.initialized RX1, Cond.code yX1_copyFrom cX1_copyFrom 6 none, Cond.methodLink RX1 46 yX1_pointCount, Cond.instanceMethod yX1_pointCount, Cond.selects RX1 yX1_pointCount yX1_pointCount, Cond.code yX1_pointCount cX1_pointCount 2 (some .int)]
def wsX4_addStroke_r3 : List Cond := [Cond.fieldLink RX1 14 "StrokeBoard$Ink" "counts" "LStrokeBoard$Row;", Cond.methodLink RX1 42 yX5_get, Cond.methodLink RX1 49 yX1_colorOf, Cond.instanceMethod yX1_colorOf, Cond.selects RX1 yX1_colorOf yX1_colorOf, Cond.code yX1_colorOf cX1_colorOf 2 (some .int), Cond.fieldLink RX1 20 "StrokeBoard$Ink" "colors" "LStrokeBoard$Row;", Cond.methodLink RX1 52 yX1_layerOf, Cond.instanceMethod yX1_layerOf, Cond.selects RX1 yX1_layerOf yX1_layerOf, Cond.code yX1_layerOf cX1_layerOf 2 (some .int), Cond.fieldLink RX1 23 "StrokeBoard$Ink" "layers" "LStrokeBoard$Row;", Cond.methodLink RX1 55 yX1_start, Cond.instanceMethod yX1_start, Cond.selects RX1 yX1_start yX1_start, Cond.code yX1_start cX1_start 4 none, Cond.methodLink RX1 39 yX1_empty, Cond.instanceMethod yX1_empty, Cond.selects RX1 yX1_empty yX1_empty, Cond.code yX1_empty cX1_empty 2 none, Cond.methodLink RX1 35 yX5_set, Cond.methodLink RX1 59 yX1_xOf, Cond.instanceMethod yX1_xOf, Cond.selects RX1 yX1_xOf yX1_xOf]
def wsX4_addStroke_r4 : List Cond := [Cond.code yX1_xOf cX1_xOf 3 (some .int), Cond.fieldLink RX1 26 "StrokeBoard$Ink" "xs" "LStrokeBoard$Row;", Cond.methodLink RX1 63 yX1_yOf, Cond.instanceMethod yX1_yOf, Cond.selects RX1 yX1_yOf yX1_yOf, Cond.code yX1_yOf cX1_yOf 3 (some .int), Cond.fieldLink RX1 29 "StrokeBoard$Ink" "ys" "LStrokeBoard$Row;", Cond.methodLink RX1 66 yX1_addPoint, Cond.instanceMethod yX1_addPoint, Cond.selects RX1 yX1_addPoint yX1_addPoint, Cond.code yX1_addPoint cX1_addPoint 5 none, Cond.methodLink RX4 57 yX1_layerOf]
def wsX4_addStroke : List Cond := .code yX4_addStroke cX4_addStroke 5 (some .int) :: ((wsX4_addStroke_r1 ++ (wsX4_addStroke_r2 ++ (wsX4_addStroke_r3 ++ wsX4_addStroke_r4))) ++ wsX40 ++ wsX50 ++ wsX10)
def wsX4_addChange_r1 : List Cond := [Cond.fieldLink RX4 26 "StrokeBoard$Log" "targets" "LStrokeBoard$Row;", Cond.fieldLink RX4 29 "StrokeBoard$Log" "layers" "LStrokeBoard$Row;", Cond.methodLink RX4 49 yX4_addOperation, Cond.instanceMethod yX4_addOperation, Cond.selects RX4 yX4_addOperation yX4_addOperation, Cond.initialized RX4, Cond.code yX4_addOperation cX4_addOperation 6 (some .int), Cond.fieldLink RX4 14 "StrokeBoard$Log" "made" "LStrokeBoard$Row;", Cond.fieldLink RX4 23 "StrokeBoard$Log" "times" "LStrokeBoard$Row;", Cond.fieldLink RX4 20 "StrokeBoard$Log" "kinds" "LStrokeBoard$Row;", Cond.methodLink RX4 65 yX5_get, Cond.instanceMethod yX5_get, Cond.selects RX5 yX5_get yX5_get, Cond.initialized RX5, Cond.code yX5_get cX5_get 2 (some .int), Cond.fieldLink RX5 13 "StrokeBoard$Row" "cells" "[I", Cond.static yX6_idOf, Cond.initialized RX6, Cond.code yX6_idOf cX6_idOf 2 (some .int), Cond.methodLink RX4 61 yX5_set, Cond.instanceMethod yX5_set, Cond.selects RX5 yX5_set yX5_set, Cond.code yX5_set cX5_set 3 none, Cond.methodLink RX4 72 yX4_insert]
def wsX4_addChange_r2 : List Cond := [Cond.instanceMethod yX4_insert, Cond.selects RX4 yX4_insert yX4_insert, Cond.code yX4_insert cX4_insert 3 none, Cond.fieldLink RX4 45 "StrokeBoard$Log" "total" "I", Cond.fieldLink RX4 32 "StrokeBoard$Log" "order" "LStrokeBoard$Row;", Cond.methodLink RX4 75 yX4_comesAfter, Cond.instanceMethod yX4_comesAfter, Cond.selects RX4 yX4_comesAfter yX4_comesAfter, Cond.code yX4_comesAfter cX4_comesAfter 4 (some .boolean), Cond.methodLink RX4 79 yJ6_compare_7cf53, Cond.static yJ6_compare_7cf53, Cond.initialized RJ6, Cond.code yJ6_compare_7cf53 cJ6_compare_7cf53 2 (some .int), Cond.static yX6_authorOf, Cond.code yX6_authorOf cX6_authorOf 1 (some .int)]
def wsX4_addChange : List Cond := .code yX4_addChange cX4_addChange 7 (some .int) :: ((wsX4_addChange_r1 ++ wsX4_addChange_r2) ++ wsX40 ++ wsX50)
def wsX4_madeBy : List Cond := .code yX4_madeBy cX4_madeBy 2 (some .int) :: ([.fieldLink RX4 14 "StrokeBoard$Log" "made" "LStrokeBoard$Row;", .methodLink RX4 65 yX5_get, .instanceMethod yX5_get, .selects RX5 yX5_get yX5_get, .initialized RX5, .code yX5_get cX5_get 2 (some .int), .fieldLink RX5 13 "StrokeBoard$Row" "cells" "[I"] ++ wsX40 ++ wsX50)
def wsX4_timeOf : List Cond := .code yX4_timeOf cX4_timeOf 2 (some .int) :: ([.fieldLink RX4 23 "StrokeBoard$Log" "times" "LStrokeBoard$Row;", .methodLink RX4 65 yX5_get, .instanceMethod yX5_get, .selects RX5 yX5_get yX5_get, .initialized RX5, .code yX5_get cX5_get 2 (some .int), .fieldLink RX5 13 "StrokeBoard$Row" "cells" "[I"] ++ wsX40 ++ wsX50)
def wsX4_sizeOf_r1 : List Cond := [Cond.fieldLink RX4 20 "StrokeBoard$Log" "kinds" "LStrokeBoard$Row;", Cond.fieldLink RX4 38 "StrokeBoard$Log" "ink" "LStrokeBoard$Ink;", Cond.methodLink RX4 65 yX5_get, Cond.instanceMethod yX5_get, Cond.selects RX5 yX5_get yX5_get, Cond.initialized RX5, Cond.code yX5_get cX5_get 2 (some .int), Cond.fieldLink RX5 13 "StrokeBoard$Row" "cells" "[I", Cond.methodLink RX4 87 yX1_sizeOf, Cond.instanceMethod yX1_sizeOf, Cond.selects RX1 yX1_sizeOf yX1_sizeOf, Cond.initialized RX1, Cond.code yX1_sizeOf cX1_sizeOf 5 (some .int), Cond.fieldLink RX1 14 "StrokeBoard$Ink" "counts" "LStrokeBoard$Row;", Cond.methodLink RX1 42 yX5_get, Cond.methodLink RX1 59 yX1_xOf, Cond.instanceMethod yX1_xOf, Cond.selects RX1 yX1_xOf yX1_xOf, Cond.code yX1_xOf cX1_xOf 3 (some .int), Cond.fieldLink RX1 26 "StrokeBoard$Ink" "xs" "LStrokeBoard$Row;", Cond.static yX6_isWithin, Cond.initialized RX6, Cond.code yX6_isWithin cX6_isWithin 3 (some .boolean), Cond.methodLink RX1 63 yX1_yOf]
def wsX4_sizeOf_r2 : List Cond := [Cond.instanceMethod yX1_yOf, Cond.selects RX1 yX1_yOf yX1_yOf, Cond.code yX1_yOf cX1_yOf 3 (some .int), Cond.fieldLink RX1 29 "StrokeBoard$Ink" "ys" "LStrokeBoard$Row;"]
def wsX4_sizeOf : List Cond := .code yX4_sizeOf cX4_sizeOf 2 (some .int) :: ((wsX4_sizeOf_r1 ++ wsX4_sizeOf_r2) ++ wsX40 ++ wsX50 ++ wsX10)
def wsX6_init_r1 : List Cond := [Cond.methodLink RX6 3 objectInit, Cond.instanceMethod objectInit, Cond.code objectInit ⟨#[0xb1]⟩ 1 none, Cond.classLink RX6 9 RX4, Cond.instantiable RX4 8, Cond.initialized RX4, Cond.fieldLink RX6 12 "StrokeBoard" "log" "LStrokeBoard$Log;", Cond.classLink RX6 16 RX1, Cond.instantiable RX1 5, Cond.initialized RX1, Cond.fieldLink RX6 21 "StrokeBoard" "pens" "LStrokeBoard$Ink;", Cond.classLink RX6 25 RX2, Cond.instantiable RX2 1, Cond.initialized RX2, Cond.fieldLink RX6 28 "StrokeBoard" "knowledge" "LStrokeBoard$Knowledge;", Cond.fieldLink RX6 32 "StrokeBoard" "future" "LStrokeBoard$Knowledge;", Cond.classLink RX6 35 RX3, Cond.instantiable RX3 2, Cond.initialized RX3, Cond.fieldLink RX6 38 "StrokeBoard" "links" "LStrokeBoard$Links;", Cond.classLink RX6 42 RX0, Cond.instantiable RX0 4, Cond.initialized RX0, Cond.fieldLink RX6 45 "StrokeBoard" "board" "LStrokeBoard$Board;"]
def wsX6_init_r2 : List Cond := [Cond.fieldLink RX6 49 "StrokeBoard" "secondBoard" "LStrokeBoard$Board;", Cond.classLink RX6 52 RX5, Cond.instantiable RX5 1, Cond.initialized RX5, Cond.fieldLink RX6 55 "StrokeBoard" "clocks" "LStrokeBoard$Row;", Cond.fieldLink RX6 59 "StrokeBoard" "siteCount" "I", Cond.instanceMethod yX4_init, Cond.code yX4_init cX4_init 1 none, Cond.methodLink RX4 3 objectInit, Cond.classLink RX4 9 RX5, Cond.fieldLink RX4 14 "StrokeBoard$Log" "made" "LStrokeBoard$Row;", Cond.fieldLink RX4 20 "StrokeBoard$Log" "kinds" "LStrokeBoard$Row;", Cond.fieldLink RX4 23 "StrokeBoard$Log" "times" "LStrokeBoard$Row;", Cond.fieldLink RX4 26 "StrokeBoard$Log" "targets" "LStrokeBoard$Row;", Cond.fieldLink RX4 29 "StrokeBoard$Log" "layers" "LStrokeBoard$Row;", Cond.fieldLink RX4 32 "StrokeBoard$Log" "order" "LStrokeBoard$Row;", Cond.classLink RX4 35 RX1, Cond.fieldLink RX4 38 "StrokeBoard$Log" "ink" "LStrokeBoard$Ink;", Cond.methodLink RX4 11 yX5_init, Cond.instanceMethod yX5_init, Cond.code yX5_init cX5_init 2 none, Cond.methodLink RX5 1 objectInit, Cond.methodLink RX5 7 Lib.Math.max.name, Cond.static Lib.Math.max.name]
def wsX6_init_r3 : List Cond := [Cond.initialized "java/lang/Math", Cond.code Lib.Math.max.name Lib.Math.max.code 2 (some .int), Cond.arrayClass .int, Cond.fieldLink RX5 13 "StrokeBoard$Row" "cells" "[I", Cond.methodLink RX4 37 yX1_init, Cond.instanceMethod yX1_init, Cond.code yX1_init cX1_init 2 none, Cond.methodLink RX1 3 objectInit, Cond.classLink RX1 9 RX5, Cond.fieldLink RX1 14 "StrokeBoard$Ink" "counts" "LStrokeBoard$Row;", Cond.fieldLink RX1 20 "StrokeBoard$Ink" "colors" "LStrokeBoard$Row;", Cond.fieldLink RX1 23 "StrokeBoard$Ink" "layers" "LStrokeBoard$Row;", Cond.fieldLink RX1 26 "StrokeBoard$Ink" "xs" "LStrokeBoard$Row;", Cond.fieldLink RX1 29 "StrokeBoard$Ink" "ys" "LStrokeBoard$Row;", Cond.methodLink RX1 11 yX5_init, Cond.methodLink RX6 18 yX1_init, Cond.instanceMethod yX2_init, Cond.code yX2_init cX2_init 1 none, Cond.methodLink RX2 3 objectInit, Cond.classLink RX2 9 RX5, Cond.fieldLink RX2 14 "StrokeBoard$Knowledge" "known" "LStrokeBoard$Row;", Cond.methodLink RX2 11 yX5_init, Cond.instanceMethod yX3_init, Cond.code yX3_init cX3_init 1 none]
def wsX6_init_r4 : List Cond := [Cond.methodLink RX3 3 objectInit, Cond.classLink RX3 9 RX5, Cond.fieldLink RX3 14 "StrokeBoard$Links" "counts" "LStrokeBoard$Row;", Cond.fieldLink RX3 20 "StrokeBoard$Links" "messages" "LStrokeBoard$Row;", Cond.methodLink RX3 11 yX5_init, Cond.instanceMethod yX0_init, Cond.code yX0_init cX0_init 1 none, Cond.methodLink RX0 3 objectInit, Cond.classLink RX0 9 RX5, Cond.fieldLink RX0 14 "StrokeBoard$Board" "undone" "LStrokeBoard$Row;", Cond.fieldLink RX0 20 "StrokeBoard$Board" "layers" "LStrokeBoard$Row;", Cond.fieldLink RX0 23 "StrokeBoard$Board" "strokes" "LStrokeBoard$Row;", Cond.methodLink RX0 11 yX5_init, Cond.methodLink RX6 54 yX5_init]
def wsX6_init : List Cond := .code yX6_init cX6_init 1 none :: ((wsX6_init_r1 ++ (wsX6_init_r2 ++ (wsX6_init_r3 ++ wsX6_init_r4))) ++ wsX40 ++ wsX60 ++ wsX10 ++ wsX20 ++ wsX30 ++ wsX00 ++ wsX50)
def wsX6_reset_r1 : List Cond := [Cond.constant RX6 67 (-1000000001), Cond.fieldLink RX6 59 "StrokeBoard" "siteCount" "I", Cond.fieldLink RX6 12 "StrokeBoard" "log" "LStrokeBoard$Log;", Cond.fieldLink RX6 21 "StrokeBoard" "pens" "LStrokeBoard$Ink;", Cond.fieldLink RX6 28 "StrokeBoard" "knowledge" "LStrokeBoard$Knowledge;", Cond.fieldLink RX6 38 "StrokeBoard" "links" "LStrokeBoard$Links;", Cond.fieldLink RX6 55 "StrokeBoard" "clocks" "LStrokeBoard$Row;", Cond.methodLink RX6 63 yX6_isWithin, Cond.static yX6_isWithin, Cond.initialized RX6, Cond.code yX6_isWithin cX6_isWithin 3 (some .boolean), Cond.methodLink RX6 68 yX4_clear, Cond.instanceMethod yX4_clear, Cond.selects RX4 yX4_clear yX4_clear, Cond.initialized RX4, Cond.code yX4_clear cX4_clear 1 none, Cond.fieldLink RX4 14 "StrokeBoard$Log" "made" "LStrokeBoard$Row;", Cond.fieldLink RX4 45 "StrokeBoard$Log" "total" "I", Cond.methodLink RX4 42 yX5_fill, Cond.instanceMethod yX5_fill, Cond.selects RX5 yX5_fill yX5_fill, Cond.initialized RX5, Cond.code yX5_fill cX5_fill 3 none, Cond.fieldLink RX5 13 "StrokeBoard$Row" "cells" "[I"]
def wsX6_reset_r2 : List Cond := [Cond.methodLink RX6 71 yX1_clear, Cond.instanceMethod yX1_clear, Cond.selects RX1 yX1_clear yX1_clear, Cond.initialized RX1, Cond.code yX1_clear cX1_clear 1 none, Cond.fieldLink RX1 14 "StrokeBoard$Ink" "counts" "LStrokeBoard$Row;", Cond.methodLink RX1 32 yX5_fill, Cond.methodLink RX6 72 yX2_clear, Cond.instanceMethod yX2_clear, Cond.selects RX2 yX2_clear yX2_clear, Cond.initialized RX2, Cond.code yX2_clear cX2_clear 1 none, Cond.fieldLink RX2 14 "StrokeBoard$Knowledge" "known" "LStrokeBoard$Row;", Cond.methodLink RX2 20 yX5_fill, Cond.methodLink RX6 73 yX3_clear, Cond.instanceMethod yX3_clear, Cond.selects RX3 yX3_clear yX3_clear, Cond.initialized RX3, Cond.code yX3_clear cX3_clear 1 none, Cond.fieldLink RX3 14 "StrokeBoard$Links" "counts" "LStrokeBoard$Row;", Cond.methodLink RX3 23 yX5_fill, Cond.methodLink RX6 74 yX5_fill]
def wsX6_reset : List Cond := .code yX6_reset cX6_reset 3 (some .int) :: ((wsX6_reset_r1 ++ wsX6_reset_r2) ++ wsX60 ++ wsX40 ++ wsX50 ++ wsX10 ++ wsX20 ++ wsX30)
def wsX6_sites : List Cond := .code yX6_sites cX6_sites 1 (some .int) :: ([.fieldLink RX6 59 "StrokeBoard" "siteCount" "I"] ++ wsX60)
def wsX6_isSite : List Cond := .code yX6_isSite cX6_isSite 2 (some .boolean) :: ([.fieldLink RX6 59 "StrokeBoard" "siteCount" "I", .methodLink RX6 63 yX6_isWithin, .static yX6_isWithin, .initialized RX6, .code yX6_isWithin cX6_isWithin 3 (some .boolean)] ++ wsX60)
def wsX6_siteInfo_r1 : List Cond := [Cond.constant RX6 67 (-1000000001), Cond.fieldLink RX6 55 "StrokeBoard" "clocks" "LStrokeBoard$Row;", Cond.fieldLink RX6 28 "StrokeBoard" "knowledge" "LStrokeBoard$Knowledge;", Cond.fieldLink RX6 12 "StrokeBoard" "log" "LStrokeBoard$Log;", Cond.fieldLink RX6 45 "StrokeBoard" "board" "LStrokeBoard$Board;", Cond.fieldLink RX6 21 "StrokeBoard" "pens" "LStrokeBoard$Ink;", Cond.methodLink RX6 78 yX6_isSite, Cond.instanceMethod yX6_isSite, Cond.selects RX6 yX6_isSite yX6_isSite, Cond.initialized RX6, Cond.code yX6_isSite cX6_isSite 2 (some .boolean), Cond.fieldLink RX6 59 "StrokeBoard" "siteCount" "I", Cond.methodLink RX6 63 yX6_isWithin, Cond.static yX6_isWithin, Cond.code yX6_isWithin cX6_isWithin 3 (some .boolean), Cond.methodLink RX6 82 yX5_get, Cond.instanceMethod yX5_get, Cond.selects RX5 yX5_get yX5_get, Cond.initialized RX5, Cond.code yX5_get cX5_get 2 (some .int), Cond.fieldLink RX5 13 "StrokeBoard$Row" "cells" "[I", Cond.methodLink RX6 86 yX2_countOf, Cond.instanceMethod yX2_countOf, Cond.selects RX2 yX2_countOf yX2_countOf]
def wsX6_siteInfo_r2 : List Cond := [Cond.initialized RX2, Cond.code yX2_countOf cX2_countOf 4 (some .int), Cond.methodLink RX2 35 yX2_has, Cond.instanceMethod yX2_has, Cond.selects RX2 yX2_has yX2_has, Cond.code yX2_has cX2_has 3 (some .boolean), Cond.fieldLink RX2 14 "StrokeBoard$Knowledge" "known" "LStrokeBoard$Row;", Cond.methodLink RX2 31 yX5_get, Cond.methodLink RX6 89 yX4_madeBy, Cond.instanceMethod yX4_madeBy, Cond.selects RX4 yX4_madeBy yX4_madeBy, Cond.initialized RX4, Cond.code yX4_madeBy cX4_madeBy 2 (some .int), Cond.fieldLink RX4 14 "StrokeBoard$Log" "made" "LStrokeBoard$Row;", Cond.methodLink RX4 65 yX5_get, Cond.methodLink RX6 92 yX0_show, Cond.instanceMethod yX0_show, Cond.selects RX0 yX0_show yX0_show, Cond.initialized RX0, Cond.code yX0_show cX0_show 7 none, Cond.fieldLink RX0 14 "StrokeBoard$Board" "undone" "LStrokeBoard$Row;", Cond.fieldLink RX0 20 "StrokeBoard$Board" "layers" "LStrokeBoard$Row;", Cond.fieldLink RX0 40 "StrokeBoard$Board" "count" "I", Cond.methodLink RX0 26 yX4_totalCount]
def wsX6_siteInfo_r3 : List Cond := [Cond.instanceMethod yX4_totalCount, Cond.selects RX4 yX4_totalCount yX4_totalCount, Cond.code yX4_totalCount cX4_totalCount 1 (some .int), Cond.fieldLink RX4 45 "StrokeBoard$Log" "total" "I", Cond.methodLink RX0 32 yX5_fill, Cond.instanceMethod yX5_fill, Cond.selects RX5 yX5_fill yX5_fill, Cond.code yX5_fill cX5_fill 3 none, Cond.methodLink RX0 36 yX5_copyFrom, Cond.instanceMethod yX5_copyFrom, Cond.selects RX5 yX5_copyFrom yX5_copyFrom, Cond.code yX5_copyFrom cX5_copyFrom 3 none, Cond.methodLink RX5 19 yX5_get, Cond.methodLink RX0 44 yX4_inOrder, Cond.instanceMethod yX4_inOrder, Cond.selects RX4 yX4_inOrder yX4_inOrder, Cond.code yX4_inOrder cX4_inOrder 2 (some .int), Cond.fieldLink RX4 32 "StrokeBoard$Log" "order" "LStrokeBoard$Row;", Cond.methodLink RX0 48 yX2_has, Cond.methodLink RX0 54 yX0_apply, Cond.instanceMethod yX0_apply, Cond.selects RX0 yX0_apply yX0_apply, Cond.code yX0_apply cX0_apply 4 none, Cond.methodLink RX0 62 yX4_targetOf]
def wsX6_siteInfo_r4 : List Cond := [Cond.instanceMethod yX4_targetOf, Cond.selects RX4 yX4_targetOf yX4_targetOf, Cond.code yX4_targetOf cX4_targetOf 2 (some .int), Cond.fieldLink RX4 26 "StrokeBoard$Log" "targets" "LStrokeBoard$Row;", Cond.methodLink RX0 65 yX4_kindOf, Cond.instanceMethod yX4_kindOf, Cond.selects RX4 yX4_kindOf yX4_kindOf, Cond.code yX4_kindOf cX4_kindOf 2 (some .int), Cond.fieldLink RX4 20 "StrokeBoard$Log" "kinds" "LStrokeBoard$Row;", Cond.methodLink RX0 68 yX5_set, Cond.instanceMethod yX5_set, Cond.selects RX5 yX5_set yX5_set, Cond.code yX5_set cX5_set 3 none, Cond.methodLink RX0 72 yX4_layerOf, Cond.instanceMethod yX4_layerOf, Cond.selects RX4 yX4_layerOf yX4_layerOf, Cond.code yX4_layerOf cX4_layerOf 2 (some .int), Cond.fieldLink RX4 29 "StrokeBoard$Log" "layers" "LStrokeBoard$Row;", Cond.methodLink RX0 58 yX0_collect, Cond.instanceMethod yX0_collect, Cond.selects RX0 yX0_collect yX0_collect, Cond.code yX0_collect cX0_collect 8 none, Cond.fieldLink RX0 23 "StrokeBoard$Board" "strokes" "LStrokeBoard$Row;", Cond.methodLink RX0 75 yX4_isStroke]
def wsX6_siteInfo_r5 : List Cond := [Cond.instanceMethod yX4_isStroke, Cond.selects RX4 yX4_isStroke yX4_isStroke, Cond.code yX4_isStroke cX4_isStroke 2 (some .boolean), Cond.methodLink RX0 79 yX5_get, Cond.methodLink RX0 82 yX0_isUndone, Cond.instanceMethod yX0_isUndone, Cond.selects RX0 yX0_isUndone yX0_isUndone, Cond.code yX0_isUndone cX0_isUndone 2 (some .boolean), Cond.methodLink RX6 96 yX0_strokeCount, Cond.instanceMethod yX0_strokeCount, Cond.selects RX0 yX0_strokeCount yX0_strokeCount, Cond.code yX0_strokeCount cX0_strokeCount 1 (some .int), Cond.methodLink RX6 100 yX1_pointCount, Cond.instanceMethod yX1_pointCount, Cond.selects RX1 yX1_pointCount yX1_pointCount, Cond.initialized RX1, Cond.code yX1_pointCount cX1_pointCount 2 (some .int), Cond.fieldLink RX1 14 "StrokeBoard$Ink" "counts" "LStrokeBoard$Row;", Cond.methodLink RX1 42 yX5_get]
def wsX6_siteInfo : List Cond := .code yX6_siteInfo cX6_siteInfo 3 (some .int) :: ((wsX6_siteInfo_r1 ++ (wsX6_siteInfo_r2 ++ (wsX6_siteInfo_r3 ++ (wsX6_siteInfo_r4 ++ wsX6_siteInfo_r5)))) ++ wsX60 ++ wsX50 ++ wsX20 ++ wsX40 ++ wsX00 ++ wsX10)
def wsX6_penDown_r1 : List Cond := [Cond.constant RX6 67 (-1000000001), Cond.fieldLink RX6 21 "StrokeBoard" "pens" "LStrokeBoard$Ink;", Cond.methodLink RX6 78 yX6_isSite, Cond.instanceMethod yX6_isSite, Cond.selects RX6 yX6_isSite yX6_isSite, Cond.initialized RX6, Cond.code yX6_isSite cX6_isSite 2 (some .boolean), Cond.fieldLink RX6 59 "StrokeBoard" "siteCount" "I", Cond.methodLink RX6 63 yX6_isWithin, Cond.static yX6_isWithin, Cond.code yX6_isWithin cX6_isWithin 3 (some .boolean), Cond.methodLink RX6 103 yX1_start, Cond.instanceMethod yX1_start, Cond.selects RX1 yX1_start yX1_start, Cond.initialized RX1, Cond.code yX1_start cX1_start 4 none, Cond.fieldLink RX1 20 "StrokeBoard$Ink" "colors" "LStrokeBoard$Row;", Cond.fieldLink RX1 23 "StrokeBoard$Ink" "layers" "LStrokeBoard$Row;", Cond.methodLink RX1 39 yX1_empty, Cond.instanceMethod yX1_empty, Cond.selects RX1 yX1_empty yX1_empty, Cond.code yX1_empty cX1_empty 2 none, Cond.fieldLink RX1 14 "StrokeBoard$Ink" "counts" "LStrokeBoard$Row;", Cond.methodLink RX1 35 yX5_set]
def wsX6_penDown_r2 : List Cond := [Cond.instanceMethod yX5_set, Cond.selects RX5 yX5_set yX5_set, Cond.initialized RX5, Cond.code yX5_set cX5_set 3 none, Cond.fieldLink RX5 13 "StrokeBoard$Row" "cells" "[I", Cond.methodLink RX6 107 yX1_addPoint, Cond.instanceMethod yX1_addPoint, Cond.selects RX1 yX1_addPoint yX1_addPoint, Cond.code yX1_addPoint cX1_addPoint 5 none, Cond.fieldLink RX1 26 "StrokeBoard$Ink" "xs" "LStrokeBoard$Row;", Cond.fieldLink RX1 29 "StrokeBoard$Ink" "ys" "LStrokeBoard$Row;", Cond.methodLink RX1 42 yX5_get, Cond.instanceMethod yX5_get, Cond.selects RX5 yX5_get yX5_get, Cond.code yX5_get cX5_get 2 (some .int), Cond.methodLink RX6 100 yX1_pointCount, Cond.instanceMethod yX1_pointCount, Cond.selects RX1 yX1_pointCount yX1_pointCount, Cond.code yX1_pointCount cX1_pointCount 2 (some .int)]
def wsX6_penDown : List Cond := .code yX6_penDown cX6_penDown 6 (some .int) :: ((wsX6_penDown_r1 ++ wsX6_penDown_r2) ++ wsX60 ++ wsX10 ++ wsX50)
def wsX6_penMove_r1 : List Cond := [Cond.constant RX6 67 (-1000000001), Cond.fieldLink RX6 21 "StrokeBoard" "pens" "LStrokeBoard$Ink;", Cond.constant RX6 110 (-1000000002), Cond.constant RX6 77 (-1000000003), Cond.methodLink RX6 78 yX6_isSite, Cond.instanceMethod yX6_isSite, Cond.selects RX6 yX6_isSite yX6_isSite, Cond.initialized RX6, Cond.code yX6_isSite cX6_isSite 2 (some .boolean), Cond.fieldLink RX6 59 "StrokeBoard" "siteCount" "I", Cond.methodLink RX6 63 yX6_isWithin, Cond.static yX6_isWithin, Cond.code yX6_isWithin cX6_isWithin 3 (some .boolean), Cond.methodLink RX6 100 yX1_pointCount, Cond.instanceMethod yX1_pointCount, Cond.selects RX1 yX1_pointCount yX1_pointCount, Cond.initialized RX1, Cond.code yX1_pointCount cX1_pointCount 2 (some .int), Cond.fieldLink RX1 14 "StrokeBoard$Ink" "counts" "LStrokeBoard$Row;", Cond.methodLink RX1 42 yX5_get, Cond.instanceMethod yX5_get, Cond.selects RX5 yX5_get yX5_get, Cond.initialized RX5, Cond.code yX5_get cX5_get 2 (some .int)]
def wsX6_penMove_r2 : List Cond := [Cond.fieldLink RX5 13 "StrokeBoard$Row" "cells" "[I", Cond.methodLink RX6 111 yX1_xOf, Cond.instanceMethod yX1_xOf, Cond.selects RX1 yX1_xOf yX1_xOf, Cond.code yX1_xOf cX1_xOf 3 (some .int), Cond.fieldLink RX1 26 "StrokeBoard$Ink" "xs" "LStrokeBoard$Row;", Cond.methodLink RX6 115 yX1_yOf, Cond.instanceMethod yX1_yOf, Cond.selects RX1 yX1_yOf yX1_yOf, Cond.code yX1_yOf cX1_yOf 3 (some .int), Cond.fieldLink RX1 29 "StrokeBoard$Ink" "ys" "LStrokeBoard$Row;", Cond.methodLink RX6 107 yX1_addPoint, Cond.instanceMethod yX1_addPoint, Cond.selects RX1 yX1_addPoint yX1_addPoint, Cond.code yX1_addPoint cX1_addPoint 5 none, Cond.methodLink RX1 35 yX5_set, Cond.instanceMethod yX5_set, Cond.selects RX5 yX5_set yX5_set, Cond.code yX5_set cX5_set 3 none]
def wsX6_penMove : List Cond := .code yX6_penMove cX6_penMove 5 (some .int) :: ((wsX6_penMove_r1 ++ wsX6_penMove_r2) ++ wsX60 ++ wsX10 ++ wsX50)
def wsX6_hasMadeAll : List Cond := .code yX6_hasMadeAll cX6_hasMadeAll 2 (some .boolean) :: ([.fieldLink RX6 12 "StrokeBoard" "log" "LStrokeBoard$Log;", .methodLink RX6 89 yX4_madeBy, .instanceMethod yX4_madeBy, .selects RX4 yX4_madeBy yX4_madeBy, .initialized RX4, .code yX4_madeBy cX4_madeBy 2 (some .int), .fieldLink RX4 14 "StrokeBoard$Log" "made" "LStrokeBoard$Row;", .methodLink RX4 65 yX5_get, .instanceMethod yX5_get, .selects RX5 yX5_get yX5_get, .initialized RX5, .code yX5_get cX5_get 2 (some .int), .fieldLink RX5 13 "StrokeBoard$Row" "cells" "[I"] ++ wsX60 ++ wsX40 ++ wsX50)
def wsX6_tick : List Cond := .code yX6_tick cX6_tick 2 (some .int) :: ([.fieldLink RX6 55 "StrokeBoard" "clocks" "LStrokeBoard$Row;", .methodLink RX6 82 yX5_get, .instanceMethod yX5_get, .selects RX5 yX5_get yX5_get, .initialized RX5, .code yX5_get cX5_get 2 (some .int), .fieldLink RX5 13 "StrokeBoard$Row" "cells" "[I", .methodLink RX6 195 yX5_set, .instanceMethod yX5_set, .selects RX5 yX5_set yX5_set, .code yX5_set cX5_set 3 none] ++ wsX60 ++ wsX50)
def wsX6_publish_r1 : List Cond := [Cond.fieldLink RX6 28 "StrokeBoard" "knowledge" "LStrokeBoard$Knowledge;", Cond.fieldLink RX6 59 "StrokeBoard" "siteCount" "I", Cond.fieldLink RX6 38 "StrokeBoard" "links" "LStrokeBoard$Links;", Cond.methodLink RX6 245 yX2_learn, Cond.instanceMethod yX2_learn, Cond.selects RX2 yX2_learn yX2_learn, Cond.initialized RX2, Cond.code yX2_learn cX2_learn 3 none, Cond.fieldLink RX2 14 "StrokeBoard$Knowledge" "known" "LStrokeBoard$Row;", Cond.methodLink RX2 27 yX5_set, Cond.instanceMethod yX5_set, Cond.selects RX5 yX5_set yX5_set, Cond.initialized RX5, Cond.code yX5_set cX5_set 3 none, Cond.fieldLink RX5 13 "StrokeBoard$Row" "cells" "[I", Cond.methodLink RX6 248 yX3_send, Cond.instanceMethod yX3_send, Cond.selects RX3 yX3_send yX3_send, Cond.initialized RX3, Cond.code yX3_send cX3_send 6 none, Cond.fieldLink RX3 14 "StrokeBoard$Links" "counts" "LStrokeBoard$Row;", Cond.fieldLink RX3 20 "StrokeBoard$Links" "messages" "LStrokeBoard$Row;", Cond.methodLink RX3 26 yX5_get, Cond.instanceMethod yX5_get]
def wsX6_publish_r2 : List Cond := [Cond.selects RX5 yX5_get yX5_get, Cond.code yX5_get cX5_get 2 (some .int), Cond.methodLink RX3 30 yX5_set]
def wsX6_publish : List Cond := .code yX6_publish cX6_publish 4 none :: ((wsX6_publish_r1 ++ wsX6_publish_r2) ++ wsX60 ++ wsX20 ++ wsX50 ++ wsX30)
def wsX6_penUp_r1 : List Cond := [Cond.constant RX6 67 (-1000000001), Cond.fieldLink RX6 21 "StrokeBoard" "pens" "LStrokeBoard$Ink;", Cond.constant RX6 110 (-1000000002), Cond.constant RX6 77 (-1000000003), Cond.fieldLink RX6 12 "StrokeBoard" "log" "LStrokeBoard$Log;", Cond.methodLink RX6 78 yX6_isSite, Cond.instanceMethod yX6_isSite, Cond.selects RX6 yX6_isSite yX6_isSite, Cond.initialized RX6, Cond.code yX6_isSite cX6_isSite 2 (some .boolean), Cond.fieldLink RX6 59 "StrokeBoard" "siteCount" "I", Cond.methodLink RX6 63 yX6_isWithin, Cond.static yX6_isWithin, Cond.code yX6_isWithin cX6_isWithin 3 (some .boolean), Cond.methodLink RX6 100 yX1_pointCount, Cond.instanceMethod yX1_pointCount, Cond.selects RX1 yX1_pointCount yX1_pointCount, Cond.initialized RX1, Cond.code yX1_pointCount cX1_pointCount 2 (some .int), Cond.fieldLink RX1 14 "StrokeBoard$Ink" "counts" "LStrokeBoard$Row;", Cond.methodLink RX1 42 yX5_get, Cond.instanceMethod yX5_get, Cond.selects RX5 yX5_get yX5_get, Cond.initialized RX5]
def wsX6_penUp_r2 : List Cond := [Cond.code yX5_get cX5_get 2 (some .int), Cond.fieldLink RX5 13 "StrokeBoard$Row" "cells" "[I", Cond.methodLink RX6 118 yX6_hasMadeAll, Cond.instanceMethod yX6_hasMadeAll, Cond.selects RX6 yX6_hasMadeAll yX6_hasMadeAll, Cond.code yX6_hasMadeAll cX6_hasMadeAll 2 (some .boolean), Cond.methodLink RX6 89 yX4_madeBy, Cond.instanceMethod yX4_madeBy, Cond.selects RX4 yX4_madeBy yX4_madeBy, Cond.initialized RX4, Cond.code yX4_madeBy cX4_madeBy 2 (some .int), Cond.fieldLink RX4 14 "StrokeBoard$Log" "made" "LStrokeBoard$Row;", Cond.methodLink RX4 65 yX5_get, Cond.methodLink RX6 121 yX6_tick, Cond.instanceMethod yX6_tick, Cond.selects RX6 yX6_tick yX6_tick, Cond.code yX6_tick cX6_tick 2 (some .int), Cond.fieldLink RX6 55 "StrokeBoard" "clocks" "LStrokeBoard$Row;", Cond.methodLink RX6 82 yX5_get, Cond.methodLink RX6 195 yX5_set, Cond.instanceMethod yX5_set, Cond.selects RX5 yX5_set yX5_set, Cond.code yX5_set cX5_set 3 none, Cond.methodLink RX6 124 yX4_addStroke]
def wsX6_penUp_r3 : List Cond := [Cond.instanceMethod yX4_addStroke, Cond.selects RX4 yX4_addStroke yX4_addStroke, Cond.code yX4_addStroke cX4_addStroke 5 (some .int), Cond.fieldLink RX4 38 "StrokeBoard$Log" "ink" "LStrokeBoard$Ink;", Cond.fieldLink RX4 29 "StrokeBoard$Log" "layers" "LStrokeBoard$Row;", Cond.methodLink RX4 49 yX4_addOperation, Cond.instanceMethod yX4_addOperation, Cond.selects RX4 yX4_addOperation yX4_addOperation, Cond.code yX4_addOperation cX4_addOperation 6 (some .int), Cond.fieldLink RX4 23 "StrokeBoard$Log" "times" "LStrokeBoard$Row;", Cond.fieldLink RX4 20 "StrokeBoard$Log" "kinds" "LStrokeBoard$Row;", Cond.static yX6_idOf, Cond.code yX6_idOf cX6_idOf 2 (some .int), Cond.methodLink RX4 61 yX5_set, Cond.methodLink RX4 72 yX4_insert, Cond.instanceMethod yX4_insert, Cond.selects RX4 yX4_insert yX4_insert, Cond.code yX4_insert cX4_insert 3 none, Cond.fieldLink RX4 45 "StrokeBoard$Log" "total" "I", Cond.fieldLink RX4 32 "StrokeBoard$Log" "order" "LStrokeBoard$Row;", Cond.methodLink RX4 75 yX4_comesAfter, Cond.instanceMethod yX4_comesAfter, Cond.selects RX4 yX4_comesAfter yX4_comesAfter, Cond.code yX4_comesAfter cX4_comesAfter 4 (some .boolean)]
def wsX6_penUp_r4 : List Cond := [Cond.methodLink RX4 79 yJ6_compare_7cf53, Cond.static yJ6_compare_7cf53, Cond.initialized RJ6, Cond.code yJ6_compare_7cf53 cJ6_compare_7cf53 2 (some .int), Cond.static yX6_authorOf, Cond.code yX6_authorOf cX6_authorOf 1 (some .int), Cond.methodLink RX4 53 yX1_copyFrom, Cond.instanceMethod yX1_copyFrom, Cond.selects RX1 yX1_copyFrom yX1_copyFrom, Cond.code yX1_copyFrom cX1_copyFrom 6 none, Cond.methodLink RX1 46 yX1_pointCount, Cond.methodLink RX1 49 yX1_colorOf, Cond.instanceMethod yX1_colorOf, Cond.selects RX1 yX1_colorOf yX1_colorOf, Cond.code yX1_colorOf cX1_colorOf 2 (some .int), Cond.fieldLink RX1 20 "StrokeBoard$Ink" "colors" "LStrokeBoard$Row;", Cond.methodLink RX1 52 yX1_layerOf, Cond.instanceMethod yX1_layerOf, Cond.selects RX1 yX1_layerOf yX1_layerOf, Cond.code yX1_layerOf cX1_layerOf 2 (some .int), Cond.fieldLink RX1 23 "StrokeBoard$Ink" "layers" "LStrokeBoard$Row;", Cond.methodLink RX1 55 yX1_start, Cond.instanceMethod yX1_start, Cond.selects RX1 yX1_start yX1_start]
def wsX6_penUp_r5 : List Cond := [Cond.code yX1_start cX1_start 4 none, Cond.methodLink RX1 39 yX1_empty, Cond.instanceMethod yX1_empty, Cond.selects RX1 yX1_empty yX1_empty, Cond.code yX1_empty cX1_empty 2 none, Cond.methodLink RX1 35 yX5_set, Cond.methodLink RX1 59 yX1_xOf, Cond.instanceMethod yX1_xOf, Cond.selects RX1 yX1_xOf yX1_xOf, Cond.code yX1_xOf cX1_xOf 3 (some .int), Cond.fieldLink RX1 26 "StrokeBoard$Ink" "xs" "LStrokeBoard$Row;", Cond.methodLink RX1 63 yX1_yOf, Cond.instanceMethod yX1_yOf, Cond.selects RX1 yX1_yOf yX1_yOf, Cond.code yX1_yOf cX1_yOf 3 (some .int), Cond.fieldLink RX1 29 "StrokeBoard$Ink" "ys" "LStrokeBoard$Row;", Cond.methodLink RX1 66 yX1_addPoint, Cond.instanceMethod yX1_addPoint, Cond.selects RX1 yX1_addPoint yX1_addPoint, Cond.code yX1_addPoint cX1_addPoint 5 none, Cond.methodLink RX4 57 yX1_layerOf, Cond.methodLink RX6 128 yX1_empty, Cond.methodLink RX6 131 yX6_publish, Cond.instanceMethod yX6_publish]
def wsX6_penUp_r6 : List Cond := [Cond.selects RX6 yX6_publish yX6_publish, Cond.code yX6_publish cX6_publish 4 none, Cond.fieldLink RX6 28 "StrokeBoard" "knowledge" "LStrokeBoard$Knowledge;", Cond.fieldLink RX6 38 "StrokeBoard" "links" "LStrokeBoard$Links;", Cond.methodLink RX6 245 yX2_learn, Cond.instanceMethod yX2_learn, Cond.selects RX2 yX2_learn yX2_learn, Cond.initialized RX2, Cond.code yX2_learn cX2_learn 3 none, Cond.fieldLink RX2 14 "StrokeBoard$Knowledge" "known" "LStrokeBoard$Row;", Cond.methodLink RX2 27 yX5_set, Cond.methodLink RX6 248 yX3_send, Cond.instanceMethod yX3_send, Cond.selects RX3 yX3_send yX3_send, Cond.initialized RX3, Cond.code yX3_send cX3_send 6 none, Cond.fieldLink RX3 14 "StrokeBoard$Links" "counts" "LStrokeBoard$Row;", Cond.fieldLink RX3 20 "StrokeBoard$Links" "messages" "LStrokeBoard$Row;", Cond.methodLink RX3 26 yX5_get, Cond.methodLink RX3 30 yX5_set, Cond.methodLink RX6 135 yX6_numberOf, Cond.static yX6_numberOf, Cond.code yX6_numberOf cX6_numberOf 1 (some .int)]
def wsX6_penUp : List Cond := .code yX6_penUp cX6_penUp 3 (some .int) :: ((wsX6_penUp_r1 ++ (wsX6_penUp_r2 ++ (wsX6_penUp_r3 ++ (wsX6_penUp_r4 ++ (wsX6_penUp_r5 ++ wsX6_penUp_r6))))) ++ wsX60 ++ wsX10 ++ wsX50 ++ wsX40 ++ wsX20 ++ wsX30)
def wsX6_lastVisibleOwn_r1 : List Cond := [Cond.fieldLink RX6 45 "StrokeBoard" "board" "LStrokeBoard$Board;", Cond.fieldLink RX6 12 "StrokeBoard" "log" "LStrokeBoard$Log;", Cond.fieldLink RX6 28 "StrokeBoard" "knowledge" "LStrokeBoard$Knowledge;", Cond.methodLink RX6 92 yX0_show, Cond.instanceMethod yX0_show, Cond.selects RX0 yX0_show yX0_show, Cond.initialized RX0, Cond.code yX0_show cX0_show 7 none, Cond.fieldLink RX0 14 "StrokeBoard$Board" "undone" "LStrokeBoard$Row;", Cond.fieldLink RX0 20 "StrokeBoard$Board" "layers" "LStrokeBoard$Row;", Cond.fieldLink RX0 40 "StrokeBoard$Board" "count" "I", Cond.methodLink RX0 26 yX4_totalCount, Cond.instanceMethod yX4_totalCount, Cond.selects RX4 yX4_totalCount yX4_totalCount, Cond.initialized RX4, Cond.code yX4_totalCount cX4_totalCount 1 (some .int), Cond.fieldLink RX4 45 "StrokeBoard$Log" "total" "I", Cond.methodLink RX0 32 yX5_fill, Cond.instanceMethod yX5_fill, Cond.selects RX5 yX5_fill yX5_fill, Cond.initialized RX5, Cond.code yX5_fill cX5_fill 3 none, Cond.fieldLink RX5 13 "StrokeBoard$Row" "cells" "[I", Cond.methodLink RX0 36 yX5_copyFrom]
def wsX6_lastVisibleOwn_r2 : List Cond := [Cond.instanceMethod yX5_copyFrom, Cond.selects RX5 yX5_copyFrom yX5_copyFrom, Cond.code yX5_copyFrom cX5_copyFrom 3 none, Cond.methodLink RX5 19 yX5_get, Cond.instanceMethod yX5_get, Cond.selects RX5 yX5_get yX5_get, Cond.code yX5_get cX5_get 2 (some .int), Cond.methodLink RX0 44 yX4_inOrder, Cond.instanceMethod yX4_inOrder, Cond.selects RX4 yX4_inOrder yX4_inOrder, Cond.code yX4_inOrder cX4_inOrder 2 (some .int), Cond.fieldLink RX4 32 "StrokeBoard$Log" "order" "LStrokeBoard$Row;", Cond.methodLink RX4 65 yX5_get, Cond.methodLink RX0 48 yX2_has, Cond.instanceMethod yX2_has, Cond.selects RX2 yX2_has yX2_has, Cond.initialized RX2, Cond.code yX2_has cX2_has 3 (some .boolean), Cond.fieldLink RX2 14 "StrokeBoard$Knowledge" "known" "LStrokeBoard$Row;", Cond.methodLink RX2 31 yX5_get, Cond.methodLink RX0 54 yX0_apply, Cond.instanceMethod yX0_apply, Cond.selects RX0 yX0_apply yX0_apply, Cond.code yX0_apply cX0_apply 4 none]
def wsX6_lastVisibleOwn_r3 : List Cond := [Cond.methodLink RX0 62 yX4_targetOf, Cond.instanceMethod yX4_targetOf, Cond.selects RX4 yX4_targetOf yX4_targetOf, Cond.code yX4_targetOf cX4_targetOf 2 (some .int), Cond.fieldLink RX4 26 "StrokeBoard$Log" "targets" "LStrokeBoard$Row;", Cond.methodLink RX0 65 yX4_kindOf, Cond.instanceMethod yX4_kindOf, Cond.selects RX4 yX4_kindOf yX4_kindOf, Cond.code yX4_kindOf cX4_kindOf 2 (some .int), Cond.fieldLink RX4 20 "StrokeBoard$Log" "kinds" "LStrokeBoard$Row;", Cond.methodLink RX0 68 yX5_set, Cond.instanceMethod yX5_set, Cond.selects RX5 yX5_set yX5_set, Cond.code yX5_set cX5_set 3 none, Cond.methodLink RX0 72 yX4_layerOf, Cond.instanceMethod yX4_layerOf, Cond.selects RX4 yX4_layerOf yX4_layerOf, Cond.code yX4_layerOf cX4_layerOf 2 (some .int), Cond.fieldLink RX4 29 "StrokeBoard$Log" "layers" "LStrokeBoard$Row;", Cond.methodLink RX0 58 yX0_collect, Cond.instanceMethod yX0_collect, Cond.selects RX0 yX0_collect yX0_collect, Cond.code yX0_collect cX0_collect 8 none, Cond.fieldLink RX0 23 "StrokeBoard$Board" "strokes" "LStrokeBoard$Row;"]
def wsX6_lastVisibleOwn_r4 : List Cond := [Cond.methodLink RX0 75 yX4_isStroke, Cond.instanceMethod yX4_isStroke, Cond.selects RX4 yX4_isStroke yX4_isStroke, Cond.code yX4_isStroke cX4_isStroke 2 (some .boolean), Cond.methodLink RX0 79 yX5_get, Cond.methodLink RX0 82 yX0_isUndone, Cond.instanceMethod yX0_isUndone, Cond.selects RX0 yX0_isUndone yX0_isUndone, Cond.code yX0_isUndone cX0_isUndone 2 (some .boolean), Cond.methodLink RX6 89 yX4_madeBy, Cond.instanceMethod yX4_madeBy, Cond.selects RX4 yX4_madeBy yX4_madeBy, Cond.code yX4_madeBy cX4_madeBy 2 (some .int), Cond.fieldLink RX4 14 "StrokeBoard$Log" "made" "LStrokeBoard$Row;", Cond.methodLink RX6 178 yX6_idOf, Cond.static yX6_idOf, Cond.initialized RX6, Cond.code yX6_idOf cX6_idOf 2 (some .int), Cond.methodLink RX6 204 yX4_isStroke, Cond.methodLink RX6 251 yX0_isUndone]
def wsX6_lastVisibleOwn : List Cond := .code yX6_lastVisibleOwn cX6_lastVisibleOwn 4 (some .int) :: ((wsX6_lastVisibleOwn_r1 ++ (wsX6_lastVisibleOwn_r2 ++ (wsX6_lastVisibleOwn_r3 ++ wsX6_lastVisibleOwn_r4))) ++ wsX60 ++ wsX00 ++ wsX40 ++ wsX50 ++ wsX20)
def wsX6_changeOwn_r1 : List Cond := [Cond.constant RX6 110 (-1000000002), Cond.constant RX6 77 (-1000000003), Cond.fieldLink RX6 12 "StrokeBoard" "log" "LStrokeBoard$Log;", Cond.methodLink RX6 118 yX6_hasMadeAll, Cond.instanceMethod yX6_hasMadeAll, Cond.selects RX6 yX6_hasMadeAll yX6_hasMadeAll, Cond.initialized RX6, Cond.code yX6_hasMadeAll cX6_hasMadeAll 2 (some .boolean), Cond.methodLink RX6 89 yX4_madeBy, Cond.instanceMethod yX4_madeBy, Cond.selects RX4 yX4_madeBy yX4_madeBy, Cond.initialized RX4, Cond.code yX4_madeBy cX4_madeBy 2 (some .int), Cond.fieldLink RX4 14 "StrokeBoard$Log" "made" "LStrokeBoard$Row;", Cond.methodLink RX4 65 yX5_get, Cond.instanceMethod yX5_get, Cond.selects RX5 yX5_get yX5_get, Cond.initialized RX5, Cond.code yX5_get cX5_get 2 (some .int), Cond.fieldLink RX5 13 "StrokeBoard$Row" "cells" "[I", Cond.methodLink RX6 121 yX6_tick, Cond.instanceMethod yX6_tick, Cond.selects RX6 yX6_tick yX6_tick, Cond.code yX6_tick cX6_tick 2 (some .int)]
def wsX6_changeOwn_r2 : List Cond := [Cond.fieldLink RX6 55 "StrokeBoard" "clocks" "LStrokeBoard$Row;", Cond.methodLink RX6 82 yX5_get, Cond.methodLink RX6 195 yX5_set, Cond.instanceMethod yX5_set, Cond.selects RX5 yX5_set yX5_set, Cond.code yX5_set cX5_set 3 none, Cond.methodLink RX6 151 yX4_addChange, Cond.instanceMethod yX4_addChange, Cond.selects RX4 yX4_addChange yX4_addChange, Cond.code yX4_addChange cX4_addChange 7 (some .int), Cond.fieldLink RX4 26 "StrokeBoard$Log" "targets" "LStrokeBoard$Row;", Cond.fieldLink RX4 29 "StrokeBoard$Log" "layers" "LStrokeBoard$Row;", Cond.methodLink RX4 49 yX4_addOperation, Cond.instanceMethod yX4_addOperation, Cond.selects RX4 yX4_addOperation yX4_addOperation, Cond.code yX4_addOperation cX4_addOperation 6 (some .int), Cond.fieldLink RX4 23 "StrokeBoard$Log" "times" "LStrokeBoard$Row;", Cond.fieldLink RX4 20 "StrokeBoard$Log" "kinds" "LStrokeBoard$Row;", Cond.static yX6_idOf, Cond.code yX6_idOf cX6_idOf 2 (some .int), Cond.methodLink RX4 61 yX5_set, Cond.methodLink RX4 72 yX4_insert, Cond.instanceMethod yX4_insert, Cond.selects RX4 yX4_insert yX4_insert]
def wsX6_changeOwn_r3 : List Cond := [Cond.code yX4_insert cX4_insert 3 none, Cond.fieldLink RX4 45 "StrokeBoard$Log" "total" "I", Cond.fieldLink RX4 32 "StrokeBoard$Log" "order" "LStrokeBoard$Row;", Cond.methodLink RX4 75 yX4_comesAfter, Cond.instanceMethod yX4_comesAfter, Cond.selects RX4 yX4_comesAfter yX4_comesAfter, Cond.code yX4_comesAfter cX4_comesAfter 4 (some .boolean), Cond.methodLink RX4 79 yJ6_compare_7cf53, Cond.static yJ6_compare_7cf53, Cond.initialized RJ6, Cond.code yJ6_compare_7cf53 cJ6_compare_7cf53 2 (some .int), Cond.static yX6_authorOf, Cond.code yX6_authorOf cX6_authorOf 1 (some .int), Cond.methodLink RX6 131 yX6_publish, Cond.instanceMethod yX6_publish, Cond.selects RX6 yX6_publish yX6_publish, Cond.code yX6_publish cX6_publish 4 none, Cond.fieldLink RX6 28 "StrokeBoard" "knowledge" "LStrokeBoard$Knowledge;", Cond.fieldLink RX6 59 "StrokeBoard" "siteCount" "I", Cond.fieldLink RX6 38 "StrokeBoard" "links" "LStrokeBoard$Links;", Cond.methodLink RX6 245 yX2_learn, Cond.instanceMethod yX2_learn, Cond.selects RX2 yX2_learn yX2_learn, Cond.initialized RX2]
def wsX6_changeOwn_r4 : List Cond := [Cond.code yX2_learn cX2_learn 3 none, Cond.fieldLink RX2 14 "StrokeBoard$Knowledge" "known" "LStrokeBoard$Row;", Cond.methodLink RX2 27 yX5_set, Cond.methodLink RX6 248 yX3_send, Cond.instanceMethod yX3_send, Cond.selects RX3 yX3_send yX3_send, Cond.initialized RX3, Cond.code yX3_send cX3_send 6 none, Cond.fieldLink RX3 14 "StrokeBoard$Links" "counts" "LStrokeBoard$Row;", Cond.fieldLink RX3 20 "StrokeBoard$Links" "messages" "LStrokeBoard$Row;", Cond.methodLink RX3 26 yX5_get, Cond.methodLink RX3 30 yX5_set, Cond.methodLink RX6 135 yX6_numberOf, Cond.static yX6_numberOf, Cond.code yX6_numberOf cX6_numberOf 1 (some .int)]
def wsX6_changeOwn : List Cond := .code yX6_changeOwn cX6_changeOwn 4 (some .int) :: ((wsX6_changeOwn_r1 ++ (wsX6_changeOwn_r2 ++ (wsX6_changeOwn_r3 ++ wsX6_changeOwn_r4))) ++ wsX60 ++ wsX40 ++ wsX50 ++ wsX20 ++ wsX30)
def wsX6_undo_r1 : List Cond := [Cond.constant RX6 67 (-1000000001), Cond.methodLink RX6 78 yX6_isSite, Cond.instanceMethod yX6_isSite, Cond.selects RX6 yX6_isSite yX6_isSite, Cond.initialized RX6, Cond.code yX6_isSite cX6_isSite 2 (some .boolean), Cond.fieldLink RX6 59 "StrokeBoard" "siteCount" "I", Cond.methodLink RX6 63 yX6_isWithin, Cond.static yX6_isWithin, Cond.code yX6_isWithin cX6_isWithin 3 (some .boolean), Cond.methodLink RX6 138 yX6_lastVisibleOwn, Cond.instanceMethod yX6_lastVisibleOwn, Cond.selects RX6 yX6_lastVisibleOwn yX6_lastVisibleOwn, Cond.code yX6_lastVisibleOwn cX6_lastVisibleOwn 4 (some .int), Cond.fieldLink RX6 45 "StrokeBoard" "board" "LStrokeBoard$Board;", Cond.fieldLink RX6 12 "StrokeBoard" "log" "LStrokeBoard$Log;", Cond.fieldLink RX6 28 "StrokeBoard" "knowledge" "LStrokeBoard$Knowledge;", Cond.methodLink RX6 92 yX0_show, Cond.instanceMethod yX0_show, Cond.selects RX0 yX0_show yX0_show, Cond.initialized RX0, Cond.code yX0_show cX0_show 7 none, Cond.fieldLink RX0 14 "StrokeBoard$Board" "undone" "LStrokeBoard$Row;", Cond.fieldLink RX0 20 "StrokeBoard$Board" "layers" "LStrokeBoard$Row;"]
def wsX6_undo_r2 : List Cond := [Cond.fieldLink RX0 40 "StrokeBoard$Board" "count" "I", Cond.methodLink RX0 26 yX4_totalCount, Cond.instanceMethod yX4_totalCount, Cond.selects RX4 yX4_totalCount yX4_totalCount, Cond.initialized RX4, Cond.code yX4_totalCount cX4_totalCount 1 (some .int), Cond.fieldLink RX4 45 "StrokeBoard$Log" "total" "I", Cond.methodLink RX0 32 yX5_fill, Cond.instanceMethod yX5_fill, Cond.selects RX5 yX5_fill yX5_fill, Cond.initialized RX5, Cond.code yX5_fill cX5_fill 3 none, Cond.fieldLink RX5 13 "StrokeBoard$Row" "cells" "[I", Cond.methodLink RX0 36 yX5_copyFrom, Cond.instanceMethod yX5_copyFrom, Cond.selects RX5 yX5_copyFrom yX5_copyFrom, Cond.code yX5_copyFrom cX5_copyFrom 3 none, Cond.methodLink RX5 19 yX5_get, Cond.instanceMethod yX5_get, Cond.selects RX5 yX5_get yX5_get, Cond.code yX5_get cX5_get 2 (some .int), Cond.methodLink RX0 44 yX4_inOrder, Cond.instanceMethod yX4_inOrder, Cond.selects RX4 yX4_inOrder yX4_inOrder]
def wsX6_undo_r3 : List Cond := [Cond.code yX4_inOrder cX4_inOrder 2 (some .int), Cond.fieldLink RX4 32 "StrokeBoard$Log" "order" "LStrokeBoard$Row;", Cond.methodLink RX4 65 yX5_get, Cond.methodLink RX0 48 yX2_has, Cond.instanceMethod yX2_has, Cond.selects RX2 yX2_has yX2_has, Cond.initialized RX2, Cond.code yX2_has cX2_has 3 (some .boolean), Cond.fieldLink RX2 14 "StrokeBoard$Knowledge" "known" "LStrokeBoard$Row;", Cond.methodLink RX2 31 yX5_get, Cond.methodLink RX0 54 yX0_apply, Cond.instanceMethod yX0_apply, Cond.selects RX0 yX0_apply yX0_apply, Cond.code yX0_apply cX0_apply 4 none, Cond.methodLink RX0 62 yX4_targetOf, Cond.instanceMethod yX4_targetOf, Cond.selects RX4 yX4_targetOf yX4_targetOf, Cond.code yX4_targetOf cX4_targetOf 2 (some .int), Cond.fieldLink RX4 26 "StrokeBoard$Log" "targets" "LStrokeBoard$Row;", Cond.methodLink RX0 65 yX4_kindOf, Cond.instanceMethod yX4_kindOf, Cond.selects RX4 yX4_kindOf yX4_kindOf, Cond.code yX4_kindOf cX4_kindOf 2 (some .int), Cond.fieldLink RX4 20 "StrokeBoard$Log" "kinds" "LStrokeBoard$Row;"]
def wsX6_undo_r4 : List Cond := [Cond.methodLink RX0 68 yX5_set, Cond.instanceMethod yX5_set, Cond.selects RX5 yX5_set yX5_set, Cond.code yX5_set cX5_set 3 none, Cond.methodLink RX0 72 yX4_layerOf, Cond.instanceMethod yX4_layerOf, Cond.selects RX4 yX4_layerOf yX4_layerOf, Cond.code yX4_layerOf cX4_layerOf 2 (some .int), Cond.fieldLink RX4 29 "StrokeBoard$Log" "layers" "LStrokeBoard$Row;", Cond.methodLink RX0 58 yX0_collect, Cond.instanceMethod yX0_collect, Cond.selects RX0 yX0_collect yX0_collect, Cond.code yX0_collect cX0_collect 8 none, Cond.fieldLink RX0 23 "StrokeBoard$Board" "strokes" "LStrokeBoard$Row;", Cond.methodLink RX0 75 yX4_isStroke, Cond.instanceMethod yX4_isStroke, Cond.selects RX4 yX4_isStroke yX4_isStroke, Cond.code yX4_isStroke cX4_isStroke 2 (some .boolean), Cond.methodLink RX0 79 yX5_get, Cond.methodLink RX0 82 yX0_isUndone, Cond.instanceMethod yX0_isUndone, Cond.selects RX0 yX0_isUndone yX0_isUndone, Cond.code yX0_isUndone cX0_isUndone 2 (some .boolean), Cond.methodLink RX6 89 yX4_madeBy]
def wsX6_undo_r5 : List Cond := [Cond.instanceMethod yX4_madeBy, Cond.selects RX4 yX4_madeBy yX4_madeBy, Cond.code yX4_madeBy cX4_madeBy 2 (some .int), Cond.fieldLink RX4 14 "StrokeBoard$Log" "made" "LStrokeBoard$Row;", Cond.methodLink RX6 178 yX6_idOf, Cond.static yX6_idOf, Cond.code yX6_idOf cX6_idOf 2 (some .int), Cond.methodLink RX6 204 yX4_isStroke, Cond.methodLink RX6 251 yX0_isUndone, Cond.methodLink RX6 141 yX6_changeOwn, Cond.instanceMethod yX6_changeOwn, Cond.selects RX6 yX6_changeOwn yX6_changeOwn, Cond.code yX6_changeOwn cX6_changeOwn 4 (some .int), Cond.constant RX6 110 (-1000000002), Cond.constant RX6 77 (-1000000003), Cond.methodLink RX6 118 yX6_hasMadeAll, Cond.instanceMethod yX6_hasMadeAll, Cond.selects RX6 yX6_hasMadeAll yX6_hasMadeAll, Cond.code yX6_hasMadeAll cX6_hasMadeAll 2 (some .boolean), Cond.methodLink RX6 121 yX6_tick, Cond.instanceMethod yX6_tick, Cond.selects RX6 yX6_tick yX6_tick, Cond.code yX6_tick cX6_tick 2 (some .int), Cond.fieldLink RX6 55 "StrokeBoard" "clocks" "LStrokeBoard$Row;"]
def wsX6_undo_r6 : List Cond := [Cond.methodLink RX6 82 yX5_get, Cond.methodLink RX6 195 yX5_set, Cond.methodLink RX6 151 yX4_addChange, Cond.instanceMethod yX4_addChange, Cond.selects RX4 yX4_addChange yX4_addChange, Cond.code yX4_addChange cX4_addChange 7 (some .int), Cond.methodLink RX4 49 yX4_addOperation, Cond.instanceMethod yX4_addOperation, Cond.selects RX4 yX4_addOperation yX4_addOperation, Cond.code yX4_addOperation cX4_addOperation 6 (some .int), Cond.fieldLink RX4 23 "StrokeBoard$Log" "times" "LStrokeBoard$Row;", Cond.methodLink RX4 61 yX5_set, Cond.methodLink RX4 72 yX4_insert, Cond.instanceMethod yX4_insert, Cond.selects RX4 yX4_insert yX4_insert, Cond.code yX4_insert cX4_insert 3 none, Cond.methodLink RX4 75 yX4_comesAfter, Cond.instanceMethod yX4_comesAfter, Cond.selects RX4 yX4_comesAfter yX4_comesAfter, Cond.code yX4_comesAfter cX4_comesAfter 4 (some .boolean), Cond.methodLink RX4 79 yJ6_compare_7cf53, Cond.static yJ6_compare_7cf53, Cond.initialized RJ6, Cond.code yJ6_compare_7cf53 cJ6_compare_7cf53 2 (some .int)]
def wsX6_undo_r7 : List Cond := [Cond.static yX6_authorOf, Cond.code yX6_authorOf cX6_authorOf 1 (some .int), Cond.methodLink RX6 131 yX6_publish, Cond.instanceMethod yX6_publish, Cond.selects RX6 yX6_publish yX6_publish, Cond.code yX6_publish cX6_publish 4 none, Cond.fieldLink RX6 38 "StrokeBoard" "links" "LStrokeBoard$Links;", Cond.methodLink RX6 245 yX2_learn, Cond.instanceMethod yX2_learn, Cond.selects RX2 yX2_learn yX2_learn, Cond.code yX2_learn cX2_learn 3 none, Cond.methodLink RX2 27 yX5_set, Cond.methodLink RX6 248 yX3_send, Cond.instanceMethod yX3_send, Cond.selects RX3 yX3_send yX3_send, Cond.initialized RX3, Cond.code yX3_send cX3_send 6 none, Cond.fieldLink RX3 14 "StrokeBoard$Links" "counts" "LStrokeBoard$Row;", Cond.fieldLink RX3 20 "StrokeBoard$Links" "messages" "LStrokeBoard$Row;", Cond.methodLink RX3 26 yX5_get, Cond.methodLink RX3 30 yX5_set, Cond.methodLink RX6 135 yX6_numberOf, Cond.static yX6_numberOf, Cond.code yX6_numberOf cX6_numberOf 1 (some .int)]
def wsX6_undo : List Cond := .code yX6_undo cX6_undo 2 (some .int) :: ((wsX6_undo_r1 ++ (wsX6_undo_r2 ++ (wsX6_undo_r3 ++ (wsX6_undo_r4 ++ (wsX6_undo_r5 ++ (wsX6_undo_r6 ++ wsX6_undo_r7)))))) ++ wsX60 ++ wsX00 ++ wsX40 ++ wsX50 ++ wsX20 ++ wsX30)
def wsX6_lastUndoneOwn_r1 : List Cond := [Cond.fieldLink RX6 45 "StrokeBoard" "board" "LStrokeBoard$Board;", Cond.fieldLink RX6 12 "StrokeBoard" "log" "LStrokeBoard$Log;", Cond.fieldLink RX6 28 "StrokeBoard" "knowledge" "LStrokeBoard$Knowledge;", Cond.methodLink RX6 92 yX0_show, Cond.instanceMethod yX0_show, Cond.selects RX0 yX0_show yX0_show, Cond.initialized RX0, Cond.code yX0_show cX0_show 7 none, Cond.fieldLink RX0 14 "StrokeBoard$Board" "undone" "LStrokeBoard$Row;", Cond.fieldLink RX0 20 "StrokeBoard$Board" "layers" "LStrokeBoard$Row;", Cond.fieldLink RX0 40 "StrokeBoard$Board" "count" "I", Cond.methodLink RX0 26 yX4_totalCount, Cond.instanceMethod yX4_totalCount, Cond.selects RX4 yX4_totalCount yX4_totalCount, Cond.initialized RX4, Cond.code yX4_totalCount cX4_totalCount 1 (some .int), Cond.fieldLink RX4 45 "StrokeBoard$Log" "total" "I", Cond.methodLink RX0 32 yX5_fill, Cond.instanceMethod yX5_fill, Cond.selects RX5 yX5_fill yX5_fill, Cond.initialized RX5, Cond.code yX5_fill cX5_fill 3 none, Cond.fieldLink RX5 13 "StrokeBoard$Row" "cells" "[I", Cond.methodLink RX0 36 yX5_copyFrom]
def wsX6_lastUndoneOwn_r2 : List Cond := [Cond.instanceMethod yX5_copyFrom, Cond.selects RX5 yX5_copyFrom yX5_copyFrom, Cond.code yX5_copyFrom cX5_copyFrom 3 none, Cond.methodLink RX5 19 yX5_get, Cond.instanceMethod yX5_get, Cond.selects RX5 yX5_get yX5_get, Cond.code yX5_get cX5_get 2 (some .int), Cond.methodLink RX0 44 yX4_inOrder, Cond.instanceMethod yX4_inOrder, Cond.selects RX4 yX4_inOrder yX4_inOrder, Cond.code yX4_inOrder cX4_inOrder 2 (some .int), Cond.fieldLink RX4 32 "StrokeBoard$Log" "order" "LStrokeBoard$Row;", Cond.methodLink RX4 65 yX5_get, Cond.methodLink RX0 48 yX2_has, Cond.instanceMethod yX2_has, Cond.selects RX2 yX2_has yX2_has, Cond.initialized RX2, Cond.code yX2_has cX2_has 3 (some .boolean), Cond.fieldLink RX2 14 "StrokeBoard$Knowledge" "known" "LStrokeBoard$Row;", Cond.methodLink RX2 31 yX5_get, Cond.methodLink RX0 54 yX0_apply, Cond.instanceMethod yX0_apply, Cond.selects RX0 yX0_apply yX0_apply, Cond.code yX0_apply cX0_apply 4 none]
def wsX6_lastUndoneOwn_r3 : List Cond := [Cond.methodLink RX0 62 yX4_targetOf, Cond.instanceMethod yX4_targetOf, Cond.selects RX4 yX4_targetOf yX4_targetOf, Cond.code yX4_targetOf cX4_targetOf 2 (some .int), Cond.fieldLink RX4 26 "StrokeBoard$Log" "targets" "LStrokeBoard$Row;", Cond.methodLink RX0 65 yX4_kindOf, Cond.instanceMethod yX4_kindOf, Cond.selects RX4 yX4_kindOf yX4_kindOf, Cond.code yX4_kindOf cX4_kindOf 2 (some .int), Cond.fieldLink RX4 20 "StrokeBoard$Log" "kinds" "LStrokeBoard$Row;", Cond.methodLink RX0 68 yX5_set, Cond.instanceMethod yX5_set, Cond.selects RX5 yX5_set yX5_set, Cond.code yX5_set cX5_set 3 none, Cond.methodLink RX0 72 yX4_layerOf, Cond.instanceMethod yX4_layerOf, Cond.selects RX4 yX4_layerOf yX4_layerOf, Cond.code yX4_layerOf cX4_layerOf 2 (some .int), Cond.fieldLink RX4 29 "StrokeBoard$Log" "layers" "LStrokeBoard$Row;", Cond.methodLink RX0 58 yX0_collect, Cond.instanceMethod yX0_collect, Cond.selects RX0 yX0_collect yX0_collect, Cond.code yX0_collect cX0_collect 8 none, Cond.fieldLink RX0 23 "StrokeBoard$Board" "strokes" "LStrokeBoard$Row;"]
def wsX6_lastUndoneOwn_r4 : List Cond := [Cond.methodLink RX0 75 yX4_isStroke, Cond.instanceMethod yX4_isStroke, Cond.selects RX4 yX4_isStroke yX4_isStroke, Cond.code yX4_isStroke cX4_isStroke 2 (some .boolean), Cond.methodLink RX0 79 yX5_get, Cond.methodLink RX0 82 yX0_isUndone, Cond.instanceMethod yX0_isUndone, Cond.selects RX0 yX0_isUndone yX0_isUndone, Cond.code yX0_isUndone cX0_isUndone 2 (some .boolean), Cond.methodLink RX6 89 yX4_madeBy, Cond.instanceMethod yX4_madeBy, Cond.selects RX4 yX4_madeBy yX4_madeBy, Cond.code yX4_madeBy cX4_madeBy 2 (some .int), Cond.fieldLink RX4 14 "StrokeBoard$Log" "made" "LStrokeBoard$Row;", Cond.methodLink RX6 178 yX6_idOf, Cond.static yX6_idOf, Cond.initialized RX6, Cond.code yX6_idOf cX6_idOf 2 (some .int), Cond.methodLink RX6 198 yX4_kindOf, Cond.methodLink RX6 210 yX4_targetOf, Cond.methodLink RX6 251 yX0_isUndone]
def wsX6_lastUndoneOwn : List Cond := .code yX6_lastUndoneOwn cX6_lastUndoneOwn 4 (some .int) :: ((wsX6_lastUndoneOwn_r1 ++ (wsX6_lastUndoneOwn_r2 ++ (wsX6_lastUndoneOwn_r3 ++ wsX6_lastUndoneOwn_r4))) ++ wsX60 ++ wsX00 ++ wsX40 ++ wsX50 ++ wsX20)
def wsX6_redo_r1 : List Cond := [Cond.constant RX6 67 (-1000000001), Cond.methodLink RX6 78 yX6_isSite, Cond.instanceMethod yX6_isSite, Cond.selects RX6 yX6_isSite yX6_isSite, Cond.initialized RX6, Cond.code yX6_isSite cX6_isSite 2 (some .boolean), Cond.fieldLink RX6 59 "StrokeBoard" "siteCount" "I", Cond.methodLink RX6 63 yX6_isWithin, Cond.static yX6_isWithin, Cond.code yX6_isWithin cX6_isWithin 3 (some .boolean), Cond.methodLink RX6 145 yX6_lastUndoneOwn, Cond.instanceMethod yX6_lastUndoneOwn, Cond.selects RX6 yX6_lastUndoneOwn yX6_lastUndoneOwn, Cond.code yX6_lastUndoneOwn cX6_lastUndoneOwn 4 (some .int), Cond.fieldLink RX6 45 "StrokeBoard" "board" "LStrokeBoard$Board;", Cond.fieldLink RX6 12 "StrokeBoard" "log" "LStrokeBoard$Log;", Cond.fieldLink RX6 28 "StrokeBoard" "knowledge" "LStrokeBoard$Knowledge;", Cond.methodLink RX6 92 yX0_show, Cond.instanceMethod yX0_show, Cond.selects RX0 yX0_show yX0_show, Cond.initialized RX0, Cond.code yX0_show cX0_show 7 none, Cond.fieldLink RX0 14 "StrokeBoard$Board" "undone" "LStrokeBoard$Row;", Cond.fieldLink RX0 20 "StrokeBoard$Board" "layers" "LStrokeBoard$Row;"]
def wsX6_redo_r2 : List Cond := [Cond.fieldLink RX0 40 "StrokeBoard$Board" "count" "I", Cond.methodLink RX0 26 yX4_totalCount, Cond.instanceMethod yX4_totalCount, Cond.selects RX4 yX4_totalCount yX4_totalCount, Cond.initialized RX4, Cond.code yX4_totalCount cX4_totalCount 1 (some .int), Cond.fieldLink RX4 45 "StrokeBoard$Log" "total" "I", Cond.methodLink RX0 32 yX5_fill, Cond.instanceMethod yX5_fill, Cond.selects RX5 yX5_fill yX5_fill, Cond.initialized RX5, Cond.code yX5_fill cX5_fill 3 none, Cond.fieldLink RX5 13 "StrokeBoard$Row" "cells" "[I", Cond.methodLink RX0 36 yX5_copyFrom, Cond.instanceMethod yX5_copyFrom, Cond.selects RX5 yX5_copyFrom yX5_copyFrom, Cond.code yX5_copyFrom cX5_copyFrom 3 none, Cond.methodLink RX5 19 yX5_get, Cond.instanceMethod yX5_get, Cond.selects RX5 yX5_get yX5_get, Cond.code yX5_get cX5_get 2 (some .int), Cond.methodLink RX0 44 yX4_inOrder, Cond.instanceMethod yX4_inOrder, Cond.selects RX4 yX4_inOrder yX4_inOrder]
def wsX6_redo_r3 : List Cond := [Cond.code yX4_inOrder cX4_inOrder 2 (some .int), Cond.fieldLink RX4 32 "StrokeBoard$Log" "order" "LStrokeBoard$Row;", Cond.methodLink RX4 65 yX5_get, Cond.methodLink RX0 48 yX2_has, Cond.instanceMethod yX2_has, Cond.selects RX2 yX2_has yX2_has, Cond.initialized RX2, Cond.code yX2_has cX2_has 3 (some .boolean), Cond.fieldLink RX2 14 "StrokeBoard$Knowledge" "known" "LStrokeBoard$Row;", Cond.methodLink RX2 31 yX5_get, Cond.methodLink RX0 54 yX0_apply, Cond.instanceMethod yX0_apply, Cond.selects RX0 yX0_apply yX0_apply, Cond.code yX0_apply cX0_apply 4 none, Cond.methodLink RX0 62 yX4_targetOf, Cond.instanceMethod yX4_targetOf, Cond.selects RX4 yX4_targetOf yX4_targetOf, Cond.code yX4_targetOf cX4_targetOf 2 (some .int), Cond.fieldLink RX4 26 "StrokeBoard$Log" "targets" "LStrokeBoard$Row;", Cond.methodLink RX0 65 yX4_kindOf, Cond.instanceMethod yX4_kindOf, Cond.selects RX4 yX4_kindOf yX4_kindOf, Cond.code yX4_kindOf cX4_kindOf 2 (some .int), Cond.fieldLink RX4 20 "StrokeBoard$Log" "kinds" "LStrokeBoard$Row;"]
def wsX6_redo_r4 : List Cond := [Cond.methodLink RX0 68 yX5_set, Cond.instanceMethod yX5_set, Cond.selects RX5 yX5_set yX5_set, Cond.code yX5_set cX5_set 3 none, Cond.methodLink RX0 72 yX4_layerOf, Cond.instanceMethod yX4_layerOf, Cond.selects RX4 yX4_layerOf yX4_layerOf, Cond.code yX4_layerOf cX4_layerOf 2 (some .int), Cond.fieldLink RX4 29 "StrokeBoard$Log" "layers" "LStrokeBoard$Row;", Cond.methodLink RX0 58 yX0_collect, Cond.instanceMethod yX0_collect, Cond.selects RX0 yX0_collect yX0_collect, Cond.code yX0_collect cX0_collect 8 none, Cond.fieldLink RX0 23 "StrokeBoard$Board" "strokes" "LStrokeBoard$Row;", Cond.methodLink RX0 75 yX4_isStroke, Cond.instanceMethod yX4_isStroke, Cond.selects RX4 yX4_isStroke yX4_isStroke, Cond.code yX4_isStroke cX4_isStroke 2 (some .boolean), Cond.methodLink RX0 79 yX5_get, Cond.methodLink RX0 82 yX0_isUndone, Cond.instanceMethod yX0_isUndone, Cond.selects RX0 yX0_isUndone yX0_isUndone, Cond.code yX0_isUndone cX0_isUndone 2 (some .boolean), Cond.methodLink RX6 89 yX4_madeBy]
def wsX6_redo_r5 : List Cond := [Cond.instanceMethod yX4_madeBy, Cond.selects RX4 yX4_madeBy yX4_madeBy, Cond.code yX4_madeBy cX4_madeBy 2 (some .int), Cond.fieldLink RX4 14 "StrokeBoard$Log" "made" "LStrokeBoard$Row;", Cond.methodLink RX6 178 yX6_idOf, Cond.static yX6_idOf, Cond.code yX6_idOf cX6_idOf 2 (some .int), Cond.methodLink RX6 198 yX4_kindOf, Cond.methodLink RX6 210 yX4_targetOf, Cond.methodLink RX6 251 yX0_isUndone, Cond.methodLink RX6 141 yX6_changeOwn, Cond.instanceMethod yX6_changeOwn, Cond.selects RX6 yX6_changeOwn yX6_changeOwn, Cond.code yX6_changeOwn cX6_changeOwn 4 (some .int), Cond.constant RX6 110 (-1000000002), Cond.constant RX6 77 (-1000000003), Cond.methodLink RX6 118 yX6_hasMadeAll, Cond.instanceMethod yX6_hasMadeAll, Cond.selects RX6 yX6_hasMadeAll yX6_hasMadeAll, Cond.code yX6_hasMadeAll cX6_hasMadeAll 2 (some .boolean), Cond.methodLink RX6 121 yX6_tick, Cond.instanceMethod yX6_tick, Cond.selects RX6 yX6_tick yX6_tick, Cond.code yX6_tick cX6_tick 2 (some .int)]
def wsX6_redo_r6 : List Cond := [Cond.fieldLink RX6 55 "StrokeBoard" "clocks" "LStrokeBoard$Row;", Cond.methodLink RX6 82 yX5_get, Cond.methodLink RX6 195 yX5_set, Cond.methodLink RX6 151 yX4_addChange, Cond.instanceMethod yX4_addChange, Cond.selects RX4 yX4_addChange yX4_addChange, Cond.code yX4_addChange cX4_addChange 7 (some .int), Cond.methodLink RX4 49 yX4_addOperation, Cond.instanceMethod yX4_addOperation, Cond.selects RX4 yX4_addOperation yX4_addOperation, Cond.code yX4_addOperation cX4_addOperation 6 (some .int), Cond.fieldLink RX4 23 "StrokeBoard$Log" "times" "LStrokeBoard$Row;", Cond.methodLink RX4 61 yX5_set, Cond.methodLink RX4 72 yX4_insert, Cond.instanceMethod yX4_insert, Cond.selects RX4 yX4_insert yX4_insert, Cond.code yX4_insert cX4_insert 3 none, Cond.methodLink RX4 75 yX4_comesAfter, Cond.instanceMethod yX4_comesAfter, Cond.selects RX4 yX4_comesAfter yX4_comesAfter, Cond.code yX4_comesAfter cX4_comesAfter 4 (some .boolean), Cond.methodLink RX4 79 yJ6_compare_7cf53, Cond.static yJ6_compare_7cf53, Cond.initialized RJ6]
def wsX6_redo_r7 : List Cond := [Cond.code yJ6_compare_7cf53 cJ6_compare_7cf53 2 (some .int), Cond.static yX6_authorOf, Cond.code yX6_authorOf cX6_authorOf 1 (some .int), Cond.methodLink RX6 131 yX6_publish, Cond.instanceMethod yX6_publish, Cond.selects RX6 yX6_publish yX6_publish, Cond.code yX6_publish cX6_publish 4 none, Cond.fieldLink RX6 38 "StrokeBoard" "links" "LStrokeBoard$Links;", Cond.methodLink RX6 245 yX2_learn, Cond.instanceMethod yX2_learn, Cond.selects RX2 yX2_learn yX2_learn, Cond.code yX2_learn cX2_learn 3 none, Cond.methodLink RX2 27 yX5_set, Cond.methodLink RX6 248 yX3_send, Cond.instanceMethod yX3_send, Cond.selects RX3 yX3_send yX3_send, Cond.initialized RX3, Cond.code yX3_send cX3_send 6 none, Cond.fieldLink RX3 14 "StrokeBoard$Links" "counts" "LStrokeBoard$Row;", Cond.fieldLink RX3 20 "StrokeBoard$Links" "messages" "LStrokeBoard$Row;", Cond.methodLink RX3 26 yX5_get, Cond.methodLink RX3 30 yX5_set, Cond.methodLink RX6 135 yX6_numberOf, Cond.static yX6_numberOf]
def wsX6_redo_r8 : List Cond := [Cond.code yX6_numberOf cX6_numberOf 1 (some .int)]
def wsX6_redo : List Cond := .code yX6_redo cX6_redo 2 (some .int) :: ((wsX6_redo_r1 ++ (wsX6_redo_r2 ++ (wsX6_redo_r3 ++ (wsX6_redo_r4 ++ (wsX6_redo_r5 ++ (wsX6_redo_r6 ++ (wsX6_redo_r7 ++ wsX6_redo_r8))))))) ++ wsX60 ++ wsX00 ++ wsX40 ++ wsX50 ++ wsX20 ++ wsX30)
def wsX6_lift_r1 : List Cond := [Cond.constant RX6 67 (-1000000001), Cond.fieldLink RX6 45 "StrokeBoard" "board" "LStrokeBoard$Board;", Cond.fieldLink RX6 12 "StrokeBoard" "log" "LStrokeBoard$Log;", Cond.fieldLink RX6 28 "StrokeBoard" "knowledge" "LStrokeBoard$Knowledge;", Cond.constant RX6 110 (-1000000002), Cond.constant RX6 77 (-1000000003), Cond.methodLink RX6 78 yX6_isSite, Cond.instanceMethod yX6_isSite, Cond.selects RX6 yX6_isSite yX6_isSite, Cond.initialized RX6, Cond.code yX6_isSite cX6_isSite 2 (some .boolean), Cond.fieldLink RX6 59 "StrokeBoard" "siteCount" "I", Cond.methodLink RX6 63 yX6_isWithin, Cond.static yX6_isWithin, Cond.code yX6_isWithin cX6_isWithin 3 (some .boolean), Cond.methodLink RX6 92 yX0_show, Cond.instanceMethod yX0_show, Cond.selects RX0 yX0_show yX0_show, Cond.initialized RX0, Cond.code yX0_show cX0_show 7 none, Cond.fieldLink RX0 14 "StrokeBoard$Board" "undone" "LStrokeBoard$Row;", Cond.fieldLink RX0 20 "StrokeBoard$Board" "layers" "LStrokeBoard$Row;", Cond.fieldLink RX0 40 "StrokeBoard$Board" "count" "I", Cond.methodLink RX0 26 yX4_totalCount]
def wsX6_lift_r2 : List Cond := [Cond.instanceMethod yX4_totalCount, Cond.selects RX4 yX4_totalCount yX4_totalCount, Cond.initialized RX4, Cond.code yX4_totalCount cX4_totalCount 1 (some .int), Cond.fieldLink RX4 45 "StrokeBoard$Log" "total" "I", Cond.methodLink RX0 32 yX5_fill, Cond.instanceMethod yX5_fill, Cond.selects RX5 yX5_fill yX5_fill, Cond.initialized RX5, Cond.code yX5_fill cX5_fill 3 none, Cond.fieldLink RX5 13 "StrokeBoard$Row" "cells" "[I", Cond.methodLink RX0 36 yX5_copyFrom, Cond.instanceMethod yX5_copyFrom, Cond.selects RX5 yX5_copyFrom yX5_copyFrom, Cond.code yX5_copyFrom cX5_copyFrom 3 none, Cond.methodLink RX5 19 yX5_get, Cond.instanceMethod yX5_get, Cond.selects RX5 yX5_get yX5_get, Cond.code yX5_get cX5_get 2 (some .int), Cond.methodLink RX0 44 yX4_inOrder, Cond.instanceMethod yX4_inOrder, Cond.selects RX4 yX4_inOrder yX4_inOrder, Cond.code yX4_inOrder cX4_inOrder 2 (some .int), Cond.fieldLink RX4 32 "StrokeBoard$Log" "order" "LStrokeBoard$Row;"]
def wsX6_lift_r3 : List Cond := [Cond.methodLink RX4 65 yX5_get, Cond.methodLink RX0 48 yX2_has, Cond.instanceMethod yX2_has, Cond.selects RX2 yX2_has yX2_has, Cond.initialized RX2, Cond.code yX2_has cX2_has 3 (some .boolean), Cond.fieldLink RX2 14 "StrokeBoard$Knowledge" "known" "LStrokeBoard$Row;", Cond.methodLink RX2 31 yX5_get, Cond.methodLink RX0 54 yX0_apply, Cond.instanceMethod yX0_apply, Cond.selects RX0 yX0_apply yX0_apply, Cond.code yX0_apply cX0_apply 4 none, Cond.methodLink RX0 62 yX4_targetOf, Cond.instanceMethod yX4_targetOf, Cond.selects RX4 yX4_targetOf yX4_targetOf, Cond.code yX4_targetOf cX4_targetOf 2 (some .int), Cond.fieldLink RX4 26 "StrokeBoard$Log" "targets" "LStrokeBoard$Row;", Cond.methodLink RX0 65 yX4_kindOf, Cond.instanceMethod yX4_kindOf, Cond.selects RX4 yX4_kindOf yX4_kindOf, Cond.code yX4_kindOf cX4_kindOf 2 (some .int), Cond.fieldLink RX4 20 "StrokeBoard$Log" "kinds" "LStrokeBoard$Row;", Cond.methodLink RX0 68 yX5_set, Cond.instanceMethod yX5_set]
def wsX6_lift_r4 : List Cond := [Cond.selects RX5 yX5_set yX5_set, Cond.code yX5_set cX5_set 3 none, Cond.methodLink RX0 72 yX4_layerOf, Cond.instanceMethod yX4_layerOf, Cond.selects RX4 yX4_layerOf yX4_layerOf, Cond.code yX4_layerOf cX4_layerOf 2 (some .int), Cond.fieldLink RX4 29 "StrokeBoard$Log" "layers" "LStrokeBoard$Row;", Cond.methodLink RX0 58 yX0_collect, Cond.instanceMethod yX0_collect, Cond.selects RX0 yX0_collect yX0_collect, Cond.code yX0_collect cX0_collect 8 none, Cond.fieldLink RX0 23 "StrokeBoard$Board" "strokes" "LStrokeBoard$Row;", Cond.methodLink RX0 75 yX4_isStroke, Cond.instanceMethod yX4_isStroke, Cond.selects RX4 yX4_isStroke yX4_isStroke, Cond.code yX4_isStroke cX4_isStroke 2 (some .boolean), Cond.methodLink RX0 79 yX5_get, Cond.methodLink RX0 82 yX0_isUndone, Cond.instanceMethod yX0_isUndone, Cond.selects RX0 yX0_isUndone yX0_isUndone, Cond.code yX0_isUndone cX0_isUndone 2 (some .boolean), Cond.methodLink RX6 96 yX0_strokeCount, Cond.instanceMethod yX0_strokeCount, Cond.selects RX0 yX0_strokeCount yX0_strokeCount]
def wsX6_lift_r5 : List Cond := [Cond.code yX0_strokeCount cX0_strokeCount 1 (some .int), Cond.methodLink RX6 118 yX6_hasMadeAll, Cond.instanceMethod yX6_hasMadeAll, Cond.selects RX6 yX6_hasMadeAll yX6_hasMadeAll, Cond.code yX6_hasMadeAll cX6_hasMadeAll 2 (some .boolean), Cond.methodLink RX6 89 yX4_madeBy, Cond.instanceMethod yX4_madeBy, Cond.selects RX4 yX4_madeBy yX4_madeBy, Cond.code yX4_madeBy cX4_madeBy 2 (some .int), Cond.fieldLink RX4 14 "StrokeBoard$Log" "made" "LStrokeBoard$Row;", Cond.methodLink RX6 121 yX6_tick, Cond.instanceMethod yX6_tick, Cond.selects RX6 yX6_tick yX6_tick, Cond.code yX6_tick cX6_tick 2 (some .int), Cond.fieldLink RX6 55 "StrokeBoard" "clocks" "LStrokeBoard$Row;", Cond.methodLink RX6 82 yX5_get, Cond.methodLink RX6 195 yX5_set, Cond.methodLink RX6 148 yX0_strokeIn, Cond.instanceMethod yX0_strokeIn, Cond.selects RX0 yX0_strokeIn yX0_strokeIn, Cond.code yX0_strokeIn cX0_strokeIn 2 (some .int), Cond.methodLink RX6 151 yX4_addChange, Cond.instanceMethod yX4_addChange, Cond.selects RX4 yX4_addChange yX4_addChange]
def wsX6_lift_r6 : List Cond := [Cond.code yX4_addChange cX4_addChange 7 (some .int), Cond.methodLink RX4 49 yX4_addOperation, Cond.instanceMethod yX4_addOperation, Cond.selects RX4 yX4_addOperation yX4_addOperation, Cond.code yX4_addOperation cX4_addOperation 6 (some .int), Cond.fieldLink RX4 23 "StrokeBoard$Log" "times" "LStrokeBoard$Row;", Cond.static yX6_idOf, Cond.code yX6_idOf cX6_idOf 2 (some .int), Cond.methodLink RX4 61 yX5_set, Cond.methodLink RX4 72 yX4_insert, Cond.instanceMethod yX4_insert, Cond.selects RX4 yX4_insert yX4_insert, Cond.code yX4_insert cX4_insert 3 none, Cond.methodLink RX4 75 yX4_comesAfter, Cond.instanceMethod yX4_comesAfter, Cond.selects RX4 yX4_comesAfter yX4_comesAfter, Cond.code yX4_comesAfter cX4_comesAfter 4 (some .boolean), Cond.methodLink RX4 79 yJ6_compare_7cf53, Cond.static yJ6_compare_7cf53, Cond.initialized RJ6, Cond.code yJ6_compare_7cf53 cJ6_compare_7cf53 2 (some .int), Cond.static yX6_authorOf, Cond.code yX6_authorOf cX6_authorOf 1 (some .int), Cond.methodLink RX6 131 yX6_publish]
def wsX6_lift_r7 : List Cond := [Cond.instanceMethod yX6_publish, Cond.selects RX6 yX6_publish yX6_publish, Cond.code yX6_publish cX6_publish 4 none, Cond.fieldLink RX6 38 "StrokeBoard" "links" "LStrokeBoard$Links;", Cond.methodLink RX6 245 yX2_learn, Cond.instanceMethod yX2_learn, Cond.selects RX2 yX2_learn yX2_learn, Cond.code yX2_learn cX2_learn 3 none, Cond.methodLink RX2 27 yX5_set, Cond.methodLink RX6 248 yX3_send, Cond.instanceMethod yX3_send, Cond.selects RX3 yX3_send yX3_send, Cond.initialized RX3, Cond.code yX3_send cX3_send 6 none, Cond.fieldLink RX3 14 "StrokeBoard$Links" "counts" "LStrokeBoard$Row;", Cond.fieldLink RX3 20 "StrokeBoard$Links" "messages" "LStrokeBoard$Row;", Cond.methodLink RX3 26 yX5_get, Cond.methodLink RX3 30 yX5_set, Cond.methodLink RX6 135 yX6_numberOf, Cond.static yX6_numberOf, Cond.code yX6_numberOf cX6_numberOf 1 (some .int)]
def wsX6_lift : List Cond := .code yX6_lift cX6_lift 5 (some .int) :: ((wsX6_lift_r1 ++ (wsX6_lift_r2 ++ (wsX6_lift_r3 ++ (wsX6_lift_r4 ++ (wsX6_lift_r5 ++ (wsX6_lift_r6 ++ wsX6_lift_r7)))))) ++ wsX60 ++ wsX00 ++ wsX40 ++ wsX50 ++ wsX20 ++ wsX30)
def wsX6_areTwoSites : List Cond := .code yX6_areTwoSites cX6_areTwoSites 3 (some .boolean) :: ([.methodLink RX6 78 yX6_isSite, .instanceMethod yX6_isSite, .selects RX6 yX6_isSite yX6_isSite, .initialized RX6, .code yX6_isSite cX6_isSite 2 (some .boolean), .fieldLink RX6 59 "StrokeBoard" "siteCount" "I", .methodLink RX6 63 yX6_isWithin, .static yX6_isWithin, .code yX6_isWithin cX6_isWithin 3 (some .boolean)] ++ wsX60)
def wsX6_receive_r1 : List Cond := [Cond.fieldLink RX6 28 "StrokeBoard" "knowledge" "LStrokeBoard$Knowledge;", Cond.fieldLink RX6 55 "StrokeBoard" "clocks" "LStrokeBoard$Row;", Cond.fieldLink RX6 12 "StrokeBoard" "log" "LStrokeBoard$Log;", Cond.methodLink RX6 190 Lib.Math.max.name, Cond.static Lib.Math.max.name, Cond.initialized "java/lang/Math", Cond.code Lib.Math.max.name Lib.Math.max.code 2 (some .int), Cond.methodLink RX6 245 yX2_learn, Cond.instanceMethod yX2_learn, Cond.selects RX2 yX2_learn yX2_learn, Cond.initialized RX2, Cond.code yX2_learn cX2_learn 3 none, Cond.fieldLink RX2 14 "StrokeBoard$Knowledge" "known" "LStrokeBoard$Row;", Cond.methodLink RX2 27 yX5_set, Cond.instanceMethod yX5_set, Cond.selects RX5 yX5_set yX5_set, Cond.initialized RX5, Cond.code yX5_set cX5_set 3 none, Cond.fieldLink RX5 13 "StrokeBoard$Row" "cells" "[I", Cond.methodLink RX6 82 yX5_get, Cond.instanceMethod yX5_get, Cond.selects RX5 yX5_get yX5_get, Cond.code yX5_get cX5_get 2 (some .int), Cond.methodLink RX6 201 yX4_timeOf]
def wsX6_receive_r2 : List Cond := [Cond.instanceMethod yX4_timeOf, Cond.selects RX4 yX4_timeOf yX4_timeOf, Cond.initialized RX4, Cond.code yX4_timeOf cX4_timeOf 2 (some .int), Cond.fieldLink RX4 23 "StrokeBoard$Log" "times" "LStrokeBoard$Row;", Cond.methodLink RX4 65 yX5_get, Cond.methodLink RX6 195 yX5_set]
def wsX6_receive : List Cond := .code yX6_receive cX6_receive 3 none :: ((wsX6_receive_r1 ++ wsX6_receive_r2) ++ wsX60 ++ wsX20 ++ wsX50 ++ wsX40)
def wsX6_deliver_r1 : List Cond := [Cond.constant RX6 67 (-1000000001), Cond.fieldLink RX6 38 "StrokeBoard" "links" "LStrokeBoard$Links;", Cond.constant RX6 162 (-1000000004), Cond.methodLink RX6 155 yX6_areTwoSites, Cond.instanceMethod yX6_areTwoSites, Cond.selects RX6 yX6_areTwoSites yX6_areTwoSites, Cond.initialized RX6, Cond.code yX6_areTwoSites cX6_areTwoSites 3 (some .boolean), Cond.methodLink RX6 78 yX6_isSite, Cond.instanceMethod yX6_isSite, Cond.selects RX6 yX6_isSite yX6_isSite, Cond.code yX6_isSite cX6_isSite 2 (some .boolean), Cond.fieldLink RX6 59 "StrokeBoard" "siteCount" "I", Cond.methodLink RX6 63 yX6_isWithin, Cond.static yX6_isWithin, Cond.code yX6_isWithin cX6_isWithin 3 (some .boolean), Cond.methodLink RX6 159 yX3_countIn, Cond.instanceMethod yX3_countIn, Cond.selects RX3 yX3_countIn yX3_countIn, Cond.initialized RX3, Cond.code yX3_countIn cX3_countIn 3 (some .int), Cond.fieldLink RX3 14 "StrokeBoard$Links" "counts" "LStrokeBoard$Row;", Cond.methodLink RX3 26 yX5_get, Cond.instanceMethod yX5_get]
def wsX6_deliver_r2 : List Cond := [Cond.selects RX5 yX5_get yX5_get, Cond.initialized RX5, Cond.code yX5_get cX5_get 2 (some .int), Cond.fieldLink RX5 13 "StrokeBoard$Row" "cells" "[I", Cond.methodLink RX6 163 yX3_messageIn, Cond.instanceMethod yX3_messageIn, Cond.selects RX3 yX3_messageIn yX3_messageIn, Cond.code yX3_messageIn cX3_messageIn 4 (some .int), Cond.fieldLink RX3 20 "StrokeBoard$Links" "messages" "LStrokeBoard$Row;", Cond.methodLink RX6 166 yX3_dropFirst, Cond.instanceMethod yX3_dropFirst, Cond.selects RX3 yX3_dropFirst yX3_dropFirst, Cond.code yX3_dropFirst cX3_dropFirst 7 none, Cond.methodLink RX3 34 Lib.Math.max.name, Cond.static Lib.Math.max.name, Cond.initialized "java/lang/Math", Cond.code Lib.Math.max.name Lib.Math.max.code 2 (some .int), Cond.methodLink RX3 30 yX5_set, Cond.instanceMethod yX5_set, Cond.selects RX5 yX5_set yX5_set, Cond.code yX5_set cX5_set 3 none, Cond.methodLink RX6 169 yX6_receive, Cond.instanceMethod yX6_receive, Cond.selects RX6 yX6_receive yX6_receive]
def wsX6_deliver_r3 : List Cond := [Cond.code yX6_receive cX6_receive 3 none, Cond.fieldLink RX6 28 "StrokeBoard" "knowledge" "LStrokeBoard$Knowledge;", Cond.fieldLink RX6 55 "StrokeBoard" "clocks" "LStrokeBoard$Row;", Cond.fieldLink RX6 12 "StrokeBoard" "log" "LStrokeBoard$Log;", Cond.methodLink RX6 190 Lib.Math.max.name, Cond.methodLink RX6 245 yX2_learn, Cond.instanceMethod yX2_learn, Cond.selects RX2 yX2_learn yX2_learn, Cond.initialized RX2, Cond.code yX2_learn cX2_learn 3 none, Cond.fieldLink RX2 14 "StrokeBoard$Knowledge" "known" "LStrokeBoard$Row;", Cond.methodLink RX2 27 yX5_set, Cond.methodLink RX6 82 yX5_get, Cond.methodLink RX6 201 yX4_timeOf, Cond.instanceMethod yX4_timeOf, Cond.selects RX4 yX4_timeOf yX4_timeOf, Cond.initialized RX4, Cond.code yX4_timeOf cX4_timeOf 2 (some .int), Cond.fieldLink RX4 23 "StrokeBoard$Log" "times" "LStrokeBoard$Row;", Cond.methodLink RX4 65 yX5_get, Cond.methodLink RX6 195 yX5_set, Cond.methodLink RX6 172 yX6_authorOf, Cond.static yX6_authorOf, Cond.code yX6_authorOf cX6_authorOf 1 (some .int)]
def wsX6_deliver_r4 : List Cond := [Cond.methodLink RX6 135 yX6_numberOf, Cond.static yX6_numberOf, Cond.code yX6_numberOf cX6_numberOf 1 (some .int)]
def wsX6_deliver : List Cond := .code yX6_deliver cX6_deliver 4 (some .int) :: ((wsX6_deliver_r1 ++ (wsX6_deliver_r2 ++ (wsX6_deliver_r3 ++ wsX6_deliver_r4))) ++ wsX60 ++ wsX30 ++ wsX50 ++ wsX20 ++ wsX40)
def wsX6_lose_r1 : List Cond := [Cond.constant RX6 67 (-1000000001), Cond.fieldLink RX6 38 "StrokeBoard" "links" "LStrokeBoard$Links;", Cond.constant RX6 162 (-1000000004), Cond.methodLink RX6 155 yX6_areTwoSites, Cond.instanceMethod yX6_areTwoSites, Cond.selects RX6 yX6_areTwoSites yX6_areTwoSites, Cond.initialized RX6, Cond.code yX6_areTwoSites cX6_areTwoSites 3 (some .boolean), Cond.methodLink RX6 78 yX6_isSite, Cond.instanceMethod yX6_isSite, Cond.selects RX6 yX6_isSite yX6_isSite, Cond.code yX6_isSite cX6_isSite 2 (some .boolean), Cond.fieldLink RX6 59 "StrokeBoard" "siteCount" "I", Cond.methodLink RX6 63 yX6_isWithin, Cond.static yX6_isWithin, Cond.code yX6_isWithin cX6_isWithin 3 (some .boolean), Cond.methodLink RX6 159 yX3_countIn, Cond.instanceMethod yX3_countIn, Cond.selects RX3 yX3_countIn yX3_countIn, Cond.initialized RX3, Cond.code yX3_countIn cX3_countIn 3 (some .int), Cond.fieldLink RX3 14 "StrokeBoard$Links" "counts" "LStrokeBoard$Row;", Cond.methodLink RX3 26 yX5_get, Cond.instanceMethod yX5_get]
def wsX6_lose_r2 : List Cond := [Cond.selects RX5 yX5_get yX5_get, Cond.initialized RX5, Cond.code yX5_get cX5_get 2 (some .int), Cond.fieldLink RX5 13 "StrokeBoard$Row" "cells" "[I", Cond.methodLink RX6 166 yX3_dropFirst, Cond.instanceMethod yX3_dropFirst, Cond.selects RX3 yX3_dropFirst yX3_dropFirst, Cond.code yX3_dropFirst cX3_dropFirst 7 none, Cond.fieldLink RX3 20 "StrokeBoard$Links" "messages" "LStrokeBoard$Row;", Cond.methodLink RX3 34 Lib.Math.max.name, Cond.static Lib.Math.max.name, Cond.initialized "java/lang/Math", Cond.code Lib.Math.max.name Lib.Math.max.code 2 (some .int), Cond.methodLink RX3 30 yX5_set, Cond.instanceMethod yX5_set, Cond.selects RX5 yX5_set yX5_set, Cond.code yX5_set cX5_set 3 none]
def wsX6_lose : List Cond := .code yX6_lose cX6_lose 3 (some .int) :: ((wsX6_lose_r1 ++ wsX6_lose_r2) ++ wsX60 ++ wsX30 ++ wsX50)
def wsX6_deliverLink_r1 : List Cond := [Cond.fieldLink RX6 38 "StrokeBoard" "links" "LStrokeBoard$Links;", Cond.methodLink RX6 159 yX3_countIn, Cond.instanceMethod yX3_countIn, Cond.selects RX3 yX3_countIn yX3_countIn, Cond.initialized RX3, Cond.code yX3_countIn cX3_countIn 3 (some .int), Cond.fieldLink RX3 14 "StrokeBoard$Links" "counts" "LStrokeBoard$Row;", Cond.methodLink RX3 26 yX5_get, Cond.instanceMethod yX5_get, Cond.selects RX5 yX5_get yX5_get, Cond.initialized RX5, Cond.code yX5_get cX5_get 2 (some .int), Cond.fieldLink RX5 13 "StrokeBoard$Row" "cells" "[I", Cond.methodLink RX6 163 yX3_messageIn, Cond.instanceMethod yX3_messageIn, Cond.selects RX3 yX3_messageIn yX3_messageIn, Cond.code yX3_messageIn cX3_messageIn 4 (some .int), Cond.fieldLink RX3 20 "StrokeBoard$Links" "messages" "LStrokeBoard$Row;", Cond.methodLink RX6 169 yX6_receive, Cond.instanceMethod yX6_receive, Cond.selects RX6 yX6_receive yX6_receive, Cond.initialized RX6, Cond.code yX6_receive cX6_receive 3 none, Cond.fieldLink RX6 28 "StrokeBoard" "knowledge" "LStrokeBoard$Knowledge;"]
def wsX6_deliverLink_r2 : List Cond := [Cond.fieldLink RX6 55 "StrokeBoard" "clocks" "LStrokeBoard$Row;", Cond.fieldLink RX6 12 "StrokeBoard" "log" "LStrokeBoard$Log;", Cond.methodLink RX6 190 Lib.Math.max.name, Cond.static Lib.Math.max.name, Cond.initialized "java/lang/Math", Cond.code Lib.Math.max.name Lib.Math.max.code 2 (some .int), Cond.methodLink RX6 245 yX2_learn, Cond.instanceMethod yX2_learn, Cond.selects RX2 yX2_learn yX2_learn, Cond.initialized RX2, Cond.code yX2_learn cX2_learn 3 none, Cond.fieldLink RX2 14 "StrokeBoard$Knowledge" "known" "LStrokeBoard$Row;", Cond.methodLink RX2 27 yX5_set, Cond.instanceMethod yX5_set, Cond.selects RX5 yX5_set yX5_set, Cond.code yX5_set cX5_set 3 none, Cond.methodLink RX6 82 yX5_get, Cond.methodLink RX6 201 yX4_timeOf, Cond.instanceMethod yX4_timeOf, Cond.selects RX4 yX4_timeOf yX4_timeOf, Cond.initialized RX4, Cond.code yX4_timeOf cX4_timeOf 2 (some .int), Cond.fieldLink RX4 23 "StrokeBoard$Log" "times" "LStrokeBoard$Row;", Cond.methodLink RX4 65 yX5_get]
def wsX6_deliverLink_r3 : List Cond := [Cond.methodLink RX6 195 yX5_set, Cond.methodLink RX6 166 yX3_dropFirst, Cond.instanceMethod yX3_dropFirst, Cond.selects RX3 yX3_dropFirst yX3_dropFirst, Cond.code yX3_dropFirst cX3_dropFirst 7 none, Cond.methodLink RX3 34 Lib.Math.max.name, Cond.methodLink RX3 30 yX5_set]
def wsX6_deliverLink : List Cond := .code yX6_deliverLink cX6_deliverLink 5 (some .int) :: ((wsX6_deliverLink_r1 ++ (wsX6_deliverLink_r2 ++ wsX6_deliverLink_r3)) ++ wsX60 ++ wsX30 ++ wsX50 ++ wsX20 ++ wsX40)
def wsX6_deliverAll_r1 : List Cond := [Cond.fieldLink RX6 59 "StrokeBoard" "siteCount" "I", Cond.methodLink RX6 175 yX6_deliverLink, Cond.instanceMethod yX6_deliverLink, Cond.selects RX6 yX6_deliverLink yX6_deliverLink, Cond.initialized RX6, Cond.code yX6_deliverLink cX6_deliverLink 5 (some .int), Cond.fieldLink RX6 38 "StrokeBoard" "links" "LStrokeBoard$Links;", Cond.methodLink RX6 159 yX3_countIn, Cond.instanceMethod yX3_countIn, Cond.selects RX3 yX3_countIn yX3_countIn, Cond.initialized RX3, Cond.code yX3_countIn cX3_countIn 3 (some .int), Cond.fieldLink RX3 14 "StrokeBoard$Links" "counts" "LStrokeBoard$Row;", Cond.methodLink RX3 26 yX5_get, Cond.instanceMethod yX5_get, Cond.selects RX5 yX5_get yX5_get, Cond.initialized RX5, Cond.code yX5_get cX5_get 2 (some .int), Cond.fieldLink RX5 13 "StrokeBoard$Row" "cells" "[I", Cond.methodLink RX6 163 yX3_messageIn, Cond.instanceMethod yX3_messageIn, Cond.selects RX3 yX3_messageIn yX3_messageIn, Cond.code yX3_messageIn cX3_messageIn 4 (some .int), Cond.fieldLink RX3 20 "StrokeBoard$Links" "messages" "LStrokeBoard$Row;"]
def wsX6_deliverAll_r2 : List Cond := [Cond.methodLink RX6 169 yX6_receive, Cond.instanceMethod yX6_receive, Cond.selects RX6 yX6_receive yX6_receive, Cond.code yX6_receive cX6_receive 3 none, Cond.fieldLink RX6 28 "StrokeBoard" "knowledge" "LStrokeBoard$Knowledge;", Cond.fieldLink RX6 55 "StrokeBoard" "clocks" "LStrokeBoard$Row;", Cond.fieldLink RX6 12 "StrokeBoard" "log" "LStrokeBoard$Log;", Cond.methodLink RX6 190 Lib.Math.max.name, Cond.static Lib.Math.max.name, Cond.initialized "java/lang/Math", Cond.code Lib.Math.max.name Lib.Math.max.code 2 (some .int), Cond.methodLink RX6 245 yX2_learn, Cond.instanceMethod yX2_learn, Cond.selects RX2 yX2_learn yX2_learn, Cond.initialized RX2, Cond.code yX2_learn cX2_learn 3 none, Cond.fieldLink RX2 14 "StrokeBoard$Knowledge" "known" "LStrokeBoard$Row;", Cond.methodLink RX2 27 yX5_set, Cond.instanceMethod yX5_set, Cond.selects RX5 yX5_set yX5_set, Cond.code yX5_set cX5_set 3 none, Cond.methodLink RX6 82 yX5_get, Cond.methodLink RX6 201 yX4_timeOf, Cond.instanceMethod yX4_timeOf]
def wsX6_deliverAll_r3 : List Cond := [Cond.selects RX4 yX4_timeOf yX4_timeOf, Cond.initialized RX4, Cond.code yX4_timeOf cX4_timeOf 2 (some .int), Cond.fieldLink RX4 23 "StrokeBoard$Log" "times" "LStrokeBoard$Row;", Cond.methodLink RX4 65 yX5_get, Cond.methodLink RX6 195 yX5_set, Cond.methodLink RX6 166 yX3_dropFirst, Cond.instanceMethod yX3_dropFirst, Cond.selects RX3 yX3_dropFirst yX3_dropFirst, Cond.code yX3_dropFirst cX3_dropFirst 7 none, Cond.methodLink RX3 34 Lib.Math.max.name, Cond.methodLink RX3 30 yX5_set]
def wsX6_deliverAll : List Cond := .code yX6_deliverAll cX6_deliverAll 4 (some .int) :: ((wsX6_deliverAll_r1 ++ (wsX6_deliverAll_r2 ++ wsX6_deliverAll_r3)) ++ wsX60 ++ wsX30 ++ wsX50 ++ wsX20 ++ wsX40)
def wsX6_waiting_r1 : List Cond := [Cond.fieldLink RX6 38 "StrokeBoard" "links" "LStrokeBoard$Links;", Cond.constant RX6 67 (-1000000001), Cond.methodLink RX6 155 yX6_areTwoSites, Cond.instanceMethod yX6_areTwoSites, Cond.selects RX6 yX6_areTwoSites yX6_areTwoSites, Cond.initialized RX6, Cond.code yX6_areTwoSites cX6_areTwoSites 3 (some .boolean), Cond.methodLink RX6 78 yX6_isSite, Cond.instanceMethod yX6_isSite, Cond.selects RX6 yX6_isSite yX6_isSite, Cond.code yX6_isSite cX6_isSite 2 (some .boolean), Cond.fieldLink RX6 59 "StrokeBoard" "siteCount" "I", Cond.methodLink RX6 63 yX6_isWithin, Cond.static yX6_isWithin, Cond.code yX6_isWithin cX6_isWithin 3 (some .boolean), Cond.methodLink RX6 159 yX3_countIn, Cond.instanceMethod yX3_countIn, Cond.selects RX3 yX3_countIn yX3_countIn, Cond.initialized RX3, Cond.code yX3_countIn cX3_countIn 3 (some .int), Cond.fieldLink RX3 14 "StrokeBoard$Links" "counts" "LStrokeBoard$Row;", Cond.methodLink RX3 26 yX5_get, Cond.instanceMethod yX5_get, Cond.selects RX5 yX5_get yX5_get]
def wsX6_waiting_r2 : List Cond := [Cond.initialized RX5, Cond.code yX5_get cX5_get 2 (some .int), Cond.fieldLink RX5 13 "StrokeBoard$Row" "cells" "[I"]
def wsX6_waiting : List Cond := .code yX6_waiting cX6_waiting 3 (some .int) :: ((wsX6_waiting_r1 ++ wsX6_waiting_r2) ++ wsX60 ++ wsX30 ++ wsX50)
def wsX6_gap_r1 : List Cond := [Cond.constant RX6 67 (-1000000001), Cond.fieldLink RX6 28 "StrokeBoard" "knowledge" "LStrokeBoard$Knowledge;", Cond.constant RX6 162 (-1000000004), Cond.methodLink RX6 78 yX6_isSite, Cond.instanceMethod yX6_isSite, Cond.selects RX6 yX6_isSite yX6_isSite, Cond.initialized RX6, Cond.code yX6_isSite cX6_isSite 2 (some .boolean), Cond.fieldLink RX6 59 "StrokeBoard" "siteCount" "I", Cond.methodLink RX6 63 yX6_isWithin, Cond.static yX6_isWithin, Cond.code yX6_isWithin cX6_isWithin 3 (some .boolean), Cond.methodLink RX6 178 yX6_idOf, Cond.static yX6_idOf, Cond.code yX6_idOf cX6_idOf 2 (some .int), Cond.methodLink RX6 181 yX2_has, Cond.instanceMethod yX2_has, Cond.selects RX2 yX2_has yX2_has, Cond.initialized RX2, Cond.code yX2_has cX2_has 3 (some .boolean), Cond.fieldLink RX2 14 "StrokeBoard$Knowledge" "known" "LStrokeBoard$Row;", Cond.methodLink RX2 31 yX5_get, Cond.instanceMethod yX5_get, Cond.selects RX5 yX5_get yX5_get]
def wsX6_gap_r2 : List Cond := [Cond.initialized RX5, Cond.code yX5_get cX5_get 2 (some .int), Cond.fieldLink RX5 13 "StrokeBoard$Row" "cells" "[I"]
def wsX6_gap : List Cond := .code yX6_gap cX6_gap 8 (some .int) :: ((wsX6_gap_r1 ++ wsX6_gap_r2) ++ wsX60 ++ wsX20 ++ wsX50)
def wsX6_canRepair_r1 : List Cond := [Cond.fieldLink RX6 28 "StrokeBoard" "knowledge" "LStrokeBoard$Knowledge;", Cond.methodLink RX6 254 yX2_isInGap, Cond.instanceMethod yX2_isInGap, Cond.selects RX2 yX2_isInGap yX2_isInGap, Cond.initialized RX2, Cond.code yX2_isInGap cX2_isInGap 3 (some .boolean), Cond.methodLink RX2 35 yX2_has, Cond.instanceMethod yX2_has, Cond.selects RX2 yX2_has yX2_has, Cond.code yX2_has cX2_has 3 (some .boolean), Cond.fieldLink RX2 14 "StrokeBoard$Knowledge" "known" "LStrokeBoard$Row;", Cond.methodLink RX2 31 yX5_get, Cond.instanceMethod yX5_get, Cond.selects RX5 yX5_get yX5_get, Cond.initialized RX5, Cond.code yX5_get cX5_get 2 (some .int), Cond.fieldLink RX5 13 "StrokeBoard$Row" "cells" "[I", Cond.methodLink RX2 39 yX2_hasLaterOfAuthor, Cond.instanceMethod yX2_hasLaterOfAuthor, Cond.selects RX2 yX2_hasLaterOfAuthor yX2_hasLaterOfAuthor, Cond.code yX2_hasLaterOfAuthor cX2_hasLaterOfAuthor 5 (some .boolean), Cond.static yX6_authorOf, Cond.initialized RX6, Cond.code yX6_authorOf cX6_authorOf 1 (some .int)]
def wsX6_canRepair_r2 : List Cond := [Cond.static yX6_numberOf, Cond.code yX6_numberOf cX6_numberOf 1 (some .int), Cond.static yX6_idOf, Cond.code yX6_idOf cX6_idOf 2 (some .int), Cond.methodLink RX6 181 yX2_has]
def wsX6_canRepair : List Cond := .code yX6_canRepair cX6_canRepair 4 (some .boolean) :: ((wsX6_canRepair_r1 ++ wsX6_canRepair_r2) ++ wsX60 ++ wsX20 ++ wsX50)
def wsX6_repair_r1 : List Cond := [Cond.constant RX6 67 (-1000000001), Cond.methodLink RX6 155 yX6_areTwoSites, Cond.instanceMethod yX6_areTwoSites, Cond.selects RX6 yX6_areTwoSites yX6_areTwoSites, Cond.initialized RX6, Cond.code yX6_areTwoSites cX6_areTwoSites 3 (some .boolean), Cond.methodLink RX6 78 yX6_isSite, Cond.instanceMethod yX6_isSite, Cond.selects RX6 yX6_isSite yX6_isSite, Cond.code yX6_isSite cX6_isSite 2 (some .boolean), Cond.fieldLink RX6 59 "StrokeBoard" "siteCount" "I", Cond.methodLink RX6 63 yX6_isWithin, Cond.static yX6_isWithin, Cond.code yX6_isWithin cX6_isWithin 3 (some .boolean), Cond.methodLink RX6 184 yX6_canRepair, Cond.instanceMethod yX6_canRepair, Cond.selects RX6 yX6_canRepair yX6_canRepair, Cond.code yX6_canRepair cX6_canRepair 4 (some .boolean), Cond.fieldLink RX6 28 "StrokeBoard" "knowledge" "LStrokeBoard$Knowledge;", Cond.methodLink RX6 254 yX2_isInGap, Cond.instanceMethod yX2_isInGap, Cond.selects RX2 yX2_isInGap yX2_isInGap, Cond.initialized RX2, Cond.code yX2_isInGap cX2_isInGap 3 (some .boolean)]
def wsX6_repair_r2 : List Cond := [Cond.methodLink RX2 35 yX2_has, Cond.instanceMethod yX2_has, Cond.selects RX2 yX2_has yX2_has, Cond.code yX2_has cX2_has 3 (some .boolean), Cond.fieldLink RX2 14 "StrokeBoard$Knowledge" "known" "LStrokeBoard$Row;", Cond.methodLink RX2 31 yX5_get, Cond.instanceMethod yX5_get, Cond.selects RX5 yX5_get yX5_get, Cond.initialized RX5, Cond.code yX5_get cX5_get 2 (some .int), Cond.fieldLink RX5 13 "StrokeBoard$Row" "cells" "[I", Cond.methodLink RX2 39 yX2_hasLaterOfAuthor, Cond.instanceMethod yX2_hasLaterOfAuthor, Cond.selects RX2 yX2_hasLaterOfAuthor yX2_hasLaterOfAuthor, Cond.code yX2_hasLaterOfAuthor cX2_hasLaterOfAuthor 5 (some .boolean), Cond.static yX6_authorOf, Cond.code yX6_authorOf cX6_authorOf 1 (some .int), Cond.static yX6_numberOf, Cond.code yX6_numberOf cX6_numberOf 1 (some .int), Cond.static yX6_idOf, Cond.code yX6_idOf cX6_idOf 2 (some .int), Cond.methodLink RX6 181 yX2_has, Cond.methodLink RX6 169 yX6_receive, Cond.instanceMethod yX6_receive]
def wsX6_repair_r3 : List Cond := [Cond.selects RX6 yX6_receive yX6_receive, Cond.code yX6_receive cX6_receive 3 none, Cond.fieldLink RX6 55 "StrokeBoard" "clocks" "LStrokeBoard$Row;", Cond.fieldLink RX6 12 "StrokeBoard" "log" "LStrokeBoard$Log;", Cond.methodLink RX6 190 Lib.Math.max.name, Cond.static Lib.Math.max.name, Cond.initialized "java/lang/Math", Cond.code Lib.Math.max.name Lib.Math.max.code 2 (some .int), Cond.methodLink RX6 245 yX2_learn, Cond.instanceMethod yX2_learn, Cond.selects RX2 yX2_learn yX2_learn, Cond.code yX2_learn cX2_learn 3 none, Cond.methodLink RX2 27 yX5_set, Cond.instanceMethod yX5_set, Cond.selects RX5 yX5_set yX5_set, Cond.code yX5_set cX5_set 3 none, Cond.methodLink RX6 82 yX5_get, Cond.methodLink RX6 201 yX4_timeOf, Cond.instanceMethod yX4_timeOf, Cond.selects RX4 yX4_timeOf yX4_timeOf, Cond.initialized RX4, Cond.code yX4_timeOf cX4_timeOf 2 (some .int), Cond.fieldLink RX4 23 "StrokeBoard$Log" "times" "LStrokeBoard$Row;", Cond.methodLink RX4 65 yX5_get]
def wsX6_repair_r4 : List Cond := [Cond.methodLink RX6 195 yX5_set]
def wsX6_repair : List Cond := .code yX6_repair cX6_repair 5 (some .int) :: ((wsX6_repair_r1 ++ (wsX6_repair_r2 ++ (wsX6_repair_r3 ++ wsX6_repair_r4))) ++ wsX60 ++ wsX20 ++ wsX50 ++ wsX40)
def wsX6_transfer_r1 : List Cond := [Cond.constant RX6 67 (-1000000001), Cond.fieldLink RX6 28 "StrokeBoard" "knowledge" "LStrokeBoard$Knowledge;", Cond.fieldLink RX6 12 "StrokeBoard" "log" "LStrokeBoard$Log;", Cond.fieldLink RX6 55 "StrokeBoard" "clocks" "LStrokeBoard$Row;", Cond.methodLink RX6 190 Lib.Math.max.name, Cond.static Lib.Math.max.name, Cond.initialized "java/lang/Math", Cond.code Lib.Math.max.name Lib.Math.max.code 2 (some .int), Cond.methodLink RX6 155 yX6_areTwoSites, Cond.instanceMethod yX6_areTwoSites, Cond.selects RX6 yX6_areTwoSites yX6_areTwoSites, Cond.initialized RX6, Cond.code yX6_areTwoSites cX6_areTwoSites 3 (some .boolean), Cond.methodLink RX6 78 yX6_isSite, Cond.instanceMethod yX6_isSite, Cond.selects RX6 yX6_isSite yX6_isSite, Cond.code yX6_isSite cX6_isSite 2 (some .boolean), Cond.fieldLink RX6 59 "StrokeBoard" "siteCount" "I", Cond.methodLink RX6 63 yX6_isWithin, Cond.static yX6_isWithin, Cond.code yX6_isWithin cX6_isWithin 3 (some .boolean), Cond.methodLink RX6 181 yX2_has, Cond.instanceMethod yX2_has, Cond.selects RX2 yX2_has yX2_has]
def wsX6_transfer_r2 : List Cond := [Cond.initialized RX2, Cond.code yX2_has cX2_has 3 (some .boolean), Cond.fieldLink RX2 14 "StrokeBoard$Knowledge" "known" "LStrokeBoard$Row;", Cond.methodLink RX2 31 yX5_get, Cond.instanceMethod yX5_get, Cond.selects RX5 yX5_get yX5_get, Cond.initialized RX5, Cond.code yX5_get cX5_get 2 (some .int), Cond.fieldLink RX5 13 "StrokeBoard$Row" "cells" "[I", Cond.methodLink RX6 169 yX6_receive, Cond.instanceMethod yX6_receive, Cond.selects RX6 yX6_receive yX6_receive, Cond.code yX6_receive cX6_receive 3 none, Cond.methodLink RX6 245 yX2_learn, Cond.instanceMethod yX2_learn, Cond.selects RX2 yX2_learn yX2_learn, Cond.code yX2_learn cX2_learn 3 none, Cond.methodLink RX2 27 yX5_set, Cond.instanceMethod yX5_set, Cond.selects RX5 yX5_set yX5_set, Cond.code yX5_set cX5_set 3 none, Cond.methodLink RX6 82 yX5_get, Cond.methodLink RX6 201 yX4_timeOf, Cond.instanceMethod yX4_timeOf]
def wsX6_transfer_r3 : List Cond := [Cond.selects RX4 yX4_timeOf yX4_timeOf, Cond.initialized RX4, Cond.code yX4_timeOf cX4_timeOf 2 (some .int), Cond.fieldLink RX4 23 "StrokeBoard$Log" "times" "LStrokeBoard$Row;", Cond.methodLink RX4 65 yX5_get, Cond.methodLink RX6 195 yX5_set, Cond.methodLink RX6 187 yX4_sizeOf, Cond.instanceMethod yX4_sizeOf, Cond.selects RX4 yX4_sizeOf yX4_sizeOf, Cond.code yX4_sizeOf cX4_sizeOf 2 (some .int), Cond.fieldLink RX4 20 "StrokeBoard$Log" "kinds" "LStrokeBoard$Row;", Cond.fieldLink RX4 38 "StrokeBoard$Log" "ink" "LStrokeBoard$Ink;", Cond.methodLink RX4 87 yX1_sizeOf, Cond.instanceMethod yX1_sizeOf, Cond.selects RX1 yX1_sizeOf yX1_sizeOf, Cond.initialized RX1, Cond.code yX1_sizeOf cX1_sizeOf 5 (some .int), Cond.fieldLink RX1 14 "StrokeBoard$Ink" "counts" "LStrokeBoard$Row;", Cond.methodLink RX1 42 yX5_get, Cond.methodLink RX1 59 yX1_xOf, Cond.instanceMethod yX1_xOf, Cond.selects RX1 yX1_xOf yX1_xOf, Cond.code yX1_xOf cX1_xOf 3 (some .int), Cond.fieldLink RX1 26 "StrokeBoard$Ink" "xs" "LStrokeBoard$Row;"]
def wsX6_transfer_r4 : List Cond := [Cond.methodLink RX1 63 yX1_yOf, Cond.instanceMethod yX1_yOf, Cond.selects RX1 yX1_yOf yX1_yOf, Cond.code yX1_yOf cX1_yOf 3 (some .int), Cond.fieldLink RX1 29 "StrokeBoard$Ink" "ys" "LStrokeBoard$Row;"]
def wsX6_transfer : List Cond := .code yX6_transfer cX6_transfer 5 (some .int) :: ((wsX6_transfer_r1 ++ (wsX6_transfer_r2 ++ (wsX6_transfer_r3 ++ wsX6_transfer_r4))) ++ wsX60 ++ wsX20 ++ wsX50 ++ wsX40 ++ wsX10)
def wsX6_operation_r1 : List Cond := [Cond.constant RX6 67 (-1000000001), Cond.fieldLink RX6 12 "StrokeBoard" "log" "LStrokeBoard$Log;", Cond.constant RX6 162 (-1000000004), Cond.methodLink RX6 78 yX6_isSite, Cond.instanceMethod yX6_isSite, Cond.selects RX6 yX6_isSite yX6_isSite, Cond.initialized RX6, Cond.code yX6_isSite cX6_isSite 2 (some .boolean), Cond.fieldLink RX6 59 "StrokeBoard" "siteCount" "I", Cond.methodLink RX6 63 yX6_isWithin, Cond.static yX6_isWithin, Cond.code yX6_isWithin cX6_isWithin 3 (some .boolean), Cond.methodLink RX6 89 yX4_madeBy, Cond.instanceMethod yX4_madeBy, Cond.selects RX4 yX4_madeBy yX4_madeBy, Cond.initialized RX4, Cond.code yX4_madeBy cX4_madeBy 2 (some .int), Cond.fieldLink RX4 14 "StrokeBoard$Log" "made" "LStrokeBoard$Row;", Cond.methodLink RX4 65 yX5_get, Cond.instanceMethod yX5_get, Cond.selects RX5 yX5_get yX5_get, Cond.initialized RX5, Cond.code yX5_get cX5_get 2 (some .int), Cond.fieldLink RX5 13 "StrokeBoard$Row" "cells" "[I"]
def wsX6_operation_r2 : List Cond := [Cond.methodLink RX6 178 yX6_idOf, Cond.static yX6_idOf, Cond.code yX6_idOf cX6_idOf 2 (some .int), Cond.methodLink RX6 198 yX4_kindOf, Cond.instanceMethod yX4_kindOf, Cond.selects RX4 yX4_kindOf yX4_kindOf, Cond.code yX4_kindOf cX4_kindOf 2 (some .int), Cond.fieldLink RX4 20 "StrokeBoard$Log" "kinds" "LStrokeBoard$Row;", Cond.methodLink RX6 201 yX4_timeOf, Cond.instanceMethod yX4_timeOf, Cond.selects RX4 yX4_timeOf yX4_timeOf, Cond.code yX4_timeOf cX4_timeOf 2 (some .int), Cond.fieldLink RX4 23 "StrokeBoard$Log" "times" "LStrokeBoard$Row;", Cond.methodLink RX6 187 yX4_sizeOf, Cond.instanceMethod yX4_sizeOf, Cond.selects RX4 yX4_sizeOf yX4_sizeOf, Cond.code yX4_sizeOf cX4_sizeOf 2 (some .int), Cond.fieldLink RX4 38 "StrokeBoard$Log" "ink" "LStrokeBoard$Ink;", Cond.methodLink RX4 87 yX1_sizeOf, Cond.instanceMethod yX1_sizeOf, Cond.selects RX1 yX1_sizeOf yX1_sizeOf, Cond.initialized RX1, Cond.code yX1_sizeOf cX1_sizeOf 5 (some .int), Cond.fieldLink RX1 14 "StrokeBoard$Ink" "counts" "LStrokeBoard$Row;"]
def wsX6_operation_r3 : List Cond := [Cond.methodLink RX1 42 yX5_get, Cond.methodLink RX1 59 yX1_xOf, Cond.instanceMethod yX1_xOf, Cond.selects RX1 yX1_xOf yX1_xOf, Cond.code yX1_xOf cX1_xOf 3 (some .int), Cond.fieldLink RX1 26 "StrokeBoard$Ink" "xs" "LStrokeBoard$Row;", Cond.methodLink RX1 63 yX1_yOf, Cond.instanceMethod yX1_yOf, Cond.selects RX1 yX1_yOf yX1_yOf, Cond.code yX1_yOf cX1_yOf 3 (some .int), Cond.fieldLink RX1 29 "StrokeBoard$Ink" "ys" "LStrokeBoard$Row;", Cond.methodLink RX6 204 yX4_isStroke, Cond.instanceMethod yX4_isStroke, Cond.selects RX4 yX4_isStroke yX4_isStroke, Cond.code yX4_isStroke cX4_isStroke 2 (some .boolean), Cond.methodLink RX6 100 yX1_pointCount, Cond.instanceMethod yX1_pointCount, Cond.selects RX1 yX1_pointCount yX1_pointCount, Cond.code yX1_pointCount cX1_pointCount 2 (some .int), Cond.methodLink RX6 210 yX4_targetOf, Cond.instanceMethod yX4_targetOf, Cond.selects RX4 yX4_targetOf yX4_targetOf, Cond.code yX4_targetOf cX4_targetOf 2 (some .int), Cond.fieldLink RX4 26 "StrokeBoard$Log" "targets" "LStrokeBoard$Row;"]
def wsX6_operation_r4 : List Cond := [Cond.methodLink RX6 135 yX6_numberOf, Cond.static yX6_numberOf, Cond.code yX6_numberOf cX6_numberOf 1 (some .int), Cond.methodLink RX6 172 yX6_authorOf, Cond.static yX6_authorOf, Cond.code yX6_authorOf cX6_authorOf 1 (some .int), Cond.methodLink RX6 213 yX4_layerOf, Cond.instanceMethod yX4_layerOf, Cond.selects RX4 yX4_layerOf yX4_layerOf, Cond.code yX4_layerOf cX4_layerOf 2 (some .int), Cond.fieldLink RX4 29 "StrokeBoard$Log" "layers" "LStrokeBoard$Row;"]
def wsX6_operation : List Cond := .code yX6_operation cX6_operation 5 (some .int) :: ((wsX6_operation_r1 ++ (wsX6_operation_r2 ++ (wsX6_operation_r3 ++ wsX6_operation_r4))) ++ wsX60 ++ wsX40 ++ wsX50 ++ wsX10)
def wsX6_knows_r1 : List Cond := [Cond.constant RX6 67 (-1000000001), Cond.fieldLink RX6 12 "StrokeBoard" "log" "LStrokeBoard$Log;", Cond.constant RX6 162 (-1000000004), Cond.fieldLink RX6 28 "StrokeBoard" "knowledge" "LStrokeBoard$Knowledge;", Cond.methodLink RX6 78 yX6_isSite, Cond.instanceMethod yX6_isSite, Cond.selects RX6 yX6_isSite yX6_isSite, Cond.initialized RX6, Cond.code yX6_isSite cX6_isSite 2 (some .boolean), Cond.fieldLink RX6 59 "StrokeBoard" "siteCount" "I", Cond.methodLink RX6 63 yX6_isWithin, Cond.static yX6_isWithin, Cond.code yX6_isWithin cX6_isWithin 3 (some .boolean), Cond.methodLink RX6 89 yX4_madeBy, Cond.instanceMethod yX4_madeBy, Cond.selects RX4 yX4_madeBy yX4_madeBy, Cond.initialized RX4, Cond.code yX4_madeBy cX4_madeBy 2 (some .int), Cond.fieldLink RX4 14 "StrokeBoard$Log" "made" "LStrokeBoard$Row;", Cond.methodLink RX4 65 yX5_get, Cond.instanceMethod yX5_get, Cond.selects RX5 yX5_get yX5_get, Cond.initialized RX5, Cond.code yX5_get cX5_get 2 (some .int)]
def wsX6_knows_r2 : List Cond := [Cond.fieldLink RX5 13 "StrokeBoard$Row" "cells" "[I", Cond.methodLink RX6 178 yX6_idOf, Cond.static yX6_idOf, Cond.code yX6_idOf cX6_idOf 2 (some .int), Cond.methodLink RX6 181 yX2_has, Cond.instanceMethod yX2_has, Cond.selects RX2 yX2_has yX2_has, Cond.initialized RX2, Cond.code yX2_has cX2_has 3 (some .boolean), Cond.fieldLink RX2 14 "StrokeBoard$Knowledge" "known" "LStrokeBoard$Row;", Cond.methodLink RX2 31 yX5_get]
def wsX6_knows : List Cond := .code yX6_knows cX6_knows 4 (some .int) :: ((wsX6_knows_r1 ++ wsX6_knows_r2) ++ wsX60 ++ wsX40 ++ wsX50 ++ wsX20)
def wsX6_coordinate : List Cond := .code yX6_coordinate cX6_coordinate 4 (some .int) :: ([.fieldLink RX6 12 "StrokeBoard" "log" "LStrokeBoard$Log;", .constant RX6 162 (-1000000004), .methodLink RX6 100 yX1_pointCount, .instanceMethod yX1_pointCount, .selects RX1 yX1_pointCount yX1_pointCount, .initialized RX1, .code yX1_pointCount cX1_pointCount 2 (some .int), .fieldLink RX1 14 "StrokeBoard$Ink" "counts" "LStrokeBoard$Row;", .methodLink RX1 42 yX5_get, .instanceMethod yX5_get, .selects RX5 yX5_get yX5_get, .initialized RX5, .code yX5_get cX5_get 2 (some .int), .fieldLink RX5 13 "StrokeBoard$Row" "cells" "[I", .methodLink RX6 111 yX1_xOf, .instanceMethod yX1_xOf, .selects RX1 yX1_xOf yX1_xOf, .code yX1_xOf cX1_xOf 3 (some .int), .fieldLink RX1 26 "StrokeBoard$Ink" "xs" "LStrokeBoard$Row;", .methodLink RX6 115 yX1_yOf, .instanceMethod yX1_yOf, .selects RX1 yX1_yOf yX1_yOf, .code yX1_yOf cX1_yOf 3 (some .int), .fieldLink RX1 29 "StrokeBoard$Ink" "ys" "LStrokeBoard$Row;"] ++ wsX60 ++ wsX40 ++ wsX10 ++ wsX50)
def wsX6_strokeValue_r1 : List Cond := [Cond.fieldLink RX6 45 "StrokeBoard" "board" "LStrokeBoard$Board;", Cond.fieldLink RX6 12 "StrokeBoard" "log" "LStrokeBoard$Log;", Cond.methodLink RX6 172 yX6_authorOf, Cond.static yX6_authorOf, Cond.initialized RX6, Cond.code yX6_authorOf cX6_authorOf 1 (some .int), Cond.methodLink RX6 135 yX6_numberOf, Cond.static yX6_numberOf, Cond.code yX6_numberOf cX6_numberOf 1 (some .int), Cond.methodLink RX6 257 yX0_layerOf, Cond.instanceMethod yX0_layerOf, Cond.selects RX0 yX0_layerOf yX0_layerOf, Cond.initialized RX0, Cond.code yX0_layerOf cX0_layerOf 2 (some .int), Cond.fieldLink RX0 20 "StrokeBoard$Board" "layers" "LStrokeBoard$Row;", Cond.methodLink RX0 79 yX5_get, Cond.instanceMethod yX5_get, Cond.selects RX5 yX5_get yX5_get, Cond.initialized RX5, Cond.code yX5_get cX5_get 2 (some .int), Cond.fieldLink RX5 13 "StrokeBoard$Row" "cells" "[I", Cond.methodLink RX6 258 yX1_colorOf, Cond.instanceMethod yX1_colorOf, Cond.selects RX1 yX1_colorOf yX1_colorOf]
def wsX6_strokeValue_r2 : List Cond := [Cond.initialized RX1, Cond.code yX1_colorOf cX1_colorOf 2 (some .int), Cond.fieldLink RX1 20 "StrokeBoard$Ink" "colors" "LStrokeBoard$Row;", Cond.methodLink RX1 42 yX5_get, Cond.methodLink RX6 100 yX1_pointCount, Cond.instanceMethod yX1_pointCount, Cond.selects RX1 yX1_pointCount yX1_pointCount, Cond.code yX1_pointCount cX1_pointCount 2 (some .int), Cond.fieldLink RX1 14 "StrokeBoard$Ink" "counts" "LStrokeBoard$Row;"]
def wsX6_strokeValue : List Cond := .code yX6_strokeValue cX6_strokeValue 3 (some .int) :: ((wsX6_strokeValue_r1 ++ wsX6_strokeValue_r2) ++ wsX60 ++ wsX40 ++ wsX00 ++ wsX50 ++ wsX10)
def wsX6_stroke_r1 : List Cond := [Cond.constant RX6 67 (-1000000001), Cond.fieldLink RX6 45 "StrokeBoard" "board" "LStrokeBoard$Board;", Cond.fieldLink RX6 12 "StrokeBoard" "log" "LStrokeBoard$Log;", Cond.fieldLink RX6 28 "StrokeBoard" "knowledge" "LStrokeBoard$Knowledge;", Cond.constant RX6 162 (-1000000004), Cond.methodLink RX6 63 yX6_isWithin, Cond.static yX6_isWithin, Cond.initialized RX6, Cond.code yX6_isWithin cX6_isWithin 3 (some .boolean), Cond.methodLink RX6 78 yX6_isSite, Cond.instanceMethod yX6_isSite, Cond.selects RX6 yX6_isSite yX6_isSite, Cond.code yX6_isSite cX6_isSite 2 (some .boolean), Cond.fieldLink RX6 59 "StrokeBoard" "siteCount" "I", Cond.methodLink RX6 92 yX0_show, Cond.instanceMethod yX0_show, Cond.selects RX0 yX0_show yX0_show, Cond.initialized RX0, Cond.code yX0_show cX0_show 7 none, Cond.fieldLink RX0 14 "StrokeBoard$Board" "undone" "LStrokeBoard$Row;", Cond.fieldLink RX0 20 "StrokeBoard$Board" "layers" "LStrokeBoard$Row;", Cond.fieldLink RX0 40 "StrokeBoard$Board" "count" "I", Cond.methodLink RX0 26 yX4_totalCount, Cond.instanceMethod yX4_totalCount]
def wsX6_stroke_r2 : List Cond := [Cond.selects RX4 yX4_totalCount yX4_totalCount, Cond.initialized RX4, Cond.code yX4_totalCount cX4_totalCount 1 (some .int), Cond.fieldLink RX4 45 "StrokeBoard$Log" "total" "I", Cond.methodLink RX0 32 yX5_fill, Cond.instanceMethod yX5_fill, Cond.selects RX5 yX5_fill yX5_fill, Cond.initialized RX5, Cond.code yX5_fill cX5_fill 3 none, Cond.fieldLink RX5 13 "StrokeBoard$Row" "cells" "[I", Cond.methodLink RX0 36 yX5_copyFrom, Cond.instanceMethod yX5_copyFrom, Cond.selects RX5 yX5_copyFrom yX5_copyFrom, Cond.code yX5_copyFrom cX5_copyFrom 3 none, Cond.methodLink RX5 19 yX5_get, Cond.instanceMethod yX5_get, Cond.selects RX5 yX5_get yX5_get, Cond.code yX5_get cX5_get 2 (some .int), Cond.methodLink RX0 44 yX4_inOrder, Cond.instanceMethod yX4_inOrder, Cond.selects RX4 yX4_inOrder yX4_inOrder, Cond.code yX4_inOrder cX4_inOrder 2 (some .int), Cond.fieldLink RX4 32 "StrokeBoard$Log" "order" "LStrokeBoard$Row;", Cond.methodLink RX4 65 yX5_get]
def wsX6_stroke_r3 : List Cond := [Cond.methodLink RX0 48 yX2_has, Cond.instanceMethod yX2_has, Cond.selects RX2 yX2_has yX2_has, Cond.initialized RX2, Cond.code yX2_has cX2_has 3 (some .boolean), Cond.fieldLink RX2 14 "StrokeBoard$Knowledge" "known" "LStrokeBoard$Row;", Cond.methodLink RX2 31 yX5_get, Cond.methodLink RX0 54 yX0_apply, Cond.instanceMethod yX0_apply, Cond.selects RX0 yX0_apply yX0_apply, Cond.code yX0_apply cX0_apply 4 none, Cond.methodLink RX0 62 yX4_targetOf, Cond.instanceMethod yX4_targetOf, Cond.selects RX4 yX4_targetOf yX4_targetOf, Cond.code yX4_targetOf cX4_targetOf 2 (some .int), Cond.fieldLink RX4 26 "StrokeBoard$Log" "targets" "LStrokeBoard$Row;", Cond.methodLink RX0 65 yX4_kindOf, Cond.instanceMethod yX4_kindOf, Cond.selects RX4 yX4_kindOf yX4_kindOf, Cond.code yX4_kindOf cX4_kindOf 2 (some .int), Cond.fieldLink RX4 20 "StrokeBoard$Log" "kinds" "LStrokeBoard$Row;", Cond.methodLink RX0 68 yX5_set, Cond.instanceMethod yX5_set, Cond.selects RX5 yX5_set yX5_set]
def wsX6_stroke_r4 : List Cond := [Cond.code yX5_set cX5_set 3 none, Cond.methodLink RX0 72 yX4_layerOf, Cond.instanceMethod yX4_layerOf, Cond.selects RX4 yX4_layerOf yX4_layerOf, Cond.code yX4_layerOf cX4_layerOf 2 (some .int), Cond.fieldLink RX4 29 "StrokeBoard$Log" "layers" "LStrokeBoard$Row;", Cond.methodLink RX0 58 yX0_collect, Cond.instanceMethod yX0_collect, Cond.selects RX0 yX0_collect yX0_collect, Cond.code yX0_collect cX0_collect 8 none, Cond.fieldLink RX0 23 "StrokeBoard$Board" "strokes" "LStrokeBoard$Row;", Cond.methodLink RX0 75 yX4_isStroke, Cond.instanceMethod yX4_isStroke, Cond.selects RX4 yX4_isStroke yX4_isStroke, Cond.code yX4_isStroke cX4_isStroke 2 (some .boolean), Cond.methodLink RX0 79 yX5_get, Cond.methodLink RX0 82 yX0_isUndone, Cond.instanceMethod yX0_isUndone, Cond.selects RX0 yX0_isUndone yX0_isUndone, Cond.code yX0_isUndone cX0_isUndone 2 (some .boolean), Cond.methodLink RX6 96 yX0_strokeCount, Cond.instanceMethod yX0_strokeCount, Cond.selects RX0 yX0_strokeCount yX0_strokeCount, Cond.code yX0_strokeCount cX0_strokeCount 1 (some .int)]
def wsX6_stroke_r5 : List Cond := [Cond.methodLink RX6 148 yX0_strokeIn, Cond.instanceMethod yX0_strokeIn, Cond.selects RX0 yX0_strokeIn yX0_strokeIn, Cond.code yX0_strokeIn cX0_strokeIn 2 (some .int), Cond.methodLink RX6 216 yX6_coordinate, Cond.instanceMethod yX6_coordinate, Cond.selects RX6 yX6_coordinate yX6_coordinate, Cond.code yX6_coordinate cX6_coordinate 4 (some .int), Cond.methodLink RX6 100 yX1_pointCount, Cond.instanceMethod yX1_pointCount, Cond.selects RX1 yX1_pointCount yX1_pointCount, Cond.initialized RX1, Cond.code yX1_pointCount cX1_pointCount 2 (some .int), Cond.fieldLink RX1 14 "StrokeBoard$Ink" "counts" "LStrokeBoard$Row;", Cond.methodLink RX1 42 yX5_get, Cond.methodLink RX6 111 yX1_xOf, Cond.instanceMethod yX1_xOf, Cond.selects RX1 yX1_xOf yX1_xOf, Cond.code yX1_xOf cX1_xOf 3 (some .int), Cond.fieldLink RX1 26 "StrokeBoard$Ink" "xs" "LStrokeBoard$Row;", Cond.methodLink RX6 115 yX1_yOf, Cond.instanceMethod yX1_yOf, Cond.selects RX1 yX1_yOf yX1_yOf, Cond.code yX1_yOf cX1_yOf 3 (some .int)]
def wsX6_stroke_r6 : List Cond := [Cond.fieldLink RX1 29 "StrokeBoard$Ink" "ys" "LStrokeBoard$Row;", Cond.methodLink RX6 219 yX6_strokeValue, Cond.instanceMethod yX6_strokeValue, Cond.selects RX6 yX6_strokeValue yX6_strokeValue, Cond.code yX6_strokeValue cX6_strokeValue 3 (some .int), Cond.methodLink RX6 172 yX6_authorOf, Cond.static yX6_authorOf, Cond.code yX6_authorOf cX6_authorOf 1 (some .int), Cond.methodLink RX6 135 yX6_numberOf, Cond.static yX6_numberOf, Cond.code yX6_numberOf cX6_numberOf 1 (some .int), Cond.methodLink RX6 257 yX0_layerOf, Cond.instanceMethod yX0_layerOf, Cond.selects RX0 yX0_layerOf yX0_layerOf, Cond.code yX0_layerOf cX0_layerOf 2 (some .int), Cond.methodLink RX6 258 yX1_colorOf, Cond.instanceMethod yX1_colorOf, Cond.selects RX1 yX1_colorOf yX1_colorOf, Cond.code yX1_colorOf cX1_colorOf 2 (some .int), Cond.fieldLink RX1 20 "StrokeBoard$Ink" "colors" "LStrokeBoard$Row;"]
def wsX6_stroke : List Cond := .code yX6_stroke cX6_stroke 6 (some .int) :: ((wsX6_stroke_r1 ++ (wsX6_stroke_r2 ++ (wsX6_stroke_r3 ++ (wsX6_stroke_r4 ++ (wsX6_stroke_r5 ++ wsX6_stroke_r6))))) ++ wsX60 ++ wsX00 ++ wsX40 ++ wsX50 ++ wsX20 ++ wsX10)
def wsX6_strokeAt_r1 : List Cond := [Cond.constant RX6 67 (-1000000001), Cond.fieldLink RX6 45 "StrokeBoard" "board" "LStrokeBoard$Board;", Cond.fieldLink RX6 12 "StrokeBoard" "log" "LStrokeBoard$Log;", Cond.fieldLink RX6 28 "StrokeBoard" "knowledge" "LStrokeBoard$Knowledge;", Cond.constant RX6 162 (-1000000004), Cond.methodLink RX6 78 yX6_isSite, Cond.instanceMethod yX6_isSite, Cond.selects RX6 yX6_isSite yX6_isSite, Cond.initialized RX6, Cond.code yX6_isSite cX6_isSite 2 (some .boolean), Cond.fieldLink RX6 59 "StrokeBoard" "siteCount" "I", Cond.methodLink RX6 63 yX6_isWithin, Cond.static yX6_isWithin, Cond.code yX6_isWithin cX6_isWithin 3 (some .boolean), Cond.methodLink RX6 92 yX0_show, Cond.instanceMethod yX0_show, Cond.selects RX0 yX0_show yX0_show, Cond.initialized RX0, Cond.code yX0_show cX0_show 7 none, Cond.fieldLink RX0 14 "StrokeBoard$Board" "undone" "LStrokeBoard$Row;", Cond.fieldLink RX0 20 "StrokeBoard$Board" "layers" "LStrokeBoard$Row;", Cond.fieldLink RX0 40 "StrokeBoard$Board" "count" "I", Cond.methodLink RX0 26 yX4_totalCount, Cond.instanceMethod yX4_totalCount]
def wsX6_strokeAt_r2 : List Cond := [Cond.selects RX4 yX4_totalCount yX4_totalCount, Cond.initialized RX4, Cond.code yX4_totalCount cX4_totalCount 1 (some .int), Cond.fieldLink RX4 45 "StrokeBoard$Log" "total" "I", Cond.methodLink RX0 32 yX5_fill, Cond.instanceMethod yX5_fill, Cond.selects RX5 yX5_fill yX5_fill, Cond.initialized RX5, Cond.code yX5_fill cX5_fill 3 none, Cond.fieldLink RX5 13 "StrokeBoard$Row" "cells" "[I", Cond.methodLink RX0 36 yX5_copyFrom, Cond.instanceMethod yX5_copyFrom, Cond.selects RX5 yX5_copyFrom yX5_copyFrom, Cond.code yX5_copyFrom cX5_copyFrom 3 none, Cond.methodLink RX5 19 yX5_get, Cond.instanceMethod yX5_get, Cond.selects RX5 yX5_get yX5_get, Cond.code yX5_get cX5_get 2 (some .int), Cond.methodLink RX0 44 yX4_inOrder, Cond.instanceMethod yX4_inOrder, Cond.selects RX4 yX4_inOrder yX4_inOrder, Cond.code yX4_inOrder cX4_inOrder 2 (some .int), Cond.fieldLink RX4 32 "StrokeBoard$Log" "order" "LStrokeBoard$Row;", Cond.methodLink RX4 65 yX5_get]
def wsX6_strokeAt_r3 : List Cond := [Cond.methodLink RX0 48 yX2_has, Cond.instanceMethod yX2_has, Cond.selects RX2 yX2_has yX2_has, Cond.initialized RX2, Cond.code yX2_has cX2_has 3 (some .boolean), Cond.fieldLink RX2 14 "StrokeBoard$Knowledge" "known" "LStrokeBoard$Row;", Cond.methodLink RX2 31 yX5_get, Cond.methodLink RX0 54 yX0_apply, Cond.instanceMethod yX0_apply, Cond.selects RX0 yX0_apply yX0_apply, Cond.code yX0_apply cX0_apply 4 none, Cond.methodLink RX0 62 yX4_targetOf, Cond.instanceMethod yX4_targetOf, Cond.selects RX4 yX4_targetOf yX4_targetOf, Cond.code yX4_targetOf cX4_targetOf 2 (some .int), Cond.fieldLink RX4 26 "StrokeBoard$Log" "targets" "LStrokeBoard$Row;", Cond.methodLink RX0 65 yX4_kindOf, Cond.instanceMethod yX4_kindOf, Cond.selects RX4 yX4_kindOf yX4_kindOf, Cond.code yX4_kindOf cX4_kindOf 2 (some .int), Cond.fieldLink RX4 20 "StrokeBoard$Log" "kinds" "LStrokeBoard$Row;", Cond.methodLink RX0 68 yX5_set, Cond.instanceMethod yX5_set, Cond.selects RX5 yX5_set yX5_set]
def wsX6_strokeAt_r4 : List Cond := [Cond.code yX5_set cX5_set 3 none, Cond.methodLink RX0 72 yX4_layerOf, Cond.instanceMethod yX4_layerOf, Cond.selects RX4 yX4_layerOf yX4_layerOf, Cond.code yX4_layerOf cX4_layerOf 2 (some .int), Cond.fieldLink RX4 29 "StrokeBoard$Log" "layers" "LStrokeBoard$Row;", Cond.methodLink RX0 58 yX0_collect, Cond.instanceMethod yX0_collect, Cond.selects RX0 yX0_collect yX0_collect, Cond.code yX0_collect cX0_collect 8 none, Cond.fieldLink RX0 23 "StrokeBoard$Board" "strokes" "LStrokeBoard$Row;", Cond.methodLink RX0 75 yX4_isStroke, Cond.instanceMethod yX4_isStroke, Cond.selects RX4 yX4_isStroke yX4_isStroke, Cond.code yX4_isStroke cX4_isStroke 2 (some .boolean), Cond.methodLink RX0 79 yX5_get, Cond.methodLink RX0 82 yX0_isUndone, Cond.instanceMethod yX0_isUndone, Cond.selects RX0 yX0_isUndone yX0_isUndone, Cond.code yX0_isUndone cX0_isUndone 2 (some .boolean), Cond.methodLink RX6 96 yX0_strokeCount, Cond.instanceMethod yX0_strokeCount, Cond.selects RX0 yX0_strokeCount yX0_strokeCount, Cond.code yX0_strokeCount cX0_strokeCount 1 (some .int)]
def wsX6_strokeAt_r5 : List Cond := [Cond.methodLink RX6 148 yX0_strokeIn, Cond.instanceMethod yX0_strokeIn, Cond.selects RX0 yX0_strokeIn yX0_strokeIn, Cond.code yX0_strokeIn cX0_strokeIn 2 (some .int), Cond.methodLink RX6 222 yX1_hasPoint, Cond.instanceMethod yX1_hasPoint, Cond.selects RX1 yX1_hasPoint yX1_hasPoint, Cond.initialized RX1, Cond.code yX1_hasPoint cX1_hasPoint 5 (some .boolean), Cond.fieldLink RX1 14 "StrokeBoard$Ink" "counts" "LStrokeBoard$Row;", Cond.methodLink RX1 42 yX5_get, Cond.methodLink RX1 59 yX1_xOf, Cond.instanceMethod yX1_xOf, Cond.selects RX1 yX1_xOf yX1_xOf, Cond.code yX1_xOf cX1_xOf 3 (some .int), Cond.fieldLink RX1 26 "StrokeBoard$Ink" "xs" "LStrokeBoard$Row;", Cond.methodLink RX1 63 yX1_yOf, Cond.instanceMethod yX1_yOf, Cond.selects RX1 yX1_yOf yX1_yOf, Cond.code yX1_yOf cX1_yOf 3 (some .int), Cond.fieldLink RX1 29 "StrokeBoard$Ink" "ys" "LStrokeBoard$Row;"]
def wsX6_strokeAt : List Cond := .code yX6_strokeAt cX6_strokeAt 5 (some .int) :: ((wsX6_strokeAt_r1 ++ (wsX6_strokeAt_r2 ++ (wsX6_strokeAt_r3 ++ (wsX6_strokeAt_r4 ++ wsX6_strokeAt_r5)))) ++ wsX60 ++ wsX40 ++ wsX00 ++ wsX50 ++ wsX20 ++ wsX10)
def wsX6_digest_r1 : List Cond := [Cond.fieldLink RX6 45 "StrokeBoard" "board" "LStrokeBoard$Board;", Cond.fieldLink RX6 12 "StrokeBoard" "log" "LStrokeBoard$Log;", Cond.fieldLink RX6 28 "StrokeBoard" "knowledge" "LStrokeBoard$Knowledge;", Cond.methodLink RX6 78 yX6_isSite, Cond.instanceMethod yX6_isSite, Cond.selects RX6 yX6_isSite yX6_isSite, Cond.initialized RX6, Cond.code yX6_isSite cX6_isSite 2 (some .boolean), Cond.fieldLink RX6 59 "StrokeBoard" "siteCount" "I", Cond.methodLink RX6 63 yX6_isWithin, Cond.static yX6_isWithin, Cond.code yX6_isWithin cX6_isWithin 3 (some .boolean), Cond.methodLink RX6 92 yX0_show, Cond.instanceMethod yX0_show, Cond.selects RX0 yX0_show yX0_show, Cond.initialized RX0, Cond.code yX0_show cX0_show 7 none, Cond.fieldLink RX0 14 "StrokeBoard$Board" "undone" "LStrokeBoard$Row;", Cond.fieldLink RX0 20 "StrokeBoard$Board" "layers" "LStrokeBoard$Row;", Cond.fieldLink RX0 40 "StrokeBoard$Board" "count" "I", Cond.methodLink RX0 26 yX4_totalCount, Cond.instanceMethod yX4_totalCount, Cond.selects RX4 yX4_totalCount yX4_totalCount, Cond.initialized RX4]
def wsX6_digest_r2 : List Cond := [Cond.code yX4_totalCount cX4_totalCount 1 (some .int), Cond.fieldLink RX4 45 "StrokeBoard$Log" "total" "I", Cond.methodLink RX0 32 yX5_fill, Cond.instanceMethod yX5_fill, Cond.selects RX5 yX5_fill yX5_fill, Cond.initialized RX5, Cond.code yX5_fill cX5_fill 3 none, Cond.fieldLink RX5 13 "StrokeBoard$Row" "cells" "[I", Cond.methodLink RX0 36 yX5_copyFrom, Cond.instanceMethod yX5_copyFrom, Cond.selects RX5 yX5_copyFrom yX5_copyFrom, Cond.code yX5_copyFrom cX5_copyFrom 3 none, Cond.methodLink RX5 19 yX5_get, Cond.instanceMethod yX5_get, Cond.selects RX5 yX5_get yX5_get, Cond.code yX5_get cX5_get 2 (some .int), Cond.methodLink RX0 44 yX4_inOrder, Cond.instanceMethod yX4_inOrder, Cond.selects RX4 yX4_inOrder yX4_inOrder, Cond.code yX4_inOrder cX4_inOrder 2 (some .int), Cond.fieldLink RX4 32 "StrokeBoard$Log" "order" "LStrokeBoard$Row;", Cond.methodLink RX4 65 yX5_get, Cond.methodLink RX0 48 yX2_has, Cond.instanceMethod yX2_has]
def wsX6_digest_r3 : List Cond := [Cond.selects RX2 yX2_has yX2_has, Cond.initialized RX2, Cond.code yX2_has cX2_has 3 (some .boolean), Cond.fieldLink RX2 14 "StrokeBoard$Knowledge" "known" "LStrokeBoard$Row;", Cond.methodLink RX2 31 yX5_get, Cond.methodLink RX0 54 yX0_apply, Cond.instanceMethod yX0_apply, Cond.selects RX0 yX0_apply yX0_apply, Cond.code yX0_apply cX0_apply 4 none, Cond.methodLink RX0 62 yX4_targetOf, Cond.instanceMethod yX4_targetOf, Cond.selects RX4 yX4_targetOf yX4_targetOf, Cond.code yX4_targetOf cX4_targetOf 2 (some .int), Cond.fieldLink RX4 26 "StrokeBoard$Log" "targets" "LStrokeBoard$Row;", Cond.methodLink RX0 65 yX4_kindOf, Cond.instanceMethod yX4_kindOf, Cond.selects RX4 yX4_kindOf yX4_kindOf, Cond.code yX4_kindOf cX4_kindOf 2 (some .int), Cond.fieldLink RX4 20 "StrokeBoard$Log" "kinds" "LStrokeBoard$Row;", Cond.methodLink RX0 68 yX5_set, Cond.instanceMethod yX5_set, Cond.selects RX5 yX5_set yX5_set, Cond.code yX5_set cX5_set 3 none, Cond.methodLink RX0 72 yX4_layerOf]
def wsX6_digest_r4 : List Cond := [Cond.instanceMethod yX4_layerOf, Cond.selects RX4 yX4_layerOf yX4_layerOf, Cond.code yX4_layerOf cX4_layerOf 2 (some .int), Cond.fieldLink RX4 29 "StrokeBoard$Log" "layers" "LStrokeBoard$Row;", Cond.methodLink RX0 58 yX0_collect, Cond.instanceMethod yX0_collect, Cond.selects RX0 yX0_collect yX0_collect, Cond.code yX0_collect cX0_collect 8 none, Cond.fieldLink RX0 23 "StrokeBoard$Board" "strokes" "LStrokeBoard$Row;", Cond.methodLink RX0 75 yX4_isStroke, Cond.instanceMethod yX4_isStroke, Cond.selects RX4 yX4_isStroke yX4_isStroke, Cond.code yX4_isStroke cX4_isStroke 2 (some .boolean), Cond.methodLink RX0 79 yX5_get, Cond.methodLink RX0 82 yX0_isUndone, Cond.instanceMethod yX0_isUndone, Cond.selects RX0 yX0_isUndone yX0_isUndone, Cond.code yX0_isUndone cX0_isUndone 2 (some .boolean), Cond.methodLink RX6 225 yX0_hash, Cond.instanceMethod yX0_hash, Cond.selects RX0 yX0_hash yX0_hash, Cond.code yX0_hash cX0_hash 5 (some .int), Cond.static yX6_authorOf, Cond.code yX6_authorOf cX6_authorOf 1 (some .int)]
def wsX6_digest_r5 : List Cond := [Cond.static yX6_numberOf, Cond.code yX6_numberOf cX6_numberOf 1 (some .int), Cond.methodLink RX0 99 yX1_colorOf, Cond.instanceMethod yX1_colorOf, Cond.selects RX1 yX1_colorOf yX1_colorOf, Cond.initialized RX1, Cond.code yX1_colorOf cX1_colorOf 2 (some .int), Cond.fieldLink RX1 20 "StrokeBoard$Ink" "colors" "LStrokeBoard$Row;", Cond.methodLink RX1 42 yX5_get, Cond.methodLink RX0 104 yX0_hashPoints, Cond.instanceMethod yX0_hashPoints, Cond.selects RX0 yX0_hashPoints yX0_hashPoints, Cond.code yX0_hashPoints cX0_hashPoints 6 (some .int), Cond.methodLink RX0 108 yX1_pointCount, Cond.instanceMethod yX1_pointCount, Cond.selects RX1 yX1_pointCount yX1_pointCount, Cond.code yX1_pointCount cX1_pointCount 2 (some .int), Cond.fieldLink RX1 14 "StrokeBoard$Ink" "counts" "LStrokeBoard$Row;", Cond.methodLink RX0 111 yX1_xOf, Cond.instanceMethod yX1_xOf, Cond.selects RX1 yX1_xOf yX1_xOf, Cond.code yX1_xOf cX1_xOf 3 (some .int), Cond.fieldLink RX1 26 "StrokeBoard$Ink" "xs" "LStrokeBoard$Row;", Cond.methodLink RX0 115 yX1_yOf]
def wsX6_digest_r6 : List Cond := [Cond.instanceMethod yX1_yOf, Cond.selects RX1 yX1_yOf yX1_yOf, Cond.code yX1_yOf cX1_yOf 3 (some .int), Cond.fieldLink RX1 29 "StrokeBoard$Ink" "ys" "LStrokeBoard$Row;"]
def wsX6_digest : List Cond := .code yX6_digest cX6_digest 2 (some .int) :: ((wsX6_digest_r1 ++ (wsX6_digest_r2 ++ (wsX6_digest_r3 ++ (wsX6_digest_r4 ++ (wsX6_digest_r5 ++ wsX6_digest_r6))))) ++ wsX60 ++ wsX00 ++ wsX40 ++ wsX50 ++ wsX20 ++ wsX10)
def wsX6_showSame_r1 : List Cond := [Cond.fieldLink RX6 45 "StrokeBoard" "board" "LStrokeBoard$Board;", Cond.fieldLink RX6 12 "StrokeBoard" "log" "LStrokeBoard$Log;", Cond.fieldLink RX6 49 "StrokeBoard" "secondBoard" "LStrokeBoard$Board;", Cond.methodLink RX6 92 yX0_show, Cond.instanceMethod yX0_show, Cond.selects RX0 yX0_show yX0_show, Cond.initialized RX0, Cond.code yX0_show cX0_show 7 none, Cond.fieldLink RX0 14 "StrokeBoard$Board" "undone" "LStrokeBoard$Row;", Cond.fieldLink RX0 20 "StrokeBoard$Board" "layers" "LStrokeBoard$Row;", Cond.fieldLink RX0 40 "StrokeBoard$Board" "count" "I", Cond.methodLink RX0 26 yX4_totalCount, Cond.instanceMethod yX4_totalCount, Cond.selects RX4 yX4_totalCount yX4_totalCount, Cond.initialized RX4, Cond.code yX4_totalCount cX4_totalCount 1 (some .int), Cond.fieldLink RX4 45 "StrokeBoard$Log" "total" "I", Cond.methodLink RX0 32 yX5_fill, Cond.instanceMethod yX5_fill, Cond.selects RX5 yX5_fill yX5_fill, Cond.initialized RX5, Cond.code yX5_fill cX5_fill 3 none, Cond.fieldLink RX5 13 "StrokeBoard$Row" "cells" "[I", Cond.methodLink RX0 36 yX5_copyFrom]
def wsX6_showSame_r2 : List Cond := [Cond.instanceMethod yX5_copyFrom, Cond.selects RX5 yX5_copyFrom yX5_copyFrom, Cond.code yX5_copyFrom cX5_copyFrom 3 none, Cond.methodLink RX5 19 yX5_get, Cond.instanceMethod yX5_get, Cond.selects RX5 yX5_get yX5_get, Cond.code yX5_get cX5_get 2 (some .int), Cond.methodLink RX0 44 yX4_inOrder, Cond.instanceMethod yX4_inOrder, Cond.selects RX4 yX4_inOrder yX4_inOrder, Cond.code yX4_inOrder cX4_inOrder 2 (some .int), Cond.fieldLink RX4 32 "StrokeBoard$Log" "order" "LStrokeBoard$Row;", Cond.methodLink RX4 65 yX5_get, Cond.methodLink RX0 48 yX2_has, Cond.instanceMethod yX2_has, Cond.selects RX2 yX2_has yX2_has, Cond.initialized RX2, Cond.code yX2_has cX2_has 3 (some .boolean), Cond.fieldLink RX2 14 "StrokeBoard$Knowledge" "known" "LStrokeBoard$Row;", Cond.methodLink RX2 31 yX5_get, Cond.methodLink RX0 54 yX0_apply, Cond.instanceMethod yX0_apply, Cond.selects RX0 yX0_apply yX0_apply, Cond.code yX0_apply cX0_apply 4 none]
def wsX6_showSame_r3 : List Cond := [Cond.methodLink RX0 62 yX4_targetOf, Cond.instanceMethod yX4_targetOf, Cond.selects RX4 yX4_targetOf yX4_targetOf, Cond.code yX4_targetOf cX4_targetOf 2 (some .int), Cond.fieldLink RX4 26 "StrokeBoard$Log" "targets" "LStrokeBoard$Row;", Cond.methodLink RX0 65 yX4_kindOf, Cond.instanceMethod yX4_kindOf, Cond.selects RX4 yX4_kindOf yX4_kindOf, Cond.code yX4_kindOf cX4_kindOf 2 (some .int), Cond.fieldLink RX4 20 "StrokeBoard$Log" "kinds" "LStrokeBoard$Row;", Cond.methodLink RX0 68 yX5_set, Cond.instanceMethod yX5_set, Cond.selects RX5 yX5_set yX5_set, Cond.code yX5_set cX5_set 3 none, Cond.methodLink RX0 72 yX4_layerOf, Cond.instanceMethod yX4_layerOf, Cond.selects RX4 yX4_layerOf yX4_layerOf, Cond.code yX4_layerOf cX4_layerOf 2 (some .int), Cond.fieldLink RX4 29 "StrokeBoard$Log" "layers" "LStrokeBoard$Row;", Cond.methodLink RX0 58 yX0_collect, Cond.instanceMethod yX0_collect, Cond.selects RX0 yX0_collect yX0_collect, Cond.code yX0_collect cX0_collect 8 none, Cond.fieldLink RX0 23 "StrokeBoard$Board" "strokes" "LStrokeBoard$Row;"]
def wsX6_showSame_r4 : List Cond := [Cond.methodLink RX0 75 yX4_isStroke, Cond.instanceMethod yX4_isStroke, Cond.selects RX4 yX4_isStroke yX4_isStroke, Cond.code yX4_isStroke cX4_isStroke 2 (some .boolean), Cond.methodLink RX0 79 yX5_get, Cond.methodLink RX0 82 yX0_isUndone, Cond.instanceMethod yX0_isUndone, Cond.selects RX0 yX0_isUndone yX0_isUndone, Cond.code yX0_isUndone cX0_isUndone 2 (some .boolean), Cond.methodLink RX6 261 yX0_matches, Cond.instanceMethod yX0_matches, Cond.selects RX0 yX0_matches yX0_matches, Cond.code yX0_matches cX0_matches 4 (some .boolean), Cond.methodLink RX0 85 yX0_strokeIn, Cond.instanceMethod yX0_strokeIn, Cond.selects RX0 yX0_strokeIn yX0_strokeIn, Cond.code yX0_strokeIn cX0_strokeIn 2 (some .int), Cond.methodLink RX0 88 yX0_layerOf, Cond.instanceMethod yX0_layerOf, Cond.selects RX0 yX0_layerOf yX0_layerOf, Cond.code yX0_layerOf cX0_layerOf 2 (some .int)]
def wsX6_showSame : List Cond := .code yX6_showSame cX6_showSame 4 (some .boolean) :: ((wsX6_showSame_r1 ++ (wsX6_showSame_r2 ++ (wsX6_showSame_r3 ++ wsX6_showSame_r4))) ++ wsX60 ++ wsX00 ++ wsX40 ++ wsX50 ++ wsX20)
def wsX6_areSame_r1 : List Cond := [Cond.constant RX6 67 (-1000000001), Cond.fieldLink RX6 28 "StrokeBoard" "knowledge" "LStrokeBoard$Knowledge;", Cond.methodLink RX6 78 yX6_isSite, Cond.instanceMethod yX6_isSite, Cond.selects RX6 yX6_isSite yX6_isSite, Cond.initialized RX6, Cond.code yX6_isSite cX6_isSite 2 (some .boolean), Cond.fieldLink RX6 59 "StrokeBoard" "siteCount" "I", Cond.methodLink RX6 63 yX6_isWithin, Cond.static yX6_isWithin, Cond.code yX6_isWithin cX6_isWithin 3 (some .boolean), Cond.methodLink RX6 229 yX6_showSame, Cond.instanceMethod yX6_showSame, Cond.selects RX6 yX6_showSame yX6_showSame, Cond.code yX6_showSame cX6_showSame 4 (some .boolean), Cond.fieldLink RX6 45 "StrokeBoard" "board" "LStrokeBoard$Board;", Cond.fieldLink RX6 12 "StrokeBoard" "log" "LStrokeBoard$Log;", Cond.fieldLink RX6 49 "StrokeBoard" "secondBoard" "LStrokeBoard$Board;", Cond.methodLink RX6 92 yX0_show, Cond.instanceMethod yX0_show, Cond.selects RX0 yX0_show yX0_show, Cond.initialized RX0, Cond.code yX0_show cX0_show 7 none, Cond.fieldLink RX0 14 "StrokeBoard$Board" "undone" "LStrokeBoard$Row;"]
def wsX6_areSame_r2 : List Cond := [Cond.fieldLink RX0 20 "StrokeBoard$Board" "layers" "LStrokeBoard$Row;", Cond.fieldLink RX0 40 "StrokeBoard$Board" "count" "I", Cond.methodLink RX0 26 yX4_totalCount, Cond.instanceMethod yX4_totalCount, Cond.selects RX4 yX4_totalCount yX4_totalCount, Cond.initialized RX4, Cond.code yX4_totalCount cX4_totalCount 1 (some .int), Cond.fieldLink RX4 45 "StrokeBoard$Log" "total" "I", Cond.methodLink RX0 32 yX5_fill, Cond.instanceMethod yX5_fill, Cond.selects RX5 yX5_fill yX5_fill, Cond.initialized RX5, Cond.code yX5_fill cX5_fill 3 none, Cond.fieldLink RX5 13 "StrokeBoard$Row" "cells" "[I", Cond.methodLink RX0 36 yX5_copyFrom, Cond.instanceMethod yX5_copyFrom, Cond.selects RX5 yX5_copyFrom yX5_copyFrom, Cond.code yX5_copyFrom cX5_copyFrom 3 none, Cond.methodLink RX5 19 yX5_get, Cond.instanceMethod yX5_get, Cond.selects RX5 yX5_get yX5_get, Cond.code yX5_get cX5_get 2 (some .int), Cond.methodLink RX0 44 yX4_inOrder, Cond.instanceMethod yX4_inOrder]
def wsX6_areSame_r3 : List Cond := [Cond.selects RX4 yX4_inOrder yX4_inOrder, Cond.code yX4_inOrder cX4_inOrder 2 (some .int), Cond.fieldLink RX4 32 "StrokeBoard$Log" "order" "LStrokeBoard$Row;", Cond.methodLink RX4 65 yX5_get, Cond.methodLink RX0 48 yX2_has, Cond.instanceMethod yX2_has, Cond.selects RX2 yX2_has yX2_has, Cond.initialized RX2, Cond.code yX2_has cX2_has 3 (some .boolean), Cond.fieldLink RX2 14 "StrokeBoard$Knowledge" "known" "LStrokeBoard$Row;", Cond.methodLink RX2 31 yX5_get, Cond.methodLink RX0 54 yX0_apply, Cond.instanceMethod yX0_apply, Cond.selects RX0 yX0_apply yX0_apply, Cond.code yX0_apply cX0_apply 4 none, Cond.methodLink RX0 62 yX4_targetOf, Cond.instanceMethod yX4_targetOf, Cond.selects RX4 yX4_targetOf yX4_targetOf, Cond.code yX4_targetOf cX4_targetOf 2 (some .int), Cond.fieldLink RX4 26 "StrokeBoard$Log" "targets" "LStrokeBoard$Row;", Cond.methodLink RX0 65 yX4_kindOf, Cond.instanceMethod yX4_kindOf, Cond.selects RX4 yX4_kindOf yX4_kindOf, Cond.code yX4_kindOf cX4_kindOf 2 (some .int)]
def wsX6_areSame_r4 : List Cond := [Cond.fieldLink RX4 20 "StrokeBoard$Log" "kinds" "LStrokeBoard$Row;", Cond.methodLink RX0 68 yX5_set, Cond.instanceMethod yX5_set, Cond.selects RX5 yX5_set yX5_set, Cond.code yX5_set cX5_set 3 none, Cond.methodLink RX0 72 yX4_layerOf, Cond.instanceMethod yX4_layerOf, Cond.selects RX4 yX4_layerOf yX4_layerOf, Cond.code yX4_layerOf cX4_layerOf 2 (some .int), Cond.fieldLink RX4 29 "StrokeBoard$Log" "layers" "LStrokeBoard$Row;", Cond.methodLink RX0 58 yX0_collect, Cond.instanceMethod yX0_collect, Cond.selects RX0 yX0_collect yX0_collect, Cond.code yX0_collect cX0_collect 8 none, Cond.fieldLink RX0 23 "StrokeBoard$Board" "strokes" "LStrokeBoard$Row;", Cond.methodLink RX0 75 yX4_isStroke, Cond.instanceMethod yX4_isStroke, Cond.selects RX4 yX4_isStroke yX4_isStroke, Cond.code yX4_isStroke cX4_isStroke 2 (some .boolean), Cond.methodLink RX0 79 yX5_get, Cond.methodLink RX0 82 yX0_isUndone, Cond.instanceMethod yX0_isUndone, Cond.selects RX0 yX0_isUndone yX0_isUndone, Cond.code yX0_isUndone cX0_isUndone 2 (some .boolean)]
def wsX6_areSame_r5 : List Cond := [Cond.methodLink RX6 261 yX0_matches, Cond.instanceMethod yX0_matches, Cond.selects RX0 yX0_matches yX0_matches, Cond.code yX0_matches cX0_matches 4 (some .boolean), Cond.methodLink RX0 85 yX0_strokeIn, Cond.instanceMethod yX0_strokeIn, Cond.selects RX0 yX0_strokeIn yX0_strokeIn, Cond.code yX0_strokeIn cX0_strokeIn 2 (some .int), Cond.methodLink RX0 88 yX0_layerOf, Cond.instanceMethod yX0_layerOf, Cond.selects RX0 yX0_layerOf yX0_layerOf, Cond.code yX0_layerOf cX0_layerOf 2 (some .int)]
def wsX6_areSame : List Cond := .code yX6_areSame cX6_areSame 3 (some .int) :: ((wsX6_areSame_r1 ++ (wsX6_areSame_r2 ++ (wsX6_areSame_r3 ++ (wsX6_areSame_r4 ++ wsX6_areSame_r5)))) ++ wsX60 ++ wsX00 ++ wsX40 ++ wsX50 ++ wsX20)
def wsX6_lookAhead_r1 : List Cond := [Cond.fieldLink RX6 32 "StrokeBoard" "future" "LStrokeBoard$Knowledge;", Cond.fieldLink RX6 28 "StrokeBoard" "knowledge" "LStrokeBoard$Knowledge;", Cond.fieldLink RX6 59 "StrokeBoard" "siteCount" "I", Cond.fieldLink RX6 38 "StrokeBoard" "links" "LStrokeBoard$Links;", Cond.methodLink RX6 265 yX2_copyFrom, Cond.instanceMethod yX2_copyFrom, Cond.selects RX2 yX2_copyFrom yX2_copyFrom, Cond.initialized RX2, Cond.code yX2_copyFrom cX2_copyFrom 2 none, Cond.fieldLink RX2 14 "StrokeBoard$Knowledge" "known" "LStrokeBoard$Row;", Cond.methodLink RX2 23 yX5_copyFrom, Cond.instanceMethod yX5_copyFrom, Cond.selects RX5 yX5_copyFrom yX5_copyFrom, Cond.initialized RX5, Cond.code yX5_copyFrom cX5_copyFrom 3 none, Cond.fieldLink RX5 13 "StrokeBoard$Row" "cells" "[I", Cond.methodLink RX5 19 yX5_get, Cond.instanceMethod yX5_get, Cond.selects RX5 yX5_get yX5_get, Cond.code yX5_get cX5_get 2 (some .int), Cond.methodLink RX6 159 yX3_countIn, Cond.instanceMethod yX3_countIn, Cond.selects RX3 yX3_countIn yX3_countIn, Cond.initialized RX3]
def wsX6_lookAhead_r2 : List Cond := [Cond.code yX3_countIn cX3_countIn 3 (some .int), Cond.fieldLink RX3 14 "StrokeBoard$Links" "counts" "LStrokeBoard$Row;", Cond.methodLink RX3 26 yX5_get, Cond.methodLink RX6 163 yX3_messageIn, Cond.instanceMethod yX3_messageIn, Cond.selects RX3 yX3_messageIn yX3_messageIn, Cond.code yX3_messageIn cX3_messageIn 4 (some .int), Cond.fieldLink RX3 20 "StrokeBoard$Links" "messages" "LStrokeBoard$Row;", Cond.methodLink RX6 245 yX2_learn, Cond.instanceMethod yX2_learn, Cond.selects RX2 yX2_learn yX2_learn, Cond.code yX2_learn cX2_learn 3 none, Cond.methodLink RX2 27 yX5_set, Cond.instanceMethod yX5_set, Cond.selects RX5 yX5_set yX5_set, Cond.code yX5_set cX5_set 3 none]
def wsX6_lookAhead : List Cond := .code yX6_lookAhead cX6_lookAhead 4 none :: ((wsX6_lookAhead_r1 ++ wsX6_lookAhead_r2) ++ wsX60 ++ wsX20 ++ wsX50 ++ wsX30)
def wsX6_differing_r1 : List Cond := [Cond.fieldLink RX6 59 "StrokeBoard" "siteCount" "I", Cond.fieldLink RX6 32 "StrokeBoard" "future" "LStrokeBoard$Knowledge;", Cond.methodLink RX6 233 yX6_lookAhead, Cond.instanceMethod yX6_lookAhead, Cond.selects RX6 yX6_lookAhead yX6_lookAhead, Cond.initialized RX6, Cond.code yX6_lookAhead cX6_lookAhead 4 none, Cond.fieldLink RX6 28 "StrokeBoard" "knowledge" "LStrokeBoard$Knowledge;", Cond.fieldLink RX6 38 "StrokeBoard" "links" "LStrokeBoard$Links;", Cond.methodLink RX6 265 yX2_copyFrom, Cond.instanceMethod yX2_copyFrom, Cond.selects RX2 yX2_copyFrom yX2_copyFrom, Cond.initialized RX2, Cond.code yX2_copyFrom cX2_copyFrom 2 none, Cond.fieldLink RX2 14 "StrokeBoard$Knowledge" "known" "LStrokeBoard$Row;", Cond.methodLink RX2 23 yX5_copyFrom, Cond.instanceMethod yX5_copyFrom, Cond.selects RX5 yX5_copyFrom yX5_copyFrom, Cond.initialized RX5, Cond.code yX5_copyFrom cX5_copyFrom 3 none, Cond.fieldLink RX5 13 "StrokeBoard$Row" "cells" "[I", Cond.methodLink RX5 19 yX5_get, Cond.instanceMethod yX5_get, Cond.selects RX5 yX5_get yX5_get]
def wsX6_differing_r2 : List Cond := [Cond.code yX5_get cX5_get 2 (some .int), Cond.methodLink RX6 159 yX3_countIn, Cond.instanceMethod yX3_countIn, Cond.selects RX3 yX3_countIn yX3_countIn, Cond.initialized RX3, Cond.code yX3_countIn cX3_countIn 3 (some .int), Cond.fieldLink RX3 14 "StrokeBoard$Links" "counts" "LStrokeBoard$Row;", Cond.methodLink RX3 26 yX5_get, Cond.methodLink RX6 163 yX3_messageIn, Cond.instanceMethod yX3_messageIn, Cond.selects RX3 yX3_messageIn yX3_messageIn, Cond.code yX3_messageIn cX3_messageIn 4 (some .int), Cond.fieldLink RX3 20 "StrokeBoard$Links" "messages" "LStrokeBoard$Row;", Cond.methodLink RX6 245 yX2_learn, Cond.instanceMethod yX2_learn, Cond.selects RX2 yX2_learn yX2_learn, Cond.code yX2_learn cX2_learn 3 none, Cond.methodLink RX2 27 yX5_set, Cond.instanceMethod yX5_set, Cond.selects RX5 yX5_set yX5_set, Cond.code yX5_set cX5_set 3 none, Cond.methodLink RX6 229 yX6_showSame, Cond.instanceMethod yX6_showSame, Cond.selects RX6 yX6_showSame yX6_showSame]
def wsX6_differing_r3 : List Cond := [Cond.code yX6_showSame cX6_showSame 4 (some .boolean), Cond.fieldLink RX6 45 "StrokeBoard" "board" "LStrokeBoard$Board;", Cond.fieldLink RX6 12 "StrokeBoard" "log" "LStrokeBoard$Log;", Cond.fieldLink RX6 49 "StrokeBoard" "secondBoard" "LStrokeBoard$Board;", Cond.methodLink RX6 92 yX0_show, Cond.instanceMethod yX0_show, Cond.selects RX0 yX0_show yX0_show, Cond.initialized RX0, Cond.code yX0_show cX0_show 7 none, Cond.fieldLink RX0 14 "StrokeBoard$Board" "undone" "LStrokeBoard$Row;", Cond.fieldLink RX0 20 "StrokeBoard$Board" "layers" "LStrokeBoard$Row;", Cond.fieldLink RX0 40 "StrokeBoard$Board" "count" "I", Cond.methodLink RX0 26 yX4_totalCount, Cond.instanceMethod yX4_totalCount, Cond.selects RX4 yX4_totalCount yX4_totalCount, Cond.initialized RX4, Cond.code yX4_totalCount cX4_totalCount 1 (some .int), Cond.fieldLink RX4 45 "StrokeBoard$Log" "total" "I", Cond.methodLink RX0 32 yX5_fill, Cond.instanceMethod yX5_fill, Cond.selects RX5 yX5_fill yX5_fill, Cond.code yX5_fill cX5_fill 3 none, Cond.methodLink RX0 36 yX5_copyFrom, Cond.methodLink RX0 44 yX4_inOrder]
def wsX6_differing_r4 : List Cond := [Cond.instanceMethod yX4_inOrder, Cond.selects RX4 yX4_inOrder yX4_inOrder, Cond.code yX4_inOrder cX4_inOrder 2 (some .int), Cond.fieldLink RX4 32 "StrokeBoard$Log" "order" "LStrokeBoard$Row;", Cond.methodLink RX4 65 yX5_get, Cond.methodLink RX0 48 yX2_has, Cond.instanceMethod yX2_has, Cond.selects RX2 yX2_has yX2_has, Cond.code yX2_has cX2_has 3 (some .boolean), Cond.methodLink RX2 31 yX5_get, Cond.methodLink RX0 54 yX0_apply, Cond.instanceMethod yX0_apply, Cond.selects RX0 yX0_apply yX0_apply, Cond.code yX0_apply cX0_apply 4 none, Cond.methodLink RX0 62 yX4_targetOf, Cond.instanceMethod yX4_targetOf, Cond.selects RX4 yX4_targetOf yX4_targetOf, Cond.code yX4_targetOf cX4_targetOf 2 (some .int), Cond.fieldLink RX4 26 "StrokeBoard$Log" "targets" "LStrokeBoard$Row;", Cond.methodLink RX0 65 yX4_kindOf, Cond.instanceMethod yX4_kindOf, Cond.selects RX4 yX4_kindOf yX4_kindOf, Cond.code yX4_kindOf cX4_kindOf 2 (some .int), Cond.fieldLink RX4 20 "StrokeBoard$Log" "kinds" "LStrokeBoard$Row;"]
def wsX6_differing_r5 : List Cond := [Cond.methodLink RX0 68 yX5_set, Cond.methodLink RX0 72 yX4_layerOf, Cond.instanceMethod yX4_layerOf, Cond.selects RX4 yX4_layerOf yX4_layerOf, Cond.code yX4_layerOf cX4_layerOf 2 (some .int), Cond.fieldLink RX4 29 "StrokeBoard$Log" "layers" "LStrokeBoard$Row;", Cond.methodLink RX0 58 yX0_collect, Cond.instanceMethod yX0_collect, Cond.selects RX0 yX0_collect yX0_collect, Cond.code yX0_collect cX0_collect 8 none, Cond.fieldLink RX0 23 "StrokeBoard$Board" "strokes" "LStrokeBoard$Row;", Cond.methodLink RX0 75 yX4_isStroke, Cond.instanceMethod yX4_isStroke, Cond.selects RX4 yX4_isStroke yX4_isStroke, Cond.code yX4_isStroke cX4_isStroke 2 (some .boolean), Cond.methodLink RX0 79 yX5_get, Cond.methodLink RX0 82 yX0_isUndone, Cond.instanceMethod yX0_isUndone, Cond.selects RX0 yX0_isUndone yX0_isUndone, Cond.code yX0_isUndone cX0_isUndone 2 (some .boolean), Cond.methodLink RX6 261 yX0_matches, Cond.instanceMethod yX0_matches, Cond.selects RX0 yX0_matches yX0_matches, Cond.code yX0_matches cX0_matches 4 (some .boolean)]
def wsX6_differing_r6 : List Cond := [Cond.methodLink RX0 85 yX0_strokeIn, Cond.instanceMethod yX0_strokeIn, Cond.selects RX0 yX0_strokeIn yX0_strokeIn, Cond.code yX0_strokeIn cX0_strokeIn 2 (some .int), Cond.methodLink RX0 88 yX0_layerOf, Cond.instanceMethod yX0_layerOf, Cond.selects RX0 yX0_layerOf yX0_layerOf, Cond.code yX0_layerOf cX0_layerOf 2 (some .int)]
def wsX6_differing : List Cond := .code yX6_differing cX6_differing 4 (some .int) :: ((wsX6_differing_r1 ++ (wsX6_differing_r2 ++ (wsX6_differing_r3 ++ (wsX6_differing_r4 ++ (wsX6_differing_r5 ++ wsX6_differing_r6))))) ++ wsX60 ++ wsX20 ++ wsX50 ++ wsX30 ++ wsX00 ++ wsX40)
def wsX6_repairable_r1 : List Cond := [Cond.methodLink RX6 184 yX6_canRepair, Cond.instanceMethod yX6_canRepair, Cond.selects RX6 yX6_canRepair yX6_canRepair, Cond.initialized RX6, Cond.code yX6_canRepair cX6_canRepair 4 (some .boolean), Cond.fieldLink RX6 28 "StrokeBoard" "knowledge" "LStrokeBoard$Knowledge;", Cond.methodLink RX6 254 yX2_isInGap, Cond.instanceMethod yX2_isInGap, Cond.selects RX2 yX2_isInGap yX2_isInGap, Cond.initialized RX2, Cond.code yX2_isInGap cX2_isInGap 3 (some .boolean), Cond.methodLink RX2 35 yX2_has, Cond.instanceMethod yX2_has, Cond.selects RX2 yX2_has yX2_has, Cond.code yX2_has cX2_has 3 (some .boolean), Cond.fieldLink RX2 14 "StrokeBoard$Knowledge" "known" "LStrokeBoard$Row;", Cond.methodLink RX2 31 yX5_get, Cond.instanceMethod yX5_get, Cond.selects RX5 yX5_get yX5_get, Cond.initialized RX5, Cond.code yX5_get cX5_get 2 (some .int), Cond.fieldLink RX5 13 "StrokeBoard$Row" "cells" "[I", Cond.methodLink RX2 39 yX2_hasLaterOfAuthor, Cond.instanceMethod yX2_hasLaterOfAuthor]
def wsX6_repairable_r2 : List Cond := [Cond.selects RX2 yX2_hasLaterOfAuthor yX2_hasLaterOfAuthor, Cond.code yX2_hasLaterOfAuthor cX2_hasLaterOfAuthor 5 (some .boolean), Cond.static yX6_authorOf, Cond.code yX6_authorOf cX6_authorOf 1 (some .int), Cond.static yX6_numberOf, Cond.code yX6_numberOf cX6_numberOf 1 (some .int), Cond.static yX6_idOf, Cond.code yX6_idOf cX6_idOf 2 (some .int), Cond.methodLink RX6 181 yX2_has]
def wsX6_repairable : List Cond := .code yX6_repairable cX6_repairable 5 (some .int) :: ((wsX6_repairable_r1 ++ wsX6_repairable_r2) ++ wsX60 ++ wsX20 ++ wsX50)
def wsX6_bestHelper_r1 : List Cond := [Cond.constant RX6 67 (-1000000001), Cond.constant RX6 162 (-1000000004), Cond.fieldLink RX6 59 "StrokeBoard" "siteCount" "I", Cond.methodLink RX6 78 yX6_isSite, Cond.instanceMethod yX6_isSite, Cond.selects RX6 yX6_isSite yX6_isSite, Cond.initialized RX6, Cond.code yX6_isSite cX6_isSite 2 (some .boolean), Cond.methodLink RX6 63 yX6_isWithin, Cond.static yX6_isWithin, Cond.code yX6_isWithin cX6_isWithin 3 (some .boolean), Cond.methodLink RX6 236 yX6_repairable, Cond.instanceMethod yX6_repairable, Cond.selects RX6 yX6_repairable yX6_repairable, Cond.code yX6_repairable cX6_repairable 5 (some .int), Cond.methodLink RX6 184 yX6_canRepair, Cond.instanceMethod yX6_canRepair, Cond.selects RX6 yX6_canRepair yX6_canRepair, Cond.code yX6_canRepair cX6_canRepair 4 (some .boolean), Cond.fieldLink RX6 28 "StrokeBoard" "knowledge" "LStrokeBoard$Knowledge;", Cond.methodLink RX6 254 yX2_isInGap, Cond.instanceMethod yX2_isInGap, Cond.selects RX2 yX2_isInGap yX2_isInGap, Cond.initialized RX2]
def wsX6_bestHelper_r2 : List Cond := [Cond.code yX2_isInGap cX2_isInGap 3 (some .boolean), Cond.methodLink RX2 35 yX2_has, Cond.instanceMethod yX2_has, Cond.selects RX2 yX2_has yX2_has, Cond.code yX2_has cX2_has 3 (some .boolean), Cond.fieldLink RX2 14 "StrokeBoard$Knowledge" "known" "LStrokeBoard$Row;", Cond.methodLink RX2 31 yX5_get, Cond.instanceMethod yX5_get, Cond.selects RX5 yX5_get yX5_get, Cond.initialized RX5, Cond.code yX5_get cX5_get 2 (some .int), Cond.fieldLink RX5 13 "StrokeBoard$Row" "cells" "[I", Cond.methodLink RX2 39 yX2_hasLaterOfAuthor, Cond.instanceMethod yX2_hasLaterOfAuthor, Cond.selects RX2 yX2_hasLaterOfAuthor yX2_hasLaterOfAuthor, Cond.code yX2_hasLaterOfAuthor cX2_hasLaterOfAuthor 5 (some .boolean), Cond.static yX6_authorOf, Cond.code yX6_authorOf cX6_authorOf 1 (some .int), Cond.static yX6_numberOf, Cond.code yX6_numberOf cX6_numberOf 1 (some .int), Cond.static yX6_idOf, Cond.code yX6_idOf cX6_idOf 2 (some .int), Cond.methodLink RX6 181 yX2_has]
def wsX6_bestHelper : List Cond := .code yX6_bestHelper cX6_bestHelper 6 (some .int) :: ((wsX6_bestHelper_r1 ++ wsX6_bestHelper_r2) ++ wsX60 ++ wsX20 ++ wsX50)
def wsX6_isKnownBeside : List Cond := .code yX6_isKnownBeside cX6_isKnownBeside 4 (some .boolean) :: ([.fieldLink RX6 59 "StrokeBoard" "siteCount" "I", .fieldLink RX6 28 "StrokeBoard" "knowledge" "LStrokeBoard$Knowledge;", .methodLink RX6 181 yX2_has, .instanceMethod yX2_has, .selects RX2 yX2_has yX2_has, .initialized RX2, .code yX2_has cX2_has 3 (some .boolean), .fieldLink RX2 14 "StrokeBoard$Knowledge" "known" "LStrokeBoard$Row;", .methodLink RX2 31 yX5_get, .instanceMethod yX5_get, .selects RX5 yX5_get yX5_get, .initialized RX5, .code yX5_get cX5_get 2 (some .int), .fieldLink RX5 13 "StrokeBoard$Row" "cells" "[I"] ++ wsX60 ++ wsX20 ++ wsX50)
def wsX6_endangered_r1 : List Cond := [Cond.constant RX6 67 (-1000000001), Cond.fieldLink RX6 12 "StrokeBoard" "log" "LStrokeBoard$Log;", Cond.fieldLink RX6 38 "StrokeBoard" "links" "LStrokeBoard$Links;", Cond.methodLink RX6 78 yX6_isSite, Cond.instanceMethod yX6_isSite, Cond.selects RX6 yX6_isSite yX6_isSite, Cond.initialized RX6, Cond.code yX6_isSite cX6_isSite 2 (some .boolean), Cond.fieldLink RX6 59 "StrokeBoard" "siteCount" "I", Cond.methodLink RX6 63 yX6_isWithin, Cond.static yX6_isWithin, Cond.code yX6_isWithin cX6_isWithin 3 (some .boolean), Cond.methodLink RX6 89 yX4_madeBy, Cond.instanceMethod yX4_madeBy, Cond.selects RX4 yX4_madeBy yX4_madeBy, Cond.initialized RX4, Cond.code yX4_madeBy cX4_madeBy 2 (some .int), Cond.fieldLink RX4 14 "StrokeBoard$Log" "made" "LStrokeBoard$Row;", Cond.methodLink RX4 65 yX5_get, Cond.instanceMethod yX5_get, Cond.selects RX5 yX5_get yX5_get, Cond.initialized RX5, Cond.code yX5_get cX5_get 2 (some .int), Cond.fieldLink RX5 13 "StrokeBoard$Row" "cells" "[I"]
def wsX6_endangered_r2 : List Cond := [Cond.methodLink RX6 178 yX6_idOf, Cond.static yX6_idOf, Cond.code yX6_idOf cX6_idOf 2 (some .int), Cond.methodLink RX6 239 yX6_isKnownBeside, Cond.instanceMethod yX6_isKnownBeside, Cond.selects RX6 yX6_isKnownBeside yX6_isKnownBeside, Cond.code yX6_isKnownBeside cX6_isKnownBeside 4 (some .boolean), Cond.fieldLink RX6 28 "StrokeBoard" "knowledge" "LStrokeBoard$Knowledge;", Cond.methodLink RX6 181 yX2_has, Cond.instanceMethod yX2_has, Cond.selects RX2 yX2_has yX2_has, Cond.initialized RX2, Cond.code yX2_has cX2_has 3 (some .boolean), Cond.fieldLink RX2 14 "StrokeBoard$Knowledge" "known" "LStrokeBoard$Row;", Cond.methodLink RX2 31 yX5_get, Cond.methodLink RX6 242 yX3_carry, Cond.instanceMethod yX3_carry, Cond.selects RX3 yX3_carry yX3_carry, Cond.initialized RX3, Cond.code yX3_carry cX3_carry 4 (some .boolean), Cond.fieldLink RX3 14 "StrokeBoard$Links" "counts" "LStrokeBoard$Row;", Cond.fieldLink RX3 20 "StrokeBoard$Links" "messages" "LStrokeBoard$Row;", Cond.methodLink RX3 26 yX5_get]
def wsX6_endangered : List Cond := .code yX6_endangered cX6_endangered 5 (some .int) :: ((wsX6_endangered_r1 ++ wsX6_endangered_r2) ++ wsX60 ++ wsX40 ++ wsX50 ++ wsX20 ++ wsX30)
def wsJ9_max_7cf53 : List Cond := .code yJ9_max_7cf53 cJ9_max_7cf53 2 (some .int) :: ([])
def wsL_cell : List Cond := .code yL_cell cL_cell 2 (some .int) :: ([.constant RL 7 (435606711)])
def wsL_low : List Cond := .code yL_low cL_low 2 (some .int) :: ([.constant RL 8 (2147483647)])
def wsL_sound_r1 : List Cond := [Cond.constant RL 34 (-1000000004), Cond.methodLink RL 9 yX6_siteInfo, Cond.instanceMethod yX6_siteInfo, Cond.selects RX6 yX6_siteInfo yX6_siteInfo, Cond.initialized RX6, Cond.code yX6_siteInfo cX6_siteInfo 3 (some .int), Cond.constant RX6 67 (-1000000001), Cond.fieldLink RX6 55 "StrokeBoard" "clocks" "LStrokeBoard$Row;", Cond.fieldLink RX6 28 "StrokeBoard" "knowledge" "LStrokeBoard$Knowledge;", Cond.fieldLink RX6 12 "StrokeBoard" "log" "LStrokeBoard$Log;", Cond.fieldLink RX6 45 "StrokeBoard" "board" "LStrokeBoard$Board;", Cond.fieldLink RX6 21 "StrokeBoard" "pens" "LStrokeBoard$Ink;", Cond.methodLink RX6 78 yX6_isSite, Cond.instanceMethod yX6_isSite, Cond.selects RX6 yX6_isSite yX6_isSite, Cond.code yX6_isSite cX6_isSite 2 (some .boolean), Cond.fieldLink RX6 59 "StrokeBoard" "siteCount" "I", Cond.methodLink RX6 63 yX6_isWithin, Cond.static yX6_isWithin, Cond.code yX6_isWithin cX6_isWithin 3 (some .boolean), Cond.methodLink RX6 82 yX5_get, Cond.instanceMethod yX5_get, Cond.selects RX5 yX5_get yX5_get, Cond.initialized RX5]
def wsL_sound_r2 : List Cond := [Cond.code yX5_get cX5_get 2 (some .int), Cond.fieldLink RX5 13 "StrokeBoard$Row" "cells" "[I", Cond.methodLink RX6 86 yX2_countOf, Cond.instanceMethod yX2_countOf, Cond.selects RX2 yX2_countOf yX2_countOf, Cond.initialized RX2, Cond.code yX2_countOf cX2_countOf 4 (some .int), Cond.methodLink RX2 35 yX2_has, Cond.instanceMethod yX2_has, Cond.selects RX2 yX2_has yX2_has, Cond.code yX2_has cX2_has 3 (some .boolean), Cond.fieldLink RX2 14 "StrokeBoard$Knowledge" "known" "LStrokeBoard$Row;", Cond.methodLink RX2 31 yX5_get, Cond.methodLink RX6 89 yX4_madeBy, Cond.instanceMethod yX4_madeBy, Cond.selects RX4 yX4_madeBy yX4_madeBy, Cond.initialized RX4, Cond.code yX4_madeBy cX4_madeBy 2 (some .int), Cond.fieldLink RX4 14 "StrokeBoard$Log" "made" "LStrokeBoard$Row;", Cond.methodLink RX4 65 yX5_get, Cond.methodLink RX6 92 yX0_show, Cond.instanceMethod yX0_show, Cond.selects RX0 yX0_show yX0_show, Cond.initialized RX0]
def wsL_sound_r3 : List Cond := [Cond.code yX0_show cX0_show 7 none, Cond.fieldLink RX0 14 "StrokeBoard$Board" "undone" "LStrokeBoard$Row;", Cond.fieldLink RX0 20 "StrokeBoard$Board" "layers" "LStrokeBoard$Row;", Cond.fieldLink RX0 40 "StrokeBoard$Board" "count" "I", Cond.methodLink RX0 26 yX4_totalCount, Cond.instanceMethod yX4_totalCount, Cond.selects RX4 yX4_totalCount yX4_totalCount, Cond.code yX4_totalCount cX4_totalCount 1 (some .int), Cond.fieldLink RX4 45 "StrokeBoard$Log" "total" "I", Cond.methodLink RX0 32 yX5_fill, Cond.instanceMethod yX5_fill, Cond.selects RX5 yX5_fill yX5_fill, Cond.code yX5_fill cX5_fill 3 none, Cond.methodLink RX0 36 yX5_copyFrom, Cond.instanceMethod yX5_copyFrom, Cond.selects RX5 yX5_copyFrom yX5_copyFrom, Cond.code yX5_copyFrom cX5_copyFrom 3 none, Cond.methodLink RX5 19 yX5_get, Cond.methodLink RX0 44 yX4_inOrder, Cond.instanceMethod yX4_inOrder, Cond.selects RX4 yX4_inOrder yX4_inOrder, Cond.code yX4_inOrder cX4_inOrder 2 (some .int), Cond.fieldLink RX4 32 "StrokeBoard$Log" "order" "LStrokeBoard$Row;", Cond.methodLink RX0 48 yX2_has]
def wsL_sound_r4 : List Cond := [Cond.methodLink RX0 54 yX0_apply, Cond.instanceMethod yX0_apply, Cond.selects RX0 yX0_apply yX0_apply, Cond.code yX0_apply cX0_apply 4 none, Cond.methodLink RX0 62 yX4_targetOf, Cond.instanceMethod yX4_targetOf, Cond.selects RX4 yX4_targetOf yX4_targetOf, Cond.code yX4_targetOf cX4_targetOf 2 (some .int), Cond.fieldLink RX4 26 "StrokeBoard$Log" "targets" "LStrokeBoard$Row;", Cond.methodLink RX0 65 yX4_kindOf, Cond.instanceMethod yX4_kindOf, Cond.selects RX4 yX4_kindOf yX4_kindOf, Cond.code yX4_kindOf cX4_kindOf 2 (some .int), Cond.fieldLink RX4 20 "StrokeBoard$Log" "kinds" "LStrokeBoard$Row;", Cond.methodLink RX0 68 yX5_set, Cond.instanceMethod yX5_set, Cond.selects RX5 yX5_set yX5_set, Cond.code yX5_set cX5_set 3 none, Cond.methodLink RX0 72 yX4_layerOf, Cond.instanceMethod yX4_layerOf, Cond.selects RX4 yX4_layerOf yX4_layerOf, Cond.code yX4_layerOf cX4_layerOf 2 (some .int), Cond.fieldLink RX4 29 "StrokeBoard$Log" "layers" "LStrokeBoard$Row;", Cond.methodLink RX0 58 yX0_collect]
def wsL_sound_r5 : List Cond := [Cond.instanceMethod yX0_collect, Cond.selects RX0 yX0_collect yX0_collect, Cond.code yX0_collect cX0_collect 8 none, Cond.fieldLink RX0 23 "StrokeBoard$Board" "strokes" "LStrokeBoard$Row;", Cond.methodLink RX0 75 yX4_isStroke, Cond.instanceMethod yX4_isStroke, Cond.selects RX4 yX4_isStroke yX4_isStroke, Cond.code yX4_isStroke cX4_isStroke 2 (some .boolean), Cond.methodLink RX0 79 yX5_get, Cond.methodLink RX0 82 yX0_isUndone, Cond.instanceMethod yX0_isUndone, Cond.selects RX0 yX0_isUndone yX0_isUndone, Cond.code yX0_isUndone cX0_isUndone 2 (some .boolean), Cond.methodLink RX6 96 yX0_strokeCount, Cond.instanceMethod yX0_strokeCount, Cond.selects RX0 yX0_strokeCount yX0_strokeCount, Cond.code yX0_strokeCount cX0_strokeCount 1 (some .int), Cond.methodLink RX6 100 yX1_pointCount, Cond.instanceMethod yX1_pointCount, Cond.selects RX1 yX1_pointCount yX1_pointCount, Cond.initialized RX1, Cond.code yX1_pointCount cX1_pointCount 2 (some .int), Cond.fieldLink RX1 14 "StrokeBoard$Ink" "counts" "LStrokeBoard$Row;", Cond.methodLink RX1 42 yX5_get]
def wsL_sound_r6 : List Cond := [Cond.methodLink RL 15 yX6_operation, Cond.instanceMethod yX6_operation, Cond.selects RX6 yX6_operation yX6_operation, Cond.code yX6_operation cX6_operation 5 (some .int), Cond.constant RX6 162 (-1000000004), Cond.methodLink RX6 178 yX6_idOf, Cond.static yX6_idOf, Cond.code yX6_idOf cX6_idOf 2 (some .int), Cond.methodLink RX6 198 yX4_kindOf, Cond.methodLink RX6 201 yX4_timeOf, Cond.instanceMethod yX4_timeOf, Cond.selects RX4 yX4_timeOf yX4_timeOf, Cond.code yX4_timeOf cX4_timeOf 2 (some .int), Cond.fieldLink RX4 23 "StrokeBoard$Log" "times" "LStrokeBoard$Row;", Cond.methodLink RX6 187 yX4_sizeOf, Cond.instanceMethod yX4_sizeOf, Cond.selects RX4 yX4_sizeOf yX4_sizeOf, Cond.code yX4_sizeOf cX4_sizeOf 2 (some .int), Cond.fieldLink RX4 38 "StrokeBoard$Log" "ink" "LStrokeBoard$Ink;", Cond.methodLink RX4 87 yX1_sizeOf, Cond.instanceMethod yX1_sizeOf, Cond.selects RX1 yX1_sizeOf yX1_sizeOf, Cond.code yX1_sizeOf cX1_sizeOf 5 (some .int), Cond.methodLink RX1 59 yX1_xOf]
def wsL_sound_r7 : List Cond := [Cond.instanceMethod yX1_xOf, Cond.selects RX1 yX1_xOf yX1_xOf, Cond.code yX1_xOf cX1_xOf 3 (some .int), Cond.fieldLink RX1 26 "StrokeBoard$Ink" "xs" "LStrokeBoard$Row;", Cond.methodLink RX1 63 yX1_yOf, Cond.instanceMethod yX1_yOf, Cond.selects RX1 yX1_yOf yX1_yOf, Cond.code yX1_yOf cX1_yOf 3 (some .int), Cond.fieldLink RX1 29 "StrokeBoard$Ink" "ys" "LStrokeBoard$Row;", Cond.methodLink RX6 204 yX4_isStroke, Cond.methodLink RX6 210 yX4_targetOf, Cond.methodLink RX6 135 yX6_numberOf, Cond.static yX6_numberOf, Cond.code yX6_numberOf cX6_numberOf 1 (some .int), Cond.methodLink RX6 172 yX6_authorOf, Cond.static yX6_authorOf, Cond.code yX6_authorOf cX6_authorOf 1 (some .int), Cond.methodLink RX6 213 yX4_layerOf, Cond.methodLink RL 19 yX6_knows, Cond.instanceMethod yX6_knows, Cond.selects RX6 yX6_knows yX6_knows, Cond.code yX6_knows cX6_knows 4 (some .int), Cond.methodLink RX6 181 yX2_has, Cond.methodLink RL 22 yX6_stroke]
def wsL_sound_r8 : List Cond := [Cond.instanceMethod yX6_stroke, Cond.selects RX6 yX6_stroke yX6_stroke, Cond.code yX6_stroke cX6_stroke 6 (some .int), Cond.methodLink RX6 148 yX0_strokeIn, Cond.instanceMethod yX0_strokeIn, Cond.selects RX0 yX0_strokeIn yX0_strokeIn, Cond.code yX0_strokeIn cX0_strokeIn 2 (some .int), Cond.methodLink RX6 216 yX6_coordinate, Cond.instanceMethod yX6_coordinate, Cond.selects RX6 yX6_coordinate yX6_coordinate, Cond.code yX6_coordinate cX6_coordinate 4 (some .int), Cond.methodLink RX6 111 yX1_xOf, Cond.methodLink RX6 115 yX1_yOf, Cond.methodLink RX6 219 yX6_strokeValue, Cond.instanceMethod yX6_strokeValue, Cond.selects RX6 yX6_strokeValue yX6_strokeValue, Cond.code yX6_strokeValue cX6_strokeValue 3 (some .int), Cond.methodLink RX6 257 yX0_layerOf, Cond.instanceMethod yX0_layerOf, Cond.selects RX0 yX0_layerOf yX0_layerOf, Cond.code yX0_layerOf cX0_layerOf 2 (some .int), Cond.methodLink RX6 258 yX1_colorOf, Cond.instanceMethod yX1_colorOf, Cond.selects RX1 yX1_colorOf yX1_colorOf]
def wsL_sound_r9 : List Cond := [Cond.code yX1_colorOf cX1_colorOf 2 (some .int), Cond.fieldLink RX1 20 "StrokeBoard$Ink" "colors" "LStrokeBoard$Row;", Cond.methodLink RL 25 yX6_endangered, Cond.instanceMethod yX6_endangered, Cond.selects RX6 yX6_endangered yX6_endangered, Cond.code yX6_endangered cX6_endangered 5 (some .int), Cond.fieldLink RX6 38 "StrokeBoard" "links" "LStrokeBoard$Links;", Cond.methodLink RX6 239 yX6_isKnownBeside, Cond.instanceMethod yX6_isKnownBeside, Cond.selects RX6 yX6_isKnownBeside yX6_isKnownBeside, Cond.code yX6_isKnownBeside cX6_isKnownBeside 4 (some .boolean), Cond.methodLink RX6 242 yX3_carry, Cond.instanceMethod yX3_carry, Cond.selects RX3 yX3_carry yX3_carry, Cond.initialized RX3, Cond.code yX3_carry cX3_carry 4 (some .boolean), Cond.fieldLink RX3 14 "StrokeBoard$Links" "counts" "LStrokeBoard$Row;", Cond.fieldLink RX3 20 "StrokeBoard$Links" "messages" "LStrokeBoard$Row;", Cond.methodLink RX3 26 yX5_get, Cond.methodLink RL 29 yX6_gap, Cond.instanceMethod yX6_gap, Cond.selects RX6 yX6_gap yX6_gap, Cond.code yX6_gap cX6_gap 8 (some .int), Cond.methodLink RL 35 yX6_bestHelper]
def wsL_sound_r10 : List Cond := [Cond.instanceMethod yX6_bestHelper, Cond.selects RX6 yX6_bestHelper yX6_bestHelper, Cond.code yX6_bestHelper cX6_bestHelper 6 (some .int), Cond.methodLink RX6 236 yX6_repairable, Cond.instanceMethod yX6_repairable, Cond.selects RX6 yX6_repairable yX6_repairable, Cond.code yX6_repairable cX6_repairable 5 (some .int), Cond.methodLink RX6 184 yX6_canRepair, Cond.instanceMethod yX6_canRepair, Cond.selects RX6 yX6_canRepair yX6_canRepair, Cond.code yX6_canRepair cX6_canRepair 4 (some .boolean), Cond.methodLink RX6 254 yX2_isInGap, Cond.instanceMethod yX2_isInGap, Cond.selects RX2 yX2_isInGap yX2_isInGap, Cond.code yX2_isInGap cX2_isInGap 3 (some .boolean), Cond.methodLink RX2 39 yX2_hasLaterOfAuthor, Cond.instanceMethod yX2_hasLaterOfAuthor, Cond.selects RX2 yX2_hasLaterOfAuthor yX2_hasLaterOfAuthor, Cond.code yX2_hasLaterOfAuthor cX2_hasLaterOfAuthor 5 (some .boolean), Cond.methodLink RL 38 yX6_areSame, Cond.instanceMethod yX6_areSame, Cond.selects RX6 yX6_areSame yX6_areSame, Cond.code yX6_areSame cX6_areSame 3 (some .int), Cond.methodLink RX6 229 yX6_showSame]
def wsL_sound_r11 : List Cond := [Cond.instanceMethod yX6_showSame, Cond.selects RX6 yX6_showSame yX6_showSame, Cond.code yX6_showSame cX6_showSame 4 (some .boolean), Cond.fieldLink RX6 49 "StrokeBoard" "secondBoard" "LStrokeBoard$Board;", Cond.methodLink RX6 261 yX0_matches, Cond.instanceMethod yX0_matches, Cond.selects RX0 yX0_matches yX0_matches, Cond.code yX0_matches cX0_matches 4 (some .boolean), Cond.methodLink RX0 85 yX0_strokeIn, Cond.methodLink RX0 88 yX0_layerOf]
def wsL_sound : List Cond := .code yL_sound cL_sound 9 (some .boolean) :: ((wsL_sound_r1 ++ (wsL_sound_r2 ++ (wsL_sound_r3 ++ (wsL_sound_r4 ++ (wsL_sound_r5 ++ (wsL_sound_r6 ++ (wsL_sound_r7 ++ (wsL_sound_r8 ++ (wsL_sound_r9 ++ (wsL_sound_r10 ++ wsL_sound_r11)))))))))) ++ wsX60 ++ wsX50 ++ wsX20 ++ wsX40 ++ wsX00 ++ wsX10 ++ wsX30)
def wsL_knowSame_r1 : List Cond := [Cond.methodLink RL 41 yX6_sites, Cond.instanceMethod yX6_sites, Cond.selects RX6 yX6_sites yX6_sites, Cond.initialized RX6, Cond.code yX6_sites cX6_sites 1 (some .int), Cond.fieldLink RX6 59 "StrokeBoard" "siteCount" "I", Cond.methodLink RL 9 yX6_siteInfo, Cond.instanceMethod yX6_siteInfo, Cond.selects RX6 yX6_siteInfo yX6_siteInfo, Cond.code yX6_siteInfo cX6_siteInfo 3 (some .int), Cond.constant RX6 67 (-1000000001), Cond.fieldLink RX6 55 "StrokeBoard" "clocks" "LStrokeBoard$Row;", Cond.fieldLink RX6 28 "StrokeBoard" "knowledge" "LStrokeBoard$Knowledge;", Cond.fieldLink RX6 12 "StrokeBoard" "log" "LStrokeBoard$Log;", Cond.fieldLink RX6 45 "StrokeBoard" "board" "LStrokeBoard$Board;", Cond.fieldLink RX6 21 "StrokeBoard" "pens" "LStrokeBoard$Ink;", Cond.methodLink RX6 78 yX6_isSite, Cond.instanceMethod yX6_isSite, Cond.selects RX6 yX6_isSite yX6_isSite, Cond.code yX6_isSite cX6_isSite 2 (some .boolean), Cond.methodLink RX6 63 yX6_isWithin, Cond.static yX6_isWithin, Cond.code yX6_isWithin cX6_isWithin 3 (some .boolean), Cond.methodLink RX6 82 yX5_get]
def wsL_knowSame_r2 : List Cond := [Cond.instanceMethod yX5_get, Cond.selects RX5 yX5_get yX5_get, Cond.initialized RX5, Cond.code yX5_get cX5_get 2 (some .int), Cond.fieldLink RX5 13 "StrokeBoard$Row" "cells" "[I", Cond.methodLink RX6 86 yX2_countOf, Cond.instanceMethod yX2_countOf, Cond.selects RX2 yX2_countOf yX2_countOf, Cond.initialized RX2, Cond.code yX2_countOf cX2_countOf 4 (some .int), Cond.methodLink RX2 35 yX2_has, Cond.instanceMethod yX2_has, Cond.selects RX2 yX2_has yX2_has, Cond.code yX2_has cX2_has 3 (some .boolean), Cond.fieldLink RX2 14 "StrokeBoard$Knowledge" "known" "LStrokeBoard$Row;", Cond.methodLink RX2 31 yX5_get, Cond.methodLink RX6 89 yX4_madeBy, Cond.instanceMethod yX4_madeBy, Cond.selects RX4 yX4_madeBy yX4_madeBy, Cond.initialized RX4, Cond.code yX4_madeBy cX4_madeBy 2 (some .int), Cond.fieldLink RX4 14 "StrokeBoard$Log" "made" "LStrokeBoard$Row;", Cond.methodLink RX4 65 yX5_get, Cond.methodLink RX6 92 yX0_show]
def wsL_knowSame_r3 : List Cond := [Cond.instanceMethod yX0_show, Cond.selects RX0 yX0_show yX0_show, Cond.initialized RX0, Cond.code yX0_show cX0_show 7 none, Cond.fieldLink RX0 14 "StrokeBoard$Board" "undone" "LStrokeBoard$Row;", Cond.fieldLink RX0 20 "StrokeBoard$Board" "layers" "LStrokeBoard$Row;", Cond.fieldLink RX0 40 "StrokeBoard$Board" "count" "I", Cond.methodLink RX0 26 yX4_totalCount, Cond.instanceMethod yX4_totalCount, Cond.selects RX4 yX4_totalCount yX4_totalCount, Cond.code yX4_totalCount cX4_totalCount 1 (some .int), Cond.fieldLink RX4 45 "StrokeBoard$Log" "total" "I", Cond.methodLink RX0 32 yX5_fill, Cond.instanceMethod yX5_fill, Cond.selects RX5 yX5_fill yX5_fill, Cond.code yX5_fill cX5_fill 3 none, Cond.methodLink RX0 36 yX5_copyFrom, Cond.instanceMethod yX5_copyFrom, Cond.selects RX5 yX5_copyFrom yX5_copyFrom, Cond.code yX5_copyFrom cX5_copyFrom 3 none, Cond.methodLink RX5 19 yX5_get, Cond.methodLink RX0 44 yX4_inOrder, Cond.instanceMethod yX4_inOrder, Cond.selects RX4 yX4_inOrder yX4_inOrder]
def wsL_knowSame_r4 : List Cond := [Cond.code yX4_inOrder cX4_inOrder 2 (some .int), Cond.fieldLink RX4 32 "StrokeBoard$Log" "order" "LStrokeBoard$Row;", Cond.methodLink RX0 48 yX2_has, Cond.methodLink RX0 54 yX0_apply, Cond.instanceMethod yX0_apply, Cond.selects RX0 yX0_apply yX0_apply, Cond.code yX0_apply cX0_apply 4 none, Cond.methodLink RX0 62 yX4_targetOf, Cond.instanceMethod yX4_targetOf, Cond.selects RX4 yX4_targetOf yX4_targetOf, Cond.code yX4_targetOf cX4_targetOf 2 (some .int), Cond.fieldLink RX4 26 "StrokeBoard$Log" "targets" "LStrokeBoard$Row;", Cond.methodLink RX0 65 yX4_kindOf, Cond.instanceMethod yX4_kindOf, Cond.selects RX4 yX4_kindOf yX4_kindOf, Cond.code yX4_kindOf cX4_kindOf 2 (some .int), Cond.fieldLink RX4 20 "StrokeBoard$Log" "kinds" "LStrokeBoard$Row;", Cond.methodLink RX0 68 yX5_set, Cond.instanceMethod yX5_set, Cond.selects RX5 yX5_set yX5_set, Cond.code yX5_set cX5_set 3 none, Cond.methodLink RX0 72 yX4_layerOf, Cond.instanceMethod yX4_layerOf, Cond.selects RX4 yX4_layerOf yX4_layerOf]
def wsL_knowSame_r5 : List Cond := [Cond.code yX4_layerOf cX4_layerOf 2 (some .int), Cond.fieldLink RX4 29 "StrokeBoard$Log" "layers" "LStrokeBoard$Row;", Cond.methodLink RX0 58 yX0_collect, Cond.instanceMethod yX0_collect, Cond.selects RX0 yX0_collect yX0_collect, Cond.code yX0_collect cX0_collect 8 none, Cond.fieldLink RX0 23 "StrokeBoard$Board" "strokes" "LStrokeBoard$Row;", Cond.methodLink RX0 75 yX4_isStroke, Cond.instanceMethod yX4_isStroke, Cond.selects RX4 yX4_isStroke yX4_isStroke, Cond.code yX4_isStroke cX4_isStroke 2 (some .boolean), Cond.methodLink RX0 79 yX5_get, Cond.methodLink RX0 82 yX0_isUndone, Cond.instanceMethod yX0_isUndone, Cond.selects RX0 yX0_isUndone yX0_isUndone, Cond.code yX0_isUndone cX0_isUndone 2 (some .boolean), Cond.methodLink RX6 96 yX0_strokeCount, Cond.instanceMethod yX0_strokeCount, Cond.selects RX0 yX0_strokeCount yX0_strokeCount, Cond.code yX0_strokeCount cX0_strokeCount 1 (some .int), Cond.methodLink RX6 100 yX1_pointCount, Cond.instanceMethod yX1_pointCount, Cond.selects RX1 yX1_pointCount yX1_pointCount, Cond.initialized RX1]
def wsL_knowSame_r6 : List Cond := [Cond.code yX1_pointCount cX1_pointCount 2 (some .int), Cond.fieldLink RX1 14 "StrokeBoard$Ink" "counts" "LStrokeBoard$Row;", Cond.methodLink RX1 42 yX5_get, Cond.methodLink RL 19 yX6_knows, Cond.instanceMethod yX6_knows, Cond.selects RX6 yX6_knows yX6_knows, Cond.code yX6_knows cX6_knows 4 (some .int), Cond.constant RX6 162 (-1000000004), Cond.methodLink RX6 178 yX6_idOf, Cond.static yX6_idOf, Cond.code yX6_idOf cX6_idOf 2 (some .int), Cond.methodLink RX6 181 yX2_has]
def wsL_knowSame : List Cond := .code yL_knowSame cL_knowSame 6 (some .boolean) :: ((wsL_knowSame_r1 ++ (wsL_knowSame_r2 ++ (wsL_knowSame_r3 ++ (wsL_knowSame_r4 ++ (wsL_knowSame_r5 ++ wsL_knowSame_r6))))) ++ wsX60 ++ wsX50 ++ wsX20 ++ wsX40 ++ wsX00 ++ wsX10)
def wsL_pairs_r1 : List Cond := [Cond.methodLink RL 41 yX6_sites, Cond.instanceMethod yX6_sites, Cond.selects RX6 yX6_sites yX6_sites, Cond.initialized RX6, Cond.code yX6_sites cX6_sites 1 (some .int), Cond.fieldLink RX6 59 "StrokeBoard" "siteCount" "I", Cond.methodLink RL 38 yX6_areSame, Cond.instanceMethod yX6_areSame, Cond.selects RX6 yX6_areSame yX6_areSame, Cond.code yX6_areSame cX6_areSame 3 (some .int), Cond.constant RX6 67 (-1000000001), Cond.fieldLink RX6 28 "StrokeBoard" "knowledge" "LStrokeBoard$Knowledge;", Cond.methodLink RX6 78 yX6_isSite, Cond.instanceMethod yX6_isSite, Cond.selects RX6 yX6_isSite yX6_isSite, Cond.code yX6_isSite cX6_isSite 2 (some .boolean), Cond.methodLink RX6 63 yX6_isWithin, Cond.static yX6_isWithin, Cond.code yX6_isWithin cX6_isWithin 3 (some .boolean), Cond.methodLink RX6 229 yX6_showSame, Cond.instanceMethod yX6_showSame, Cond.selects RX6 yX6_showSame yX6_showSame, Cond.code yX6_showSame cX6_showSame 4 (some .boolean), Cond.fieldLink RX6 45 "StrokeBoard" "board" "LStrokeBoard$Board;"]
def wsL_pairs_r2 : List Cond := [Cond.fieldLink RX6 12 "StrokeBoard" "log" "LStrokeBoard$Log;", Cond.fieldLink RX6 49 "StrokeBoard" "secondBoard" "LStrokeBoard$Board;", Cond.methodLink RX6 92 yX0_show, Cond.instanceMethod yX0_show, Cond.selects RX0 yX0_show yX0_show, Cond.initialized RX0, Cond.code yX0_show cX0_show 7 none, Cond.fieldLink RX0 14 "StrokeBoard$Board" "undone" "LStrokeBoard$Row;", Cond.fieldLink RX0 20 "StrokeBoard$Board" "layers" "LStrokeBoard$Row;", Cond.fieldLink RX0 40 "StrokeBoard$Board" "count" "I", Cond.methodLink RX0 26 yX4_totalCount, Cond.instanceMethod yX4_totalCount, Cond.selects RX4 yX4_totalCount yX4_totalCount, Cond.initialized RX4, Cond.code yX4_totalCount cX4_totalCount 1 (some .int), Cond.fieldLink RX4 45 "StrokeBoard$Log" "total" "I", Cond.methodLink RX0 32 yX5_fill, Cond.instanceMethod yX5_fill, Cond.selects RX5 yX5_fill yX5_fill, Cond.initialized RX5, Cond.code yX5_fill cX5_fill 3 none, Cond.fieldLink RX5 13 "StrokeBoard$Row" "cells" "[I", Cond.methodLink RX0 36 yX5_copyFrom, Cond.instanceMethod yX5_copyFrom]
def wsL_pairs_r3 : List Cond := [Cond.selects RX5 yX5_copyFrom yX5_copyFrom, Cond.code yX5_copyFrom cX5_copyFrom 3 none, Cond.methodLink RX5 19 yX5_get, Cond.instanceMethod yX5_get, Cond.selects RX5 yX5_get yX5_get, Cond.code yX5_get cX5_get 2 (some .int), Cond.methodLink RX0 44 yX4_inOrder, Cond.instanceMethod yX4_inOrder, Cond.selects RX4 yX4_inOrder yX4_inOrder, Cond.code yX4_inOrder cX4_inOrder 2 (some .int), Cond.fieldLink RX4 32 "StrokeBoard$Log" "order" "LStrokeBoard$Row;", Cond.methodLink RX4 65 yX5_get, Cond.methodLink RX0 48 yX2_has, Cond.instanceMethod yX2_has, Cond.selects RX2 yX2_has yX2_has, Cond.initialized RX2, Cond.code yX2_has cX2_has 3 (some .boolean), Cond.fieldLink RX2 14 "StrokeBoard$Knowledge" "known" "LStrokeBoard$Row;", Cond.methodLink RX2 31 yX5_get, Cond.methodLink RX0 54 yX0_apply, Cond.instanceMethod yX0_apply, Cond.selects RX0 yX0_apply yX0_apply, Cond.code yX0_apply cX0_apply 4 none, Cond.methodLink RX0 62 yX4_targetOf]
def wsL_pairs_r4 : List Cond := [Cond.instanceMethod yX4_targetOf, Cond.selects RX4 yX4_targetOf yX4_targetOf, Cond.code yX4_targetOf cX4_targetOf 2 (some .int), Cond.fieldLink RX4 26 "StrokeBoard$Log" "targets" "LStrokeBoard$Row;", Cond.methodLink RX0 65 yX4_kindOf, Cond.instanceMethod yX4_kindOf, Cond.selects RX4 yX4_kindOf yX4_kindOf, Cond.code yX4_kindOf cX4_kindOf 2 (some .int), Cond.fieldLink RX4 20 "StrokeBoard$Log" "kinds" "LStrokeBoard$Row;", Cond.methodLink RX0 68 yX5_set, Cond.instanceMethod yX5_set, Cond.selects RX5 yX5_set yX5_set, Cond.code yX5_set cX5_set 3 none, Cond.methodLink RX0 72 yX4_layerOf, Cond.instanceMethod yX4_layerOf, Cond.selects RX4 yX4_layerOf yX4_layerOf, Cond.code yX4_layerOf cX4_layerOf 2 (some .int), Cond.fieldLink RX4 29 "StrokeBoard$Log" "layers" "LStrokeBoard$Row;", Cond.methodLink RX0 58 yX0_collect, Cond.instanceMethod yX0_collect, Cond.selects RX0 yX0_collect yX0_collect, Cond.code yX0_collect cX0_collect 8 none, Cond.fieldLink RX0 23 "StrokeBoard$Board" "strokes" "LStrokeBoard$Row;", Cond.methodLink RX0 75 yX4_isStroke]
def wsL_pairs_r5 : List Cond := [Cond.instanceMethod yX4_isStroke, Cond.selects RX4 yX4_isStroke yX4_isStroke, Cond.code yX4_isStroke cX4_isStroke 2 (some .boolean), Cond.methodLink RX0 79 yX5_get, Cond.methodLink RX0 82 yX0_isUndone, Cond.instanceMethod yX0_isUndone, Cond.selects RX0 yX0_isUndone yX0_isUndone, Cond.code yX0_isUndone cX0_isUndone 2 (some .boolean), Cond.methodLink RX6 261 yX0_matches, Cond.instanceMethod yX0_matches, Cond.selects RX0 yX0_matches yX0_matches, Cond.code yX0_matches cX0_matches 4 (some .boolean), Cond.methodLink RX0 85 yX0_strokeIn, Cond.instanceMethod yX0_strokeIn, Cond.selects RX0 yX0_strokeIn yX0_strokeIn, Cond.code yX0_strokeIn cX0_strokeIn 2 (some .int), Cond.methodLink RX0 88 yX0_layerOf, Cond.instanceMethod yX0_layerOf, Cond.selects RX0 yX0_layerOf yX0_layerOf, Cond.code yX0_layerOf cX0_layerOf 2 (some .int), Cond.methodLink RL 45 yL_knowSame, Cond.static yL_knowSame, Cond.initialized RL, Cond.code yL_knowSame cL_knowSame 6 (some .boolean)]
def wsL_pairs_r6 : List Cond := [Cond.methodLink RL 9 yX6_siteInfo, Cond.instanceMethod yX6_siteInfo, Cond.selects RX6 yX6_siteInfo yX6_siteInfo, Cond.code yX6_siteInfo cX6_siteInfo 3 (some .int), Cond.fieldLink RX6 55 "StrokeBoard" "clocks" "LStrokeBoard$Row;", Cond.fieldLink RX6 21 "StrokeBoard" "pens" "LStrokeBoard$Ink;", Cond.methodLink RX6 82 yX5_get, Cond.methodLink RX6 86 yX2_countOf, Cond.instanceMethod yX2_countOf, Cond.selects RX2 yX2_countOf yX2_countOf, Cond.code yX2_countOf cX2_countOf 4 (some .int), Cond.methodLink RX2 35 yX2_has, Cond.methodLink RX6 89 yX4_madeBy, Cond.instanceMethod yX4_madeBy, Cond.selects RX4 yX4_madeBy yX4_madeBy, Cond.code yX4_madeBy cX4_madeBy 2 (some .int), Cond.fieldLink RX4 14 "StrokeBoard$Log" "made" "LStrokeBoard$Row;", Cond.methodLink RX6 96 yX0_strokeCount, Cond.instanceMethod yX0_strokeCount, Cond.selects RX0 yX0_strokeCount yX0_strokeCount, Cond.code yX0_strokeCount cX0_strokeCount 1 (some .int), Cond.methodLink RX6 100 yX1_pointCount, Cond.instanceMethod yX1_pointCount, Cond.selects RX1 yX1_pointCount yX1_pointCount]
def wsL_pairs_r7 : List Cond := [Cond.initialized RX1, Cond.code yX1_pointCount cX1_pointCount 2 (some .int), Cond.fieldLink RX1 14 "StrokeBoard$Ink" "counts" "LStrokeBoard$Row;", Cond.methodLink RX1 42 yX5_get, Cond.methodLink RL 19 yX6_knows, Cond.instanceMethod yX6_knows, Cond.selects RX6 yX6_knows yX6_knows, Cond.code yX6_knows cX6_knows 4 (some .int), Cond.constant RX6 162 (-1000000004), Cond.methodLink RX6 178 yX6_idOf, Cond.static yX6_idOf, Cond.code yX6_idOf cX6_idOf 2 (some .int), Cond.methodLink RX6 181 yX2_has, Cond.methodLink RL 49 yX6_digest, Cond.instanceMethod yX6_digest, Cond.selects RX6 yX6_digest yX6_digest, Cond.code yX6_digest cX6_digest 2 (some .int), Cond.methodLink RX6 225 yX0_hash, Cond.instanceMethod yX0_hash, Cond.selects RX0 yX0_hash yX0_hash, Cond.code yX0_hash cX0_hash 5 (some .int), Cond.static yX6_authorOf, Cond.code yX6_authorOf cX6_authorOf 1 (some .int), Cond.static yX6_numberOf]
def wsL_pairs_r8 : List Cond := [Cond.code yX6_numberOf cX6_numberOf 1 (some .int), Cond.methodLink RX0 99 yX1_colorOf, Cond.instanceMethod yX1_colorOf, Cond.selects RX1 yX1_colorOf yX1_colorOf, Cond.code yX1_colorOf cX1_colorOf 2 (some .int), Cond.fieldLink RX1 20 "StrokeBoard$Ink" "colors" "LStrokeBoard$Row;", Cond.methodLink RX0 104 yX0_hashPoints, Cond.instanceMethod yX0_hashPoints, Cond.selects RX0 yX0_hashPoints yX0_hashPoints, Cond.code yX0_hashPoints cX0_hashPoints 6 (some .int), Cond.methodLink RX0 108 yX1_pointCount, Cond.methodLink RX0 111 yX1_xOf, Cond.instanceMethod yX1_xOf, Cond.selects RX1 yX1_xOf yX1_xOf, Cond.code yX1_xOf cX1_xOf 3 (some .int), Cond.fieldLink RX1 26 "StrokeBoard$Ink" "xs" "LStrokeBoard$Row;", Cond.methodLink RX0 115 yX1_yOf, Cond.instanceMethod yX1_yOf, Cond.selects RX1 yX1_yOf yX1_yOf, Cond.code yX1_yOf cX1_yOf 3 (some .int), Cond.fieldLink RX1 29 "StrokeBoard$Ink" "ys" "LStrokeBoard$Row;", Cond.methodLink RL 52 yX6_waiting, Cond.instanceMethod yX6_waiting, Cond.selects RX6 yX6_waiting yX6_waiting]
def wsL_pairs_r9 : List Cond := [Cond.code yX6_waiting cX6_waiting 3 (some .int), Cond.fieldLink RX6 38 "StrokeBoard" "links" "LStrokeBoard$Links;", Cond.methodLink RX6 155 yX6_areTwoSites, Cond.instanceMethod yX6_areTwoSites, Cond.selects RX6 yX6_areTwoSites yX6_areTwoSites, Cond.code yX6_areTwoSites cX6_areTwoSites 3 (some .boolean), Cond.methodLink RX6 159 yX3_countIn, Cond.instanceMethod yX3_countIn, Cond.selects RX3 yX3_countIn yX3_countIn, Cond.initialized RX3, Cond.code yX3_countIn cX3_countIn 3 (some .int), Cond.fieldLink RX3 14 "StrokeBoard$Links" "counts" "LStrokeBoard$Row;", Cond.methodLink RX3 26 yX5_get]
def wsL_pairs : List Cond := .code yL_pairs cL_pairs 4 (some .boolean) :: ((wsL_pairs_r1 ++ (wsL_pairs_r2 ++ (wsL_pairs_r3 ++ (wsL_pairs_r4 ++ (wsL_pairs_r5 ++ (wsL_pairs_r6 ++ (wsL_pairs_r7 ++ (wsL_pairs_r8 ++ wsL_pairs_r9)))))))) ++ wsX60 ++ wsX00 ++ wsX40 ++ wsX50 ++ wsX20 ++ wsX10 ++ wsX30)
def wsL_repairs_r1 : List Cond := [Cond.constant RL 34 (-1000000004), Cond.methodLink RL 9 yX6_siteInfo, Cond.instanceMethod yX6_siteInfo, Cond.selects RX6 yX6_siteInfo yX6_siteInfo, Cond.initialized RX6, Cond.code yX6_siteInfo cX6_siteInfo 3 (some .int), Cond.constant RX6 67 (-1000000001), Cond.fieldLink RX6 55 "StrokeBoard" "clocks" "LStrokeBoard$Row;", Cond.fieldLink RX6 28 "StrokeBoard" "knowledge" "LStrokeBoard$Knowledge;", Cond.fieldLink RX6 12 "StrokeBoard" "log" "LStrokeBoard$Log;", Cond.fieldLink RX6 45 "StrokeBoard" "board" "LStrokeBoard$Board;", Cond.fieldLink RX6 21 "StrokeBoard" "pens" "LStrokeBoard$Ink;", Cond.methodLink RX6 78 yX6_isSite, Cond.instanceMethod yX6_isSite, Cond.selects RX6 yX6_isSite yX6_isSite, Cond.code yX6_isSite cX6_isSite 2 (some .boolean), Cond.fieldLink RX6 59 "StrokeBoard" "siteCount" "I", Cond.methodLink RX6 63 yX6_isWithin, Cond.static yX6_isWithin, Cond.code yX6_isWithin cX6_isWithin 3 (some .boolean), Cond.methodLink RX6 82 yX5_get, Cond.instanceMethod yX5_get, Cond.selects RX5 yX5_get yX5_get, Cond.initialized RX5]
def wsL_repairs_r2 : List Cond := [Cond.code yX5_get cX5_get 2 (some .int), Cond.fieldLink RX5 13 "StrokeBoard$Row" "cells" "[I", Cond.methodLink RX6 86 yX2_countOf, Cond.instanceMethod yX2_countOf, Cond.selects RX2 yX2_countOf yX2_countOf, Cond.initialized RX2, Cond.code yX2_countOf cX2_countOf 4 (some .int), Cond.methodLink RX2 35 yX2_has, Cond.instanceMethod yX2_has, Cond.selects RX2 yX2_has yX2_has, Cond.code yX2_has cX2_has 3 (some .boolean), Cond.fieldLink RX2 14 "StrokeBoard$Knowledge" "known" "LStrokeBoard$Row;", Cond.methodLink RX2 31 yX5_get, Cond.methodLink RX6 89 yX4_madeBy, Cond.instanceMethod yX4_madeBy, Cond.selects RX4 yX4_madeBy yX4_madeBy, Cond.initialized RX4, Cond.code yX4_madeBy cX4_madeBy 2 (some .int), Cond.fieldLink RX4 14 "StrokeBoard$Log" "made" "LStrokeBoard$Row;", Cond.methodLink RX4 65 yX5_get, Cond.methodLink RX6 92 yX0_show, Cond.instanceMethod yX0_show, Cond.selects RX0 yX0_show yX0_show, Cond.initialized RX0]
def wsL_repairs_r3 : List Cond := [Cond.code yX0_show cX0_show 7 none, Cond.fieldLink RX0 14 "StrokeBoard$Board" "undone" "LStrokeBoard$Row;", Cond.fieldLink RX0 20 "StrokeBoard$Board" "layers" "LStrokeBoard$Row;", Cond.fieldLink RX0 40 "StrokeBoard$Board" "count" "I", Cond.methodLink RX0 26 yX4_totalCount, Cond.instanceMethod yX4_totalCount, Cond.selects RX4 yX4_totalCount yX4_totalCount, Cond.code yX4_totalCount cX4_totalCount 1 (some .int), Cond.fieldLink RX4 45 "StrokeBoard$Log" "total" "I", Cond.methodLink RX0 32 yX5_fill, Cond.instanceMethod yX5_fill, Cond.selects RX5 yX5_fill yX5_fill, Cond.code yX5_fill cX5_fill 3 none, Cond.methodLink RX0 36 yX5_copyFrom, Cond.instanceMethod yX5_copyFrom, Cond.selects RX5 yX5_copyFrom yX5_copyFrom, Cond.code yX5_copyFrom cX5_copyFrom 3 none, Cond.methodLink RX5 19 yX5_get, Cond.methodLink RX0 44 yX4_inOrder, Cond.instanceMethod yX4_inOrder, Cond.selects RX4 yX4_inOrder yX4_inOrder, Cond.code yX4_inOrder cX4_inOrder 2 (some .int), Cond.fieldLink RX4 32 "StrokeBoard$Log" "order" "LStrokeBoard$Row;", Cond.methodLink RX0 48 yX2_has]
def wsL_repairs_r4 : List Cond := [Cond.methodLink RX0 54 yX0_apply, Cond.instanceMethod yX0_apply, Cond.selects RX0 yX0_apply yX0_apply, Cond.code yX0_apply cX0_apply 4 none, Cond.methodLink RX0 62 yX4_targetOf, Cond.instanceMethod yX4_targetOf, Cond.selects RX4 yX4_targetOf yX4_targetOf, Cond.code yX4_targetOf cX4_targetOf 2 (some .int), Cond.fieldLink RX4 26 "StrokeBoard$Log" "targets" "LStrokeBoard$Row;", Cond.methodLink RX0 65 yX4_kindOf, Cond.instanceMethod yX4_kindOf, Cond.selects RX4 yX4_kindOf yX4_kindOf, Cond.code yX4_kindOf cX4_kindOf 2 (some .int), Cond.fieldLink RX4 20 "StrokeBoard$Log" "kinds" "LStrokeBoard$Row;", Cond.methodLink RX0 68 yX5_set, Cond.instanceMethod yX5_set, Cond.selects RX5 yX5_set yX5_set, Cond.code yX5_set cX5_set 3 none, Cond.methodLink RX0 72 yX4_layerOf, Cond.instanceMethod yX4_layerOf, Cond.selects RX4 yX4_layerOf yX4_layerOf, Cond.code yX4_layerOf cX4_layerOf 2 (some .int), Cond.fieldLink RX4 29 "StrokeBoard$Log" "layers" "LStrokeBoard$Row;", Cond.methodLink RX0 58 yX0_collect]
def wsL_repairs_r5 : List Cond := [Cond.instanceMethod yX0_collect, Cond.selects RX0 yX0_collect yX0_collect, Cond.code yX0_collect cX0_collect 8 none, Cond.fieldLink RX0 23 "StrokeBoard$Board" "strokes" "LStrokeBoard$Row;", Cond.methodLink RX0 75 yX4_isStroke, Cond.instanceMethod yX4_isStroke, Cond.selects RX4 yX4_isStroke yX4_isStroke, Cond.code yX4_isStroke cX4_isStroke 2 (some .boolean), Cond.methodLink RX0 79 yX5_get, Cond.methodLink RX0 82 yX0_isUndone, Cond.instanceMethod yX0_isUndone, Cond.selects RX0 yX0_isUndone yX0_isUndone, Cond.code yX0_isUndone cX0_isUndone 2 (some .boolean), Cond.methodLink RX6 96 yX0_strokeCount, Cond.instanceMethod yX0_strokeCount, Cond.selects RX0 yX0_strokeCount yX0_strokeCount, Cond.code yX0_strokeCount cX0_strokeCount 1 (some .int), Cond.methodLink RX6 100 yX1_pointCount, Cond.instanceMethod yX1_pointCount, Cond.selects RX1 yX1_pointCount yX1_pointCount, Cond.initialized RX1, Cond.code yX1_pointCount cX1_pointCount 2 (some .int), Cond.fieldLink RX1 14 "StrokeBoard$Ink" "counts" "LStrokeBoard$Row;", Cond.methodLink RX1 42 yX5_get]
def wsL_repairs_r6 : List Cond := [Cond.methodLink RL 35 yX6_bestHelper, Cond.instanceMethod yX6_bestHelper, Cond.selects RX6 yX6_bestHelper yX6_bestHelper, Cond.code yX6_bestHelper cX6_bestHelper 6 (some .int), Cond.constant RX6 162 (-1000000004), Cond.methodLink RX6 236 yX6_repairable, Cond.instanceMethod yX6_repairable, Cond.selects RX6 yX6_repairable yX6_repairable, Cond.code yX6_repairable cX6_repairable 5 (some .int), Cond.methodLink RX6 184 yX6_canRepair, Cond.instanceMethod yX6_canRepair, Cond.selects RX6 yX6_canRepair yX6_canRepair, Cond.code yX6_canRepair cX6_canRepair 4 (some .boolean), Cond.methodLink RX6 254 yX2_isInGap, Cond.instanceMethod yX2_isInGap, Cond.selects RX2 yX2_isInGap yX2_isInGap, Cond.code yX2_isInGap cX2_isInGap 3 (some .boolean), Cond.methodLink RX2 39 yX2_hasLaterOfAuthor, Cond.instanceMethod yX2_hasLaterOfAuthor, Cond.selects RX2 yX2_hasLaterOfAuthor yX2_hasLaterOfAuthor, Cond.code yX2_hasLaterOfAuthor cX2_hasLaterOfAuthor 5 (some .boolean), Cond.static yX6_authorOf, Cond.code yX6_authorOf cX6_authorOf 1 (some .int), Cond.static yX6_numberOf]
def wsL_repairs_r7 : List Cond := [Cond.code yX6_numberOf cX6_numberOf 1 (some .int), Cond.static yX6_idOf, Cond.code yX6_idOf cX6_idOf 2 (some .int), Cond.methodLink RX6 181 yX2_has, Cond.methodLink RL 55 yX6_repair, Cond.instanceMethod yX6_repair, Cond.selects RX6 yX6_repair yX6_repair, Cond.code yX6_repair cX6_repair 5 (some .int), Cond.methodLink RX6 155 yX6_areTwoSites, Cond.instanceMethod yX6_areTwoSites, Cond.selects RX6 yX6_areTwoSites yX6_areTwoSites, Cond.code yX6_areTwoSites cX6_areTwoSites 3 (some .boolean), Cond.methodLink RX6 169 yX6_receive, Cond.instanceMethod yX6_receive, Cond.selects RX6 yX6_receive yX6_receive, Cond.code yX6_receive cX6_receive 3 none, Cond.methodLink RX6 190 Lib.Math.max.name, Cond.static Lib.Math.max.name, Cond.initialized "java/lang/Math", Cond.code Lib.Math.max.name Lib.Math.max.code 2 (some .int), Cond.methodLink RX6 245 yX2_learn, Cond.instanceMethod yX2_learn, Cond.selects RX2 yX2_learn yX2_learn, Cond.code yX2_learn cX2_learn 3 none]
def wsL_repairs_r8 : List Cond := [Cond.methodLink RX2 27 yX5_set, Cond.methodLink RX6 201 yX4_timeOf, Cond.instanceMethod yX4_timeOf, Cond.selects RX4 yX4_timeOf yX4_timeOf, Cond.code yX4_timeOf cX4_timeOf 2 (some .int), Cond.fieldLink RX4 23 "StrokeBoard$Log" "times" "LStrokeBoard$Row;", Cond.methodLink RX6 195 yX5_set, Cond.methodLink RL 41 yX6_sites, Cond.instanceMethod yX6_sites, Cond.selects RX6 yX6_sites yX6_sites, Cond.code yX6_sites cX6_sites 1 (some .int), Cond.methodLink RL 29 yX6_gap, Cond.instanceMethod yX6_gap, Cond.selects RX6 yX6_gap yX6_gap, Cond.code yX6_gap cX6_gap 8 (some .int), Cond.methodLink RX6 178 yX6_idOf, Cond.methodLink RL 19 yX6_knows, Cond.instanceMethod yX6_knows, Cond.selects RX6 yX6_knows yX6_knows, Cond.code yX6_knows cX6_knows 4 (some .int)]
def wsL_repairs : List Cond := .code yL_repairs cL_repairs 10 (some .boolean) :: ((wsL_repairs_r1 ++ (wsL_repairs_r2 ++ (wsL_repairs_r3 ++ (wsL_repairs_r4 ++ (wsL_repairs_r5 ++ (wsL_repairs_r6 ++ (wsL_repairs_r7 ++ wsL_repairs_r8))))))) ++ wsX60 ++ wsX50 ++ wsX20 ++ wsX40 ++ wsX00 ++ wsX10)
def wsL_transfers_r1 : List Cond := [Cond.methodLink RL 41 yX6_sites, Cond.instanceMethod yX6_sites, Cond.selects RX6 yX6_sites yX6_sites, Cond.initialized RX6, Cond.code yX6_sites cX6_sites 1 (some .int), Cond.fieldLink RX6 59 "StrokeBoard" "siteCount" "I", Cond.methodLink RL 9 yX6_siteInfo, Cond.instanceMethod yX6_siteInfo, Cond.selects RX6 yX6_siteInfo yX6_siteInfo, Cond.code yX6_siteInfo cX6_siteInfo 3 (some .int), Cond.constant RX6 67 (-1000000001), Cond.fieldLink RX6 55 "StrokeBoard" "clocks" "LStrokeBoard$Row;", Cond.fieldLink RX6 28 "StrokeBoard" "knowledge" "LStrokeBoard$Knowledge;", Cond.fieldLink RX6 12 "StrokeBoard" "log" "LStrokeBoard$Log;", Cond.fieldLink RX6 45 "StrokeBoard" "board" "LStrokeBoard$Board;", Cond.fieldLink RX6 21 "StrokeBoard" "pens" "LStrokeBoard$Ink;", Cond.methodLink RX6 78 yX6_isSite, Cond.instanceMethod yX6_isSite, Cond.selects RX6 yX6_isSite yX6_isSite, Cond.code yX6_isSite cX6_isSite 2 (some .boolean), Cond.methodLink RX6 63 yX6_isWithin, Cond.static yX6_isWithin, Cond.code yX6_isWithin cX6_isWithin 3 (some .boolean), Cond.methodLink RX6 82 yX5_get]
def wsL_transfers_r2 : List Cond := [Cond.instanceMethod yX5_get, Cond.selects RX5 yX5_get yX5_get, Cond.initialized RX5, Cond.code yX5_get cX5_get 2 (some .int), Cond.fieldLink RX5 13 "StrokeBoard$Row" "cells" "[I", Cond.methodLink RX6 86 yX2_countOf, Cond.instanceMethod yX2_countOf, Cond.selects RX2 yX2_countOf yX2_countOf, Cond.initialized RX2, Cond.code yX2_countOf cX2_countOf 4 (some .int), Cond.methodLink RX2 35 yX2_has, Cond.instanceMethod yX2_has, Cond.selects RX2 yX2_has yX2_has, Cond.code yX2_has cX2_has 3 (some .boolean), Cond.fieldLink RX2 14 "StrokeBoard$Knowledge" "known" "LStrokeBoard$Row;", Cond.methodLink RX2 31 yX5_get, Cond.methodLink RX6 89 yX4_madeBy, Cond.instanceMethod yX4_madeBy, Cond.selects RX4 yX4_madeBy yX4_madeBy, Cond.initialized RX4, Cond.code yX4_madeBy cX4_madeBy 2 (some .int), Cond.fieldLink RX4 14 "StrokeBoard$Log" "made" "LStrokeBoard$Row;", Cond.methodLink RX4 65 yX5_get, Cond.methodLink RX6 92 yX0_show]
def wsL_transfers_r3 : List Cond := [Cond.instanceMethod yX0_show, Cond.selects RX0 yX0_show yX0_show, Cond.initialized RX0, Cond.code yX0_show cX0_show 7 none, Cond.fieldLink RX0 14 "StrokeBoard$Board" "undone" "LStrokeBoard$Row;", Cond.fieldLink RX0 20 "StrokeBoard$Board" "layers" "LStrokeBoard$Row;", Cond.fieldLink RX0 40 "StrokeBoard$Board" "count" "I", Cond.methodLink RX0 26 yX4_totalCount, Cond.instanceMethod yX4_totalCount, Cond.selects RX4 yX4_totalCount yX4_totalCount, Cond.code yX4_totalCount cX4_totalCount 1 (some .int), Cond.fieldLink RX4 45 "StrokeBoard$Log" "total" "I", Cond.methodLink RX0 32 yX5_fill, Cond.instanceMethod yX5_fill, Cond.selects RX5 yX5_fill yX5_fill, Cond.code yX5_fill cX5_fill 3 none, Cond.methodLink RX0 36 yX5_copyFrom, Cond.instanceMethod yX5_copyFrom, Cond.selects RX5 yX5_copyFrom yX5_copyFrom, Cond.code yX5_copyFrom cX5_copyFrom 3 none, Cond.methodLink RX5 19 yX5_get, Cond.methodLink RX0 44 yX4_inOrder, Cond.instanceMethod yX4_inOrder, Cond.selects RX4 yX4_inOrder yX4_inOrder]
def wsL_transfers_r4 : List Cond := [Cond.code yX4_inOrder cX4_inOrder 2 (some .int), Cond.fieldLink RX4 32 "StrokeBoard$Log" "order" "LStrokeBoard$Row;", Cond.methodLink RX0 48 yX2_has, Cond.methodLink RX0 54 yX0_apply, Cond.instanceMethod yX0_apply, Cond.selects RX0 yX0_apply yX0_apply, Cond.code yX0_apply cX0_apply 4 none, Cond.methodLink RX0 62 yX4_targetOf, Cond.instanceMethod yX4_targetOf, Cond.selects RX4 yX4_targetOf yX4_targetOf, Cond.code yX4_targetOf cX4_targetOf 2 (some .int), Cond.fieldLink RX4 26 "StrokeBoard$Log" "targets" "LStrokeBoard$Row;", Cond.methodLink RX0 65 yX4_kindOf, Cond.instanceMethod yX4_kindOf, Cond.selects RX4 yX4_kindOf yX4_kindOf, Cond.code yX4_kindOf cX4_kindOf 2 (some .int), Cond.fieldLink RX4 20 "StrokeBoard$Log" "kinds" "LStrokeBoard$Row;", Cond.methodLink RX0 68 yX5_set, Cond.instanceMethod yX5_set, Cond.selects RX5 yX5_set yX5_set, Cond.code yX5_set cX5_set 3 none, Cond.methodLink RX0 72 yX4_layerOf, Cond.instanceMethod yX4_layerOf, Cond.selects RX4 yX4_layerOf yX4_layerOf]
def wsL_transfers_r5 : List Cond := [Cond.code yX4_layerOf cX4_layerOf 2 (some .int), Cond.fieldLink RX4 29 "StrokeBoard$Log" "layers" "LStrokeBoard$Row;", Cond.methodLink RX0 58 yX0_collect, Cond.instanceMethod yX0_collect, Cond.selects RX0 yX0_collect yX0_collect, Cond.code yX0_collect cX0_collect 8 none, Cond.fieldLink RX0 23 "StrokeBoard$Board" "strokes" "LStrokeBoard$Row;", Cond.methodLink RX0 75 yX4_isStroke, Cond.instanceMethod yX4_isStroke, Cond.selects RX4 yX4_isStroke yX4_isStroke, Cond.code yX4_isStroke cX4_isStroke 2 (some .boolean), Cond.methodLink RX0 79 yX5_get, Cond.methodLink RX0 82 yX0_isUndone, Cond.instanceMethod yX0_isUndone, Cond.selects RX0 yX0_isUndone yX0_isUndone, Cond.code yX0_isUndone cX0_isUndone 2 (some .boolean), Cond.methodLink RX6 96 yX0_strokeCount, Cond.instanceMethod yX0_strokeCount, Cond.selects RX0 yX0_strokeCount yX0_strokeCount, Cond.code yX0_strokeCount cX0_strokeCount 1 (some .int), Cond.methodLink RX6 100 yX1_pointCount, Cond.instanceMethod yX1_pointCount, Cond.selects RX1 yX1_pointCount yX1_pointCount, Cond.initialized RX1]
def wsL_transfers_r6 : List Cond := [Cond.code yX1_pointCount cX1_pointCount 2 (some .int), Cond.fieldLink RX1 14 "StrokeBoard$Ink" "counts" "LStrokeBoard$Row;", Cond.methodLink RX1 42 yX5_get, Cond.methodLink RL 19 yX6_knows, Cond.instanceMethod yX6_knows, Cond.selects RX6 yX6_knows yX6_knows, Cond.code yX6_knows cX6_knows 4 (some .int), Cond.constant RX6 162 (-1000000004), Cond.methodLink RX6 178 yX6_idOf, Cond.static yX6_idOf, Cond.code yX6_idOf cX6_idOf 2 (some .int), Cond.methodLink RX6 181 yX2_has, Cond.methodLink RL 15 yX6_operation, Cond.instanceMethod yX6_operation, Cond.selects RX6 yX6_operation yX6_operation, Cond.code yX6_operation cX6_operation 5 (some .int), Cond.methodLink RX6 198 yX4_kindOf, Cond.methodLink RX6 201 yX4_timeOf, Cond.instanceMethod yX4_timeOf, Cond.selects RX4 yX4_timeOf yX4_timeOf, Cond.code yX4_timeOf cX4_timeOf 2 (some .int), Cond.fieldLink RX4 23 "StrokeBoard$Log" "times" "LStrokeBoard$Row;", Cond.methodLink RX6 187 yX4_sizeOf, Cond.instanceMethod yX4_sizeOf]
def wsL_transfers_r7 : List Cond := [Cond.selects RX4 yX4_sizeOf yX4_sizeOf, Cond.code yX4_sizeOf cX4_sizeOf 2 (some .int), Cond.fieldLink RX4 38 "StrokeBoard$Log" "ink" "LStrokeBoard$Ink;", Cond.methodLink RX4 87 yX1_sizeOf, Cond.instanceMethod yX1_sizeOf, Cond.selects RX1 yX1_sizeOf yX1_sizeOf, Cond.code yX1_sizeOf cX1_sizeOf 5 (some .int), Cond.methodLink RX1 59 yX1_xOf, Cond.instanceMethod yX1_xOf, Cond.selects RX1 yX1_xOf yX1_xOf, Cond.code yX1_xOf cX1_xOf 3 (some .int), Cond.fieldLink RX1 26 "StrokeBoard$Ink" "xs" "LStrokeBoard$Row;", Cond.methodLink RX1 63 yX1_yOf, Cond.instanceMethod yX1_yOf, Cond.selects RX1 yX1_yOf yX1_yOf, Cond.code yX1_yOf cX1_yOf 3 (some .int), Cond.fieldLink RX1 29 "StrokeBoard$Ink" "ys" "LStrokeBoard$Row;", Cond.methodLink RX6 204 yX4_isStroke, Cond.methodLink RX6 210 yX4_targetOf, Cond.methodLink RX6 135 yX6_numberOf, Cond.static yX6_numberOf, Cond.code yX6_numberOf cX6_numberOf 1 (some .int), Cond.methodLink RX6 172 yX6_authorOf, Cond.static yX6_authorOf]
def wsL_transfers_r8 : List Cond := [Cond.code yX6_authorOf cX6_authorOf 1 (some .int), Cond.methodLink RX6 213 yX4_layerOf, Cond.methodLink RL 58 yX6_transfer, Cond.instanceMethod yX6_transfer, Cond.selects RX6 yX6_transfer yX6_transfer, Cond.code yX6_transfer cX6_transfer 5 (some .int), Cond.methodLink RX6 190 Lib.Math.max.name, Cond.static Lib.Math.max.name, Cond.initialized "java/lang/Math", Cond.code Lib.Math.max.name Lib.Math.max.code 2 (some .int), Cond.methodLink RX6 155 yX6_areTwoSites, Cond.instanceMethod yX6_areTwoSites, Cond.selects RX6 yX6_areTwoSites yX6_areTwoSites, Cond.code yX6_areTwoSites cX6_areTwoSites 3 (some .boolean), Cond.methodLink RX6 169 yX6_receive, Cond.instanceMethod yX6_receive, Cond.selects RX6 yX6_receive yX6_receive, Cond.code yX6_receive cX6_receive 3 none, Cond.methodLink RX6 245 yX2_learn, Cond.instanceMethod yX2_learn, Cond.selects RX2 yX2_learn yX2_learn, Cond.code yX2_learn cX2_learn 3 none, Cond.methodLink RX2 27 yX5_set, Cond.methodLink RX6 195 yX5_set]
def wsL_transfers : List Cond := .code yL_transfers cL_transfers 6 (some .boolean) :: ((wsL_transfers_r1 ++ (wsL_transfers_r2 ++ (wsL_transfers_r3 ++ (wsL_transfers_r4 ++ (wsL_transfers_r5 ++ (wsL_transfers_r6 ++ (wsL_transfers_r7 ++ wsL_transfers_r8))))))) ++ wsX60 ++ wsX50 ++ wsX20 ++ wsX40 ++ wsX00 ++ wsX10)
def wsL_turns_r1 : List Cond := [Cond.constant RL 64 (-1000000002), Cond.constant RL 65 (-1000000003), Cond.methodLink RL 49 yX6_digest, Cond.instanceMethod yX6_digest, Cond.selects RX6 yX6_digest yX6_digest, Cond.initialized RX6, Cond.code yX6_digest cX6_digest 2 (some .int), Cond.fieldLink RX6 45 "StrokeBoard" "board" "LStrokeBoard$Board;", Cond.fieldLink RX6 12 "StrokeBoard" "log" "LStrokeBoard$Log;", Cond.fieldLink RX6 28 "StrokeBoard" "knowledge" "LStrokeBoard$Knowledge;", Cond.methodLink RX6 78 yX6_isSite, Cond.instanceMethod yX6_isSite, Cond.selects RX6 yX6_isSite yX6_isSite, Cond.code yX6_isSite cX6_isSite 2 (some .boolean), Cond.fieldLink RX6 59 "StrokeBoard" "siteCount" "I", Cond.methodLink RX6 63 yX6_isWithin, Cond.static yX6_isWithin, Cond.code yX6_isWithin cX6_isWithin 3 (some .boolean), Cond.methodLink RX6 92 yX0_show, Cond.instanceMethod yX0_show, Cond.selects RX0 yX0_show yX0_show, Cond.initialized RX0, Cond.code yX0_show cX0_show 7 none, Cond.fieldLink RX0 14 "StrokeBoard$Board" "undone" "LStrokeBoard$Row;"]
def wsL_turns_r2 : List Cond := [Cond.fieldLink RX0 20 "StrokeBoard$Board" "layers" "LStrokeBoard$Row;", Cond.fieldLink RX0 40 "StrokeBoard$Board" "count" "I", Cond.methodLink RX0 26 yX4_totalCount, Cond.instanceMethod yX4_totalCount, Cond.selects RX4 yX4_totalCount yX4_totalCount, Cond.initialized RX4, Cond.code yX4_totalCount cX4_totalCount 1 (some .int), Cond.fieldLink RX4 45 "StrokeBoard$Log" "total" "I", Cond.methodLink RX0 32 yX5_fill, Cond.instanceMethod yX5_fill, Cond.selects RX5 yX5_fill yX5_fill, Cond.initialized RX5, Cond.code yX5_fill cX5_fill 3 none, Cond.fieldLink RX5 13 "StrokeBoard$Row" "cells" "[I", Cond.methodLink RX0 36 yX5_copyFrom, Cond.instanceMethod yX5_copyFrom, Cond.selects RX5 yX5_copyFrom yX5_copyFrom, Cond.code yX5_copyFrom cX5_copyFrom 3 none, Cond.methodLink RX5 19 yX5_get, Cond.instanceMethod yX5_get, Cond.selects RX5 yX5_get yX5_get, Cond.code yX5_get cX5_get 2 (some .int), Cond.methodLink RX0 44 yX4_inOrder, Cond.instanceMethod yX4_inOrder]
def wsL_turns_r3 : List Cond := [Cond.selects RX4 yX4_inOrder yX4_inOrder, Cond.code yX4_inOrder cX4_inOrder 2 (some .int), Cond.fieldLink RX4 32 "StrokeBoard$Log" "order" "LStrokeBoard$Row;", Cond.methodLink RX4 65 yX5_get, Cond.methodLink RX0 48 yX2_has, Cond.instanceMethod yX2_has, Cond.selects RX2 yX2_has yX2_has, Cond.initialized RX2, Cond.code yX2_has cX2_has 3 (some .boolean), Cond.fieldLink RX2 14 "StrokeBoard$Knowledge" "known" "LStrokeBoard$Row;", Cond.methodLink RX2 31 yX5_get, Cond.methodLink RX0 54 yX0_apply, Cond.instanceMethod yX0_apply, Cond.selects RX0 yX0_apply yX0_apply, Cond.code yX0_apply cX0_apply 4 none, Cond.methodLink RX0 62 yX4_targetOf, Cond.instanceMethod yX4_targetOf, Cond.selects RX4 yX4_targetOf yX4_targetOf, Cond.code yX4_targetOf cX4_targetOf 2 (some .int), Cond.fieldLink RX4 26 "StrokeBoard$Log" "targets" "LStrokeBoard$Row;", Cond.methodLink RX0 65 yX4_kindOf, Cond.instanceMethod yX4_kindOf, Cond.selects RX4 yX4_kindOf yX4_kindOf, Cond.code yX4_kindOf cX4_kindOf 2 (some .int)]
def wsL_turns_r4 : List Cond := [Cond.fieldLink RX4 20 "StrokeBoard$Log" "kinds" "LStrokeBoard$Row;", Cond.methodLink RX0 68 yX5_set, Cond.instanceMethod yX5_set, Cond.selects RX5 yX5_set yX5_set, Cond.code yX5_set cX5_set 3 none, Cond.methodLink RX0 72 yX4_layerOf, Cond.instanceMethod yX4_layerOf, Cond.selects RX4 yX4_layerOf yX4_layerOf, Cond.code yX4_layerOf cX4_layerOf 2 (some .int), Cond.fieldLink RX4 29 "StrokeBoard$Log" "layers" "LStrokeBoard$Row;", Cond.methodLink RX0 58 yX0_collect, Cond.instanceMethod yX0_collect, Cond.selects RX0 yX0_collect yX0_collect, Cond.code yX0_collect cX0_collect 8 none, Cond.fieldLink RX0 23 "StrokeBoard$Board" "strokes" "LStrokeBoard$Row;", Cond.methodLink RX0 75 yX4_isStroke, Cond.instanceMethod yX4_isStroke, Cond.selects RX4 yX4_isStroke yX4_isStroke, Cond.code yX4_isStroke cX4_isStroke 2 (some .boolean), Cond.methodLink RX0 79 yX5_get, Cond.methodLink RX0 82 yX0_isUndone, Cond.instanceMethod yX0_isUndone, Cond.selects RX0 yX0_isUndone yX0_isUndone, Cond.code yX0_isUndone cX0_isUndone 2 (some .boolean)]
def wsL_turns_r5 : List Cond := [Cond.methodLink RX6 225 yX0_hash, Cond.instanceMethod yX0_hash, Cond.selects RX0 yX0_hash yX0_hash, Cond.code yX0_hash cX0_hash 5 (some .int), Cond.static yX6_authorOf, Cond.code yX6_authorOf cX6_authorOf 1 (some .int), Cond.static yX6_numberOf, Cond.code yX6_numberOf cX6_numberOf 1 (some .int), Cond.methodLink RX0 99 yX1_colorOf, Cond.instanceMethod yX1_colorOf, Cond.selects RX1 yX1_colorOf yX1_colorOf, Cond.initialized RX1, Cond.code yX1_colorOf cX1_colorOf 2 (some .int), Cond.fieldLink RX1 20 "StrokeBoard$Ink" "colors" "LStrokeBoard$Row;", Cond.methodLink RX1 42 yX5_get, Cond.methodLink RX0 104 yX0_hashPoints, Cond.instanceMethod yX0_hashPoints, Cond.selects RX0 yX0_hashPoints yX0_hashPoints, Cond.code yX0_hashPoints cX0_hashPoints 6 (some .int), Cond.methodLink RX0 108 yX1_pointCount, Cond.instanceMethod yX1_pointCount, Cond.selects RX1 yX1_pointCount yX1_pointCount, Cond.code yX1_pointCount cX1_pointCount 2 (some .int), Cond.fieldLink RX1 14 "StrokeBoard$Ink" "counts" "LStrokeBoard$Row;"]
def wsL_turns_r6 : List Cond := [Cond.methodLink RX0 111 yX1_xOf, Cond.instanceMethod yX1_xOf, Cond.selects RX1 yX1_xOf yX1_xOf, Cond.code yX1_xOf cX1_xOf 3 (some .int), Cond.fieldLink RX1 26 "StrokeBoard$Ink" "xs" "LStrokeBoard$Row;", Cond.methodLink RX0 115 yX1_yOf, Cond.instanceMethod yX1_yOf, Cond.selects RX1 yX1_yOf yX1_yOf, Cond.code yX1_yOf cX1_yOf 3 (some .int), Cond.fieldLink RX1 29 "StrokeBoard$Ink" "ys" "LStrokeBoard$Row;", Cond.methodLink RL 9 yX6_siteInfo, Cond.instanceMethod yX6_siteInfo, Cond.selects RX6 yX6_siteInfo yX6_siteInfo, Cond.code yX6_siteInfo cX6_siteInfo 3 (some .int), Cond.constant RX6 67 (-1000000001), Cond.fieldLink RX6 55 "StrokeBoard" "clocks" "LStrokeBoard$Row;", Cond.fieldLink RX6 21 "StrokeBoard" "pens" "LStrokeBoard$Ink;", Cond.methodLink RX6 82 yX5_get, Cond.methodLink RX6 86 yX2_countOf, Cond.instanceMethod yX2_countOf, Cond.selects RX2 yX2_countOf yX2_countOf, Cond.code yX2_countOf cX2_countOf 4 (some .int), Cond.methodLink RX2 35 yX2_has, Cond.methodLink RX6 89 yX4_madeBy]
def wsL_turns_r7 : List Cond := [Cond.instanceMethod yX4_madeBy, Cond.selects RX4 yX4_madeBy yX4_madeBy, Cond.code yX4_madeBy cX4_madeBy 2 (some .int), Cond.fieldLink RX4 14 "StrokeBoard$Log" "made" "LStrokeBoard$Row;", Cond.methodLink RX6 96 yX0_strokeCount, Cond.instanceMethod yX0_strokeCount, Cond.selects RX0 yX0_strokeCount yX0_strokeCount, Cond.code yX0_strokeCount cX0_strokeCount 1 (some .int), Cond.methodLink RX6 100 yX1_pointCount, Cond.methodLink RL 61 yX6_undo, Cond.instanceMethod yX6_undo, Cond.selects RX6 yX6_undo yX6_undo, Cond.code yX6_undo cX6_undo 2 (some .int), Cond.methodLink RX6 138 yX6_lastVisibleOwn, Cond.instanceMethod yX6_lastVisibleOwn, Cond.selects RX6 yX6_lastVisibleOwn yX6_lastVisibleOwn, Cond.code yX6_lastVisibleOwn cX6_lastVisibleOwn 4 (some .int), Cond.methodLink RX6 178 yX6_idOf, Cond.static yX6_idOf, Cond.code yX6_idOf cX6_idOf 2 (some .int), Cond.methodLink RX6 204 yX4_isStroke, Cond.methodLink RX6 251 yX0_isUndone, Cond.methodLink RX6 141 yX6_changeOwn, Cond.instanceMethod yX6_changeOwn]
def wsL_turns_r8 : List Cond := [Cond.selects RX6 yX6_changeOwn yX6_changeOwn, Cond.code yX6_changeOwn cX6_changeOwn 4 (some .int), Cond.constant RX6 110 (-1000000002), Cond.constant RX6 77 (-1000000003), Cond.methodLink RX6 118 yX6_hasMadeAll, Cond.instanceMethod yX6_hasMadeAll, Cond.selects RX6 yX6_hasMadeAll yX6_hasMadeAll, Cond.code yX6_hasMadeAll cX6_hasMadeAll 2 (some .boolean), Cond.methodLink RX6 121 yX6_tick, Cond.instanceMethod yX6_tick, Cond.selects RX6 yX6_tick yX6_tick, Cond.code yX6_tick cX6_tick 2 (some .int), Cond.methodLink RX6 195 yX5_set, Cond.methodLink RX6 151 yX4_addChange, Cond.instanceMethod yX4_addChange, Cond.selects RX4 yX4_addChange yX4_addChange, Cond.code yX4_addChange cX4_addChange 7 (some .int), Cond.methodLink RX4 49 yX4_addOperation, Cond.instanceMethod yX4_addOperation, Cond.selects RX4 yX4_addOperation yX4_addOperation, Cond.code yX4_addOperation cX4_addOperation 6 (some .int), Cond.fieldLink RX4 23 "StrokeBoard$Log" "times" "LStrokeBoard$Row;", Cond.methodLink RX4 61 yX5_set, Cond.methodLink RX4 72 yX4_insert]
def wsL_turns_r9 : List Cond := [Cond.instanceMethod yX4_insert, Cond.selects RX4 yX4_insert yX4_insert, Cond.code yX4_insert cX4_insert 3 none, Cond.methodLink RX4 75 yX4_comesAfter, Cond.instanceMethod yX4_comesAfter, Cond.selects RX4 yX4_comesAfter yX4_comesAfter, Cond.code yX4_comesAfter cX4_comesAfter 4 (some .boolean), Cond.methodLink RX4 79 yJ6_compare_7cf53, Cond.static yJ6_compare_7cf53, Cond.initialized RJ6, Cond.code yJ6_compare_7cf53 cJ6_compare_7cf53 2 (some .int), Cond.methodLink RX6 131 yX6_publish, Cond.instanceMethod yX6_publish, Cond.selects RX6 yX6_publish yX6_publish, Cond.code yX6_publish cX6_publish 4 none, Cond.fieldLink RX6 38 "StrokeBoard" "links" "LStrokeBoard$Links;", Cond.methodLink RX6 245 yX2_learn, Cond.instanceMethod yX2_learn, Cond.selects RX2 yX2_learn yX2_learn, Cond.code yX2_learn cX2_learn 3 none, Cond.methodLink RX2 27 yX5_set, Cond.methodLink RX6 248 yX3_send, Cond.instanceMethod yX3_send, Cond.selects RX3 yX3_send yX3_send]
def wsL_turns_r10 : List Cond := [Cond.initialized RX3, Cond.code yX3_send cX3_send 6 none, Cond.fieldLink RX3 14 "StrokeBoard$Links" "counts" "LStrokeBoard$Row;", Cond.fieldLink RX3 20 "StrokeBoard$Links" "messages" "LStrokeBoard$Row;", Cond.methodLink RX3 26 yX5_get, Cond.methodLink RX3 30 yX5_set, Cond.methodLink RX6 135 yX6_numberOf, Cond.methodLink RL 15 yX6_operation, Cond.instanceMethod yX6_operation, Cond.selects RX6 yX6_operation yX6_operation, Cond.code yX6_operation cX6_operation 5 (some .int), Cond.constant RX6 162 (-1000000004), Cond.methodLink RX6 198 yX4_kindOf, Cond.methodLink RX6 201 yX4_timeOf, Cond.instanceMethod yX4_timeOf, Cond.selects RX4 yX4_timeOf yX4_timeOf, Cond.code yX4_timeOf cX4_timeOf 2 (some .int), Cond.methodLink RX6 187 yX4_sizeOf, Cond.instanceMethod yX4_sizeOf, Cond.selects RX4 yX4_sizeOf yX4_sizeOf, Cond.code yX4_sizeOf cX4_sizeOf 2 (some .int), Cond.fieldLink RX4 38 "StrokeBoard$Log" "ink" "LStrokeBoard$Ink;", Cond.methodLink RX4 87 yX1_sizeOf, Cond.instanceMethod yX1_sizeOf]
def wsL_turns_r11 : List Cond := [Cond.selects RX1 yX1_sizeOf yX1_sizeOf, Cond.code yX1_sizeOf cX1_sizeOf 5 (some .int), Cond.methodLink RX1 59 yX1_xOf, Cond.methodLink RX1 63 yX1_yOf, Cond.methodLink RX6 210 yX4_targetOf, Cond.methodLink RX6 172 yX6_authorOf, Cond.methodLink RX6 213 yX4_layerOf, Cond.methodLink RL 66 yX6_redo, Cond.instanceMethod yX6_redo, Cond.selects RX6 yX6_redo yX6_redo, Cond.code yX6_redo cX6_redo 2 (some .int), Cond.methodLink RX6 145 yX6_lastUndoneOwn, Cond.instanceMethod yX6_lastUndoneOwn, Cond.selects RX6 yX6_lastUndoneOwn yX6_lastUndoneOwn, Cond.code yX6_lastUndoneOwn cX6_lastUndoneOwn 4 (some .int)]
def wsL_turns : List Cond := .code yL_turns cL_turns 7 (some .boolean) :: ((wsL_turns_r1 ++ (wsL_turns_r2 ++ (wsL_turns_r3 ++ (wsL_turns_r4 ++ (wsL_turns_r5 ++ (wsL_turns_r6 ++ (wsL_turns_r7 ++ (wsL_turns_r8 ++ (wsL_turns_r9 ++ (wsL_turns_r10 ++ wsL_turns_r11)))))))))) ++ wsX60 ++ wsX00 ++ wsX40 ++ wsX50 ++ wsX20 ++ wsX10 ++ wsX30)
def wsL_refuses_r1 : List Cond := [Cond.constant RL 72 (-1000000001), Cond.constant RL 64 (-1000000002), Cond.constant RL 34 (-1000000004), Cond.methodLink RL 41 yX6_sites, Cond.instanceMethod yX6_sites, Cond.selects RX6 yX6_sites yX6_sites, Cond.initialized RX6, Cond.code yX6_sites cX6_sites 1 (some .int), Cond.fieldLink RX6 59 "StrokeBoard" "siteCount" "I", Cond.methodLink RL 49 yX6_digest, Cond.instanceMethod yX6_digest, Cond.selects RX6 yX6_digest yX6_digest, Cond.code yX6_digest cX6_digest 2 (some .int), Cond.fieldLink RX6 45 "StrokeBoard" "board" "LStrokeBoard$Board;", Cond.fieldLink RX6 12 "StrokeBoard" "log" "LStrokeBoard$Log;", Cond.fieldLink RX6 28 "StrokeBoard" "knowledge" "LStrokeBoard$Knowledge;", Cond.methodLink RX6 78 yX6_isSite, Cond.instanceMethod yX6_isSite, Cond.selects RX6 yX6_isSite yX6_isSite, Cond.code yX6_isSite cX6_isSite 2 (some .boolean), Cond.methodLink RX6 63 yX6_isWithin, Cond.static yX6_isWithin, Cond.code yX6_isWithin cX6_isWithin 3 (some .boolean), Cond.methodLink RX6 92 yX0_show]
def wsL_refuses_r2 : List Cond := [Cond.instanceMethod yX0_show, Cond.selects RX0 yX0_show yX0_show, Cond.initialized RX0, Cond.code yX0_show cX0_show 7 none, Cond.fieldLink RX0 14 "StrokeBoard$Board" "undone" "LStrokeBoard$Row;", Cond.fieldLink RX0 20 "StrokeBoard$Board" "layers" "LStrokeBoard$Row;", Cond.fieldLink RX0 40 "StrokeBoard$Board" "count" "I", Cond.methodLink RX0 26 yX4_totalCount, Cond.instanceMethod yX4_totalCount, Cond.selects RX4 yX4_totalCount yX4_totalCount, Cond.initialized RX4, Cond.code yX4_totalCount cX4_totalCount 1 (some .int), Cond.fieldLink RX4 45 "StrokeBoard$Log" "total" "I", Cond.methodLink RX0 32 yX5_fill, Cond.instanceMethod yX5_fill, Cond.selects RX5 yX5_fill yX5_fill, Cond.initialized RX5, Cond.code yX5_fill cX5_fill 3 none, Cond.fieldLink RX5 13 "StrokeBoard$Row" "cells" "[I", Cond.methodLink RX0 36 yX5_copyFrom, Cond.instanceMethod yX5_copyFrom, Cond.selects RX5 yX5_copyFrom yX5_copyFrom, Cond.code yX5_copyFrom cX5_copyFrom 3 none, Cond.methodLink RX5 19 yX5_get]
def wsL_refuses_r3 : List Cond := [Cond.instanceMethod yX5_get, Cond.selects RX5 yX5_get yX5_get, Cond.code yX5_get cX5_get 2 (some .int), Cond.methodLink RX0 44 yX4_inOrder, Cond.instanceMethod yX4_inOrder, Cond.selects RX4 yX4_inOrder yX4_inOrder, Cond.code yX4_inOrder cX4_inOrder 2 (some .int), Cond.fieldLink RX4 32 "StrokeBoard$Log" "order" "LStrokeBoard$Row;", Cond.methodLink RX4 65 yX5_get, Cond.methodLink RX0 48 yX2_has, Cond.instanceMethod yX2_has, Cond.selects RX2 yX2_has yX2_has, Cond.initialized RX2, Cond.code yX2_has cX2_has 3 (some .boolean), Cond.fieldLink RX2 14 "StrokeBoard$Knowledge" "known" "LStrokeBoard$Row;", Cond.methodLink RX2 31 yX5_get, Cond.methodLink RX0 54 yX0_apply, Cond.instanceMethod yX0_apply, Cond.selects RX0 yX0_apply yX0_apply, Cond.code yX0_apply cX0_apply 4 none, Cond.methodLink RX0 62 yX4_targetOf, Cond.instanceMethod yX4_targetOf, Cond.selects RX4 yX4_targetOf yX4_targetOf, Cond.code yX4_targetOf cX4_targetOf 2 (some .int)]
def wsL_refuses_r4 : List Cond := [Cond.fieldLink RX4 26 "StrokeBoard$Log" "targets" "LStrokeBoard$Row;", Cond.methodLink RX0 65 yX4_kindOf, Cond.instanceMethod yX4_kindOf, Cond.selects RX4 yX4_kindOf yX4_kindOf, Cond.code yX4_kindOf cX4_kindOf 2 (some .int), Cond.fieldLink RX4 20 "StrokeBoard$Log" "kinds" "LStrokeBoard$Row;", Cond.methodLink RX0 68 yX5_set, Cond.instanceMethod yX5_set, Cond.selects RX5 yX5_set yX5_set, Cond.code yX5_set cX5_set 3 none, Cond.methodLink RX0 72 yX4_layerOf, Cond.instanceMethod yX4_layerOf, Cond.selects RX4 yX4_layerOf yX4_layerOf, Cond.code yX4_layerOf cX4_layerOf 2 (some .int), Cond.fieldLink RX4 29 "StrokeBoard$Log" "layers" "LStrokeBoard$Row;", Cond.methodLink RX0 58 yX0_collect, Cond.instanceMethod yX0_collect, Cond.selects RX0 yX0_collect yX0_collect, Cond.code yX0_collect cX0_collect 8 none, Cond.fieldLink RX0 23 "StrokeBoard$Board" "strokes" "LStrokeBoard$Row;", Cond.methodLink RX0 75 yX4_isStroke, Cond.instanceMethod yX4_isStroke, Cond.selects RX4 yX4_isStroke yX4_isStroke, Cond.code yX4_isStroke cX4_isStroke 2 (some .boolean)]
def wsL_refuses_r5 : List Cond := [Cond.methodLink RX0 79 yX5_get, Cond.methodLink RX0 82 yX0_isUndone, Cond.instanceMethod yX0_isUndone, Cond.selects RX0 yX0_isUndone yX0_isUndone, Cond.code yX0_isUndone cX0_isUndone 2 (some .boolean), Cond.methodLink RX6 225 yX0_hash, Cond.instanceMethod yX0_hash, Cond.selects RX0 yX0_hash yX0_hash, Cond.code yX0_hash cX0_hash 5 (some .int), Cond.static yX6_authorOf, Cond.code yX6_authorOf cX6_authorOf 1 (some .int), Cond.static yX6_numberOf, Cond.code yX6_numberOf cX6_numberOf 1 (some .int), Cond.methodLink RX0 99 yX1_colorOf, Cond.instanceMethod yX1_colorOf, Cond.selects RX1 yX1_colorOf yX1_colorOf, Cond.initialized RX1, Cond.code yX1_colorOf cX1_colorOf 2 (some .int), Cond.fieldLink RX1 20 "StrokeBoard$Ink" "colors" "LStrokeBoard$Row;", Cond.methodLink RX1 42 yX5_get, Cond.methodLink RX0 104 yX0_hashPoints, Cond.instanceMethod yX0_hashPoints, Cond.selects RX0 yX0_hashPoints yX0_hashPoints, Cond.code yX0_hashPoints cX0_hashPoints 6 (some .int)]
def wsL_refuses_r6 : List Cond := [Cond.methodLink RX0 108 yX1_pointCount, Cond.instanceMethod yX1_pointCount, Cond.selects RX1 yX1_pointCount yX1_pointCount, Cond.code yX1_pointCount cX1_pointCount 2 (some .int), Cond.fieldLink RX1 14 "StrokeBoard$Ink" "counts" "LStrokeBoard$Row;", Cond.methodLink RX0 111 yX1_xOf, Cond.instanceMethod yX1_xOf, Cond.selects RX1 yX1_xOf yX1_xOf, Cond.code yX1_xOf cX1_xOf 3 (some .int), Cond.fieldLink RX1 26 "StrokeBoard$Ink" "xs" "LStrokeBoard$Row;", Cond.methodLink RX0 115 yX1_yOf, Cond.instanceMethod yX1_yOf, Cond.selects RX1 yX1_yOf yX1_yOf, Cond.code yX1_yOf cX1_yOf 3 (some .int), Cond.fieldLink RX1 29 "StrokeBoard$Ink" "ys" "LStrokeBoard$Row;", Cond.methodLink RL 9 yX6_siteInfo, Cond.instanceMethod yX6_siteInfo, Cond.selects RX6 yX6_siteInfo yX6_siteInfo, Cond.code yX6_siteInfo cX6_siteInfo 3 (some .int), Cond.constant RX6 67 (-1000000001), Cond.fieldLink RX6 55 "StrokeBoard" "clocks" "LStrokeBoard$Row;", Cond.fieldLink RX6 21 "StrokeBoard" "pens" "LStrokeBoard$Ink;", Cond.methodLink RX6 82 yX5_get, Cond.methodLink RX6 86 yX2_countOf]
def wsL_refuses_r7 : List Cond := [Cond.instanceMethod yX2_countOf, Cond.selects RX2 yX2_countOf yX2_countOf, Cond.code yX2_countOf cX2_countOf 4 (some .int), Cond.methodLink RX2 35 yX2_has, Cond.methodLink RX6 89 yX4_madeBy, Cond.instanceMethod yX4_madeBy, Cond.selects RX4 yX4_madeBy yX4_madeBy, Cond.code yX4_madeBy cX4_madeBy 2 (some .int), Cond.fieldLink RX4 14 "StrokeBoard$Log" "made" "LStrokeBoard$Row;", Cond.methodLink RX6 96 yX0_strokeCount, Cond.instanceMethod yX0_strokeCount, Cond.selects RX0 yX0_strokeCount yX0_strokeCount, Cond.code yX0_strokeCount cX0_strokeCount 1 (some .int), Cond.methodLink RX6 100 yX1_pointCount, Cond.methodLink RL 69 yX6_reset, Cond.instanceMethod yX6_reset, Cond.selects RX6 yX6_reset yX6_reset, Cond.code yX6_reset cX6_reset 3 (some .int), Cond.fieldLink RX6 38 "StrokeBoard" "links" "LStrokeBoard$Links;", Cond.methodLink RX6 68 yX4_clear, Cond.instanceMethod yX4_clear, Cond.selects RX4 yX4_clear yX4_clear, Cond.code yX4_clear cX4_clear 1 none, Cond.methodLink RX4 42 yX5_fill]
def wsL_refuses_r8 : List Cond := [Cond.methodLink RX6 71 yX1_clear, Cond.instanceMethod yX1_clear, Cond.selects RX1 yX1_clear yX1_clear, Cond.code yX1_clear cX1_clear 1 none, Cond.methodLink RX1 32 yX5_fill, Cond.methodLink RX6 72 yX2_clear, Cond.instanceMethod yX2_clear, Cond.selects RX2 yX2_clear yX2_clear, Cond.code yX2_clear cX2_clear 1 none, Cond.methodLink RX2 20 yX5_fill, Cond.methodLink RX6 73 yX3_clear, Cond.instanceMethod yX3_clear, Cond.selects RX3 yX3_clear yX3_clear, Cond.initialized RX3, Cond.code yX3_clear cX3_clear 1 none, Cond.fieldLink RX3 14 "StrokeBoard$Links" "counts" "LStrokeBoard$Row;", Cond.methodLink RX3 23 yX5_fill, Cond.methodLink RX6 74 yX5_fill, Cond.methodLink RL 73 yX6_penDown, Cond.instanceMethod yX6_penDown, Cond.selects RX6 yX6_penDown yX6_penDown, Cond.code yX6_penDown cX6_penDown 6 (some .int), Cond.methodLink RX6 103 yX1_start, Cond.instanceMethod yX1_start]
def wsL_refuses_r9 : List Cond := [Cond.selects RX1 yX1_start yX1_start, Cond.code yX1_start cX1_start 4 none, Cond.fieldLink RX1 23 "StrokeBoard$Ink" "layers" "LStrokeBoard$Row;", Cond.methodLink RX1 39 yX1_empty, Cond.instanceMethod yX1_empty, Cond.selects RX1 yX1_empty yX1_empty, Cond.code yX1_empty cX1_empty 2 none, Cond.methodLink RX1 35 yX5_set, Cond.methodLink RX6 107 yX1_addPoint, Cond.instanceMethod yX1_addPoint, Cond.selects RX1 yX1_addPoint yX1_addPoint, Cond.code yX1_addPoint cX1_addPoint 5 none, Cond.methodLink RL 77 yX6_penMove, Cond.instanceMethod yX6_penMove, Cond.selects RX6 yX6_penMove yX6_penMove, Cond.code yX6_penMove cX6_penMove 5 (some .int), Cond.constant RX6 110 (-1000000002), Cond.constant RX6 77 (-1000000003), Cond.methodLink RX6 111 yX1_xOf, Cond.methodLink RX6 115 yX1_yOf, Cond.methodLink RL 80 yX6_penUp, Cond.instanceMethod yX6_penUp, Cond.selects RX6 yX6_penUp yX6_penUp, Cond.code yX6_penUp cX6_penUp 3 (some .int)]
def wsL_refuses_r10 : List Cond := [Cond.methodLink RX6 118 yX6_hasMadeAll, Cond.instanceMethod yX6_hasMadeAll, Cond.selects RX6 yX6_hasMadeAll yX6_hasMadeAll, Cond.code yX6_hasMadeAll cX6_hasMadeAll 2 (some .boolean), Cond.methodLink RX6 121 yX6_tick, Cond.instanceMethod yX6_tick, Cond.selects RX6 yX6_tick yX6_tick, Cond.code yX6_tick cX6_tick 2 (some .int), Cond.methodLink RX6 195 yX5_set, Cond.methodLink RX6 124 yX4_addStroke, Cond.instanceMethod yX4_addStroke, Cond.selects RX4 yX4_addStroke yX4_addStroke, Cond.code yX4_addStroke cX4_addStroke 5 (some .int), Cond.fieldLink RX4 38 "StrokeBoard$Log" "ink" "LStrokeBoard$Ink;", Cond.methodLink RX4 49 yX4_addOperation, Cond.instanceMethod yX4_addOperation, Cond.selects RX4 yX4_addOperation yX4_addOperation, Cond.code yX4_addOperation cX4_addOperation 6 (some .int), Cond.fieldLink RX4 23 "StrokeBoard$Log" "times" "LStrokeBoard$Row;", Cond.static yX6_idOf, Cond.code yX6_idOf cX6_idOf 2 (some .int), Cond.methodLink RX4 61 yX5_set, Cond.methodLink RX4 72 yX4_insert, Cond.instanceMethod yX4_insert]
def wsL_refuses_r11 : List Cond := [Cond.selects RX4 yX4_insert yX4_insert, Cond.code yX4_insert cX4_insert 3 none, Cond.methodLink RX4 75 yX4_comesAfter, Cond.instanceMethod yX4_comesAfter, Cond.selects RX4 yX4_comesAfter yX4_comesAfter, Cond.code yX4_comesAfter cX4_comesAfter 4 (some .boolean), Cond.methodLink RX4 79 yJ6_compare_7cf53, Cond.static yJ6_compare_7cf53, Cond.initialized RJ6, Cond.code yJ6_compare_7cf53 cJ6_compare_7cf53 2 (some .int), Cond.methodLink RX4 53 yX1_copyFrom, Cond.instanceMethod yX1_copyFrom, Cond.selects RX1 yX1_copyFrom yX1_copyFrom, Cond.code yX1_copyFrom cX1_copyFrom 6 none, Cond.methodLink RX1 46 yX1_pointCount, Cond.methodLink RX1 49 yX1_colorOf, Cond.methodLink RX1 52 yX1_layerOf, Cond.instanceMethod yX1_layerOf, Cond.selects RX1 yX1_layerOf yX1_layerOf, Cond.code yX1_layerOf cX1_layerOf 2 (some .int), Cond.methodLink RX1 55 yX1_start, Cond.methodLink RX1 59 yX1_xOf, Cond.methodLink RX1 63 yX1_yOf, Cond.methodLink RX1 66 yX1_addPoint]
def wsL_refuses_r12 : List Cond := [Cond.methodLink RX4 57 yX1_layerOf, Cond.methodLink RX6 128 yX1_empty, Cond.methodLink RX6 131 yX6_publish, Cond.instanceMethod yX6_publish, Cond.selects RX6 yX6_publish yX6_publish, Cond.code yX6_publish cX6_publish 4 none, Cond.methodLink RX6 245 yX2_learn, Cond.instanceMethod yX2_learn, Cond.selects RX2 yX2_learn yX2_learn, Cond.code yX2_learn cX2_learn 3 none, Cond.methodLink RX2 27 yX5_set, Cond.methodLink RX6 248 yX3_send, Cond.instanceMethod yX3_send, Cond.selects RX3 yX3_send yX3_send, Cond.code yX3_send cX3_send 6 none, Cond.fieldLink RX3 20 "StrokeBoard$Links" "messages" "LStrokeBoard$Row;", Cond.methodLink RX3 26 yX5_get, Cond.methodLink RX3 30 yX5_set, Cond.methodLink RX6 135 yX6_numberOf, Cond.methodLink RL 61 yX6_undo, Cond.instanceMethod yX6_undo, Cond.selects RX6 yX6_undo yX6_undo, Cond.code yX6_undo cX6_undo 2 (some .int), Cond.methodLink RX6 138 yX6_lastVisibleOwn]
def wsL_refuses_r13 : List Cond := [Cond.instanceMethod yX6_lastVisibleOwn, Cond.selects RX6 yX6_lastVisibleOwn yX6_lastVisibleOwn, Cond.code yX6_lastVisibleOwn cX6_lastVisibleOwn 4 (some .int), Cond.methodLink RX6 178 yX6_idOf, Cond.methodLink RX6 204 yX4_isStroke, Cond.methodLink RX6 251 yX0_isUndone, Cond.methodLink RX6 141 yX6_changeOwn, Cond.instanceMethod yX6_changeOwn, Cond.selects RX6 yX6_changeOwn yX6_changeOwn, Cond.code yX6_changeOwn cX6_changeOwn 4 (some .int), Cond.methodLink RX6 151 yX4_addChange, Cond.instanceMethod yX4_addChange, Cond.selects RX4 yX4_addChange yX4_addChange, Cond.code yX4_addChange cX4_addChange 7 (some .int), Cond.methodLink RL 66 yX6_redo, Cond.instanceMethod yX6_redo, Cond.selects RX6 yX6_redo yX6_redo, Cond.code yX6_redo cX6_redo 2 (some .int), Cond.methodLink RX6 145 yX6_lastUndoneOwn, Cond.instanceMethod yX6_lastUndoneOwn, Cond.selects RX6 yX6_lastUndoneOwn yX6_lastUndoneOwn, Cond.code yX6_lastUndoneOwn cX6_lastUndoneOwn 4 (some .int), Cond.methodLink RX6 198 yX4_kindOf, Cond.methodLink RX6 210 yX4_targetOf]
def wsL_refuses_r14 : List Cond := [Cond.methodLink RL 83 yX6_lift, Cond.instanceMethod yX6_lift, Cond.selects RX6 yX6_lift yX6_lift, Cond.code yX6_lift cX6_lift 5 (some .int), Cond.methodLink RX6 148 yX0_strokeIn, Cond.instanceMethod yX0_strokeIn, Cond.selects RX0 yX0_strokeIn yX0_strokeIn, Cond.code yX0_strokeIn cX0_strokeIn 2 (some .int), Cond.methodLink RL 86 yX6_deliver, Cond.instanceMethod yX6_deliver, Cond.selects RX6 yX6_deliver yX6_deliver, Cond.code yX6_deliver cX6_deliver 4 (some .int), Cond.constant RX6 162 (-1000000004), Cond.methodLink RX6 155 yX6_areTwoSites, Cond.instanceMethod yX6_areTwoSites, Cond.selects RX6 yX6_areTwoSites yX6_areTwoSites, Cond.code yX6_areTwoSites cX6_areTwoSites 3 (some .boolean), Cond.methodLink RX6 159 yX3_countIn, Cond.instanceMethod yX3_countIn, Cond.selects RX3 yX3_countIn yX3_countIn, Cond.code yX3_countIn cX3_countIn 3 (some .int), Cond.methodLink RX6 163 yX3_messageIn, Cond.instanceMethod yX3_messageIn, Cond.selects RX3 yX3_messageIn yX3_messageIn]
def wsL_refuses_r15 : List Cond := [Cond.code yX3_messageIn cX3_messageIn 4 (some .int), Cond.methodLink RX6 166 yX3_dropFirst, Cond.instanceMethod yX3_dropFirst, Cond.selects RX3 yX3_dropFirst yX3_dropFirst, Cond.code yX3_dropFirst cX3_dropFirst 7 none, Cond.methodLink RX3 34 Lib.Math.max.name, Cond.static Lib.Math.max.name, Cond.initialized "java/lang/Math", Cond.code Lib.Math.max.name Lib.Math.max.code 2 (some .int), Cond.methodLink RX6 169 yX6_receive, Cond.instanceMethod yX6_receive, Cond.selects RX6 yX6_receive yX6_receive, Cond.code yX6_receive cX6_receive 3 none, Cond.methodLink RX6 190 Lib.Math.max.name, Cond.methodLink RX6 201 yX4_timeOf, Cond.instanceMethod yX4_timeOf, Cond.selects RX4 yX4_timeOf yX4_timeOf, Cond.code yX4_timeOf cX4_timeOf 2 (some .int), Cond.methodLink RX6 172 yX6_authorOf, Cond.methodLink RL 89 yX6_lose, Cond.instanceMethod yX6_lose, Cond.selects RX6 yX6_lose yX6_lose, Cond.code yX6_lose cX6_lose 3 (some .int), Cond.methodLink RL 52 yX6_waiting]
def wsL_refuses_r16 : List Cond := [Cond.instanceMethod yX6_waiting, Cond.selects RX6 yX6_waiting yX6_waiting, Cond.code yX6_waiting cX6_waiting 3 (some .int), Cond.methodLink RL 29 yX6_gap, Cond.instanceMethod yX6_gap, Cond.selects RX6 yX6_gap yX6_gap, Cond.code yX6_gap cX6_gap 8 (some .int), Cond.methodLink RX6 181 yX2_has, Cond.methodLink RL 55 yX6_repair, Cond.instanceMethod yX6_repair, Cond.selects RX6 yX6_repair yX6_repair, Cond.code yX6_repair cX6_repair 5 (some .int), Cond.methodLink RX6 184 yX6_canRepair, Cond.instanceMethod yX6_canRepair, Cond.selects RX6 yX6_canRepair yX6_canRepair, Cond.code yX6_canRepair cX6_canRepair 4 (some .boolean), Cond.methodLink RX6 254 yX2_isInGap, Cond.instanceMethod yX2_isInGap, Cond.selects RX2 yX2_isInGap yX2_isInGap, Cond.code yX2_isInGap cX2_isInGap 3 (some .boolean), Cond.methodLink RX2 39 yX2_hasLaterOfAuthor, Cond.instanceMethod yX2_hasLaterOfAuthor, Cond.selects RX2 yX2_hasLaterOfAuthor yX2_hasLaterOfAuthor, Cond.code yX2_hasLaterOfAuthor cX2_hasLaterOfAuthor 5 (some .boolean)]
def wsL_refuses_r17 : List Cond := [Cond.methodLink RL 58 yX6_transfer, Cond.instanceMethod yX6_transfer, Cond.selects RX6 yX6_transfer yX6_transfer, Cond.code yX6_transfer cX6_transfer 5 (some .int), Cond.methodLink RX6 187 yX4_sizeOf, Cond.instanceMethod yX4_sizeOf, Cond.selects RX4 yX4_sizeOf yX4_sizeOf, Cond.code yX4_sizeOf cX4_sizeOf 2 (some .int), Cond.methodLink RX4 87 yX1_sizeOf, Cond.instanceMethod yX1_sizeOf, Cond.selects RX1 yX1_sizeOf yX1_sizeOf, Cond.code yX1_sizeOf cX1_sizeOf 5 (some .int), Cond.methodLink RL 15 yX6_operation, Cond.instanceMethod yX6_operation, Cond.selects RX6 yX6_operation yX6_operation, Cond.code yX6_operation cX6_operation 5 (some .int), Cond.methodLink RX6 213 yX4_layerOf, Cond.methodLink RL 19 yX6_knows, Cond.instanceMethod yX6_knows, Cond.selects RX6 yX6_knows yX6_knows, Cond.code yX6_knows cX6_knows 4 (some .int), Cond.methodLink RL 22 yX6_stroke, Cond.instanceMethod yX6_stroke, Cond.selects RX6 yX6_stroke yX6_stroke]
def wsL_refuses_r18 : List Cond := [Cond.code yX6_stroke cX6_stroke 6 (some .int), Cond.methodLink RX6 216 yX6_coordinate, Cond.instanceMethod yX6_coordinate, Cond.selects RX6 yX6_coordinate yX6_coordinate, Cond.code yX6_coordinate cX6_coordinate 4 (some .int), Cond.methodLink RX6 219 yX6_strokeValue, Cond.instanceMethod yX6_strokeValue, Cond.selects RX6 yX6_strokeValue yX6_strokeValue, Cond.code yX6_strokeValue cX6_strokeValue 3 (some .int), Cond.methodLink RX6 257 yX0_layerOf, Cond.instanceMethod yX0_layerOf, Cond.selects RX0 yX0_layerOf yX0_layerOf, Cond.code yX0_layerOf cX0_layerOf 2 (some .int), Cond.methodLink RX6 258 yX1_colorOf, Cond.methodLink RL 92 yX6_strokeAt, Cond.instanceMethod yX6_strokeAt, Cond.selects RX6 yX6_strokeAt yX6_strokeAt, Cond.code yX6_strokeAt cX6_strokeAt 5 (some .int), Cond.methodLink RX6 222 yX1_hasPoint, Cond.instanceMethod yX1_hasPoint, Cond.selects RX1 yX1_hasPoint yX1_hasPoint, Cond.code yX1_hasPoint cX1_hasPoint 5 (some .boolean), Cond.methodLink RL 38 yX6_areSame, Cond.instanceMethod yX6_areSame]
def wsL_refuses_r19 : List Cond := [Cond.selects RX6 yX6_areSame yX6_areSame, Cond.code yX6_areSame cX6_areSame 3 (some .int), Cond.methodLink RX6 229 yX6_showSame, Cond.instanceMethod yX6_showSame, Cond.selects RX6 yX6_showSame yX6_showSame, Cond.code yX6_showSame cX6_showSame 4 (some .boolean), Cond.fieldLink RX6 49 "StrokeBoard" "secondBoard" "LStrokeBoard$Board;", Cond.methodLink RX6 261 yX0_matches, Cond.instanceMethod yX0_matches, Cond.selects RX0 yX0_matches yX0_matches, Cond.code yX0_matches cX0_matches 4 (some .boolean), Cond.methodLink RX0 85 yX0_strokeIn, Cond.methodLink RX0 88 yX0_layerOf, Cond.methodLink RL 35 yX6_bestHelper, Cond.instanceMethod yX6_bestHelper, Cond.selects RX6 yX6_bestHelper yX6_bestHelper, Cond.code yX6_bestHelper cX6_bestHelper 6 (some .int), Cond.methodLink RX6 236 yX6_repairable, Cond.instanceMethod yX6_repairable, Cond.selects RX6 yX6_repairable yX6_repairable, Cond.code yX6_repairable cX6_repairable 5 (some .int), Cond.methodLink RL 25 yX6_endangered, Cond.instanceMethod yX6_endangered, Cond.selects RX6 yX6_endangered yX6_endangered]
def wsL_refuses_r20 : List Cond := [Cond.code yX6_endangered cX6_endangered 5 (some .int), Cond.methodLink RX6 239 yX6_isKnownBeside, Cond.instanceMethod yX6_isKnownBeside, Cond.selects RX6 yX6_isKnownBeside yX6_isKnownBeside, Cond.code yX6_isKnownBeside cX6_isKnownBeside 4 (some .boolean), Cond.methodLink RX6 242 yX3_carry, Cond.instanceMethod yX3_carry, Cond.selects RX3 yX3_carry yX3_carry, Cond.code yX3_carry cX3_carry 4 (some .boolean)]
def wsL_refuses : List Cond := .code yL_refuses cL_refuses 6 (some .boolean) :: ((wsL_refuses_r1 ++ (wsL_refuses_r2 ++ (wsL_refuses_r3 ++ (wsL_refuses_r4 ++ (wsL_refuses_r5 ++ (wsL_refuses_r6 ++ (wsL_refuses_r7 ++ (wsL_refuses_r8 ++ (wsL_refuses_r9 ++ (wsL_refuses_r10 ++ (wsL_refuses_r11 ++ (wsL_refuses_r12 ++ (wsL_refuses_r13 ++ (wsL_refuses_r14 ++ (wsL_refuses_r15 ++ (wsL_refuses_r16 ++ (wsL_refuses_r17 ++ (wsL_refuses_r18 ++ (wsL_refuses_r19 ++ wsL_refuses_r20))))))))))))))))))) ++ wsX60 ++ wsX00 ++ wsX40 ++ wsX50 ++ wsX20 ++ wsX10 ++ wsX30)
def wsL_law_r1 : List Cond := [Cond.classLink RL 10 RX6, Cond.instantiable RX6 9, Cond.initialized RX6, Cond.constant RL 65 (-1000000003), Cond.constant RL 64 (-1000000002), Cond.constant RL 34 (-1000000004), Cond.methodLink RL 95 yX6_init, Cond.instanceMethod yX6_init, Cond.code yX6_init cX6_init 1 none, Cond.methodLink RX6 3 objectInit, Cond.instanceMethod objectInit, Cond.code objectInit ⟨#[0xb1]⟩ 1 none, Cond.classLink RX6 9 RX4, Cond.instantiable RX4 8, Cond.initialized RX4, Cond.fieldLink RX6 12 "StrokeBoard" "log" "LStrokeBoard$Log;", Cond.classLink RX6 16 RX1, Cond.instantiable RX1 5, Cond.initialized RX1, Cond.fieldLink RX6 21 "StrokeBoard" "pens" "LStrokeBoard$Ink;", Cond.classLink RX6 25 RX2, Cond.instantiable RX2 1, Cond.initialized RX2, Cond.fieldLink RX6 28 "StrokeBoard" "knowledge" "LStrokeBoard$Knowledge;"]
def wsL_law_r2 : List Cond := [Cond.fieldLink RX6 32 "StrokeBoard" "future" "LStrokeBoard$Knowledge;", Cond.classLink RX6 35 RX3, Cond.instantiable RX3 2, Cond.initialized RX3, Cond.fieldLink RX6 38 "StrokeBoard" "links" "LStrokeBoard$Links;", Cond.classLink RX6 42 RX0, Cond.instantiable RX0 4, Cond.initialized RX0, Cond.fieldLink RX6 45 "StrokeBoard" "board" "LStrokeBoard$Board;", Cond.fieldLink RX6 49 "StrokeBoard" "secondBoard" "LStrokeBoard$Board;", Cond.classLink RX6 52 RX5, Cond.instantiable RX5 1, Cond.initialized RX5, Cond.fieldLink RX6 55 "StrokeBoard" "clocks" "LStrokeBoard$Row;", Cond.fieldLink RX6 59 "StrokeBoard" "siteCount" "I", Cond.instanceMethod yX4_init, Cond.code yX4_init cX4_init 1 none, Cond.methodLink RX4 3 objectInit, Cond.classLink RX4 9 RX5, Cond.fieldLink RX4 14 "StrokeBoard$Log" "made" "LStrokeBoard$Row;", Cond.fieldLink RX4 20 "StrokeBoard$Log" "kinds" "LStrokeBoard$Row;", Cond.fieldLink RX4 23 "StrokeBoard$Log" "times" "LStrokeBoard$Row;", Cond.fieldLink RX4 26 "StrokeBoard$Log" "targets" "LStrokeBoard$Row;", Cond.fieldLink RX4 29 "StrokeBoard$Log" "layers" "LStrokeBoard$Row;"]
def wsL_law_r3 : List Cond := [Cond.fieldLink RX4 32 "StrokeBoard$Log" "order" "LStrokeBoard$Row;", Cond.classLink RX4 35 RX1, Cond.fieldLink RX4 38 "StrokeBoard$Log" "ink" "LStrokeBoard$Ink;", Cond.methodLink RX4 11 yX5_init, Cond.instanceMethod yX5_init, Cond.code yX5_init cX5_init 2 none, Cond.methodLink RX5 1 objectInit, Cond.methodLink RX5 7 Lib.Math.max.name, Cond.static Lib.Math.max.name, Cond.initialized "java/lang/Math", Cond.code Lib.Math.max.name Lib.Math.max.code 2 (some .int), Cond.arrayClass .int, Cond.fieldLink RX5 13 "StrokeBoard$Row" "cells" "[I", Cond.methodLink RX4 37 yX1_init, Cond.instanceMethod yX1_init, Cond.code yX1_init cX1_init 2 none, Cond.methodLink RX1 3 objectInit, Cond.classLink RX1 9 RX5, Cond.fieldLink RX1 14 "StrokeBoard$Ink" "counts" "LStrokeBoard$Row;", Cond.fieldLink RX1 20 "StrokeBoard$Ink" "colors" "LStrokeBoard$Row;", Cond.fieldLink RX1 23 "StrokeBoard$Ink" "layers" "LStrokeBoard$Row;", Cond.fieldLink RX1 26 "StrokeBoard$Ink" "xs" "LStrokeBoard$Row;", Cond.fieldLink RX1 29 "StrokeBoard$Ink" "ys" "LStrokeBoard$Row;", Cond.methodLink RX1 11 yX5_init]
def wsL_law_r4 : List Cond := [Cond.methodLink RX6 18 yX1_init, Cond.instanceMethod yX2_init, Cond.code yX2_init cX2_init 1 none, Cond.methodLink RX2 3 objectInit, Cond.classLink RX2 9 RX5, Cond.fieldLink RX2 14 "StrokeBoard$Knowledge" "known" "LStrokeBoard$Row;", Cond.methodLink RX2 11 yX5_init, Cond.instanceMethod yX3_init, Cond.code yX3_init cX3_init 1 none, Cond.methodLink RX3 3 objectInit, Cond.classLink RX3 9 RX5, Cond.fieldLink RX3 14 "StrokeBoard$Links" "counts" "LStrokeBoard$Row;", Cond.fieldLink RX3 20 "StrokeBoard$Links" "messages" "LStrokeBoard$Row;", Cond.methodLink RX3 11 yX5_init, Cond.instanceMethod yX0_init, Cond.code yX0_init cX0_init 1 none, Cond.methodLink RX0 3 objectInit, Cond.classLink RX0 9 RX5, Cond.fieldLink RX0 14 "StrokeBoard$Board" "undone" "LStrokeBoard$Row;", Cond.fieldLink RX0 20 "StrokeBoard$Board" "layers" "LStrokeBoard$Row;", Cond.fieldLink RX0 23 "StrokeBoard$Board" "strokes" "LStrokeBoard$Row;", Cond.methodLink RX0 11 yX5_init, Cond.methodLink RX6 54 yX5_init, Cond.methodLink RL 96 yL_cell]
def wsL_law_r5 : List Cond := [Cond.static yL_cell, Cond.initialized RL, Cond.code yL_cell cL_cell 2 (some .int), Cond.constant RL 7 (435606711), Cond.methodLink RL 100 yL_low, Cond.static yL_low, Cond.code yL_low cL_low 2 (some .int), Cond.constant RL 8 (2147483647), Cond.methodLink RL 103 yL_refuses, Cond.static yL_refuses, Cond.code yL_refuses cL_refuses 6 (some .boolean), Cond.constant RL 72 (-1000000001), Cond.methodLink RL 41 yX6_sites, Cond.instanceMethod yX6_sites, Cond.selects RX6 yX6_sites yX6_sites, Cond.code yX6_sites cX6_sites 1 (some .int), Cond.methodLink RL 49 yX6_digest, Cond.instanceMethod yX6_digest, Cond.selects RX6 yX6_digest yX6_digest, Cond.code yX6_digest cX6_digest 2 (some .int), Cond.methodLink RX6 78 yX6_isSite, Cond.instanceMethod yX6_isSite, Cond.selects RX6 yX6_isSite yX6_isSite, Cond.code yX6_isSite cX6_isSite 2 (some .boolean)]
def wsL_law_r6 : List Cond := [Cond.methodLink RX6 63 yX6_isWithin, Cond.static yX6_isWithin, Cond.code yX6_isWithin cX6_isWithin 3 (some .boolean), Cond.methodLink RX6 92 yX0_show, Cond.instanceMethod yX0_show, Cond.selects RX0 yX0_show yX0_show, Cond.code yX0_show cX0_show 7 none, Cond.fieldLink RX0 40 "StrokeBoard$Board" "count" "I", Cond.methodLink RX0 26 yX4_totalCount, Cond.instanceMethod yX4_totalCount, Cond.selects RX4 yX4_totalCount yX4_totalCount, Cond.code yX4_totalCount cX4_totalCount 1 (some .int), Cond.fieldLink RX4 45 "StrokeBoard$Log" "total" "I", Cond.methodLink RX0 32 yX5_fill, Cond.instanceMethod yX5_fill, Cond.selects RX5 yX5_fill yX5_fill, Cond.code yX5_fill cX5_fill 3 none, Cond.methodLink RX0 36 yX5_copyFrom, Cond.instanceMethod yX5_copyFrom, Cond.selects RX5 yX5_copyFrom yX5_copyFrom, Cond.code yX5_copyFrom cX5_copyFrom 3 none, Cond.methodLink RX5 19 yX5_get, Cond.instanceMethod yX5_get, Cond.selects RX5 yX5_get yX5_get]
def wsL_law_r7 : List Cond := [Cond.code yX5_get cX5_get 2 (some .int), Cond.methodLink RX0 44 yX4_inOrder, Cond.instanceMethod yX4_inOrder, Cond.selects RX4 yX4_inOrder yX4_inOrder, Cond.code yX4_inOrder cX4_inOrder 2 (some .int), Cond.methodLink RX4 65 yX5_get, Cond.methodLink RX0 48 yX2_has, Cond.instanceMethod yX2_has, Cond.selects RX2 yX2_has yX2_has, Cond.code yX2_has cX2_has 3 (some .boolean), Cond.methodLink RX2 31 yX5_get, Cond.methodLink RX0 54 yX0_apply, Cond.instanceMethod yX0_apply, Cond.selects RX0 yX0_apply yX0_apply, Cond.code yX0_apply cX0_apply 4 none, Cond.methodLink RX0 62 yX4_targetOf, Cond.instanceMethod yX4_targetOf, Cond.selects RX4 yX4_targetOf yX4_targetOf, Cond.code yX4_targetOf cX4_targetOf 2 (some .int), Cond.methodLink RX0 65 yX4_kindOf, Cond.instanceMethod yX4_kindOf, Cond.selects RX4 yX4_kindOf yX4_kindOf, Cond.code yX4_kindOf cX4_kindOf 2 (some .int), Cond.methodLink RX0 68 yX5_set]
def wsL_law_r8 : List Cond := [Cond.instanceMethod yX5_set, Cond.selects RX5 yX5_set yX5_set, Cond.code yX5_set cX5_set 3 none, Cond.methodLink RX0 72 yX4_layerOf, Cond.instanceMethod yX4_layerOf, Cond.selects RX4 yX4_layerOf yX4_layerOf, Cond.code yX4_layerOf cX4_layerOf 2 (some .int), Cond.methodLink RX0 58 yX0_collect, Cond.instanceMethod yX0_collect, Cond.selects RX0 yX0_collect yX0_collect, Cond.code yX0_collect cX0_collect 8 none, Cond.methodLink RX0 75 yX4_isStroke, Cond.instanceMethod yX4_isStroke, Cond.selects RX4 yX4_isStroke yX4_isStroke, Cond.code yX4_isStroke cX4_isStroke 2 (some .boolean), Cond.methodLink RX0 79 yX5_get, Cond.methodLink RX0 82 yX0_isUndone, Cond.instanceMethod yX0_isUndone, Cond.selects RX0 yX0_isUndone yX0_isUndone, Cond.code yX0_isUndone cX0_isUndone 2 (some .boolean), Cond.methodLink RX6 225 yX0_hash, Cond.instanceMethod yX0_hash, Cond.selects RX0 yX0_hash yX0_hash, Cond.code yX0_hash cX0_hash 5 (some .int)]
def wsL_law_r9 : List Cond := [Cond.static yX6_authorOf, Cond.code yX6_authorOf cX6_authorOf 1 (some .int), Cond.static yX6_numberOf, Cond.code yX6_numberOf cX6_numberOf 1 (some .int), Cond.methodLink RX0 99 yX1_colorOf, Cond.instanceMethod yX1_colorOf, Cond.selects RX1 yX1_colorOf yX1_colorOf, Cond.code yX1_colorOf cX1_colorOf 2 (some .int), Cond.methodLink RX1 42 yX5_get, Cond.methodLink RX0 104 yX0_hashPoints, Cond.instanceMethod yX0_hashPoints, Cond.selects RX0 yX0_hashPoints yX0_hashPoints, Cond.code yX0_hashPoints cX0_hashPoints 6 (some .int), Cond.methodLink RX0 108 yX1_pointCount, Cond.instanceMethod yX1_pointCount, Cond.selects RX1 yX1_pointCount yX1_pointCount, Cond.code yX1_pointCount cX1_pointCount 2 (some .int), Cond.methodLink RX0 111 yX1_xOf, Cond.instanceMethod yX1_xOf, Cond.selects RX1 yX1_xOf yX1_xOf, Cond.code yX1_xOf cX1_xOf 3 (some .int), Cond.methodLink RX0 115 yX1_yOf, Cond.instanceMethod yX1_yOf, Cond.selects RX1 yX1_yOf yX1_yOf]
def wsL_law_r10 : List Cond := [Cond.code yX1_yOf cX1_yOf 3 (some .int), Cond.methodLink RL 9 yX6_siteInfo, Cond.instanceMethod yX6_siteInfo, Cond.selects RX6 yX6_siteInfo yX6_siteInfo, Cond.code yX6_siteInfo cX6_siteInfo 3 (some .int), Cond.constant RX6 67 (-1000000001), Cond.methodLink RX6 82 yX5_get, Cond.methodLink RX6 86 yX2_countOf, Cond.instanceMethod yX2_countOf, Cond.selects RX2 yX2_countOf yX2_countOf, Cond.code yX2_countOf cX2_countOf 4 (some .int), Cond.methodLink RX2 35 yX2_has, Cond.methodLink RX6 89 yX4_madeBy, Cond.instanceMethod yX4_madeBy, Cond.selects RX4 yX4_madeBy yX4_madeBy, Cond.code yX4_madeBy cX4_madeBy 2 (some .int), Cond.methodLink RX6 96 yX0_strokeCount, Cond.instanceMethod yX0_strokeCount, Cond.selects RX0 yX0_strokeCount yX0_strokeCount, Cond.code yX0_strokeCount cX0_strokeCount 1 (some .int), Cond.methodLink RX6 100 yX1_pointCount, Cond.methodLink RL 69 yX6_reset, Cond.instanceMethod yX6_reset, Cond.selects RX6 yX6_reset yX6_reset]
def wsL_law_r11 : List Cond := [Cond.code yX6_reset cX6_reset 3 (some .int), Cond.methodLink RX6 68 yX4_clear, Cond.instanceMethod yX4_clear, Cond.selects RX4 yX4_clear yX4_clear, Cond.code yX4_clear cX4_clear 1 none, Cond.methodLink RX4 42 yX5_fill, Cond.methodLink RX6 71 yX1_clear, Cond.instanceMethod yX1_clear, Cond.selects RX1 yX1_clear yX1_clear, Cond.code yX1_clear cX1_clear 1 none, Cond.methodLink RX1 32 yX5_fill, Cond.methodLink RX6 72 yX2_clear, Cond.instanceMethod yX2_clear, Cond.selects RX2 yX2_clear yX2_clear, Cond.code yX2_clear cX2_clear 1 none, Cond.methodLink RX2 20 yX5_fill, Cond.methodLink RX6 73 yX3_clear, Cond.instanceMethod yX3_clear, Cond.selects RX3 yX3_clear yX3_clear, Cond.code yX3_clear cX3_clear 1 none, Cond.methodLink RX3 23 yX5_fill, Cond.methodLink RX6 74 yX5_fill, Cond.methodLink RL 73 yX6_penDown, Cond.instanceMethod yX6_penDown]
def wsL_law_r12 : List Cond := [Cond.selects RX6 yX6_penDown yX6_penDown, Cond.code yX6_penDown cX6_penDown 6 (some .int), Cond.methodLink RX6 103 yX1_start, Cond.instanceMethod yX1_start, Cond.selects RX1 yX1_start yX1_start, Cond.code yX1_start cX1_start 4 none, Cond.methodLink RX1 39 yX1_empty, Cond.instanceMethod yX1_empty, Cond.selects RX1 yX1_empty yX1_empty, Cond.code yX1_empty cX1_empty 2 none, Cond.methodLink RX1 35 yX5_set, Cond.methodLink RX6 107 yX1_addPoint, Cond.instanceMethod yX1_addPoint, Cond.selects RX1 yX1_addPoint yX1_addPoint, Cond.code yX1_addPoint cX1_addPoint 5 none, Cond.methodLink RL 77 yX6_penMove, Cond.instanceMethod yX6_penMove, Cond.selects RX6 yX6_penMove yX6_penMove, Cond.code yX6_penMove cX6_penMove 5 (some .int), Cond.constant RX6 110 (-1000000002), Cond.constant RX6 77 (-1000000003), Cond.methodLink RX6 111 yX1_xOf, Cond.methodLink RX6 115 yX1_yOf, Cond.methodLink RL 80 yX6_penUp]
def wsL_law_r13 : List Cond := [Cond.instanceMethod yX6_penUp, Cond.selects RX6 yX6_penUp yX6_penUp, Cond.code yX6_penUp cX6_penUp 3 (some .int), Cond.methodLink RX6 118 yX6_hasMadeAll, Cond.instanceMethod yX6_hasMadeAll, Cond.selects RX6 yX6_hasMadeAll yX6_hasMadeAll, Cond.code yX6_hasMadeAll cX6_hasMadeAll 2 (some .boolean), Cond.methodLink RX6 121 yX6_tick, Cond.instanceMethod yX6_tick, Cond.selects RX6 yX6_tick yX6_tick, Cond.code yX6_tick cX6_tick 2 (some .int), Cond.methodLink RX6 195 yX5_set, Cond.methodLink RX6 124 yX4_addStroke, Cond.instanceMethod yX4_addStroke, Cond.selects RX4 yX4_addStroke yX4_addStroke, Cond.code yX4_addStroke cX4_addStroke 5 (some .int), Cond.methodLink RX4 49 yX4_addOperation, Cond.instanceMethod yX4_addOperation, Cond.selects RX4 yX4_addOperation yX4_addOperation, Cond.code yX4_addOperation cX4_addOperation 6 (some .int), Cond.static yX6_idOf, Cond.code yX6_idOf cX6_idOf 2 (some .int), Cond.methodLink RX4 61 yX5_set, Cond.methodLink RX4 72 yX4_insert]
def wsL_law_r14 : List Cond := [Cond.instanceMethod yX4_insert, Cond.selects RX4 yX4_insert yX4_insert, Cond.code yX4_insert cX4_insert 3 none, Cond.methodLink RX4 75 yX4_comesAfter, Cond.instanceMethod yX4_comesAfter, Cond.selects RX4 yX4_comesAfter yX4_comesAfter, Cond.code yX4_comesAfter cX4_comesAfter 4 (some .boolean), Cond.methodLink RX4 79 yJ6_compare_7cf53, Cond.static yJ6_compare_7cf53, Cond.initialized RJ6, Cond.code yJ6_compare_7cf53 cJ6_compare_7cf53 2 (some .int), Cond.methodLink RX4 53 yX1_copyFrom, Cond.instanceMethod yX1_copyFrom, Cond.selects RX1 yX1_copyFrom yX1_copyFrom, Cond.code yX1_copyFrom cX1_copyFrom 6 none, Cond.methodLink RX1 46 yX1_pointCount, Cond.methodLink RX1 49 yX1_colorOf, Cond.methodLink RX1 52 yX1_layerOf, Cond.instanceMethod yX1_layerOf, Cond.selects RX1 yX1_layerOf yX1_layerOf, Cond.code yX1_layerOf cX1_layerOf 2 (some .int), Cond.methodLink RX1 55 yX1_start, Cond.methodLink RX1 59 yX1_xOf, Cond.methodLink RX1 63 yX1_yOf]
def wsL_law_r15 : List Cond := [Cond.methodLink RX1 66 yX1_addPoint, Cond.methodLink RX4 57 yX1_layerOf, Cond.methodLink RX6 128 yX1_empty, Cond.methodLink RX6 131 yX6_publish, Cond.instanceMethod yX6_publish, Cond.selects RX6 yX6_publish yX6_publish, Cond.code yX6_publish cX6_publish 4 none, Cond.methodLink RX6 245 yX2_learn, Cond.instanceMethod yX2_learn, Cond.selects RX2 yX2_learn yX2_learn, Cond.code yX2_learn cX2_learn 3 none, Cond.methodLink RX2 27 yX5_set, Cond.methodLink RX6 248 yX3_send, Cond.instanceMethod yX3_send, Cond.selects RX3 yX3_send yX3_send, Cond.code yX3_send cX3_send 6 none, Cond.methodLink RX3 26 yX5_get, Cond.methodLink RX3 30 yX5_set, Cond.methodLink RX6 135 yX6_numberOf, Cond.methodLink RL 61 yX6_undo, Cond.instanceMethod yX6_undo, Cond.selects RX6 yX6_undo yX6_undo, Cond.code yX6_undo cX6_undo 2 (some .int), Cond.methodLink RX6 138 yX6_lastVisibleOwn]
def wsL_law_r16 : List Cond := [Cond.instanceMethod yX6_lastVisibleOwn, Cond.selects RX6 yX6_lastVisibleOwn yX6_lastVisibleOwn, Cond.code yX6_lastVisibleOwn cX6_lastVisibleOwn 4 (some .int), Cond.methodLink RX6 178 yX6_idOf, Cond.methodLink RX6 204 yX4_isStroke, Cond.methodLink RX6 251 yX0_isUndone, Cond.methodLink RX6 141 yX6_changeOwn, Cond.instanceMethod yX6_changeOwn, Cond.selects RX6 yX6_changeOwn yX6_changeOwn, Cond.code yX6_changeOwn cX6_changeOwn 4 (some .int), Cond.methodLink RX6 151 yX4_addChange, Cond.instanceMethod yX4_addChange, Cond.selects RX4 yX4_addChange yX4_addChange, Cond.code yX4_addChange cX4_addChange 7 (some .int), Cond.methodLink RL 66 yX6_redo, Cond.instanceMethod yX6_redo, Cond.selects RX6 yX6_redo yX6_redo, Cond.code yX6_redo cX6_redo 2 (some .int), Cond.methodLink RX6 145 yX6_lastUndoneOwn, Cond.instanceMethod yX6_lastUndoneOwn, Cond.selects RX6 yX6_lastUndoneOwn yX6_lastUndoneOwn, Cond.code yX6_lastUndoneOwn cX6_lastUndoneOwn 4 (some .int), Cond.methodLink RX6 198 yX4_kindOf, Cond.methodLink RX6 210 yX4_targetOf]
def wsL_law_r17 : List Cond := [Cond.methodLink RL 83 yX6_lift, Cond.instanceMethod yX6_lift, Cond.selects RX6 yX6_lift yX6_lift, Cond.code yX6_lift cX6_lift 5 (some .int), Cond.methodLink RX6 148 yX0_strokeIn, Cond.instanceMethod yX0_strokeIn, Cond.selects RX0 yX0_strokeIn yX0_strokeIn, Cond.code yX0_strokeIn cX0_strokeIn 2 (some .int), Cond.methodLink RL 86 yX6_deliver, Cond.instanceMethod yX6_deliver, Cond.selects RX6 yX6_deliver yX6_deliver, Cond.code yX6_deliver cX6_deliver 4 (some .int), Cond.constant RX6 162 (-1000000004), Cond.methodLink RX6 155 yX6_areTwoSites, Cond.instanceMethod yX6_areTwoSites, Cond.selects RX6 yX6_areTwoSites yX6_areTwoSites, Cond.code yX6_areTwoSites cX6_areTwoSites 3 (some .boolean), Cond.methodLink RX6 159 yX3_countIn, Cond.instanceMethod yX3_countIn, Cond.selects RX3 yX3_countIn yX3_countIn, Cond.code yX3_countIn cX3_countIn 3 (some .int), Cond.methodLink RX6 163 yX3_messageIn, Cond.instanceMethod yX3_messageIn, Cond.selects RX3 yX3_messageIn yX3_messageIn]
def wsL_law_r18 : List Cond := [Cond.code yX3_messageIn cX3_messageIn 4 (some .int), Cond.methodLink RX6 166 yX3_dropFirst, Cond.instanceMethod yX3_dropFirst, Cond.selects RX3 yX3_dropFirst yX3_dropFirst, Cond.code yX3_dropFirst cX3_dropFirst 7 none, Cond.methodLink RX3 34 Lib.Math.max.name, Cond.methodLink RX6 169 yX6_receive, Cond.instanceMethod yX6_receive, Cond.selects RX6 yX6_receive yX6_receive, Cond.code yX6_receive cX6_receive 3 none, Cond.methodLink RX6 190 Lib.Math.max.name, Cond.methodLink RX6 201 yX4_timeOf, Cond.instanceMethod yX4_timeOf, Cond.selects RX4 yX4_timeOf yX4_timeOf, Cond.code yX4_timeOf cX4_timeOf 2 (some .int), Cond.methodLink RX6 172 yX6_authorOf, Cond.methodLink RL 89 yX6_lose, Cond.instanceMethod yX6_lose, Cond.selects RX6 yX6_lose yX6_lose, Cond.code yX6_lose cX6_lose 3 (some .int), Cond.methodLink RL 52 yX6_waiting, Cond.instanceMethod yX6_waiting, Cond.selects RX6 yX6_waiting yX6_waiting, Cond.code yX6_waiting cX6_waiting 3 (some .int)]
def wsL_law_r19 : List Cond := [Cond.methodLink RL 29 yX6_gap, Cond.instanceMethod yX6_gap, Cond.selects RX6 yX6_gap yX6_gap, Cond.code yX6_gap cX6_gap 8 (some .int), Cond.methodLink RX6 181 yX2_has, Cond.methodLink RL 55 yX6_repair, Cond.instanceMethod yX6_repair, Cond.selects RX6 yX6_repair yX6_repair, Cond.code yX6_repair cX6_repair 5 (some .int), Cond.methodLink RX6 184 yX6_canRepair, Cond.instanceMethod yX6_canRepair, Cond.selects RX6 yX6_canRepair yX6_canRepair, Cond.code yX6_canRepair cX6_canRepair 4 (some .boolean), Cond.methodLink RX6 254 yX2_isInGap, Cond.instanceMethod yX2_isInGap, Cond.selects RX2 yX2_isInGap yX2_isInGap, Cond.code yX2_isInGap cX2_isInGap 3 (some .boolean), Cond.methodLink RX2 39 yX2_hasLaterOfAuthor, Cond.instanceMethod yX2_hasLaterOfAuthor, Cond.selects RX2 yX2_hasLaterOfAuthor yX2_hasLaterOfAuthor, Cond.code yX2_hasLaterOfAuthor cX2_hasLaterOfAuthor 5 (some .boolean), Cond.methodLink RL 58 yX6_transfer, Cond.instanceMethod yX6_transfer, Cond.selects RX6 yX6_transfer yX6_transfer]
def wsL_law_r20 : List Cond := [Cond.code yX6_transfer cX6_transfer 5 (some .int), Cond.methodLink RX6 187 yX4_sizeOf, Cond.instanceMethod yX4_sizeOf, Cond.selects RX4 yX4_sizeOf yX4_sizeOf, Cond.code yX4_sizeOf cX4_sizeOf 2 (some .int), Cond.methodLink RX4 87 yX1_sizeOf, Cond.instanceMethod yX1_sizeOf, Cond.selects RX1 yX1_sizeOf yX1_sizeOf, Cond.code yX1_sizeOf cX1_sizeOf 5 (some .int), Cond.methodLink RL 15 yX6_operation, Cond.instanceMethod yX6_operation, Cond.selects RX6 yX6_operation yX6_operation, Cond.code yX6_operation cX6_operation 5 (some .int), Cond.methodLink RX6 213 yX4_layerOf, Cond.methodLink RL 19 yX6_knows, Cond.instanceMethod yX6_knows, Cond.selects RX6 yX6_knows yX6_knows, Cond.code yX6_knows cX6_knows 4 (some .int), Cond.methodLink RL 22 yX6_stroke, Cond.instanceMethod yX6_stroke, Cond.selects RX6 yX6_stroke yX6_stroke, Cond.code yX6_stroke cX6_stroke 6 (some .int), Cond.methodLink RX6 216 yX6_coordinate, Cond.instanceMethod yX6_coordinate]
def wsL_law_r21 : List Cond := [Cond.selects RX6 yX6_coordinate yX6_coordinate, Cond.code yX6_coordinate cX6_coordinate 4 (some .int), Cond.methodLink RX6 219 yX6_strokeValue, Cond.instanceMethod yX6_strokeValue, Cond.selects RX6 yX6_strokeValue yX6_strokeValue, Cond.code yX6_strokeValue cX6_strokeValue 3 (some .int), Cond.methodLink RX6 257 yX0_layerOf, Cond.instanceMethod yX0_layerOf, Cond.selects RX0 yX0_layerOf yX0_layerOf, Cond.code yX0_layerOf cX0_layerOf 2 (some .int), Cond.methodLink RX6 258 yX1_colorOf, Cond.methodLink RL 92 yX6_strokeAt, Cond.instanceMethod yX6_strokeAt, Cond.selects RX6 yX6_strokeAt yX6_strokeAt, Cond.code yX6_strokeAt cX6_strokeAt 5 (some .int), Cond.methodLink RX6 222 yX1_hasPoint, Cond.instanceMethod yX1_hasPoint, Cond.selects RX1 yX1_hasPoint yX1_hasPoint, Cond.code yX1_hasPoint cX1_hasPoint 5 (some .boolean), Cond.methodLink RL 38 yX6_areSame, Cond.instanceMethod yX6_areSame, Cond.selects RX6 yX6_areSame yX6_areSame, Cond.code yX6_areSame cX6_areSame 3 (some .int), Cond.methodLink RX6 229 yX6_showSame]
def wsL_law_r22 : List Cond := [Cond.instanceMethod yX6_showSame, Cond.selects RX6 yX6_showSame yX6_showSame, Cond.code yX6_showSame cX6_showSame 4 (some .boolean), Cond.methodLink RX6 261 yX0_matches, Cond.instanceMethod yX0_matches, Cond.selects RX0 yX0_matches yX0_matches, Cond.code yX0_matches cX0_matches 4 (some .boolean), Cond.methodLink RX0 85 yX0_strokeIn, Cond.methodLink RX0 88 yX0_layerOf, Cond.methodLink RL 35 yX6_bestHelper, Cond.instanceMethod yX6_bestHelper, Cond.selects RX6 yX6_bestHelper yX6_bestHelper, Cond.code yX6_bestHelper cX6_bestHelper 6 (some .int), Cond.methodLink RX6 236 yX6_repairable, Cond.instanceMethod yX6_repairable, Cond.selects RX6 yX6_repairable yX6_repairable, Cond.code yX6_repairable cX6_repairable 5 (some .int), Cond.methodLink RL 25 yX6_endangered, Cond.instanceMethod yX6_endangered, Cond.selects RX6 yX6_endangered yX6_endangered, Cond.code yX6_endangered cX6_endangered 5 (some .int), Cond.methodLink RX6 239 yX6_isKnownBeside, Cond.instanceMethod yX6_isKnownBeside, Cond.selects RX6 yX6_isKnownBeside yX6_isKnownBeside]
def wsL_law_r23 : List Cond := [Cond.code yX6_isKnownBeside cX6_isKnownBeside 4 (some .boolean), Cond.methodLink RX6 242 yX3_carry, Cond.instanceMethod yX3_carry, Cond.selects RX3 yX3_carry yX3_carry, Cond.code yX3_carry cX3_carry 4 (some .boolean), Cond.methodLink RL 107 yX6_differing, Cond.instanceMethod yX6_differing, Cond.selects RX6 yX6_differing yX6_differing, Cond.code yX6_differing cX6_differing 4 (some .int), Cond.methodLink RX6 233 yX6_lookAhead, Cond.instanceMethod yX6_lookAhead, Cond.selects RX6 yX6_lookAhead yX6_lookAhead, Cond.code yX6_lookAhead cX6_lookAhead 4 none, Cond.methodLink RX6 265 yX2_copyFrom, Cond.instanceMethod yX2_copyFrom, Cond.selects RX2 yX2_copyFrom yX2_copyFrom, Cond.code yX2_copyFrom cX2_copyFrom 2 none, Cond.methodLink RX2 23 yX5_copyFrom, Cond.methodLink RL 110 yL_turns, Cond.static yL_turns, Cond.code yL_turns cL_turns 7 (some .boolean), Cond.methodLink RL 114 yL_repairs, Cond.static yL_repairs, Cond.code yL_repairs cL_repairs 10 (some .boolean)]
def wsL_law_r24 : List Cond := [Cond.methodLink RL 117 yL_transfers, Cond.static yL_transfers, Cond.code yL_transfers cL_transfers 6 (some .boolean), Cond.methodLink RL 120 yX6_deliverAll, Cond.instanceMethod yX6_deliverAll, Cond.selects RX6 yX6_deliverAll yX6_deliverAll, Cond.code yX6_deliverAll cX6_deliverAll 4 (some .int), Cond.methodLink RX6 175 yX6_deliverLink, Cond.instanceMethod yX6_deliverLink, Cond.selects RX6 yX6_deliverLink yX6_deliverLink, Cond.code yX6_deliverLink cX6_deliverLink 5 (some .int), Cond.methodLink RL 123 yL_sound, Cond.static yL_sound, Cond.code yL_sound cL_sound 9 (some .boolean), Cond.methodLink RL 126 yL_pairs, Cond.static yL_pairs, Cond.code yL_pairs cL_pairs 4 (some .boolean), Cond.methodLink RL 45 yL_knowSame, Cond.static yL_knowSame, Cond.code yL_knowSame cL_knowSame 6 (some .boolean)]
def wsL_law : List Cond := (wsL_law_r1 ++ (wsL_law_r2 ++ (wsL_law_r3 ++ (wsL_law_r4 ++ (wsL_law_r5 ++ (wsL_law_r6 ++ (wsL_law_r7 ++ (wsL_law_r8 ++ (wsL_law_r9 ++ (wsL_law_r10 ++ (wsL_law_r11 ++ (wsL_law_r12 ++ (wsL_law_r13 ++ (wsL_law_r14 ++ (wsL_law_r15 ++ (wsL_law_r16 ++ (wsL_law_r17 ++ (wsL_law_r18 ++ (wsL_law_r19 ++ (wsL_law_r20 ++ (wsL_law_r21 ++ (wsL_law_r22 ++ (wsL_law_r23 ++ wsL_law_r24))))))))))))))))))))))) ++ wsX60 ++ wsX40 ++ wsX10 ++ wsX20 ++ wsX30 ++ wsX00 ++ wsX50 ++ ([] : List Cond)
abbrev vwCl : List vw_C := [(RX0, TX0, 4), (RX1, TX1, 5), (RX2, TX2, 1), (RX3, TX3, 2), (RX4, TX4, 8), (RX5, TX5, 1), (RX6, TX6, 9)]
end
section
theorem mem_r {big : List Cond} (ws : List Cond) (ps : List Nat) (hp : ws = ps.filterMap (fun i => big[i]?)) : ∀ w ∈ ws, w ∈ big := by
  intro w hw
  rw [hp] at hw
  obtain ⟨i, -, hi⟩ := List.mem_filterMap.mp hw
  exact List.mem_of_getElem? hi
theorem mem_app {big a b : List Cond} (ha : ∀ w ∈ a, w ∈ big) (hb : ∀ w ∈ b, w ∈ big) : ∀ w ∈ a ++ b, w ∈ big := fun w h => (List.mem_append.mp h).elim (ha w) (hb w)
set_option maxRecDepth 20000 in
theorem wsL_law_r1_in : ∀ w ∈ wsL_law_r1, w ∈ lw_tbl := mem_r _ [34, 35, 25, 665, 664, 587, 36, 37, 38, 39, 40, 41, 42, 43, 26, 166, 114, 63, 29, 167, 116, 117, 30, 168] (by decide +kernel)
set_option maxRecDepth 20000 in
theorem wsL_law_r2_in : ∀ w ∈ wsL_law_r2, w ∈ lw_tbl := mem_r _ [169, 128, 129, 31, 170, 143, 144, 32, 171, 172, 164, 49, 27, 173, 174, 45, 46, 47, 48, 86, 87, 88, 89, 90] (by decide +kernel)
set_option maxRecDepth 20000 in
theorem wsL_law_r3_in : ∀ w ∈ wsL_law_r3, w ∈ lw_tbl := mem_r _ [92, 62, 93, 50, 51, 52, 53, 54, 55, 28, 56, 61, 57, 64, 65, 66, 67, 68, 70, 71, 72, 73, 74, 69] (by decide +kernel)
set_option maxRecDepth 20000 in
theorem wsL_law_r4_in : ∀ w ∈ wsL_law_r4, w ∈ lw_tbl := mem_r _ [115, 119, 120, 121, 122, 124, 123, 131, 132, 133, 134, 136, 137, 135, 146, 147, 148, 149, 151, 152, 153, 150, 165, 531] (by decide +kernel)
set_option maxRecDepth 20000 in
theorem wsL_law_r5_in : ∀ w ∈ wsL_law_r5, w ∈ lw_tbl := mem_r _ [532, 24, 533, 534, 535, 536, 537, 538, 666, 667, 668, 669, 614, 615, 616, 617, 621, 622, 623, 624, 230, 232, 0, 233] (by decide +kernel)
set_option maxRecDepth 20000 in
theorem wsL_law_r6_in : ∀ w ∈ wsL_law_r6, w ∈ lw_tbl := mem_r _ [198, 199, 200, 252, 253, 254, 255, 154, 256, 257, 258, 259, 96, 260, 207, 208, 209, 261, 262, 263, 264, 265, 235, 236] (by decide +kernel)
set_option maxRecDepth 20000 in
theorem wsL_law_r7_in : ∀ w ∈ wsL_law_r7, w ∈ lw_tbl := mem_r _ [237, 266, 267, 268, 269, 251, 270, 243, 244, 245, 246, 271, 273, 1, 274, 275, 276, 277, 278, 279, 280, 281, 282, 283] (by decide +kernel)
set_option maxRecDepth 20000 in
theorem wsL_law_r8_in : ∀ w ∈ wsL_law_r8, w ∈ lw_tbl := mem_r _ [284, 285, 286, 287, 288, 289, 290, 291, 293, 2, 294, 295, 296, 297, 298, 299, 300, 301, 302, 303, 625, 626, 627, 628] (by decide +kernel)
set_option maxRecDepth 20000 in
theorem wsL_law_r9_in : ∀ w ∈ wsL_law_r9, w ∈ lw_tbl := mem_r _ [381, 382, 418, 419, 631, 389, 390, 391, 312, 632, 634, 22, 635, 636, 309, 310, 311, 637, 337, 338, 339, 638, 341, 342] (by decide +kernel)
set_option maxRecDepth 20000 in
theorem wsL_law_r10_in : ∀ w ∈ wsL_law_r10, w ∈ lw_tbl := mem_r _ [343, 226, 227, 228, 229, 201, 234, 238, 239, 240, 241, 242, 247, 248, 249, 250, 304, 305, 306, 307, 308, 194, 195, 196] (by decide +kernel)
set_option maxRecDepth 20000 in
theorem wsL_law_r11_in : ∀ w ∈ wsL_law_r11, w ∈ lw_tbl := mem_r _ [197, 202, 203, 204, 205, 206, 210, 211, 212, 213, 214, 215, 216, 217, 218, 219, 220, 221, 222, 223, 224, 225, 313, 314] (by decide +kernel)
set_option maxRecDepth 20000 in
theorem wsL_law_r12_in : ∀ w ∈ wsL_law_r12, w ∈ lw_tbl := mem_r _ [315, 316, 317, 318, 319, 320, 321, 322, 323, 324, 325, 326, 327, 328, 329, 330, 331, 332, 333, 334, 335, 336, 340, 344] (by decide +kernel)
set_option maxRecDepth 20000 in
theorem wsL_law_r13_in : ∀ w ∈ wsL_law_r13, w ∈ lw_tbl := mem_r _ [345, 346, 347, 348, 350, 3, 351, 352, 354, 4, 355, 356, 357, 358, 359, 360, 361, 363, 5, 364, 366, 367, 368, 369] (by decide +kernel)
set_option maxRecDepth 20000 in
theorem wsL_law_r14_in : ∀ w ∈ wsL_law_r14, w ∈ lw_tbl := mem_r _ [371, 6, 372, 373, 375, 7, 376, 377, 378, 33, 379, 383, 384, 385, 386, 387, 388, 392, 393, 394, 395, 396, 397, 398] (by decide +kernel)
set_option maxRecDepth 20000 in
theorem wsL_law_r15_in : ∀ w ∈ wsL_law_r15, w ∈ lw_tbl := mem_r _ [399, 400, 401, 402, 404, 8, 405, 406, 407, 408, 409, 410, 411, 412, 413, 414, 415, 416, 417, 656, 657, 658, 659, 660] (by decide +kernel)
set_option maxRecDepth 20000 in
theorem wsL_law_r16_in : ∀ w ∈ wsL_law_r16, w ∈ lw_tbl := mem_r _ [662, 23, 663, 428, 555, 431, 432, 434, 10, 435, 436, 437, 438, 439, 420, 421, 422, 423, 424, 426, 9, 427, 429, 430] (by decide +kernel)
set_option maxRecDepth 20000 in
theorem wsL_law_r17_in : ∀ w ∈ wsL_law_r17, w ∈ lw_tbl := mem_r _ [440, 441, 442, 443, 444, 445, 446, 447, 448, 449, 450, 451, 460, 452, 454, 11, 455, 456, 457, 458, 459, 461, 462, 463] (by decide +kernel)
set_option maxRecDepth 20000 in
theorem wsL_law_r18_in : ∀ w ∈ wsL_law_r18, w ∈ lw_tbl := mem_r _ [464, 465, 466, 467, 468, 469, 470, 472, 12, 473, 478, 474, 475, 476, 477, 479, 480, 481, 482, 483, 492, 493, 494, 495] (by decide +kernel)
set_option maxRecDepth 20000 in
theorem wsL_law_r19_in : ∀ w ∈ wsL_law_r19, w ∈ lw_tbl := mem_r _ [583, 584, 585, 586, 500, 642, 643, 644, 645, 596, 598, 20, 599, 600, 601, 602, 603, 604, 606, 21, 607, 649, 650, 651] (by decide +kernel)
set_option maxRecDepth 20000 in
theorem wsL_law_r20_in : ∀ w ∈ wsL_law_r20, w ∈ lw_tbl := mem_r _ [652, 546, 547, 548, 549, 550, 551, 552, 553, 542, 543, 544, 545, 556, 496, 497, 498, 499, 557, 558, 559, 560, 561, 563] (by decide +kernel)
set_option maxRecDepth 20000 in
theorem wsL_law_r21_in : ∀ w ∈ wsL_law_r21, w ∈ lw_tbl := mem_r _ [16, 564, 565, 567, 17, 568, 569, 515, 516, 517, 570, 670, 671, 672, 673, 674, 675, 676, 677, 501, 502, 503, 504, 505] (by decide +kernel)
set_option maxRecDepth 20000 in
theorem wsL_law_r22_in : ∀ w ∈ wsL_law_r22, w ∈ lw_tbl := mem_r _ [507, 14, 508, 509, 510, 511, 512, 513, 514, 588, 589, 590, 591, 592, 594, 19, 595, 571, 572, 573, 574, 575, 577, 18] (by decide +kernel)
set_option maxRecDepth 20000 in
theorem wsL_law_r23_in : ∀ w ∈ wsL_law_r23, w ∈ lw_tbl := mem_r _ [578, 579, 580, 581, 582, 518, 519, 520, 521, 522, 524, 15, 525, 526, 527, 528, 529, 530, 653, 654, 655, 639, 640, 641] (by decide +kernel)
set_option maxRecDepth 20000 in
theorem wsL_law_r24_in : ∀ w ∈ wsL_law_r24, w ∈ lw_tbl := mem_r _ [646, 647, 648, 484, 485, 486, 487, 488, 490, 13, 491, 539, 540, 541, 611, 612, 613, 618, 619, 620] (by decide +kernel)
set_option maxRecDepth 20000 in
theorem jnX0 : ∀ w ∈ wsX00, w ∈ lw_tbl := mem_r _ [155, 157, 159, 161] (by decide +kernel)
set_option maxRecDepth 20000 in
theorem jnX1 : ∀ w ∈ wsX10, w ∈ lw_tbl := mem_r _ [75, 77, 79, 81, 83] (by decide +kernel)
set_option maxRecDepth 20000 in
theorem jnX2 : ∀ w ∈ wsX20, w ∈ lw_tbl := mem_r _ [125] (by decide +kernel)
set_option maxRecDepth 20000 in
theorem jnX3 : ∀ w ∈ wsX30, w ∈ lw_tbl := mem_r _ [138, 140] (by decide +kernel)
set_option maxRecDepth 20000 in
theorem jnX4 : ∀ w ∈ wsX40, w ∈ lw_tbl := mem_r _ [97, 99, 101, 103, 105, 107, 109, 111] (by decide +kernel)
set_option maxRecDepth 20000 in
theorem jnX5 : ∀ w ∈ wsX50, w ∈ lw_tbl := mem_r _ [58] (by decide +kernel)
set_option maxRecDepth 20000 in
theorem jnX6 : ∀ w ∈ wsX60, w ∈ lw_tbl := mem_r _ [175, 177, 179, 181, 183, 185, 187, 189, 191] (by decide +kernel)
theorem wsL_law_in : ∀ w ∈ wsL_law, w ∈ lw_tbl := mem_app (mem_app (mem_app (mem_app (mem_app (mem_app (mem_app (mem_app (mem_app wsL_law_r1_in (mem_app wsL_law_r2_in (mem_app wsL_law_r3_in (mem_app wsL_law_r4_in (mem_app wsL_law_r5_in (mem_app wsL_law_r6_in (mem_app wsL_law_r7_in (mem_app wsL_law_r8_in (mem_app wsL_law_r9_in (mem_app wsL_law_r10_in (mem_app wsL_law_r11_in (mem_app wsL_law_r12_in (mem_app wsL_law_r13_in (mem_app wsL_law_r14_in (mem_app wsL_law_r15_in (mem_app wsL_law_r16_in (mem_app wsL_law_r17_in (mem_app wsL_law_r18_in (mem_app wsL_law_r19_in (mem_app wsL_law_r20_in (mem_app wsL_law_r21_in (mem_app wsL_law_r22_in (mem_app wsL_law_r23_in wsL_law_r24_in))))))))))))))))))))))) jnX6) jnX4) jnX1) jnX2) jnX3) jnX0) jnX5) (fun _ h => absurd h List.not_mem_nil)
theorem inlX0 : ∀ w ∈ wsX00, w ∈ wsL_law := fun _ h => List.mem_append_left _ (List.mem_append_left _ (List.mem_append_right _ h))
theorem inX0 : ∀ w ∈ wsX00, w ∈ lw_tbl := fun w h => wsL_law_in w (inlX0 w h)
theorem inlX1 : ∀ w ∈ wsX10, w ∈ wsL_law := fun _ h => List.mem_append_left _ (List.mem_append_left _ (List.mem_append_left _ (List.mem_append_left _ (List.mem_append_left _ (List.mem_append_right _ h)))))
theorem inX1 : ∀ w ∈ wsX10, w ∈ lw_tbl := fun w h => wsL_law_in w (inlX1 w h)
theorem inlX2 : ∀ w ∈ wsX20, w ∈ wsL_law := fun _ h => List.mem_append_left _ (List.mem_append_left _ (List.mem_append_left _ (List.mem_append_left _ (List.mem_append_right _ h))))
theorem inX2 : ∀ w ∈ wsX20, w ∈ lw_tbl := fun w h => wsL_law_in w (inlX2 w h)
theorem inlX3 : ∀ w ∈ wsX30, w ∈ wsL_law := fun _ h => List.mem_append_left _ (List.mem_append_left _ (List.mem_append_left _ (List.mem_append_right _ h)))
theorem inX3 : ∀ w ∈ wsX30, w ∈ lw_tbl := fun w h => wsL_law_in w (inlX3 w h)
theorem inlX4 : ∀ w ∈ wsX40, w ∈ wsL_law := fun _ h => List.mem_append_left _ (List.mem_append_left _ (List.mem_append_left _ (List.mem_append_left _ (List.mem_append_left _ (List.mem_append_left _ (List.mem_append_right _ h))))))
theorem inX4 : ∀ w ∈ wsX40, w ∈ lw_tbl := fun w h => wsL_law_in w (inlX4 w h)
theorem inlX5 : ∀ w ∈ wsX50, w ∈ wsL_law := fun _ h => List.mem_append_left _ (List.mem_append_right _ h)
theorem inX5 : ∀ w ∈ wsX50, w ∈ lw_tbl := fun w h => wsL_law_in w (inlX5 w h)
theorem inlX6 : ∀ w ∈ wsX60, w ∈ wsL_law := fun _ h => List.mem_append_left _ (List.mem_append_left _ (List.mem_append_left _ (List.mem_append_left _ (List.mem_append_left _ (List.mem_append_left _ (List.mem_append_left _ (List.mem_append_right _ h)))))))
theorem inX6 : ∀ w ∈ wsX60, w ∈ lw_tbl := fun w h => wsL_law_in w (inlX6 w h)
theorem inX7 : ∀ w ∈ wsX70, w ∈ lw_tbl := by decide +kernel
theorem inJ6 : ∀ w ∈ wsJ60, w ∈ lw_tbl := by decide +kernel
theorem inJ9 : ∀ w ∈ wsJ90, w ∈ lw_tbl := by decide +kernel
set_option maxRecDepth 20000 in
theorem ggX0_init_X5_init : GoodIn wsX0_init wsX5_init := goodIn_r _ [12, 13, 2, 3, 14, 15, 16, 17, 18, 19, 20] (by decide +kernel) (by decide +kernel)
set_option maxRecDepth 20000 in
theorem gX0_init_X5_init : GoodIn wsX0_init (wsX5_init) := ggX0_init_X5_init
end
section
theorem dX0_init_0 : decode cX0_init 0 = .ok (.aload_n 0, 1) := by decide +kernel
theorem dX0_init_1 : decode cX0_init 1 = .ok (.invokespecial 3, 3) := by decide +kernel
theorem dX0_init_4 : decode cX0_init 4 = .ok (.aload_n 0, 1) := by decide +kernel
theorem dX0_init_5 : decode cX0_init 5 = .ok (.new 9, 3) := by decide +kernel
theorem dX0_init_8 : decode cX0_init 8 = .ok (.dup, 1) := by decide +kernel
theorem dX0_init_9 : decode cX0_init 9 = .ok (.bipush 100, 2) := by decide +kernel
theorem dX0_init_11 : decode cX0_init 11 = .ok (.invokespecial 11, 3) := by decide +kernel
theorem dX0_init_14 : decode cX0_init 14 = .ok (.putfield 14, 3) := by decide +kernel
theorem dX0_init_17 : decode cX0_init 17 = .ok (.aload_n 0, 1) := by decide +kernel
theorem dX0_init_18 : decode cX0_init 18 = .ok (.new 9, 3) := by decide +kernel
theorem dX0_init_21 : decode cX0_init 21 = .ok (.dup, 1) := by decide +kernel
theorem dX0_init_22 : decode cX0_init 22 = .ok (.bipush 100, 2) := by decide +kernel
theorem dX0_init_24 : decode cX0_init 24 = .ok (.invokespecial 11, 3) := by decide +kernel
theorem dX0_init_27 : decode cX0_init 27 = .ok (.putfield 20, 3) := by decide +kernel
theorem dX0_init_30 : decode cX0_init 30 = .ok (.aload_n 0, 1) := by decide +kernel
theorem dX0_init_31 : decode cX0_init 31 = .ok (.new 9, 3) := by decide +kernel
theorem dX0_init_34 : decode cX0_init 34 = .ok (.dup, 1) := by decide +kernel
theorem dX0_init_35 : decode cX0_init 35 = .ok (.bipush 100, 2) := by decide +kernel
theorem dX0_init_37 : decode cX0_init 37 = .ok (.invokespecial 11, 3) := by decide +kernel
theorem dX0_init_40 : decode cX0_init 40 = .ok (.putfield 23, 3) := by decide +kernel
theorem dX0_init_43 : decode cX0_init 43 = .ok (.return_, 1) := by decide +kernel
set_option maxRecDepth 20000 in
theorem ggX0_show_X4_totalCount : GoodIn wsX0_show wsX4_totalCount := goodIn_r _ [8, 9, 79, 80, 81, 82, 83, 84, 85, 86] (by decide +kernel) (by decide +kernel)
set_option maxRecDepth 20000 in
theorem gX0_show_X4_totalCount : GoodIn wsX0_show (wsV RX0 26 RX4 yX4_totalCount wsX4_totalCount) := goodIn_app (goodIn_of _ (by decide +kernel)) ggX0_show_X4_totalCount
set_option maxRecDepth 20000 in
theorem ggX0_show_X5_fill : GoodIn wsX0_show wsX5_fill := goodIn_r _ [14, 15, 87] (by decide +kernel) (by decide +kernel)
set_option maxRecDepth 20000 in
theorem gX0_show_X5_fill : GoodIn wsX0_show (wsV RX0 32 RX5 yX5_fill wsX5_fill) := goodIn_app (goodIn_of _ (by decide +kernel)) ggX0_show_X5_fill
set_option maxRecDepth 20000 in
theorem ggX0_show_X5_copyFrom : GoodIn wsX0_show wsX5_copyFrom := goodIn_r _ [19, 15, 20, 21, 22, 13, 23, 87] (by decide +kernel) (by decide +kernel)
set_option maxRecDepth 20000 in
theorem gX0_show_X5_copyFrom : GoodIn wsX0_show (wsV RX0 36 RX5 yX5_copyFrom wsX5_copyFrom) := goodIn_app (goodIn_of _ (by decide +kernel)) ggX0_show_X5_copyFrom
set_option maxRecDepth 20000 in
theorem ggX0_show_X4_inOrder : GoodIn wsX0_show wsX4_inOrder := goodIn_r _ [27, 28, 29, 21, 22, 13, 23, 15, 79, 80, 81, 82, 83, 84, 85, 86, 87] (by decide +kernel) (by decide +kernel)
set_option maxRecDepth 20000 in
theorem gX0_show_X4_inOrder : GoodIn wsX0_show (wsV RX0 44 RX4 yX4_inOrder wsX4_inOrder) := goodIn_app (goodIn_of _ (by decide +kernel)) ggX0_show_X4_inOrder
set_option maxRecDepth 20000 in
theorem ggX0_show_X2_has : GoodIn wsX0_show wsX2_has := goodIn_r _ [34, 35, 36, 21, 22, 13, 23, 15, 88, 87] (by decide +kernel) (by decide +kernel)
set_option maxRecDepth 20000 in
theorem gX0_show_X2_has : GoodIn wsX0_show (wsV RX0 48 RX2 yX2_has wsX2_has) := goodIn_app (goodIn_of _ (by decide +kernel)) ggX0_show_X2_has
set_option maxRecDepth 20000 in
theorem ggX0_show_X0_apply : GoodIn wsX0_show wsX0_apply := goodIn_r _ [41, 1, 2, 42, 43, 44, 7, 45, 46, 29, 21, 22, 13, 23, 15, 47, 48, 49, 50, 51, 52, 53, 54, 55, 56, 57, 58, 59, 60, 75, 76, 77, 78, 79, 80, 81, 82, 83, 84, 85, 86, 87] (by decide +kernel) (by decide +kernel)
set_option maxRecDepth 20000 in
theorem gX0_show_X0_apply : GoodIn wsX0_show (wsV RX0 54 RX0 yX0_apply wsX0_apply) := goodIn_app (goodIn_of _ (by decide +kernel)) ggX0_show_X0_apply
set_option maxRecDepth 20000 in
theorem ggX0_show_X0_collect : GoodIn wsX0_show wsX0_collect := goodIn_r _ [64, 2, 65, 3, 4, 5, 6, 7, 8, 9, 24, 25, 26, 27, 28, 29, 21, 22, 13, 23, 15, 66, 67, 68, 69, 51, 70, 71, 72, 73, 40, 74, 1, 30, 31, 32, 33, 34, 35, 36, 52, 53, 54, 55, 75, 76, 77, 78, 79, 80, 81, 82, 83, 84, 85, 86, 87, 88] (by decide +kernel) (by decide +kernel)
set_option maxRecDepth 20000 in
theorem gX0_show_X0_collect : GoodIn wsX0_show (wsV RX0 58 RX0 yX0_collect wsX0_collect) := goodIn_app (goodIn_of _ (by decide +kernel)) ggX0_show_X0_collect
theorem dX0_show_0 : decode cX0_show 0 = .ok (.aload_n 1, 1) := by decide +kernel
theorem dX0_show_1 : decode cX0_show 1 = .ok (.invokevirtual 26, 3) := by decide +kernel
theorem dX0_show_4 : decode cX0_show 4 = .ok (.istore 4, 2) := by decide +kernel
theorem dX0_show_6 : decode cX0_show 6 = .ok (.aload_n 0, 1) := by decide +kernel
theorem dX0_show_7 : decode cX0_show 7 = .ok (.getfield 14, 3) := by decide +kernel
theorem dX0_show_10 : decode cX0_show 10 = .ok (.iconst 0, 1) := by decide +kernel
theorem dX0_show_11 : decode cX0_show 11 = .ok (.invokevirtual 32, 3) := by decide +kernel
theorem dX0_show_14 : decode cX0_show 14 = .ok (.aload_n 0, 1) := by decide +kernel
theorem dX0_show_15 : decode cX0_show 15 = .ok (.getfield 20, 3) := by decide +kernel
theorem dX0_show_18 : decode cX0_show 18 = .ok (.aload_n 1, 1) := by decide +kernel
theorem dX0_show_19 : decode cX0_show 19 = .ok (.getfield 35, 3) := by decide +kernel
theorem dX0_show_22 : decode cX0_show 22 = .ok (.invokevirtual 36, 3) := by decide +kernel
theorem dX0_show_25 : decode cX0_show 25 = .ok (.aload_n 0, 1) := by decide +kernel
theorem dX0_show_26 : decode cX0_show 26 = .ok (.iconst 0, 1) := by decide +kernel
theorem dX0_show_27 : decode cX0_show 27 = .ok (.putfield 40, 3) := by decide +kernel
theorem dX0_show_30 : decode cX0_show 30 = .ok (.iconst 0, 1) := by decide +kernel
theorem dX0_show_31 : decode cX0_show 31 = .ok (.istore 5, 2) := by decide +kernel
theorem dX0_show_33 : decode cX0_show 33 = .ok (.iload 5, 2) := by decide +kernel
theorem dX0_show_35 : decode cX0_show 35 = .ok (.iload 4, 2) := by decide +kernel
theorem dX0_show_37 : decode cX0_show 37 = .ok (.if_icmp .ge 34, 3) := by decide +kernel
theorem dX0_show_40 : decode cX0_show 40 = .ok (.aload_n 1, 1) := by decide +kernel
theorem dX0_show_41 : decode cX0_show 41 = .ok (.iload 5, 2) := by decide +kernel
theorem dX0_show_43 : decode cX0_show 43 = .ok (.invokevirtual 44, 3) := by decide +kernel
theorem dX0_show_46 : decode cX0_show 46 = .ok (.istore 6, 2) := by decide +kernel
theorem dX0_show_48 : decode cX0_show 48 = .ok (.aload_n 2, 1) := by decide +kernel
theorem dX0_show_49 : decode cX0_show 49 = .ok (.iload_n 3, 1) := by decide +kernel
theorem dX0_show_50 : decode cX0_show 50 = .ok (.iload 6, 2) := by decide +kernel
theorem dX0_show_52 : decode cX0_show 52 = .ok (.invokevirtual 48, 3) := by decide +kernel
theorem dX0_show_55 : decode cX0_show 55 = .ok (.ifCond .eq 10, 3) := by decide +kernel
theorem dX0_show_58 : decode cX0_show 58 = .ok (.aload_n 0, 1) := by decide +kernel
theorem dX0_show_59 : decode cX0_show 59 = .ok (.aload_n 1, 1) := by decide +kernel
theorem dX0_show_60 : decode cX0_show 60 = .ok (.iload 6, 2) := by decide +kernel
theorem dX0_show_62 : decode cX0_show 62 = .ok (.invokevirtual 54, 3) := by decide +kernel
theorem dX0_show_65 : decode cX0_show 65 = .ok (.iinc 5 1, 3) := by decide +kernel
theorem dX0_show_68 : decode cX0_show 68 = .ok (.goto (-35), 3) := by decide +kernel
theorem dX0_show_71 : decode cX0_show 71 = .ok (.iconst 0, 1) := by decide +kernel
theorem dX0_show_72 : decode cX0_show 72 = .ok (.istore 5, 2) := by decide +kernel
theorem dX0_show_74 : decode cX0_show 74 = .ok (.iload 5, 2) := by decide +kernel
theorem dX0_show_76 : decode cX0_show 76 = .ok (.iconst 3, 1) := by decide +kernel
theorem dX0_show_77 : decode cX0_show 77 = .ok (.if_icmp .gt 18, 3) := by decide +kernel
theorem dX0_show_80 : decode cX0_show 80 = .ok (.aload_n 0, 1) := by decide +kernel
theorem dX0_show_81 : decode cX0_show 81 = .ok (.aload_n 1, 1) := by decide +kernel
theorem dX0_show_82 : decode cX0_show 82 = .ok (.aload_n 2, 1) := by decide +kernel
theorem dX0_show_83 : decode cX0_show 83 = .ok (.iload_n 3, 1) := by decide +kernel
theorem dX0_show_84 : decode cX0_show 84 = .ok (.iload 5, 2) := by decide +kernel
theorem dX0_show_86 : decode cX0_show 86 = .ok (.invokevirtual 58, 3) := by decide +kernel
theorem dX0_show_89 : decode cX0_show 89 = .ok (.iinc 5 1, 3) := by decide +kernel
theorem dX0_show_92 : decode cX0_show 92 = .ok (.goto (-18), 3) := by decide +kernel
theorem dX0_show_95 : decode cX0_show 95 = .ok (.return_, 1) := by decide +kernel
set_option maxRecDepth 20000 in
theorem ggX0_apply_X4_targetOf : GoodIn wsX0_apply wsX4_targetOf := goodIn_r _ [7, 8, 9, 10, 11, 12, 13, 14, 33, 34, 35, 36, 37, 38, 39, 40, 41] (by decide +kernel) (by decide +kernel)
set_option maxRecDepth 20000 in
theorem gX0_apply_X4_targetOf : GoodIn wsX0_apply (wsV RX0 62 RX4 yX4_targetOf wsX4_targetOf) := goodIn_app (goodIn_of _ (by decide +kernel)) ggX0_apply_X4_targetOf
set_option maxRecDepth 20000 in
theorem ggX0_apply_X4_kindOf : GoodIn wsX0_apply wsX4_kindOf := goodIn_r _ [18, 19, 9, 10, 11, 12, 13, 14, 33, 34, 35, 36, 37, 38, 39, 40, 41] (by decide +kernel) (by decide +kernel)
set_option maxRecDepth 20000 in
theorem gX0_apply_X4_kindOf : GoodIn wsX0_apply (wsV RX0 65 RX4 yX4_kindOf wsX4_kindOf) := goodIn_app (goodIn_of _ (by decide +kernel)) ggX0_apply_X4_kindOf
set_option maxRecDepth 20000 in
theorem ggX0_apply_X5_set : GoodIn wsX0_apply wsX5_set := goodIn_r _ [23, 14, 41] (by decide +kernel) (by decide +kernel)
set_option maxRecDepth 20000 in
theorem gX0_apply_X5_set : GoodIn wsX0_apply (wsV RX0 68 RX5 yX5_set wsX5_set) := goodIn_app (goodIn_of _ (by decide +kernel)) ggX0_apply_X5_set
set_option maxRecDepth 20000 in
theorem ggX0_apply_X4_layerOf : GoodIn wsX0_apply wsX4_layerOf := goodIn_r _ [27, 28, 9, 10, 11, 12, 13, 14, 33, 34, 35, 36, 37, 38, 39, 40, 41] (by decide +kernel) (by decide +kernel)
set_option maxRecDepth 20000 in
theorem gX0_apply_X4_layerOf : GoodIn wsX0_apply (wsV RX0 72 RX4 yX4_layerOf wsX4_layerOf) := goodIn_app (goodIn_of _ (by decide +kernel)) ggX0_apply_X4_layerOf
theorem dX0_apply_0 : decode cX0_apply 0 = .ok (.aload_n 1, 1) := by decide +kernel
theorem dX0_apply_1 : decode cX0_apply 1 = .ok (.iload_n 2, 1) := by decide +kernel
theorem dX0_apply_2 : decode cX0_apply 2 = .ok (.invokevirtual 62, 3) := by decide +kernel
theorem dX0_apply_5 : decode cX0_apply 5 = .ok (.istore_n 3, 1) := by decide +kernel
theorem dX0_apply_6 : decode cX0_apply 6 = .ok (.aload_n 1, 1) := by decide +kernel
theorem dX0_apply_7 : decode cX0_apply 7 = .ok (.iload_n 2, 1) := by decide +kernel
theorem dX0_apply_8 : decode cX0_apply 8 = .ok (.invokevirtual 65, 3) := by decide +kernel
theorem dX0_apply_11 : decode cX0_apply 11 = .ok (.tableswitch 65 1 3 #[25, 37, 49], 25) := by decide +kernel
theorem dX0_apply_36 : decode cX0_apply 36 = .ok (.aload_n 0, 1) := by decide +kernel
theorem dX0_apply_37 : decode cX0_apply 37 = .ok (.getfield 14, 3) := by decide +kernel
theorem dX0_apply_40 : decode cX0_apply 40 = .ok (.iload_n 3, 1) := by decide +kernel
theorem dX0_apply_41 : decode cX0_apply 41 = .ok (.iconst 1, 1) := by decide +kernel
theorem dX0_apply_42 : decode cX0_apply 42 = .ok (.invokevirtual 68, 3) := by decide +kernel
theorem dX0_apply_45 : decode cX0_apply 45 = .ok (.goto 31, 3) := by decide +kernel
theorem dX0_apply_48 : decode cX0_apply 48 = .ok (.aload_n 0, 1) := by decide +kernel
theorem dX0_apply_49 : decode cX0_apply 49 = .ok (.getfield 14, 3) := by decide +kernel
theorem dX0_apply_52 : decode cX0_apply 52 = .ok (.iload_n 3, 1) := by decide +kernel
theorem dX0_apply_53 : decode cX0_apply 53 = .ok (.iconst 0, 1) := by decide +kernel
theorem dX0_apply_54 : decode cX0_apply 54 = .ok (.invokevirtual 68, 3) := by decide +kernel
theorem dX0_apply_57 : decode cX0_apply 57 = .ok (.goto 19, 3) := by decide +kernel
theorem dX0_apply_60 : decode cX0_apply 60 = .ok (.aload_n 0, 1) := by decide +kernel
theorem dX0_apply_61 : decode cX0_apply 61 = .ok (.getfield 20, 3) := by decide +kernel
theorem dX0_apply_64 : decode cX0_apply 64 = .ok (.iload_n 3, 1) := by decide +kernel
theorem dX0_apply_65 : decode cX0_apply 65 = .ok (.aload_n 1, 1) := by decide +kernel
theorem dX0_apply_66 : decode cX0_apply 66 = .ok (.iload_n 2, 1) := by decide +kernel
theorem dX0_apply_67 : decode cX0_apply 67 = .ok (.invokevirtual 72, 3) := by decide +kernel
theorem dX0_apply_70 : decode cX0_apply 70 = .ok (.invokevirtual 68, 3) := by decide +kernel
theorem dX0_apply_73 : decode cX0_apply 73 = .ok (.goto 3, 3) := by decide +kernel
theorem dX0_apply_76 : decode cX0_apply 76 = .ok (.return_, 1) := by decide +kernel
set_option maxRecDepth 20000 in
theorem ggX0_collect_X4_totalCount : GoodIn wsX0_collect wsX4_totalCount := goodIn_r _ [8, 9, 48, 49, 50, 51, 52, 53, 54, 55] (by decide +kernel) (by decide +kernel)
set_option maxRecDepth 20000 in
theorem gX0_collect_X4_totalCount : GoodIn wsX0_collect (wsV RX0 26 RX4 yX4_totalCount wsX4_totalCount) := goodIn_app (goodIn_of _ (by decide +kernel)) ggX0_collect_X4_totalCount
set_option maxRecDepth 20000 in
theorem ggX0_collect_X4_inOrder : GoodIn wsX0_collect wsX4_inOrder := goodIn_r _ [13, 14, 15, 16, 17, 18, 19, 20, 48, 49, 50, 51, 52, 53, 54, 55, 56] (by decide +kernel) (by decide +kernel)
set_option maxRecDepth 20000 in
theorem gX0_collect_X4_inOrder : GoodIn wsX0_collect (wsV RX0 44 RX4 yX4_inOrder wsX4_inOrder) := goodIn_app (goodIn_of _ (by decide +kernel)) ggX0_collect_X4_inOrder
set_option maxRecDepth 20000 in
theorem ggX0_collect_X4_isStroke : GoodIn wsX0_collect wsX4_isStroke := goodIn_r _ [24, 25, 15, 16, 17, 18, 19, 20, 48, 49, 50, 51, 52, 53, 54, 55, 56] (by decide +kernel) (by decide +kernel)
set_option maxRecDepth 20000 in
theorem gX0_collect_X4_isStroke : GoodIn wsX0_collect (wsV RX0 75 RX4 yX4_isStroke wsX4_isStroke) := goodIn_app (goodIn_of _ (by decide +kernel)) ggX0_collect_X4_isStroke
set_option maxRecDepth 20000 in
theorem ggX0_collect_X5_get : GoodIn wsX0_collect wsX5_get := goodIn_r _ [19, 20, 56] (by decide +kernel) (by decide +kernel)
set_option maxRecDepth 20000 in
theorem gX0_collect_X5_get : GoodIn wsX0_collect (wsV RX0 79 RX5 yX5_get wsX5_get) := goodIn_app (goodIn_of _ (by decide +kernel)) ggX0_collect_X5_get
set_option maxRecDepth 20000 in
theorem ggX0_collect_X0_isUndone : GoodIn wsX0_collect wsX0_isUndone := goodIn_r _ [31, 32, 26, 16, 17, 18, 19, 20, 44, 45, 46, 47, 56] (by decide +kernel) (by decide +kernel)
set_option maxRecDepth 20000 in
theorem gX0_collect_X0_isUndone : GoodIn wsX0_collect (wsV RX0 82 RX0 yX0_isUndone wsX0_isUndone) := goodIn_app (goodIn_of _ (by decide +kernel)) ggX0_collect_X0_isUndone
set_option maxRecDepth 20000 in
theorem ggX0_collect_X2_has : GoodIn wsX0_collect wsX2_has := goodIn_r _ [37, 38, 39, 16, 17, 18, 19, 20, 57, 56] (by decide +kernel) (by decide +kernel)
set_option maxRecDepth 20000 in
theorem gX0_collect_X2_has : GoodIn wsX0_collect (wsV RX0 48 RX2 yX2_has wsX2_has) := goodIn_app (goodIn_of _ (by decide +kernel)) ggX0_collect_X2_has
set_option maxRecDepth 20000 in
theorem ggX0_collect_X5_set : GoodIn wsX0_collect wsX5_set := goodIn_r _ [43, 20, 56] (by decide +kernel) (by decide +kernel)
set_option maxRecDepth 20000 in
theorem gX0_collect_X5_set : GoodIn wsX0_collect (wsV RX0 68 RX5 yX5_set wsX5_set) := goodIn_app (goodIn_of _ (by decide +kernel)) ggX0_collect_X5_set
theorem dX0_collect_0 : decode cX0_collect 0 = .ok (.aload_n 1, 1) := by decide +kernel
theorem dX0_collect_1 : decode cX0_collect 1 = .ok (.invokevirtual 26, 3) := by decide +kernel
theorem dX0_collect_4 : decode cX0_collect 4 = .ok (.istore 5, 2) := by decide +kernel
theorem dX0_collect_6 : decode cX0_collect 6 = .ok (.iconst 0, 1) := by decide +kernel
theorem dX0_collect_7 : decode cX0_collect 7 = .ok (.istore 6, 2) := by decide +kernel
theorem dX0_collect_9 : decode cX0_collect 9 = .ok (.iload 6, 2) := by decide +kernel
theorem dX0_collect_11 : decode cX0_collect 11 = .ok (.iload 5, 2) := by decide +kernel
theorem dX0_collect_13 : decode cX0_collect 13 = .ok (.if_icmp .ge 82, 3) := by decide +kernel
theorem dX0_collect_16 : decode cX0_collect 16 = .ok (.aload_n 1, 1) := by decide +kernel
theorem dX0_collect_17 : decode cX0_collect 17 = .ok (.iload 6, 2) := by decide +kernel
theorem dX0_collect_19 : decode cX0_collect 19 = .ok (.invokevirtual 44, 3) := by decide +kernel
theorem dX0_collect_22 : decode cX0_collect 22 = .ok (.istore 7, 2) := by decide +kernel
theorem dX0_collect_24 : decode cX0_collect 24 = .ok (.aload_n 1, 1) := by decide +kernel
theorem dX0_collect_25 : decode cX0_collect 25 = .ok (.iload 7, 2) := by decide +kernel
theorem dX0_collect_27 : decode cX0_collect 27 = .ok (.invokevirtual 75, 3) := by decide +kernel
theorem dX0_collect_30 : decode cX0_collect 30 = .ok (.ifCond .eq 59, 3) := by decide +kernel
theorem dX0_collect_33 : decode cX0_collect 33 = .ok (.aload_n 0, 1) := by decide +kernel
theorem dX0_collect_34 : decode cX0_collect 34 = .ok (.getfield 20, 3) := by decide +kernel
theorem dX0_collect_37 : decode cX0_collect 37 = .ok (.iload 7, 2) := by decide +kernel
theorem dX0_collect_39 : decode cX0_collect 39 = .ok (.invokevirtual 79, 3) := by decide +kernel
theorem dX0_collect_42 : decode cX0_collect 42 = .ok (.iload 4, 2) := by decide +kernel
theorem dX0_collect_44 : decode cX0_collect 44 = .ok (.if_icmp .ne 45, 3) := by decide +kernel
theorem dX0_collect_47 : decode cX0_collect 47 = .ok (.aload_n 0, 1) := by decide +kernel
theorem dX0_collect_48 : decode cX0_collect 48 = .ok (.iload 7, 2) := by decide +kernel
theorem dX0_collect_50 : decode cX0_collect 50 = .ok (.invokevirtual 82, 3) := by decide +kernel
theorem dX0_collect_53 : decode cX0_collect 53 = .ok (.ifCond .ne 36, 3) := by decide +kernel
theorem dX0_collect_56 : decode cX0_collect 56 = .ok (.aload_n 2, 1) := by decide +kernel
theorem dX0_collect_57 : decode cX0_collect 57 = .ok (.iload_n 3, 1) := by decide +kernel
theorem dX0_collect_58 : decode cX0_collect 58 = .ok (.iload 7, 2) := by decide +kernel
theorem dX0_collect_60 : decode cX0_collect 60 = .ok (.invokevirtual 48, 3) := by decide +kernel
theorem dX0_collect_63 : decode cX0_collect 63 = .ok (.ifCond .eq 26, 3) := by decide +kernel
theorem dX0_collect_66 : decode cX0_collect 66 = .ok (.aload_n 0, 1) := by decide +kernel
theorem dX0_collect_67 : decode cX0_collect 67 = .ok (.getfield 23, 3) := by decide +kernel
theorem dX0_collect_70 : decode cX0_collect 70 = .ok (.aload_n 0, 1) := by decide +kernel
theorem dX0_collect_71 : decode cX0_collect 71 = .ok (.getfield 40, 3) := by decide +kernel
theorem dX0_collect_74 : decode cX0_collect 74 = .ok (.iload 7, 2) := by decide +kernel
theorem dX0_collect_76 : decode cX0_collect 76 = .ok (.invokevirtual 68, 3) := by decide +kernel
theorem dX0_collect_79 : decode cX0_collect 79 = .ok (.aload_n 0, 1) := by decide +kernel
theorem dX0_collect_80 : decode cX0_collect 80 = .ok (.dup, 1) := by decide +kernel
theorem dX0_collect_81 : decode cX0_collect 81 = .ok (.getfield 40, 3) := by decide +kernel
theorem dX0_collect_84 : decode cX0_collect 84 = .ok (.iconst 1, 1) := by decide +kernel
theorem dX0_collect_85 : decode cX0_collect 85 = .ok (.iadd, 1) := by decide +kernel
theorem dX0_collect_86 : decode cX0_collect 86 = .ok (.putfield 40, 3) := by decide +kernel
theorem dX0_collect_89 : decode cX0_collect 89 = .ok (.iinc 6 1, 3) := by decide +kernel
theorem dX0_collect_92 : decode cX0_collect 92 = .ok (.goto (-83), 3) := by decide +kernel
theorem dX0_collect_95 : decode cX0_collect 95 = .ok (.return_, 1) := by decide +kernel
set_option maxRecDepth 20000 in
theorem ggX0_isUndone_X5_get : GoodIn wsX0_isUndone wsX5_get := goodIn_r _ [6, 7, 12] (by decide +kernel) (by decide +kernel)
set_option maxRecDepth 20000 in
theorem gX0_isUndone_X5_get : GoodIn wsX0_isUndone (wsV RX0 79 RX5 yX5_get wsX5_get) := goodIn_app (goodIn_of _ (by decide +kernel)) ggX0_isUndone_X5_get
theorem dX0_isUndone_0 : decode cX0_isUndone 0 = .ok (.aload_n 0, 1) := by decide +kernel
theorem dX0_isUndone_1 : decode cX0_isUndone 1 = .ok (.getfield 14, 3) := by decide +kernel
theorem dX0_isUndone_4 : decode cX0_isUndone 4 = .ok (.iload_n 1, 1) := by decide +kernel
theorem dX0_isUndone_5 : decode cX0_isUndone 5 = .ok (.invokevirtual 79, 3) := by decide +kernel
theorem dX0_isUndone_8 : decode cX0_isUndone 8 = .ok (.iconst 1, 1) := by decide +kernel
theorem dX0_isUndone_9 : decode cX0_isUndone 9 = .ok (.if_icmp .ne 7, 3) := by decide +kernel
theorem dX0_isUndone_12 : decode cX0_isUndone 12 = .ok (.iconst 1, 1) := by decide +kernel
theorem dX0_isUndone_13 : decode cX0_isUndone 13 = .ok (.goto 4, 3) := by decide +kernel
theorem dX0_isUndone_16 : decode cX0_isUndone 16 = .ok (.iconst 0, 1) := by decide +kernel
theorem dX0_isUndone_17 : decode cX0_isUndone 17 = .ok (.ireturn, 1) := by decide +kernel
theorem dX0_strokeCount_0 : decode cX0_strokeCount 0 = .ok (.aload_n 0, 1) := by decide +kernel
theorem dX0_strokeCount_1 : decode cX0_strokeCount 1 = .ok (.getfield 40, 3) := by decide +kernel
theorem dX0_strokeCount_4 : decode cX0_strokeCount 4 = .ok (.ireturn, 1) := by decide +kernel
set_option maxRecDepth 20000 in
theorem ggX0_strokeIn_X5_get : GoodIn wsX0_strokeIn wsX5_get := goodIn_r _ [6, 7, 12] (by decide +kernel) (by decide +kernel)
set_option maxRecDepth 20000 in
theorem gX0_strokeIn_X5_get : GoodIn wsX0_strokeIn (wsV RX0 79 RX5 yX5_get wsX5_get) := goodIn_app (goodIn_of _ (by decide +kernel)) ggX0_strokeIn_X5_get
theorem dX0_strokeIn_0 : decode cX0_strokeIn 0 = .ok (.aload_n 0, 1) := by decide +kernel
theorem dX0_strokeIn_1 : decode cX0_strokeIn 1 = .ok (.getfield 23, 3) := by decide +kernel
theorem dX0_strokeIn_4 : decode cX0_strokeIn 4 = .ok (.iload_n 1, 1) := by decide +kernel
theorem dX0_strokeIn_5 : decode cX0_strokeIn 5 = .ok (.invokevirtual 79, 3) := by decide +kernel
theorem dX0_strokeIn_8 : decode cX0_strokeIn 8 = .ok (.ireturn, 1) := by decide +kernel
set_option maxRecDepth 20000 in
theorem ggX0_layerOf_X5_get : GoodIn wsX0_layerOf wsX5_get := goodIn_r _ [6, 7, 12] (by decide +kernel) (by decide +kernel)
set_option maxRecDepth 20000 in
theorem gX0_layerOf_X5_get : GoodIn wsX0_layerOf (wsV RX0 79 RX5 yX5_get wsX5_get) := goodIn_app (goodIn_of _ (by decide +kernel)) ggX0_layerOf_X5_get
theorem dX0_layerOf_0 : decode cX0_layerOf 0 = .ok (.aload_n 0, 1) := by decide +kernel
theorem dX0_layerOf_1 : decode cX0_layerOf 1 = .ok (.getfield 20, 3) := by decide +kernel
theorem dX0_layerOf_4 : decode cX0_layerOf 4 = .ok (.iload_n 1, 1) := by decide +kernel
theorem dX0_layerOf_5 : decode cX0_layerOf 5 = .ok (.invokevirtual 79, 3) := by decide +kernel
theorem dX0_layerOf_8 : decode cX0_layerOf 8 = .ok (.ireturn, 1) := by decide +kernel
set_option maxRecDepth 20000 in
theorem ggX0_matches_X5_get : GoodIn wsX0_matches wsX5_get := goodIn_r _ [8, 9, 23] (by decide +kernel) (by decide +kernel)
set_option maxRecDepth 20000 in
theorem gX0_matches_X5_get : GoodIn wsX0_matches (wsV RX0 79 RX5 yX5_get wsX5_get) := goodIn_app (goodIn_of _ (by decide +kernel)) ggX0_matches_X5_get
set_option maxRecDepth 20000 in
theorem ggX0_matches_X0_strokeIn : GoodIn wsX0_matches wsX0_strokeIn := goodIn_r _ [14, 2, 4, 5, 6, 7, 8, 9, 19, 20, 21, 22, 23] (by decide +kernel) (by decide +kernel)
set_option maxRecDepth 20000 in
theorem gX0_matches_X0_strokeIn : GoodIn wsX0_matches (wsV RX0 85 RX0 yX0_strokeIn wsX0_strokeIn) := goodIn_app (goodIn_of _ (by decide +kernel)) ggX0_matches_X0_strokeIn
set_option maxRecDepth 20000 in
theorem ggX0_matches_X0_layerOf : GoodIn wsX0_matches wsX0_layerOf := goodIn_r _ [18, 3, 4, 5, 6, 7, 8, 9, 19, 20, 21, 22, 23] (by decide +kernel) (by decide +kernel)
set_option maxRecDepth 20000 in
theorem gX0_matches_X0_layerOf : GoodIn wsX0_matches (wsV RX0 88 RX0 yX0_layerOf wsX0_layerOf) := goodIn_app (goodIn_of _ (by decide +kernel)) ggX0_matches_X0_layerOf
theorem dX0_matches_0 : decode cX0_matches 0 = .ok (.aload_n 0, 1) := by decide +kernel
theorem dX0_matches_1 : decode cX0_matches 1 = .ok (.getfield 40, 3) := by decide +kernel
theorem dX0_matches_4 : decode cX0_matches 4 = .ok (.aload_n 1, 1) := by decide +kernel
theorem dX0_matches_5 : decode cX0_matches 5 = .ok (.getfield 40, 3) := by decide +kernel
theorem dX0_matches_8 : decode cX0_matches 8 = .ok (.if_icmp .eq 5, 3) := by decide +kernel
theorem dX0_matches_11 : decode cX0_matches 11 = .ok (.iconst 0, 1) := by decide +kernel
theorem dX0_matches_12 : decode cX0_matches 12 = .ok (.ireturn, 1) := by decide +kernel
theorem dX0_matches_13 : decode cX0_matches 13 = .ok (.iconst 0, 1) := by decide +kernel
theorem dX0_matches_14 : decode cX0_matches 14 = .ok (.istore_n 2, 1) := by decide +kernel
theorem dX0_matches_15 : decode cX0_matches 15 = .ok (.iload_n 2, 1) := by decide +kernel
theorem dX0_matches_16 : decode cX0_matches 16 = .ok (.aload_n 0, 1) := by decide +kernel
theorem dX0_matches_17 : decode cX0_matches 17 = .ok (.getfield 40, 3) := by decide +kernel
theorem dX0_matches_20 : decode cX0_matches 20 = .ok (.if_icmp .ge 45, 3) := by decide +kernel
theorem dX0_matches_23 : decode cX0_matches 23 = .ok (.aload_n 0, 1) := by decide +kernel
theorem dX0_matches_24 : decode cX0_matches 24 = .ok (.getfield 23, 3) := by decide +kernel
theorem dX0_matches_27 : decode cX0_matches 27 = .ok (.iload_n 2, 1) := by decide +kernel
theorem dX0_matches_28 : decode cX0_matches 28 = .ok (.invokevirtual 79, 3) := by decide +kernel
theorem dX0_matches_31 : decode cX0_matches 31 = .ok (.istore_n 3, 1) := by decide +kernel
theorem dX0_matches_32 : decode cX0_matches 32 = .ok (.iload_n 3, 1) := by decide +kernel
theorem dX0_matches_33 : decode cX0_matches 33 = .ok (.aload_n 1, 1) := by decide +kernel
theorem dX0_matches_34 : decode cX0_matches 34 = .ok (.iload_n 2, 1) := by decide +kernel
theorem dX0_matches_35 : decode cX0_matches 35 = .ok (.invokevirtual 85, 3) := by decide +kernel
theorem dX0_matches_38 : decode cX0_matches 38 = .ok (.if_icmp .ne 19, 3) := by decide +kernel
theorem dX0_matches_41 : decode cX0_matches 41 = .ok (.aload_n 0, 1) := by decide +kernel
theorem dX0_matches_42 : decode cX0_matches 42 = .ok (.getfield 20, 3) := by decide +kernel
theorem dX0_matches_45 : decode cX0_matches 45 = .ok (.iload_n 3, 1) := by decide +kernel
theorem dX0_matches_46 : decode cX0_matches 46 = .ok (.invokevirtual 79, 3) := by decide +kernel
theorem dX0_matches_49 : decode cX0_matches 49 = .ok (.aload_n 1, 1) := by decide +kernel
theorem dX0_matches_50 : decode cX0_matches 50 = .ok (.iload_n 3, 1) := by decide +kernel
theorem dX0_matches_51 : decode cX0_matches 51 = .ok (.invokevirtual 88, 3) := by decide +kernel
theorem dX0_matches_54 : decode cX0_matches 54 = .ok (.if_icmp .eq 5, 3) := by decide +kernel
theorem dX0_matches_57 : decode cX0_matches 57 = .ok (.iconst 0, 1) := by decide +kernel
theorem dX0_matches_58 : decode cX0_matches 58 = .ok (.ireturn, 1) := by decide +kernel
theorem dX0_matches_59 : decode cX0_matches 59 = .ok (.iinc 2 1, 3) := by decide +kernel
theorem dX0_matches_62 : decode cX0_matches 62 = .ok (.goto (-47), 3) := by decide +kernel
theorem dX0_matches_65 : decode cX0_matches 65 = .ok (.iconst 1, 1) := by decide +kernel
theorem dX0_matches_66 : decode cX0_matches 66 = .ok (.ireturn, 1) := by decide +kernel
set_option maxRecDepth 20000 in
theorem ggX0_hash_X5_get : GoodIn wsX0_hash wsX5_get := goodIn_r _ [8, 9, 54] (by decide +kernel) (by decide +kernel)
set_option maxRecDepth 20000 in
theorem gX0_hash_X5_get : GoodIn wsX0_hash (wsV RX0 79 RX5 yX5_get wsX5_get) := goodIn_app (goodIn_of _ (by decide +kernel)) ggX0_hash_X5_get
set_option maxRecDepth 20000 in
theorem ggX0_hash_X6_authorOf : GoodIn wsX0_hash wsX6_authorOf := goodIn_r _ [12] (by decide +kernel) (by decide +kernel)
set_option maxRecDepth 20000 in
theorem gX0_hash_X6_authorOf_n89 : GoodIn wsX0_hash (wsX6_authorOf) := ggX0_hash_X6_authorOf
set_option maxRecDepth 20000 in
theorem ggX0_hash_X6_numberOf : GoodIn wsX0_hash wsX6_numberOf := goodIn_r _ [14] (by decide +kernel) (by decide +kernel)
set_option maxRecDepth 20000 in
theorem gX0_hash_X6_numberOf_n92 : GoodIn wsX0_hash (wsX6_numberOf) := ggX0_hash_X6_numberOf
set_option maxRecDepth 20000 in
theorem ggX0_hash_X1_colorOf : GoodIn wsX0_hash wsX1_colorOf := goodIn_r _ [19, 20, 21, 5, 6, 7, 8, 9, 55, 56, 57, 58, 59, 54] (by decide +kernel) (by decide +kernel)
set_option maxRecDepth 20000 in
theorem gX0_hash_X1_colorOf : GoodIn wsX0_hash (wsV RX0 99 RX1 yX1_colorOf wsX1_colorOf) := goodIn_app (goodIn_of _ (by decide +kernel)) ggX0_hash_X1_colorOf
set_option maxRecDepth 20000 in
theorem ggX0_hash_X0_hashPoints : GoodIn wsX0_hash wsX0_hashPoints := goodIn_r _ [26, 27, 28, 29, 18, 30, 31, 21, 5, 6, 7, 8, 9, 32, 33, 34, 35, 36, 37, 38, 39, 40, 41, 55, 56, 57, 58, 59, 54] (by decide +kernel) (by decide +kernel)
set_option maxRecDepth 20000 in
theorem gX0_hash_X0_hashPoints : GoodIn wsX0_hash (wsV RX0 104 RX0 yX0_hashPoints wsX0_hashPoints) := goodIn_app (goodIn_of _ (by decide +kernel)) ggX0_hash_X0_hashPoints
theorem dX0_hash_0 : decode cX0_hash 0 = .ok (.bipush 17, 2) := by decide +kernel
theorem dX0_hash_2 : decode cX0_hash 2 = .ok (.istore_n 2, 1) := by decide +kernel
theorem dX0_hash_3 : decode cX0_hash 3 = .ok (.iconst 0, 1) := by decide +kernel
theorem dX0_hash_4 : decode cX0_hash 4 = .ok (.istore_n 3, 1) := by decide +kernel
theorem dX0_hash_5 : decode cX0_hash 5 = .ok (.iload_n 3, 1) := by decide +kernel
theorem dX0_hash_6 : decode cX0_hash 6 = .ok (.aload_n 0, 1) := by decide +kernel
theorem dX0_hash_7 : decode cX0_hash 7 = .ok (.getfield 40, 3) := by decide +kernel
theorem dX0_hash_10 : decode cX0_hash 10 = .ok (.if_icmp .ge 83, 3) := by decide +kernel
theorem dX0_hash_13 : decode cX0_hash 13 = .ok (.aload_n 0, 1) := by decide +kernel
theorem dX0_hash_14 : decode cX0_hash 14 = .ok (.getfield 23, 3) := by decide +kernel
theorem dX0_hash_17 : decode cX0_hash 17 = .ok (.iload_n 3, 1) := by decide +kernel
theorem dX0_hash_18 : decode cX0_hash 18 = .ok (.invokevirtual 79, 3) := by decide +kernel
theorem dX0_hash_21 : decode cX0_hash 21 = .ok (.istore 4, 2) := by decide +kernel
theorem dX0_hash_23 : decode cX0_hash 23 = .ok (.bipush 31, 2) := by decide +kernel
theorem dX0_hash_25 : decode cX0_hash 25 = .ok (.iload_n 2, 1) := by decide +kernel
theorem dX0_hash_26 : decode cX0_hash 26 = .ok (.imul, 1) := by decide +kernel
theorem dX0_hash_27 : decode cX0_hash 27 = .ok (.iload 4, 2) := by decide +kernel
theorem dX0_hash_29 : decode cX0_hash 29 = .ok (.invokestatic 89, 3) := by decide +kernel
theorem dX0_hash_32 : decode cX0_hash 32 = .ok (.iadd, 1) := by decide +kernel
theorem dX0_hash_33 : decode cX0_hash 33 = .ok (.istore_n 2, 1) := by decide +kernel
theorem dX0_hash_34 : decode cX0_hash 34 = .ok (.bipush 31, 2) := by decide +kernel
theorem dX0_hash_36 : decode cX0_hash 36 = .ok (.iload_n 2, 1) := by decide +kernel
theorem dX0_hash_37 : decode cX0_hash 37 = .ok (.imul, 1) := by decide +kernel
theorem dX0_hash_38 : decode cX0_hash 38 = .ok (.iload 4, 2) := by decide +kernel
theorem dX0_hash_40 : decode cX0_hash 40 = .ok (.invokestatic 92, 3) := by decide +kernel
theorem dX0_hash_43 : decode cX0_hash 43 = .ok (.iadd, 1) := by decide +kernel
theorem dX0_hash_44 : decode cX0_hash 44 = .ok (.istore_n 2, 1) := by decide +kernel
theorem dX0_hash_45 : decode cX0_hash 45 = .ok (.bipush 31, 2) := by decide +kernel
theorem dX0_hash_47 : decode cX0_hash 47 = .ok (.iload_n 2, 1) := by decide +kernel
theorem dX0_hash_48 : decode cX0_hash 48 = .ok (.imul, 1) := by decide +kernel
theorem dX0_hash_49 : decode cX0_hash 49 = .ok (.aload_n 0, 1) := by decide +kernel
theorem dX0_hash_50 : decode cX0_hash 50 = .ok (.getfield 20, 3) := by decide +kernel
theorem dX0_hash_53 : decode cX0_hash 53 = .ok (.iload 4, 2) := by decide +kernel
theorem dX0_hash_55 : decode cX0_hash 55 = .ok (.invokevirtual 79, 3) := by decide +kernel
theorem dX0_hash_58 : decode cX0_hash 58 = .ok (.iadd, 1) := by decide +kernel
theorem dX0_hash_59 : decode cX0_hash 59 = .ok (.istore_n 2, 1) := by decide +kernel
theorem dX0_hash_60 : decode cX0_hash 60 = .ok (.bipush 31, 2) := by decide +kernel
theorem dX0_hash_62 : decode cX0_hash 62 = .ok (.iload_n 2, 1) := by decide +kernel
theorem dX0_hash_63 : decode cX0_hash 63 = .ok (.imul, 1) := by decide +kernel
theorem dX0_hash_64 : decode cX0_hash 64 = .ok (.aload_n 1, 1) := by decide +kernel
theorem dX0_hash_65 : decode cX0_hash 65 = .ok (.getfield 95, 3) := by decide +kernel
theorem dX0_hash_68 : decode cX0_hash 68 = .ok (.iload 4, 2) := by decide +kernel
theorem dX0_hash_70 : decode cX0_hash 70 = .ok (.invokevirtual 99, 3) := by decide +kernel
theorem dX0_hash_73 : decode cX0_hash 73 = .ok (.iadd, 1) := by decide +kernel
theorem dX0_hash_74 : decode cX0_hash 74 = .ok (.istore_n 2, 1) := by decide +kernel
theorem dX0_hash_75 : decode cX0_hash 75 = .ok (.aload_n 0, 1) := by decide +kernel
theorem dX0_hash_76 : decode cX0_hash 76 = .ok (.iload_n 2, 1) := by decide +kernel
theorem dX0_hash_77 : decode cX0_hash 77 = .ok (.aload_n 1, 1) := by decide +kernel
theorem dX0_hash_78 : decode cX0_hash 78 = .ok (.getfield 95, 3) := by decide +kernel
theorem dX0_hash_81 : decode cX0_hash 81 = .ok (.iload 4, 2) := by decide +kernel
theorem dX0_hash_83 : decode cX0_hash 83 = .ok (.invokevirtual 104, 3) := by decide +kernel
theorem dX0_hash_86 : decode cX0_hash 86 = .ok (.istore_n 2, 1) := by decide +kernel
theorem dX0_hash_87 : decode cX0_hash 87 = .ok (.iinc 3 1, 3) := by decide +kernel
theorem dX0_hash_90 : decode cX0_hash 90 = .ok (.goto (-85), 3) := by decide +kernel
theorem dX0_hash_93 : decode cX0_hash 93 = .ok (.iload_n 2, 1) := by decide +kernel
theorem dX0_hash_94 : decode cX0_hash 94 = .ok (.ireturn, 1) := by decide +kernel
set_option maxRecDepth 20000 in
theorem ggX0_hashPoints_X1_pointCount : GoodIn wsX0_hashPoints wsX1_pointCount := goodIn_r _ [5, 6, 7, 8, 9, 10, 11, 12, 23, 24, 25, 26, 27, 28] (by decide +kernel) (by decide +kernel)
set_option maxRecDepth 20000 in
theorem gX0_hashPoints_X1_pointCount : GoodIn wsX0_hashPoints (wsV RX0 108 RX1 yX1_pointCount wsX1_pointCount) := goodIn_app (goodIn_of _ (by decide +kernel)) ggX0_hashPoints_X1_pointCount
set_option maxRecDepth 20000 in
theorem ggX0_hashPoints_X1_xOf : GoodIn wsX0_hashPoints wsX1_xOf := goodIn_r _ [16, 17, 7, 8, 9, 10, 11, 12, 23, 24, 25, 26, 27, 28] (by decide +kernel) (by decide +kernel)
set_option maxRecDepth 20000 in
theorem gX0_hashPoints_X1_xOf : GoodIn wsX0_hashPoints (wsV RX0 111 RX1 yX1_xOf wsX1_xOf) := goodIn_app (goodIn_of _ (by decide +kernel)) ggX0_hashPoints_X1_xOf
set_option maxRecDepth 20000 in
theorem ggX0_hashPoints_X1_yOf : GoodIn wsX0_hashPoints wsX1_yOf := goodIn_r _ [21, 22, 7, 8, 9, 10, 11, 12, 23, 24, 25, 26, 27, 28] (by decide +kernel) (by decide +kernel)
set_option maxRecDepth 20000 in
theorem gX0_hashPoints_X1_yOf : GoodIn wsX0_hashPoints (wsV RX0 115 RX1 yX1_yOf wsX1_yOf) := goodIn_app (goodIn_of _ (by decide +kernel)) ggX0_hashPoints_X1_yOf
theorem dX0_hashPoints_0 : decode cX0_hashPoints 0 = .ok (.iload_n 1, 1) := by decide +kernel
theorem dX0_hashPoints_1 : decode cX0_hashPoints 1 = .ok (.istore 4, 2) := by decide +kernel
theorem dX0_hashPoints_3 : decode cX0_hashPoints 3 = .ok (.iconst 0, 1) := by decide +kernel
theorem dX0_hashPoints_4 : decode cX0_hashPoints 4 = .ok (.istore 5, 2) := by decide +kernel
theorem dX0_hashPoints_6 : decode cX0_hashPoints 6 = .ok (.iload 5, 2) := by decide +kernel
theorem dX0_hashPoints_8 : decode cX0_hashPoints 8 = .ok (.aload_n 2, 1) := by decide +kernel
theorem dX0_hashPoints_9 : decode cX0_hashPoints 9 = .ok (.iload_n 3, 1) := by decide +kernel
theorem dX0_hashPoints_10 : decode cX0_hashPoints 10 = .ok (.invokevirtual 108, 3) := by decide +kernel
theorem dX0_hashPoints_13 : decode cX0_hashPoints 13 = .ok (.if_icmp .ge 39, 3) := by decide +kernel
theorem dX0_hashPoints_16 : decode cX0_hashPoints 16 = .ok (.bipush 31, 2) := by decide +kernel
theorem dX0_hashPoints_18 : decode cX0_hashPoints 18 = .ok (.iload 4, 2) := by decide +kernel
theorem dX0_hashPoints_20 : decode cX0_hashPoints 20 = .ok (.imul, 1) := by decide +kernel
theorem dX0_hashPoints_21 : decode cX0_hashPoints 21 = .ok (.aload_n 2, 1) := by decide +kernel
theorem dX0_hashPoints_22 : decode cX0_hashPoints 22 = .ok (.iload_n 3, 1) := by decide +kernel
theorem dX0_hashPoints_23 : decode cX0_hashPoints 23 = .ok (.iload 5, 2) := by decide +kernel
theorem dX0_hashPoints_25 : decode cX0_hashPoints 25 = .ok (.invokevirtual 111, 3) := by decide +kernel
theorem dX0_hashPoints_28 : decode cX0_hashPoints 28 = .ok (.iadd, 1) := by decide +kernel
theorem dX0_hashPoints_29 : decode cX0_hashPoints 29 = .ok (.istore 4, 2) := by decide +kernel
theorem dX0_hashPoints_31 : decode cX0_hashPoints 31 = .ok (.bipush 31, 2) := by decide +kernel
theorem dX0_hashPoints_33 : decode cX0_hashPoints 33 = .ok (.iload 4, 2) := by decide +kernel
theorem dX0_hashPoints_35 : decode cX0_hashPoints 35 = .ok (.imul, 1) := by decide +kernel
theorem dX0_hashPoints_36 : decode cX0_hashPoints 36 = .ok (.aload_n 2, 1) := by decide +kernel
theorem dX0_hashPoints_37 : decode cX0_hashPoints 37 = .ok (.iload_n 3, 1) := by decide +kernel
theorem dX0_hashPoints_38 : decode cX0_hashPoints 38 = .ok (.iload 5, 2) := by decide +kernel
theorem dX0_hashPoints_40 : decode cX0_hashPoints 40 = .ok (.invokevirtual 115, 3) := by decide +kernel
theorem dX0_hashPoints_43 : decode cX0_hashPoints 43 = .ok (.iadd, 1) := by decide +kernel
theorem dX0_hashPoints_44 : decode cX0_hashPoints 44 = .ok (.istore 4, 2) := by decide +kernel
theorem dX0_hashPoints_46 : decode cX0_hashPoints 46 = .ok (.iinc 5 1, 3) := by decide +kernel
theorem dX0_hashPoints_49 : decode cX0_hashPoints 49 = .ok (.goto (-43), 3) := by decide +kernel
theorem dX0_hashPoints_52 : decode cX0_hashPoints 52 = .ok (.iload 4, 2) := by decide +kernel
theorem dX0_hashPoints_54 : decode cX0_hashPoints 54 = .ok (.ireturn, 1) := by decide +kernel
set_option maxRecDepth 20000 in
theorem ggX1_init_X5_init : GoodIn wsX1_init wsX5_init := goodIn_r _ [14, 15, 2, 3, 16, 17, 18, 19, 20, 21, 22] (by decide +kernel) (by decide +kernel)
set_option maxRecDepth 20000 in
theorem gX1_init_X5_init : GoodIn wsX1_init (wsX5_init) := ggX1_init_X5_init
theorem dX1_init_0 : decode cX1_init 0 = .ok (.aload_n 0, 1) := by decide +kernel
theorem dX1_init_1 : decode cX1_init 1 = .ok (.invokespecial 3, 3) := by decide +kernel
theorem dX1_init_4 : decode cX1_init 4 = .ok (.aload_n 0, 1) := by decide +kernel
theorem dX1_init_5 : decode cX1_init 5 = .ok (.new 9, 3) := by decide +kernel
theorem dX1_init_8 : decode cX1_init 8 = .ok (.dup, 1) := by decide +kernel
theorem dX1_init_9 : decode cX1_init 9 = .ok (.iload_n 1, 1) := by decide +kernel
theorem dX1_init_10 : decode cX1_init 10 = .ok (.invokespecial 11, 3) := by decide +kernel
theorem dX1_init_13 : decode cX1_init 13 = .ok (.putfield 14, 3) := by decide +kernel
theorem dX1_init_16 : decode cX1_init 16 = .ok (.aload_n 0, 1) := by decide +kernel
theorem dX1_init_17 : decode cX1_init 17 = .ok (.new 9, 3) := by decide +kernel
theorem dX1_init_20 : decode cX1_init 20 = .ok (.dup, 1) := by decide +kernel
theorem dX1_init_21 : decode cX1_init 21 = .ok (.iload_n 1, 1) := by decide +kernel
theorem dX1_init_22 : decode cX1_init 22 = .ok (.invokespecial 11, 3) := by decide +kernel
theorem dX1_init_25 : decode cX1_init 25 = .ok (.putfield 20, 3) := by decide +kernel
theorem dX1_init_28 : decode cX1_init 28 = .ok (.aload_n 0, 1) := by decide +kernel
theorem dX1_init_29 : decode cX1_init 29 = .ok (.new 9, 3) := by decide +kernel
theorem dX1_init_32 : decode cX1_init 32 = .ok (.dup, 1) := by decide +kernel
theorem dX1_init_33 : decode cX1_init 33 = .ok (.iload_n 1, 1) := by decide +kernel
theorem dX1_init_34 : decode cX1_init 34 = .ok (.invokespecial 11, 3) := by decide +kernel
theorem dX1_init_37 : decode cX1_init 37 = .ok (.putfield 23, 3) := by decide +kernel
theorem dX1_init_40 : decode cX1_init 40 = .ok (.aload_n 0, 1) := by decide +kernel
theorem dX1_init_41 : decode cX1_init 41 = .ok (.new 9, 3) := by decide +kernel
theorem dX1_init_44 : decode cX1_init 44 = .ok (.dup, 1) := by decide +kernel
theorem dX1_init_45 : decode cX1_init 45 = .ok (.iload_n 1, 1) := by decide +kernel
theorem dX1_init_46 : decode cX1_init 46 = .ok (.bipush 8, 2) := by decide +kernel
theorem dX1_init_48 : decode cX1_init 48 = .ok (.imul, 1) := by decide +kernel
theorem dX1_init_49 : decode cX1_init 49 = .ok (.invokespecial 11, 3) := by decide +kernel
theorem dX1_init_52 : decode cX1_init 52 = .ok (.putfield 26, 3) := by decide +kernel
theorem dX1_init_55 : decode cX1_init 55 = .ok (.aload_n 0, 1) := by decide +kernel
theorem dX1_init_56 : decode cX1_init 56 = .ok (.new 9, 3) := by decide +kernel
theorem dX1_init_59 : decode cX1_init 59 = .ok (.dup, 1) := by decide +kernel
theorem dX1_init_60 : decode cX1_init 60 = .ok (.iload_n 1, 1) := by decide +kernel
theorem dX1_init_61 : decode cX1_init 61 = .ok (.bipush 8, 2) := by decide +kernel
theorem dX1_init_63 : decode cX1_init 63 = .ok (.imul, 1) := by decide +kernel
theorem dX1_init_64 : decode cX1_init 64 = .ok (.invokespecial 11, 3) := by decide +kernel
theorem dX1_init_67 : decode cX1_init 67 = .ok (.putfield 29, 3) := by decide +kernel
theorem dX1_init_70 : decode cX1_init 70 = .ok (.return_, 1) := by decide +kernel
set_option maxRecDepth 20000 in
theorem ggX1_clear_X5_fill : GoodIn wsX1_clear wsX5_fill := goodIn_r _ [6, 7, 13] (by decide +kernel) (by decide +kernel)
set_option maxRecDepth 20000 in
theorem gX1_clear_X5_fill : GoodIn wsX1_clear (wsV RX1 32 RX5 yX5_fill wsX5_fill) := goodIn_app (goodIn_of _ (by decide +kernel)) ggX1_clear_X5_fill
theorem dX1_clear_0 : decode cX1_clear 0 = .ok (.aload_n 0, 1) := by decide +kernel
theorem dX1_clear_1 : decode cX1_clear 1 = .ok (.getfield 14, 3) := by decide +kernel
theorem dX1_clear_4 : decode cX1_clear 4 = .ok (.iconst 0, 1) := by decide +kernel
theorem dX1_clear_5 : decode cX1_clear 5 = .ok (.invokevirtual 32, 3) := by decide +kernel
theorem dX1_clear_8 : decode cX1_clear 8 = .ok (.return_, 1) := by decide +kernel
set_option maxRecDepth 20000 in
theorem ggX1_empty_X5_set : GoodIn wsX1_empty wsX5_set := goodIn_r _ [6, 7, 13] (by decide +kernel) (by decide +kernel)
set_option maxRecDepth 20000 in
theorem gX1_empty_X5_set : GoodIn wsX1_empty (wsV RX1 35 RX5 yX5_set wsX5_set) := goodIn_app (goodIn_of _ (by decide +kernel)) ggX1_empty_X5_set
theorem dX1_empty_0 : decode cX1_empty 0 = .ok (.aload_n 0, 1) := by decide +kernel
theorem dX1_empty_1 : decode cX1_empty 1 = .ok (.getfield 14, 3) := by decide +kernel
theorem dX1_empty_4 : decode cX1_empty 4 = .ok (.iload_n 1, 1) := by decide +kernel
theorem dX1_empty_5 : decode cX1_empty 5 = .ok (.iconst 0, 1) := by decide +kernel
theorem dX1_empty_6 : decode cX1_empty 6 = .ok (.invokevirtual 35, 3) := by decide +kernel
theorem dX1_empty_9 : decode cX1_empty 9 = .ok (.return_, 1) := by decide +kernel
set_option maxRecDepth 20000 in
theorem ggX1_start_X1_empty : GoodIn wsX1_start wsX1_empty := goodIn_r _ [7, 8, 9, 10, 11, 12, 13, 14, 15, 16, 17, 18, 19, 20] (by decide +kernel) (by decide +kernel)
set_option maxRecDepth 20000 in
theorem gX1_start_X1_empty : GoodIn wsX1_start (wsV RX1 39 RX1 yX1_empty wsX1_empty) := goodIn_app (goodIn_of _ (by decide +kernel)) ggX1_start_X1_empty
set_option maxRecDepth 20000 in
theorem ggX1_start_X5_set : GoodIn wsX1_start wsX5_set := goodIn_r _ [13, 14, 20] (by decide +kernel) (by decide +kernel)
set_option maxRecDepth 20000 in
theorem gX1_start_X5_set : GoodIn wsX1_start (wsV RX1 35 RX5 yX5_set wsX5_set) := goodIn_app (goodIn_of _ (by decide +kernel)) ggX1_start_X5_set
theorem dX1_start_0 : decode cX1_start 0 = .ok (.aload_n 0, 1) := by decide +kernel
theorem dX1_start_1 : decode cX1_start 1 = .ok (.iload_n 1, 1) := by decide +kernel
theorem dX1_start_2 : decode cX1_start 2 = .ok (.invokevirtual 39, 3) := by decide +kernel
theorem dX1_start_5 : decode cX1_start 5 = .ok (.aload_n 0, 1) := by decide +kernel
theorem dX1_start_6 : decode cX1_start 6 = .ok (.getfield 20, 3) := by decide +kernel
theorem dX1_start_9 : decode cX1_start 9 = .ok (.iload_n 1, 1) := by decide +kernel
theorem dX1_start_10 : decode cX1_start 10 = .ok (.iload_n 2, 1) := by decide +kernel
theorem dX1_start_11 : decode cX1_start 11 = .ok (.invokevirtual 35, 3) := by decide +kernel
theorem dX1_start_14 : decode cX1_start 14 = .ok (.aload_n 0, 1) := by decide +kernel
theorem dX1_start_15 : decode cX1_start 15 = .ok (.getfield 23, 3) := by decide +kernel
theorem dX1_start_18 : decode cX1_start 18 = .ok (.iload_n 1, 1) := by decide +kernel
theorem dX1_start_19 : decode cX1_start 19 = .ok (.iload_n 3, 1) := by decide +kernel
theorem dX1_start_20 : decode cX1_start 20 = .ok (.invokevirtual 35, 3) := by decide +kernel
theorem dX1_start_23 : decode cX1_start 23 = .ok (.return_, 1) := by decide +kernel
set_option maxRecDepth 20000 in
theorem ggX1_addPoint_X5_get : GoodIn wsX1_addPoint wsX5_get := goodIn_r _ [8, 9, 19] (by decide +kernel) (by decide +kernel)
set_option maxRecDepth 20000 in
theorem gX1_addPoint_X5_get : GoodIn wsX1_addPoint (wsV RX1 42 RX5 yX5_get wsX5_get) := goodIn_app (goodIn_of _ (by decide +kernel)) ggX1_addPoint_X5_get
set_option maxRecDepth 20000 in
theorem ggX1_addPoint_X5_set : GoodIn wsX1_addPoint wsX5_set := goodIn_r _ [13, 9, 19] (by decide +kernel) (by decide +kernel)
set_option maxRecDepth 20000 in
theorem gX1_addPoint_X5_set : GoodIn wsX1_addPoint (wsV RX1 35 RX5 yX5_set wsX5_set) := goodIn_app (goodIn_of _ (by decide +kernel)) ggX1_addPoint_X5_set
theorem dX1_addPoint_0 : decode cX1_addPoint 0 = .ok (.aload_n 0, 1) := by decide +kernel
theorem dX1_addPoint_1 : decode cX1_addPoint 1 = .ok (.getfield 14, 3) := by decide +kernel
theorem dX1_addPoint_4 : decode cX1_addPoint 4 = .ok (.iload_n 1, 1) := by decide +kernel
theorem dX1_addPoint_5 : decode cX1_addPoint 5 = .ok (.invokevirtual 42, 3) := by decide +kernel
theorem dX1_addPoint_8 : decode cX1_addPoint 8 = .ok (.istore 4, 2) := by decide +kernel
theorem dX1_addPoint_10 : decode cX1_addPoint 10 = .ok (.iload 4, 2) := by decide +kernel
theorem dX1_addPoint_12 : decode cX1_addPoint 12 = .ok (.bipush 8, 2) := by decide +kernel
theorem dX1_addPoint_14 : decode cX1_addPoint 14 = .ok (.if_icmp .ge 45, 3) := by decide +kernel
theorem dX1_addPoint_17 : decode cX1_addPoint 17 = .ok (.aload_n 0, 1) := by decide +kernel
theorem dX1_addPoint_18 : decode cX1_addPoint 18 = .ok (.getfield 26, 3) := by decide +kernel
theorem dX1_addPoint_21 : decode cX1_addPoint 21 = .ok (.iload_n 1, 1) := by decide +kernel
theorem dX1_addPoint_22 : decode cX1_addPoint 22 = .ok (.bipush 8, 2) := by decide +kernel
theorem dX1_addPoint_24 : decode cX1_addPoint 24 = .ok (.imul, 1) := by decide +kernel
theorem dX1_addPoint_25 : decode cX1_addPoint 25 = .ok (.iload 4, 2) := by decide +kernel
theorem dX1_addPoint_27 : decode cX1_addPoint 27 = .ok (.iadd, 1) := by decide +kernel
theorem dX1_addPoint_28 : decode cX1_addPoint 28 = .ok (.iload_n 2, 1) := by decide +kernel
theorem dX1_addPoint_29 : decode cX1_addPoint 29 = .ok (.invokevirtual 35, 3) := by decide +kernel
theorem dX1_addPoint_32 : decode cX1_addPoint 32 = .ok (.aload_n 0, 1) := by decide +kernel
theorem dX1_addPoint_33 : decode cX1_addPoint 33 = .ok (.getfield 29, 3) := by decide +kernel
theorem dX1_addPoint_36 : decode cX1_addPoint 36 = .ok (.iload_n 1, 1) := by decide +kernel
theorem dX1_addPoint_37 : decode cX1_addPoint 37 = .ok (.bipush 8, 2) := by decide +kernel
theorem dX1_addPoint_39 : decode cX1_addPoint 39 = .ok (.imul, 1) := by decide +kernel
theorem dX1_addPoint_40 : decode cX1_addPoint 40 = .ok (.iload 4, 2) := by decide +kernel
theorem dX1_addPoint_42 : decode cX1_addPoint 42 = .ok (.iadd, 1) := by decide +kernel
theorem dX1_addPoint_43 : decode cX1_addPoint 43 = .ok (.iload_n 3, 1) := by decide +kernel
theorem dX1_addPoint_44 : decode cX1_addPoint 44 = .ok (.invokevirtual 35, 3) := by decide +kernel
theorem dX1_addPoint_47 : decode cX1_addPoint 47 = .ok (.aload_n 0, 1) := by decide +kernel
theorem dX1_addPoint_48 : decode cX1_addPoint 48 = .ok (.getfield 14, 3) := by decide +kernel
theorem dX1_addPoint_51 : decode cX1_addPoint 51 = .ok (.iload_n 1, 1) := by decide +kernel
theorem dX1_addPoint_52 : decode cX1_addPoint 52 = .ok (.iload 4, 2) := by decide +kernel
theorem dX1_addPoint_54 : decode cX1_addPoint 54 = .ok (.iconst 1, 1) := by decide +kernel
theorem dX1_addPoint_55 : decode cX1_addPoint 55 = .ok (.iadd, 1) := by decide +kernel
theorem dX1_addPoint_56 : decode cX1_addPoint 56 = .ok (.invokevirtual 35, 3) := by decide +kernel
theorem dX1_addPoint_59 : decode cX1_addPoint 59 = .ok (.return_, 1) := by decide +kernel
set_option maxRecDepth 20000 in
theorem ggX1_copyFrom_X1_pointCount : GoodIn wsX1_copyFrom wsX1_pointCount := goodIn_r _ [5, 6, 7, 8, 9, 10, 11, 12, 49, 50, 51, 52, 53, 54] (by decide +kernel) (by decide +kernel)
set_option maxRecDepth 20000 in
theorem gX1_copyFrom_X1_pointCount : GoodIn wsX1_copyFrom (wsV RX1 46 RX1 yX1_pointCount wsX1_pointCount) := goodIn_app (goodIn_of _ (by decide +kernel)) ggX1_copyFrom_X1_pointCount
set_option maxRecDepth 20000 in
theorem ggX1_copyFrom_X1_colorOf : GoodIn wsX1_copyFrom wsX1_colorOf := goodIn_r _ [16, 17, 7, 8, 9, 10, 11, 12, 49, 50, 51, 52, 53, 54] (by decide +kernel) (by decide +kernel)
set_option maxRecDepth 20000 in
theorem gX1_copyFrom_X1_colorOf : GoodIn wsX1_copyFrom (wsV RX1 49 RX1 yX1_colorOf wsX1_colorOf) := goodIn_app (goodIn_of _ (by decide +kernel)) ggX1_copyFrom_X1_colorOf
set_option maxRecDepth 20000 in
theorem ggX1_copyFrom_X1_layerOf : GoodIn wsX1_copyFrom wsX1_layerOf := goodIn_r _ [21, 22, 7, 8, 9, 10, 11, 12, 49, 50, 51, 52, 53, 54] (by decide +kernel) (by decide +kernel)
set_option maxRecDepth 20000 in
theorem gX1_copyFrom_X1_layerOf : GoodIn wsX1_copyFrom (wsV RX1 52 RX1 yX1_layerOf wsX1_layerOf) := goodIn_app (goodIn_of _ (by decide +kernel)) ggX1_copyFrom_X1_layerOf
set_option maxRecDepth 20000 in
theorem ggX1_copyFrom_X1_start : GoodIn wsX1_copyFrom wsX1_start := goodIn_r _ [26, 17, 22, 27, 28, 29, 4, 30, 6, 31, 32, 33, 10, 34, 12, 49, 50, 51, 52, 53, 54] (by decide +kernel) (by decide +kernel)
set_option maxRecDepth 20000 in
theorem gX1_copyFrom_X1_start : GoodIn wsX1_copyFrom (wsV RX1 55 RX1 yX1_start wsX1_start) := goodIn_app (goodIn_of _ (by decide +kernel)) ggX1_copyFrom_X1_start
set_option maxRecDepth 20000 in
theorem ggX1_copyFrom_X1_xOf : GoodIn wsX1_copyFrom wsX1_xOf := goodIn_r _ [38, 39, 7, 8, 9, 10, 11, 12, 49, 50, 51, 52, 53, 54] (by decide +kernel) (by decide +kernel)
set_option maxRecDepth 20000 in
theorem gX1_copyFrom_X1_xOf : GoodIn wsX1_copyFrom (wsV RX1 59 RX1 yX1_xOf wsX1_xOf) := goodIn_app (goodIn_of _ (by decide +kernel)) ggX1_copyFrom_X1_xOf
set_option maxRecDepth 20000 in
theorem ggX1_copyFrom_X1_yOf : GoodIn wsX1_copyFrom wsX1_yOf := goodIn_r _ [43, 44, 7, 8, 9, 10, 11, 12, 49, 50, 51, 52, 53, 54] (by decide +kernel) (by decide +kernel)
set_option maxRecDepth 20000 in
theorem gX1_copyFrom_X1_yOf : GoodIn wsX1_copyFrom (wsV RX1 63 RX1 yX1_yOf wsX1_yOf) := goodIn_app (goodIn_of _ (by decide +kernel)) ggX1_copyFrom_X1_yOf
set_option maxRecDepth 20000 in
theorem ggX1_copyFrom_X1_addPoint : GoodIn wsX1_copyFrom wsX1_addPoint := goodIn_r _ [48, 6, 39, 44, 7, 8, 9, 10, 11, 12, 31, 32, 33, 34, 49, 50, 51, 52, 53, 54] (by decide +kernel) (by decide +kernel)
set_option maxRecDepth 20000 in
theorem gX1_copyFrom_X1_addPoint : GoodIn wsX1_copyFrom (wsV RX1 66 RX1 yX1_addPoint wsX1_addPoint) := goodIn_app (goodIn_of _ (by decide +kernel)) ggX1_copyFrom_X1_addPoint
theorem dX1_copyFrom_0 : decode cX1_copyFrom 0 = .ok (.aload_n 1, 1) := by decide +kernel
theorem dX1_copyFrom_1 : decode cX1_copyFrom 1 = .ok (.iload_n 2, 1) := by decide +kernel
theorem dX1_copyFrom_2 : decode cX1_copyFrom 2 = .ok (.invokevirtual 46, 3) := by decide +kernel
theorem dX1_copyFrom_5 : decode cX1_copyFrom 5 = .ok (.istore 4, 2) := by decide +kernel
theorem dX1_copyFrom_7 : decode cX1_copyFrom 7 = .ok (.aload_n 0, 1) := by decide +kernel
theorem dX1_copyFrom_8 : decode cX1_copyFrom 8 = .ok (.iload_n 3, 1) := by decide +kernel
theorem dX1_copyFrom_9 : decode cX1_copyFrom 9 = .ok (.aload_n 1, 1) := by decide +kernel
theorem dX1_copyFrom_10 : decode cX1_copyFrom 10 = .ok (.iload_n 2, 1) := by decide +kernel
theorem dX1_copyFrom_11 : decode cX1_copyFrom 11 = .ok (.invokevirtual 49, 3) := by decide +kernel
theorem dX1_copyFrom_14 : decode cX1_copyFrom 14 = .ok (.aload_n 1, 1) := by decide +kernel
theorem dX1_copyFrom_15 : decode cX1_copyFrom 15 = .ok (.iload_n 2, 1) := by decide +kernel
theorem dX1_copyFrom_16 : decode cX1_copyFrom 16 = .ok (.invokevirtual 52, 3) := by decide +kernel
theorem dX1_copyFrom_19 : decode cX1_copyFrom 19 = .ok (.invokevirtual 55, 3) := by decide +kernel
theorem dX1_copyFrom_22 : decode cX1_copyFrom 22 = .ok (.iconst 0, 1) := by decide +kernel
theorem dX1_copyFrom_23 : decode cX1_copyFrom 23 = .ok (.istore 5, 2) := by decide +kernel
theorem dX1_copyFrom_25 : decode cX1_copyFrom 25 = .ok (.iload 5, 2) := by decide +kernel
theorem dX1_copyFrom_27 : decode cX1_copyFrom 27 = .ok (.iload 4, 2) := by decide +kernel
theorem dX1_copyFrom_29 : decode cX1_copyFrom 29 = .ok (.if_icmp .ge 28, 3) := by decide +kernel
theorem dX1_copyFrom_32 : decode cX1_copyFrom 32 = .ok (.aload_n 0, 1) := by decide +kernel
theorem dX1_copyFrom_33 : decode cX1_copyFrom 33 = .ok (.iload_n 3, 1) := by decide +kernel
theorem dX1_copyFrom_34 : decode cX1_copyFrom 34 = .ok (.aload_n 1, 1) := by decide +kernel
theorem dX1_copyFrom_35 : decode cX1_copyFrom 35 = .ok (.iload_n 2, 1) := by decide +kernel
theorem dX1_copyFrom_36 : decode cX1_copyFrom 36 = .ok (.iload 5, 2) := by decide +kernel
theorem dX1_copyFrom_38 : decode cX1_copyFrom 38 = .ok (.invokevirtual 59, 3) := by decide +kernel
theorem dX1_copyFrom_41 : decode cX1_copyFrom 41 = .ok (.aload_n 1, 1) := by decide +kernel
theorem dX1_copyFrom_42 : decode cX1_copyFrom 42 = .ok (.iload_n 2, 1) := by decide +kernel
theorem dX1_copyFrom_43 : decode cX1_copyFrom 43 = .ok (.iload 5, 2) := by decide +kernel
theorem dX1_copyFrom_45 : decode cX1_copyFrom 45 = .ok (.invokevirtual 63, 3) := by decide +kernel
theorem dX1_copyFrom_48 : decode cX1_copyFrom 48 = .ok (.invokevirtual 66, 3) := by decide +kernel
theorem dX1_copyFrom_51 : decode cX1_copyFrom 51 = .ok (.iinc 5 1, 3) := by decide +kernel
theorem dX1_copyFrom_54 : decode cX1_copyFrom 54 = .ok (.goto (-29), 3) := by decide +kernel
theorem dX1_copyFrom_57 : decode cX1_copyFrom 57 = .ok (.return_, 1) := by decide +kernel
set_option maxRecDepth 20000 in
theorem ggX1_pointCount_X5_get : GoodIn wsX1_pointCount wsX5_get := goodIn_r _ [6, 7, 13] (by decide +kernel) (by decide +kernel)
set_option maxRecDepth 20000 in
theorem gX1_pointCount_X5_get : GoodIn wsX1_pointCount (wsV RX1 42 RX5 yX5_get wsX5_get) := goodIn_app (goodIn_of _ (by decide +kernel)) ggX1_pointCount_X5_get
theorem dX1_pointCount_0 : decode cX1_pointCount 0 = .ok (.aload_n 0, 1) := by decide +kernel
theorem dX1_pointCount_1 : decode cX1_pointCount 1 = .ok (.getfield 14, 3) := by decide +kernel
theorem dX1_pointCount_4 : decode cX1_pointCount 4 = .ok (.iload_n 1, 1) := by decide +kernel
theorem dX1_pointCount_5 : decode cX1_pointCount 5 = .ok (.invokevirtual 42, 3) := by decide +kernel
theorem dX1_pointCount_8 : decode cX1_pointCount 8 = .ok (.ireturn, 1) := by decide +kernel
set_option maxRecDepth 20000 in
theorem ggX1_colorOf_X5_get : GoodIn wsX1_colorOf wsX5_get := goodIn_r _ [6, 7, 13] (by decide +kernel) (by decide +kernel)
set_option maxRecDepth 20000 in
theorem gX1_colorOf_X5_get : GoodIn wsX1_colorOf (wsV RX1 42 RX5 yX5_get wsX5_get) := goodIn_app (goodIn_of _ (by decide +kernel)) ggX1_colorOf_X5_get
theorem dX1_colorOf_0 : decode cX1_colorOf 0 = .ok (.aload_n 0, 1) := by decide +kernel
theorem dX1_colorOf_1 : decode cX1_colorOf 1 = .ok (.getfield 20, 3) := by decide +kernel
theorem dX1_colorOf_4 : decode cX1_colorOf 4 = .ok (.iload_n 1, 1) := by decide +kernel
theorem dX1_colorOf_5 : decode cX1_colorOf 5 = .ok (.invokevirtual 42, 3) := by decide +kernel
theorem dX1_colorOf_8 : decode cX1_colorOf 8 = .ok (.ireturn, 1) := by decide +kernel
set_option maxRecDepth 20000 in
theorem ggX1_layerOf_X5_get : GoodIn wsX1_layerOf wsX5_get := goodIn_r _ [6, 7, 13] (by decide +kernel) (by decide +kernel)
set_option maxRecDepth 20000 in
theorem gX1_layerOf_X5_get : GoodIn wsX1_layerOf (wsV RX1 42 RX5 yX5_get wsX5_get) := goodIn_app (goodIn_of _ (by decide +kernel)) ggX1_layerOf_X5_get
theorem dX1_layerOf_0 : decode cX1_layerOf 0 = .ok (.aload_n 0, 1) := by decide +kernel
theorem dX1_layerOf_1 : decode cX1_layerOf 1 = .ok (.getfield 23, 3) := by decide +kernel
theorem dX1_layerOf_4 : decode cX1_layerOf 4 = .ok (.iload_n 1, 1) := by decide +kernel
theorem dX1_layerOf_5 : decode cX1_layerOf 5 = .ok (.invokevirtual 42, 3) := by decide +kernel
theorem dX1_layerOf_8 : decode cX1_layerOf 8 = .ok (.ireturn, 1) := by decide +kernel
set_option maxRecDepth 20000 in
theorem ggX1_xOf_X5_get : GoodIn wsX1_xOf wsX5_get := goodIn_r _ [6, 7, 13] (by decide +kernel) (by decide +kernel)
set_option maxRecDepth 20000 in
theorem gX1_xOf_X5_get : GoodIn wsX1_xOf (wsV RX1 42 RX5 yX5_get wsX5_get) := goodIn_app (goodIn_of _ (by decide +kernel)) ggX1_xOf_X5_get
theorem dX1_xOf_0 : decode cX1_xOf 0 = .ok (.aload_n 0, 1) := by decide +kernel
theorem dX1_xOf_1 : decode cX1_xOf 1 = .ok (.getfield 26, 3) := by decide +kernel
theorem dX1_xOf_4 : decode cX1_xOf 4 = .ok (.iload_n 1, 1) := by decide +kernel
theorem dX1_xOf_5 : decode cX1_xOf 5 = .ok (.bipush 8, 2) := by decide +kernel
theorem dX1_xOf_7 : decode cX1_xOf 7 = .ok (.imul, 1) := by decide +kernel
theorem dX1_xOf_8 : decode cX1_xOf 8 = .ok (.iload_n 2, 1) := by decide +kernel
theorem dX1_xOf_9 : decode cX1_xOf 9 = .ok (.iadd, 1) := by decide +kernel
theorem dX1_xOf_10 : decode cX1_xOf 10 = .ok (.invokevirtual 42, 3) := by decide +kernel
theorem dX1_xOf_13 : decode cX1_xOf 13 = .ok (.ireturn, 1) := by decide +kernel
set_option maxRecDepth 20000 in
theorem ggX1_yOf_X5_get : GoodIn wsX1_yOf wsX5_get := goodIn_r _ [6, 7, 13] (by decide +kernel) (by decide +kernel)
set_option maxRecDepth 20000 in
theorem gX1_yOf_X5_get : GoodIn wsX1_yOf (wsV RX1 42 RX5 yX5_get wsX5_get) := goodIn_app (goodIn_of _ (by decide +kernel)) ggX1_yOf_X5_get
theorem dX1_yOf_0 : decode cX1_yOf 0 = .ok (.aload_n 0, 1) := by decide +kernel
theorem dX1_yOf_1 : decode cX1_yOf 1 = .ok (.getfield 29, 3) := by decide +kernel
theorem dX1_yOf_4 : decode cX1_yOf 4 = .ok (.iload_n 1, 1) := by decide +kernel
theorem dX1_yOf_5 : decode cX1_yOf 5 = .ok (.bipush 8, 2) := by decide +kernel
theorem dX1_yOf_7 : decode cX1_yOf 7 = .ok (.imul, 1) := by decide +kernel
theorem dX1_yOf_8 : decode cX1_yOf 8 = .ok (.iload_n 2, 1) := by decide +kernel
theorem dX1_yOf_9 : decode cX1_yOf 9 = .ok (.iadd, 1) := by decide +kernel
theorem dX1_yOf_10 : decode cX1_yOf 10 = .ok (.invokevirtual 42, 3) := by decide +kernel
theorem dX1_yOf_13 : decode cX1_yOf 13 = .ok (.ireturn, 1) := by decide +kernel
set_option maxRecDepth 20000 in
theorem ggX1_hasPoint_X5_get : GoodIn wsX1_hasPoint wsX5_get := goodIn_r _ [6, 7, 24] (by decide +kernel) (by decide +kernel)
set_option maxRecDepth 20000 in
theorem gX1_hasPoint_X5_get : GoodIn wsX1_hasPoint (wsV RX1 42 RX5 yX5_get wsX5_get) := goodIn_app (goodIn_of _ (by decide +kernel)) ggX1_hasPoint_X5_get
set_option maxRecDepth 20000 in
theorem ggX1_hasPoint_X1_xOf : GoodIn wsX1_hasPoint wsX1_xOf := goodIn_r _ [12, 13, 2, 3, 4, 5, 6, 7, 19, 20, 21, 22, 23, 24] (by decide +kernel) (by decide +kernel)
set_option maxRecDepth 20000 in
theorem gX1_hasPoint_X1_xOf : GoodIn wsX1_hasPoint (wsV RX1 59 RX1 yX1_xOf wsX1_xOf) := goodIn_app (goodIn_of _ (by decide +kernel)) ggX1_hasPoint_X1_xOf
set_option maxRecDepth 20000 in
theorem ggX1_hasPoint_X1_yOf : GoodIn wsX1_hasPoint wsX1_yOf := goodIn_r _ [17, 18, 2, 3, 4, 5, 6, 7, 19, 20, 21, 22, 23, 24] (by decide +kernel) (by decide +kernel)
set_option maxRecDepth 20000 in
theorem gX1_hasPoint_X1_yOf : GoodIn wsX1_hasPoint (wsV RX1 63 RX1 yX1_yOf wsX1_yOf) := goodIn_app (goodIn_of _ (by decide +kernel)) ggX1_hasPoint_X1_yOf
theorem dX1_hasPoint_0 : decode cX1_hasPoint 0 = .ok (.iconst 0, 1) := by decide +kernel
theorem dX1_hasPoint_1 : decode cX1_hasPoint 1 = .ok (.istore 4, 2) := by decide +kernel
theorem dX1_hasPoint_3 : decode cX1_hasPoint 3 = .ok (.iload 4, 2) := by decide +kernel
theorem dX1_hasPoint_5 : decode cX1_hasPoint 5 = .ok (.aload_n 0, 1) := by decide +kernel
theorem dX1_hasPoint_6 : decode cX1_hasPoint 6 = .ok (.getfield 14, 3) := by decide +kernel
theorem dX1_hasPoint_9 : decode cX1_hasPoint 9 = .ok (.iload_n 1, 1) := by decide +kernel
theorem dX1_hasPoint_10 : decode cX1_hasPoint 10 = .ok (.invokevirtual 42, 3) := by decide +kernel
theorem dX1_hasPoint_13 : decode cX1_hasPoint 13 = .ok (.if_icmp .ge 33, 3) := by decide +kernel
theorem dX1_hasPoint_16 : decode cX1_hasPoint 16 = .ok (.aload_n 0, 1) := by decide +kernel
theorem dX1_hasPoint_17 : decode cX1_hasPoint 17 = .ok (.iload_n 1, 1) := by decide +kernel
theorem dX1_hasPoint_18 : decode cX1_hasPoint 18 = .ok (.iload 4, 2) := by decide +kernel
theorem dX1_hasPoint_20 : decode cX1_hasPoint 20 = .ok (.invokevirtual 59, 3) := by decide +kernel
theorem dX1_hasPoint_23 : decode cX1_hasPoint 23 = .ok (.iload_n 2, 1) := by decide +kernel
theorem dX1_hasPoint_24 : decode cX1_hasPoint 24 = .ok (.if_icmp .ne 16, 3) := by decide +kernel
theorem dX1_hasPoint_27 : decode cX1_hasPoint 27 = .ok (.aload_n 0, 1) := by decide +kernel
theorem dX1_hasPoint_28 : decode cX1_hasPoint 28 = .ok (.iload_n 1, 1) := by decide +kernel
theorem dX1_hasPoint_29 : decode cX1_hasPoint 29 = .ok (.iload 4, 2) := by decide +kernel
theorem dX1_hasPoint_31 : decode cX1_hasPoint 31 = .ok (.invokevirtual 63, 3) := by decide +kernel
theorem dX1_hasPoint_34 : decode cX1_hasPoint 34 = .ok (.iload_n 3, 1) := by decide +kernel
theorem dX1_hasPoint_35 : decode cX1_hasPoint 35 = .ok (.if_icmp .ne 5, 3) := by decide +kernel
theorem dX1_hasPoint_38 : decode cX1_hasPoint 38 = .ok (.iconst 1, 1) := by decide +kernel
theorem dX1_hasPoint_39 : decode cX1_hasPoint 39 = .ok (.ireturn, 1) := by decide +kernel
theorem dX1_hasPoint_40 : decode cX1_hasPoint 40 = .ok (.iinc 4 1, 3) := by decide +kernel
theorem dX1_hasPoint_43 : decode cX1_hasPoint 43 = .ok (.goto (-40), 3) := by decide +kernel
theorem dX1_hasPoint_46 : decode cX1_hasPoint 46 = .ok (.iconst 0, 1) := by decide +kernel
theorem dX1_hasPoint_47 : decode cX1_hasPoint 47 = .ok (.ireturn, 1) := by decide +kernel
set_option maxRecDepth 20000 in
theorem ggX1_sizeOf_X5_get : GoodIn wsX1_sizeOf wsX5_get := goodIn_r _ [6, 7, 27] (by decide +kernel) (by decide +kernel)
set_option maxRecDepth 20000 in
theorem gX1_sizeOf_X5_get : GoodIn wsX1_sizeOf (wsV RX1 42 RX5 yX5_get wsX5_get) := goodIn_app (goodIn_of _ (by decide +kernel)) ggX1_sizeOf_X5_get
set_option maxRecDepth 20000 in
theorem ggX1_sizeOf_X1_xOf : GoodIn wsX1_sizeOf wsX1_xOf := goodIn_r _ [12, 13, 2, 3, 4, 5, 6, 7, 22, 23, 24, 25, 26, 27] (by decide +kernel) (by decide +kernel)
set_option maxRecDepth 20000 in
theorem gX1_sizeOf_X1_xOf : GoodIn wsX1_sizeOf (wsV RX1 59 RX1 yX1_xOf wsX1_xOf) := goodIn_app (goodIn_of _ (by decide +kernel)) ggX1_sizeOf_X1_xOf
set_option maxRecDepth 20000 in
theorem ggX1_sizeOf_X6_isWithin : GoodIn wsX1_sizeOf wsX6_isWithin := goodIn_r _ [16] (by decide +kernel) (by decide +kernel)
set_option maxRecDepth 20000 in
theorem gX1_sizeOf_X6_isWithin_n69 : GoodIn wsX1_sizeOf (wsX6_isWithin) := ggX1_sizeOf_X6_isWithin
set_option maxRecDepth 20000 in
theorem ggX1_sizeOf_X1_yOf : GoodIn wsX1_sizeOf wsX1_yOf := goodIn_r _ [20, 21, 2, 3, 4, 5, 6, 7, 22, 23, 24, 25, 26, 27] (by decide +kernel) (by decide +kernel)
set_option maxRecDepth 20000 in
theorem gX1_sizeOf_X1_yOf : GoodIn wsX1_sizeOf (wsV RX1 63 RX1 yX1_yOf wsX1_yOf) := goodIn_app (goodIn_of _ (by decide +kernel)) ggX1_sizeOf_X1_yOf
theorem dX1_sizeOf_0 : decode cX1_sizeOf 0 = .ok (.iconst 4, 1) := by decide +kernel
theorem dX1_sizeOf_1 : decode cX1_sizeOf 1 = .ok (.istore_n 2, 1) := by decide +kernel
theorem dX1_sizeOf_2 : decode cX1_sizeOf 2 = .ok (.iconst 1, 1) := by decide +kernel
theorem dX1_sizeOf_3 : decode cX1_sizeOf 3 = .ok (.istore_n 3, 1) := by decide +kernel
theorem dX1_sizeOf_4 : decode cX1_sizeOf 4 = .ok (.iload_n 3, 1) := by decide +kernel
theorem dX1_sizeOf_5 : decode cX1_sizeOf 5 = .ok (.aload_n 0, 1) := by decide +kernel
theorem dX1_sizeOf_6 : decode cX1_sizeOf 6 = .ok (.getfield 14, 3) := by decide +kernel
theorem dX1_sizeOf_9 : decode cX1_sizeOf 9 = .ok (.iload_n 1, 1) := by decide +kernel
theorem dX1_sizeOf_10 : decode cX1_sizeOf 10 = .ok (.invokevirtual 42, 3) := by decide +kernel
theorem dX1_sizeOf_13 : decode cX1_sizeOf 13 = .ok (.if_icmp .ge 77, 3) := by decide +kernel
theorem dX1_sizeOf_16 : decode cX1_sizeOf 16 = .ok (.aload_n 0, 1) := by decide +kernel
theorem dX1_sizeOf_17 : decode cX1_sizeOf 17 = .ok (.iload_n 1, 1) := by decide +kernel
theorem dX1_sizeOf_18 : decode cX1_sizeOf 18 = .ok (.iload_n 3, 1) := by decide +kernel
theorem dX1_sizeOf_19 : decode cX1_sizeOf 19 = .ok (.invokevirtual 59, 3) := by decide +kernel
theorem dX1_sizeOf_22 : decode cX1_sizeOf 22 = .ok (.aload_n 0, 1) := by decide +kernel
theorem dX1_sizeOf_23 : decode cX1_sizeOf 23 = .ok (.iload_n 1, 1) := by decide +kernel
theorem dX1_sizeOf_24 : decode cX1_sizeOf 24 = .ok (.iload_n 3, 1) := by decide +kernel
theorem dX1_sizeOf_25 : decode cX1_sizeOf 25 = .ok (.iconst 1, 1) := by decide +kernel
theorem dX1_sizeOf_26 : decode cX1_sizeOf 26 = .ok (.isub, 1) := by decide +kernel
theorem dX1_sizeOf_27 : decode cX1_sizeOf 27 = .ok (.invokevirtual 59, 3) := by decide +kernel
theorem dX1_sizeOf_30 : decode cX1_sizeOf 30 = .ok (.isub, 1) := by decide +kernel
theorem dX1_sizeOf_31 : decode cX1_sizeOf 31 = .ok (.bipush (-4), 2) := by decide +kernel
theorem dX1_sizeOf_33 : decode cX1_sizeOf 33 = .ok (.iconst 3, 1) := by decide +kernel
theorem dX1_sizeOf_34 : decode cX1_sizeOf 34 = .ok (.invokestatic 69, 3) := by decide +kernel
theorem dX1_sizeOf_37 : decode cX1_sizeOf 37 = .ok (.ifCond .eq 31, 3) := by decide +kernel
theorem dX1_sizeOf_40 : decode cX1_sizeOf 40 = .ok (.aload_n 0, 1) := by decide +kernel
theorem dX1_sizeOf_41 : decode cX1_sizeOf 41 = .ok (.iload_n 1, 1) := by decide +kernel
theorem dX1_sizeOf_42 : decode cX1_sizeOf 42 = .ok (.iload_n 3, 1) := by decide +kernel
theorem dX1_sizeOf_43 : decode cX1_sizeOf 43 = .ok (.invokevirtual 63, 3) := by decide +kernel
theorem dX1_sizeOf_46 : decode cX1_sizeOf 46 = .ok (.aload_n 0, 1) := by decide +kernel
theorem dX1_sizeOf_47 : decode cX1_sizeOf 47 = .ok (.iload_n 1, 1) := by decide +kernel
theorem dX1_sizeOf_48 : decode cX1_sizeOf 48 = .ok (.iload_n 3, 1) := by decide +kernel
theorem dX1_sizeOf_49 : decode cX1_sizeOf 49 = .ok (.iconst 1, 1) := by decide +kernel
theorem dX1_sizeOf_50 : decode cX1_sizeOf 50 = .ok (.isub, 1) := by decide +kernel
theorem dX1_sizeOf_51 : decode cX1_sizeOf 51 = .ok (.invokevirtual 63, 3) := by decide +kernel
theorem dX1_sizeOf_54 : decode cX1_sizeOf 54 = .ok (.isub, 1) := by decide +kernel
theorem dX1_sizeOf_55 : decode cX1_sizeOf 55 = .ok (.bipush (-4), 2) := by decide +kernel
theorem dX1_sizeOf_57 : decode cX1_sizeOf 57 = .ok (.iconst 3, 1) := by decide +kernel
theorem dX1_sizeOf_58 : decode cX1_sizeOf 58 = .ok (.invokestatic 69, 3) := by decide +kernel
theorem dX1_sizeOf_61 : decode cX1_sizeOf 61 = .ok (.ifCond .eq 7, 3) := by decide +kernel
theorem dX1_sizeOf_64 : decode cX1_sizeOf 64 = .ok (.iconst 1, 1) := by decide +kernel
theorem dX1_sizeOf_65 : decode cX1_sizeOf 65 = .ok (.goto 4, 3) := by decide +kernel
theorem dX1_sizeOf_68 : decode cX1_sizeOf 68 = .ok (.iconst 0, 1) := by decide +kernel
theorem dX1_sizeOf_69 : decode cX1_sizeOf 69 = .ok (.istore 4, 2) := by decide +kernel
theorem dX1_sizeOf_71 : decode cX1_sizeOf 71 = .ok (.iload_n 2, 1) := by decide +kernel
theorem dX1_sizeOf_72 : decode cX1_sizeOf 72 = .ok (.iload 4, 2) := by decide +kernel
theorem dX1_sizeOf_74 : decode cX1_sizeOf 74 = .ok (.ifCond .eq 7, 3) := by decide +kernel
theorem dX1_sizeOf_77 : decode cX1_sizeOf 77 = .ok (.iconst 1, 1) := by decide +kernel
theorem dX1_sizeOf_78 : decode cX1_sizeOf 78 = .ok (.goto 4, 3) := by decide +kernel
theorem dX1_sizeOf_81 : decode cX1_sizeOf 81 = .ok (.iconst 2, 1) := by decide +kernel
theorem dX1_sizeOf_82 : decode cX1_sizeOf 82 = .ok (.iadd, 1) := by decide +kernel
theorem dX1_sizeOf_83 : decode cX1_sizeOf 83 = .ok (.istore_n 2, 1) := by decide +kernel
theorem dX1_sizeOf_84 : decode cX1_sizeOf 84 = .ok (.iinc 3 1, 3) := by decide +kernel
theorem dX1_sizeOf_87 : decode cX1_sizeOf 87 = .ok (.goto (-83), 3) := by decide +kernel
theorem dX1_sizeOf_90 : decode cX1_sizeOf 90 = .ok (.iload_n 2, 1) := by decide +kernel
theorem dX1_sizeOf_91 : decode cX1_sizeOf 91 = .ok (.ireturn, 1) := by decide +kernel
set_option maxRecDepth 20000 in
theorem ggX2_init_X5_init : GoodIn wsX2_init wsX5_init := goodIn_r _ [10, 11, 2, 3, 12, 13, 14, 15, 16, 17, 18] (by decide +kernel) (by decide +kernel)
set_option maxRecDepth 20000 in
theorem gX2_init_X5_init : GoodIn wsX2_init (wsX5_init) := ggX2_init_X5_init
theorem dX2_init_0 : decode cX2_init 0 = .ok (.aload_n 0, 1) := by decide +kernel
theorem dX2_init_1 : decode cX2_init 1 = .ok (.invokespecial 3, 3) := by decide +kernel
theorem dX2_init_4 : decode cX2_init 4 = .ok (.aload_n 0, 1) := by decide +kernel
theorem dX2_init_5 : decode cX2_init 5 = .ok (.new 9, 3) := by decide +kernel
theorem dX2_init_8 : decode cX2_init 8 = .ok (.dup, 1) := by decide +kernel
theorem dX2_init_9 : decode cX2_init 9 = .ok (.sipush 500, 3) := by decide +kernel
theorem dX2_init_12 : decode cX2_init 12 = .ok (.invokespecial 11, 3) := by decide +kernel
theorem dX2_init_15 : decode cX2_init 15 = .ok (.putfield 14, 3) := by decide +kernel
theorem dX2_init_18 : decode cX2_init 18 = .ok (.return_, 1) := by decide +kernel
set_option maxRecDepth 20000 in
theorem ggX2_clear_X5_fill : GoodIn wsX2_clear wsX5_fill := goodIn_r _ [6, 7, 9] (by decide +kernel) (by decide +kernel)
set_option maxRecDepth 20000 in
theorem gX2_clear_X5_fill : GoodIn wsX2_clear (wsV RX2 20 RX5 yX5_fill wsX5_fill) := goodIn_app (goodIn_of _ (by decide +kernel)) ggX2_clear_X5_fill
theorem dX2_clear_0 : decode cX2_clear 0 = .ok (.aload_n 0, 1) := by decide +kernel
theorem dX2_clear_1 : decode cX2_clear 1 = .ok (.getfield 14, 3) := by decide +kernel
theorem dX2_clear_4 : decode cX2_clear 4 = .ok (.iconst 0, 1) := by decide +kernel
theorem dX2_clear_5 : decode cX2_clear 5 = .ok (.invokevirtual 20, 3) := by decide +kernel
theorem dX2_clear_8 : decode cX2_clear 8 = .ok (.return_, 1) := by decide +kernel
set_option maxRecDepth 20000 in
theorem ggX2_copyFrom_X5_copyFrom : GoodIn wsX2_copyFrom wsX5_copyFrom := goodIn_r _ [6, 7, 8, 9, 10, 5, 11, 13] (by decide +kernel) (by decide +kernel)
set_option maxRecDepth 20000 in
theorem gX2_copyFrom_X5_copyFrom : GoodIn wsX2_copyFrom (wsV RX2 23 RX5 yX5_copyFrom wsX5_copyFrom) := goodIn_app (goodIn_of _ (by decide +kernel)) ggX2_copyFrom_X5_copyFrom
theorem dX2_copyFrom_0 : decode cX2_copyFrom 0 = .ok (.aload_n 0, 1) := by decide +kernel
theorem dX2_copyFrom_1 : decode cX2_copyFrom 1 = .ok (.getfield 14, 3) := by decide +kernel
theorem dX2_copyFrom_4 : decode cX2_copyFrom 4 = .ok (.aload_n 1, 1) := by decide +kernel
theorem dX2_copyFrom_5 : decode cX2_copyFrom 5 = .ok (.getfield 14, 3) := by decide +kernel
theorem dX2_copyFrom_8 : decode cX2_copyFrom 8 = .ok (.invokevirtual 23, 3) := by decide +kernel
theorem dX2_copyFrom_11 : decode cX2_copyFrom 11 = .ok (.return_, 1) := by decide +kernel
set_option maxRecDepth 20000 in
theorem ggX2_learn_X5_set : GoodIn wsX2_learn wsX5_set := goodIn_r _ [6, 7, 9] (by decide +kernel) (by decide +kernel)
set_option maxRecDepth 20000 in
theorem gX2_learn_X5_set : GoodIn wsX2_learn (wsV RX2 27 RX5 yX5_set wsX5_set) := goodIn_app (goodIn_of _ (by decide +kernel)) ggX2_learn_X5_set
theorem dX2_learn_0 : decode cX2_learn 0 = .ok (.aload_n 0, 1) := by decide +kernel
theorem dX2_learn_1 : decode cX2_learn 1 = .ok (.getfield 14, 3) := by decide +kernel
theorem dX2_learn_4 : decode cX2_learn 4 = .ok (.iload_n 1, 1) := by decide +kernel
theorem dX2_learn_5 : decode cX2_learn 5 = .ok (.bipush 100, 2) := by decide +kernel
theorem dX2_learn_7 : decode cX2_learn 7 = .ok (.imul, 1) := by decide +kernel
theorem dX2_learn_8 : decode cX2_learn 8 = .ok (.iload_n 2, 1) := by decide +kernel
theorem dX2_learn_9 : decode cX2_learn 9 = .ok (.iadd, 1) := by decide +kernel
theorem dX2_learn_10 : decode cX2_learn 10 = .ok (.iconst 1, 1) := by decide +kernel
theorem dX2_learn_11 : decode cX2_learn 11 = .ok (.invokevirtual 27, 3) := by decide +kernel
theorem dX2_learn_14 : decode cX2_learn 14 = .ok (.return_, 1) := by decide +kernel
set_option maxRecDepth 20000 in
theorem ggX2_has_X5_get : GoodIn wsX2_has wsX5_get := goodIn_r _ [6, 7, 9] (by decide +kernel) (by decide +kernel)
set_option maxRecDepth 20000 in
theorem gX2_has_X5_get : GoodIn wsX2_has (wsV RX2 31 RX5 yX5_get wsX5_get) := goodIn_app (goodIn_of _ (by decide +kernel)) ggX2_has_X5_get
theorem dX2_has_0 : decode cX2_has 0 = .ok (.aload_n 0, 1) := by decide +kernel
theorem dX2_has_1 : decode cX2_has 1 = .ok (.getfield 14, 3) := by decide +kernel
theorem dX2_has_4 : decode cX2_has 4 = .ok (.iload_n 1, 1) := by decide +kernel
theorem dX2_has_5 : decode cX2_has 5 = .ok (.bipush 100, 2) := by decide +kernel
theorem dX2_has_7 : decode cX2_has 7 = .ok (.imul, 1) := by decide +kernel
theorem dX2_has_8 : decode cX2_has 8 = .ok (.iload_n 2, 1) := by decide +kernel
theorem dX2_has_9 : decode cX2_has 9 = .ok (.iadd, 1) := by decide +kernel
theorem dX2_has_10 : decode cX2_has 10 = .ok (.invokevirtual 31, 3) := by decide +kernel
theorem dX2_has_13 : decode cX2_has 13 = .ok (.iconst 1, 1) := by decide +kernel
theorem dX2_has_14 : decode cX2_has 14 = .ok (.if_icmp .ne 7, 3) := by decide +kernel
theorem dX2_has_17 : decode cX2_has 17 = .ok (.iconst 1, 1) := by decide +kernel
theorem dX2_has_18 : decode cX2_has 18 = .ok (.goto 4, 3) := by decide +kernel
theorem dX2_has_21 : decode cX2_has 21 = .ok (.iconst 0, 1) := by decide +kernel
theorem dX2_has_22 : decode cX2_has 22 = .ok (.ireturn, 1) := by decide +kernel
set_option maxRecDepth 20000 in
theorem ggX2_countOf_X2_has : GoodIn wsX2_countOf wsX2_has := goodIn_r _ [5, 6, 7, 8, 9, 10, 11, 12, 13, 14] (by decide +kernel) (by decide +kernel)
set_option maxRecDepth 20000 in
theorem gX2_countOf_X2_has : GoodIn wsX2_countOf (wsV RX2 35 RX2 yX2_has wsX2_has) := goodIn_app (goodIn_of _ (by decide +kernel)) ggX2_countOf_X2_has
theorem dX2_countOf_0 : decode cX2_countOf 0 = .ok (.iconst 0, 1) := by decide +kernel
theorem dX2_countOf_1 : decode cX2_countOf 1 = .ok (.istore_n 2, 1) := by decide +kernel
theorem dX2_countOf_2 : decode cX2_countOf 2 = .ok (.iconst 0, 1) := by decide +kernel
theorem dX2_countOf_3 : decode cX2_countOf 3 = .ok (.istore_n 3, 1) := by decide +kernel
theorem dX2_countOf_4 : decode cX2_countOf 4 = .ok (.iload_n 3, 1) := by decide +kernel
theorem dX2_countOf_5 : decode cX2_countOf 5 = .ok (.bipush 100, 2) := by decide +kernel
theorem dX2_countOf_7 : decode cX2_countOf 7 = .ok (.if_icmp .ge 26, 3) := by decide +kernel
theorem dX2_countOf_10 : decode cX2_countOf 10 = .ok (.iload_n 2, 1) := by decide +kernel
theorem dX2_countOf_11 : decode cX2_countOf 11 = .ok (.aload_n 0, 1) := by decide +kernel
theorem dX2_countOf_12 : decode cX2_countOf 12 = .ok (.iload_n 1, 1) := by decide +kernel
theorem dX2_countOf_13 : decode cX2_countOf 13 = .ok (.iload_n 3, 1) := by decide +kernel
theorem dX2_countOf_14 : decode cX2_countOf 14 = .ok (.invokevirtual 35, 3) := by decide +kernel
theorem dX2_countOf_17 : decode cX2_countOf 17 = .ok (.ifCond .eq 7, 3) := by decide +kernel
theorem dX2_countOf_20 : decode cX2_countOf 20 = .ok (.iconst 1, 1) := by decide +kernel
theorem dX2_countOf_21 : decode cX2_countOf 21 = .ok (.goto 4, 3) := by decide +kernel
theorem dX2_countOf_24 : decode cX2_countOf 24 = .ok (.iconst 0, 1) := by decide +kernel
theorem dX2_countOf_25 : decode cX2_countOf 25 = .ok (.iadd, 1) := by decide +kernel
theorem dX2_countOf_26 : decode cX2_countOf 26 = .ok (.istore_n 2, 1) := by decide +kernel
theorem dX2_countOf_27 : decode cX2_countOf 27 = .ok (.iinc 3 1, 3) := by decide +kernel
theorem dX2_countOf_30 : decode cX2_countOf 30 = .ok (.goto (-26), 3) := by decide +kernel
theorem dX2_countOf_33 : decode cX2_countOf 33 = .ok (.iload_n 2, 1) := by decide +kernel
theorem dX2_countOf_34 : decode cX2_countOf 34 = .ok (.ireturn, 1) := by decide +kernel
set_option maxRecDepth 20000 in
theorem ggX2_isInGap_X2_has : GoodIn wsX2_isInGap wsX2_has := goodIn_r _ [5, 6, 7, 8, 9, 10, 11, 12, 24, 25] (by decide +kernel) (by decide +kernel)
set_option maxRecDepth 20000 in
theorem gX2_isInGap_X2_has : GoodIn wsX2_isInGap (wsV RX2 35 RX2 yX2_has wsX2_has) := goodIn_app (goodIn_of _ (by decide +kernel)) ggX2_isInGap_X2_has
set_option maxRecDepth 20000 in
theorem ggX2_isInGap_X2_hasLaterOfAuthor : GoodIn wsX2_isInGap wsX2_hasLaterOfAuthor := goodIn_r _ [16, 17, 18, 19, 20, 21, 22, 23, 1, 2, 3, 4, 5, 6, 7, 8, 9, 10, 11, 12, 24, 25] (by decide +kernel) (by decide +kernel)
set_option maxRecDepth 20000 in
theorem gX2_isInGap_X2_hasLaterOfAuthor : GoodIn wsX2_isInGap (wsV RX2 39 RX2 yX2_hasLaterOfAuthor wsX2_hasLaterOfAuthor) := goodIn_app (goodIn_of _ (by decide +kernel)) ggX2_isInGap_X2_hasLaterOfAuthor
theorem dX2_isInGap_0 : decode cX2_isInGap 0 = .ok (.aload_n 0, 1) := by decide +kernel
theorem dX2_isInGap_1 : decode cX2_isInGap 1 = .ok (.iload_n 1, 1) := by decide +kernel
theorem dX2_isInGap_2 : decode cX2_isInGap 2 = .ok (.iload_n 2, 1) := by decide +kernel
theorem dX2_isInGap_3 : decode cX2_isInGap 3 = .ok (.invokevirtual 35, 3) := by decide +kernel
theorem dX2_isInGap_6 : decode cX2_isInGap 6 = .ok (.ifCond .ne 16, 3) := by decide +kernel
theorem dX2_isInGap_9 : decode cX2_isInGap 9 = .ok (.aload_n 0, 1) := by decide +kernel
theorem dX2_isInGap_10 : decode cX2_isInGap 10 = .ok (.iload_n 1, 1) := by decide +kernel
theorem dX2_isInGap_11 : decode cX2_isInGap 11 = .ok (.iload_n 2, 1) := by decide +kernel
theorem dX2_isInGap_12 : decode cX2_isInGap 12 = .ok (.invokevirtual 39, 3) := by decide +kernel
theorem dX2_isInGap_15 : decode cX2_isInGap 15 = .ok (.ifCond .eq 7, 3) := by decide +kernel
theorem dX2_isInGap_18 : decode cX2_isInGap 18 = .ok (.iconst 1, 1) := by decide +kernel
theorem dX2_isInGap_19 : decode cX2_isInGap 19 = .ok (.goto 4, 3) := by decide +kernel
theorem dX2_isInGap_22 : decode cX2_isInGap 22 = .ok (.iconst 0, 1) := by decide +kernel
theorem dX2_isInGap_23 : decode cX2_isInGap 23 = .ok (.ireturn, 1) := by decide +kernel
set_option maxRecDepth 20000 in
theorem ggX2_hasLaterOfAuthor_X6_authorOf : GoodIn wsX2_hasLaterOfAuthor wsX6_authorOf := goodIn_r _ [3] (by decide +kernel) (by decide +kernel)
set_option maxRecDepth 20000 in
theorem gX2_hasLaterOfAuthor_X6_authorOf_n42 : GoodIn wsX2_hasLaterOfAuthor (wsX6_authorOf) := ggX2_hasLaterOfAuthor_X6_authorOf
set_option maxRecDepth 20000 in
theorem ggX2_hasLaterOfAuthor_X6_numberOf : GoodIn wsX2_hasLaterOfAuthor wsX6_numberOf := goodIn_r _ [5] (by decide +kernel) (by decide +kernel)
set_option maxRecDepth 20000 in
theorem gX2_hasLaterOfAuthor_X6_numberOf_n45 : GoodIn wsX2_hasLaterOfAuthor (wsX6_numberOf) := ggX2_hasLaterOfAuthor_X6_numberOf
set_option maxRecDepth 20000 in
theorem ggX2_hasLaterOfAuthor_X6_idOf : GoodIn wsX2_hasLaterOfAuthor wsX6_idOf := goodIn_r _ [7] (by decide +kernel) (by decide +kernel)
set_option maxRecDepth 20000 in
theorem gX2_hasLaterOfAuthor_X6_idOf_n48 : GoodIn wsX2_hasLaterOfAuthor (wsX6_idOf) := ggX2_hasLaterOfAuthor_X6_idOf
set_option maxRecDepth 20000 in
theorem ggX2_hasLaterOfAuthor_X2_has : GoodIn wsX2_hasLaterOfAuthor wsX2_has := goodIn_r _ [12, 13, 14, 15, 16, 17, 18, 19, 20, 21] (by decide +kernel) (by decide +kernel)
set_option maxRecDepth 20000 in
theorem gX2_hasLaterOfAuthor_X2_has : GoodIn wsX2_hasLaterOfAuthor (wsV RX2 35 RX2 yX2_has wsX2_has) := goodIn_app (goodIn_of _ (by decide +kernel)) ggX2_hasLaterOfAuthor_X2_has
theorem dX2_hasLaterOfAuthor_0 : decode cX2_hasLaterOfAuthor 0 = .ok (.iload_n 2, 1) := by decide +kernel
theorem dX2_hasLaterOfAuthor_1 : decode cX2_hasLaterOfAuthor 1 = .ok (.invokestatic 42, 3) := by decide +kernel
theorem dX2_hasLaterOfAuthor_4 : decode cX2_hasLaterOfAuthor 4 = .ok (.istore_n 3, 1) := by decide +kernel
theorem dX2_hasLaterOfAuthor_5 : decode cX2_hasLaterOfAuthor 5 = .ok (.iload_n 2, 1) := by decide +kernel
theorem dX2_hasLaterOfAuthor_6 : decode cX2_hasLaterOfAuthor 6 = .ok (.invokestatic 45, 3) := by decide +kernel
theorem dX2_hasLaterOfAuthor_9 : decode cX2_hasLaterOfAuthor 9 = .ok (.iconst 1, 1) := by decide +kernel
theorem dX2_hasLaterOfAuthor_10 : decode cX2_hasLaterOfAuthor 10 = .ok (.iadd, 1) := by decide +kernel
theorem dX2_hasLaterOfAuthor_11 : decode cX2_hasLaterOfAuthor 11 = .ok (.istore 4, 2) := by decide +kernel
theorem dX2_hasLaterOfAuthor_13 : decode cX2_hasLaterOfAuthor 13 = .ok (.iload 4, 2) := by decide +kernel
theorem dX2_hasLaterOfAuthor_15 : decode cX2_hasLaterOfAuthor 15 = .ok (.bipush 20, 2) := by decide +kernel
theorem dX2_hasLaterOfAuthor_17 : decode cX2_hasLaterOfAuthor 17 = .ok (.if_icmp .gt 25, 3) := by decide +kernel
theorem dX2_hasLaterOfAuthor_20 : decode cX2_hasLaterOfAuthor 20 = .ok (.aload_n 0, 1) := by decide +kernel
theorem dX2_hasLaterOfAuthor_21 : decode cX2_hasLaterOfAuthor 21 = .ok (.iload_n 1, 1) := by decide +kernel
theorem dX2_hasLaterOfAuthor_22 : decode cX2_hasLaterOfAuthor 22 = .ok (.iload_n 3, 1) := by decide +kernel
theorem dX2_hasLaterOfAuthor_23 : decode cX2_hasLaterOfAuthor 23 = .ok (.iload 4, 2) := by decide +kernel
theorem dX2_hasLaterOfAuthor_25 : decode cX2_hasLaterOfAuthor 25 = .ok (.invokestatic 48, 3) := by decide +kernel
theorem dX2_hasLaterOfAuthor_28 : decode cX2_hasLaterOfAuthor 28 = .ok (.invokevirtual 35, 3) := by decide +kernel
theorem dX2_hasLaterOfAuthor_31 : decode cX2_hasLaterOfAuthor 31 = .ok (.ifCond .eq 5, 3) := by decide +kernel
theorem dX2_hasLaterOfAuthor_34 : decode cX2_hasLaterOfAuthor 34 = .ok (.iconst 1, 1) := by decide +kernel
theorem dX2_hasLaterOfAuthor_35 : decode cX2_hasLaterOfAuthor 35 = .ok (.ireturn, 1) := by decide +kernel
theorem dX2_hasLaterOfAuthor_36 : decode cX2_hasLaterOfAuthor 36 = .ok (.iinc 4 1, 3) := by decide +kernel
theorem dX2_hasLaterOfAuthor_39 : decode cX2_hasLaterOfAuthor 39 = .ok (.goto (-26), 3) := by decide +kernel
theorem dX2_hasLaterOfAuthor_42 : decode cX2_hasLaterOfAuthor 42 = .ok (.iconst 0, 1) := by decide +kernel
theorem dX2_hasLaterOfAuthor_43 : decode cX2_hasLaterOfAuthor 43 = .ok (.ireturn, 1) := by decide +kernel
set_option maxRecDepth 20000 in
theorem ggX3_init_X5_init : GoodIn wsX3_init wsX5_init := goodIn_r _ [11, 12, 2, 3, 13, 14, 15, 16, 17, 18, 19] (by decide +kernel) (by decide +kernel)
set_option maxRecDepth 20000 in
theorem gX3_init_X5_init : GoodIn wsX3_init (wsX5_init) := ggX3_init_X5_init
theorem dX3_init_0 : decode cX3_init 0 = .ok (.aload_n 0, 1) := by decide +kernel
theorem dX3_init_1 : decode cX3_init 1 = .ok (.invokespecial 3, 3) := by decide +kernel
theorem dX3_init_4 : decode cX3_init 4 = .ok (.aload_n 0, 1) := by decide +kernel
theorem dX3_init_5 : decode cX3_init 5 = .ok (.new 9, 3) := by decide +kernel
theorem dX3_init_8 : decode cX3_init 8 = .ok (.dup, 1) := by decide +kernel
theorem dX3_init_9 : decode cX3_init 9 = .ok (.bipush 25, 2) := by decide +kernel
theorem dX3_init_11 : decode cX3_init 11 = .ok (.invokespecial 11, 3) := by decide +kernel
theorem dX3_init_14 : decode cX3_init 14 = .ok (.putfield 14, 3) := by decide +kernel
theorem dX3_init_17 : decode cX3_init 17 = .ok (.aload_n 0, 1) := by decide +kernel
theorem dX3_init_18 : decode cX3_init 18 = .ok (.new 9, 3) := by decide +kernel
theorem dX3_init_21 : decode cX3_init 21 = .ok (.dup, 1) := by decide +kernel
theorem dX3_init_22 : decode cX3_init 22 = .ok (.sipush 250, 3) := by decide +kernel
theorem dX3_init_25 : decode cX3_init 25 = .ok (.invokespecial 11, 3) := by decide +kernel
theorem dX3_init_28 : decode cX3_init 28 = .ok (.putfield 20, 3) := by decide +kernel
theorem dX3_init_31 : decode cX3_init 31 = .ok (.return_, 1) := by decide +kernel
set_option maxRecDepth 20000 in
theorem ggX3_clear_X5_fill : GoodIn wsX3_clear wsX5_fill := goodIn_r _ [6, 7, 10] (by decide +kernel) (by decide +kernel)
set_option maxRecDepth 20000 in
theorem gX3_clear_X5_fill : GoodIn wsX3_clear (wsV RX3 23 RX5 yX5_fill wsX5_fill) := goodIn_app (goodIn_of _ (by decide +kernel)) ggX3_clear_X5_fill
theorem dX3_clear_0 : decode cX3_clear 0 = .ok (.aload_n 0, 1) := by decide +kernel
theorem dX3_clear_1 : decode cX3_clear 1 = .ok (.getfield 14, 3) := by decide +kernel
theorem dX3_clear_4 : decode cX3_clear 4 = .ok (.iconst 0, 1) := by decide +kernel
theorem dX3_clear_5 : decode cX3_clear 5 = .ok (.invokevirtual 23, 3) := by decide +kernel
theorem dX3_clear_8 : decode cX3_clear 8 = .ok (.return_, 1) := by decide +kernel
set_option maxRecDepth 20000 in
theorem ggX3_send_X5_get : GoodIn wsX3_send wsX5_get := goodIn_r _ [7, 8, 15] (by decide +kernel) (by decide +kernel)
set_option maxRecDepth 20000 in
theorem gX3_send_X5_get : GoodIn wsX3_send (wsV RX3 26 RX5 yX5_get wsX5_get) := goodIn_app (goodIn_of _ (by decide +kernel)) ggX3_send_X5_get
set_option maxRecDepth 20000 in
theorem ggX3_send_X5_set : GoodIn wsX3_send wsX5_set := goodIn_r _ [12, 8, 15] (by decide +kernel) (by decide +kernel)
set_option maxRecDepth 20000 in
theorem gX3_send_X5_set : GoodIn wsX3_send (wsV RX3 30 RX5 yX5_set wsX5_set) := goodIn_app (goodIn_of _ (by decide +kernel)) ggX3_send_X5_set
theorem dX3_send_0 : decode cX3_send 0 = .ok (.iload_n 1, 1) := by decide +kernel
theorem dX3_send_1 : decode cX3_send 1 = .ok (.iconst 5, 1) := by decide +kernel
theorem dX3_send_2 : decode cX3_send 2 = .ok (.imul, 1) := by decide +kernel
theorem dX3_send_3 : decode cX3_send 3 = .ok (.iload_n 2, 1) := by decide +kernel
theorem dX3_send_4 : decode cX3_send 4 = .ok (.iadd, 1) := by decide +kernel
theorem dX3_send_5 : decode cX3_send 5 = .ok (.istore 4, 2) := by decide +kernel
theorem dX3_send_7 : decode cX3_send 7 = .ok (.aload_n 0, 1) := by decide +kernel
theorem dX3_send_8 : decode cX3_send 8 = .ok (.getfield 14, 3) := by decide +kernel
theorem dX3_send_11 : decode cX3_send 11 = .ok (.iload 4, 2) := by decide +kernel
theorem dX3_send_13 : decode cX3_send 13 = .ok (.invokevirtual 26, 3) := by decide +kernel
theorem dX3_send_16 : decode cX3_send 16 = .ok (.istore 5, 2) := by decide +kernel
theorem dX3_send_18 : decode cX3_send 18 = .ok (.iload 5, 2) := by decide +kernel
theorem dX3_send_20 : decode cX3_send 20 = .ok (.bipush 10, 2) := by decide +kernel
theorem dX3_send_22 : decode cX3_send 22 = .ok (.if_icmp .ge 32, 3) := by decide +kernel
theorem dX3_send_25 : decode cX3_send 25 = .ok (.aload_n 0, 1) := by decide +kernel
theorem dX3_send_26 : decode cX3_send 26 = .ok (.getfield 20, 3) := by decide +kernel
theorem dX3_send_29 : decode cX3_send 29 = .ok (.iload 4, 2) := by decide +kernel
theorem dX3_send_31 : decode cX3_send 31 = .ok (.bipush 10, 2) := by decide +kernel
theorem dX3_send_33 : decode cX3_send 33 = .ok (.imul, 1) := by decide +kernel
theorem dX3_send_34 : decode cX3_send 34 = .ok (.iload 5, 2) := by decide +kernel
theorem dX3_send_36 : decode cX3_send 36 = .ok (.iadd, 1) := by decide +kernel
theorem dX3_send_37 : decode cX3_send 37 = .ok (.iload_n 3, 1) := by decide +kernel
theorem dX3_send_38 : decode cX3_send 38 = .ok (.invokevirtual 30, 3) := by decide +kernel
theorem dX3_send_41 : decode cX3_send 41 = .ok (.aload_n 0, 1) := by decide +kernel
theorem dX3_send_42 : decode cX3_send 42 = .ok (.getfield 14, 3) := by decide +kernel
theorem dX3_send_45 : decode cX3_send 45 = .ok (.iload 4, 2) := by decide +kernel
theorem dX3_send_47 : decode cX3_send 47 = .ok (.iload 5, 2) := by decide +kernel
theorem dX3_send_49 : decode cX3_send 49 = .ok (.iconst 1, 1) := by decide +kernel
theorem dX3_send_50 : decode cX3_send 50 = .ok (.iadd, 1) := by decide +kernel
theorem dX3_send_51 : decode cX3_send 51 = .ok (.invokevirtual 30, 3) := by decide +kernel
theorem dX3_send_54 : decode cX3_send 54 = .ok (.return_, 1) := by decide +kernel
set_option maxRecDepth 20000 in
theorem ggX3_countIn_X5_get : GoodIn wsX3_countIn wsX5_get := goodIn_r _ [6, 7, 10] (by decide +kernel) (by decide +kernel)
set_option maxRecDepth 20000 in
theorem gX3_countIn_X5_get : GoodIn wsX3_countIn (wsV RX3 26 RX5 yX5_get wsX5_get) := goodIn_app (goodIn_of _ (by decide +kernel)) ggX3_countIn_X5_get
theorem dX3_countIn_0 : decode cX3_countIn 0 = .ok (.aload_n 0, 1) := by decide +kernel
theorem dX3_countIn_1 : decode cX3_countIn 1 = .ok (.getfield 14, 3) := by decide +kernel
theorem dX3_countIn_4 : decode cX3_countIn 4 = .ok (.iload_n 1, 1) := by decide +kernel
theorem dX3_countIn_5 : decode cX3_countIn 5 = .ok (.iconst 5, 1) := by decide +kernel
theorem dX3_countIn_6 : decode cX3_countIn 6 = .ok (.imul, 1) := by decide +kernel
theorem dX3_countIn_7 : decode cX3_countIn 7 = .ok (.iload_n 2, 1) := by decide +kernel
theorem dX3_countIn_8 : decode cX3_countIn 8 = .ok (.iadd, 1) := by decide +kernel
theorem dX3_countIn_9 : decode cX3_countIn 9 = .ok (.invokevirtual 26, 3) := by decide +kernel
theorem dX3_countIn_12 : decode cX3_countIn 12 = .ok (.ireturn, 1) := by decide +kernel
set_option maxRecDepth 20000 in
theorem ggX3_messageIn_X5_get : GoodIn wsX3_messageIn wsX5_get := goodIn_r _ [6, 7, 10] (by decide +kernel) (by decide +kernel)
set_option maxRecDepth 20000 in
theorem gX3_messageIn_X5_get : GoodIn wsX3_messageIn (wsV RX3 26 RX5 yX5_get wsX5_get) := goodIn_app (goodIn_of _ (by decide +kernel)) ggX3_messageIn_X5_get
theorem dX3_messageIn_0 : decode cX3_messageIn 0 = .ok (.aload_n 0, 1) := by decide +kernel
theorem dX3_messageIn_1 : decode cX3_messageIn 1 = .ok (.getfield 20, 3) := by decide +kernel
theorem dX3_messageIn_4 : decode cX3_messageIn 4 = .ok (.iload_n 1, 1) := by decide +kernel
theorem dX3_messageIn_5 : decode cX3_messageIn 5 = .ok (.iconst 5, 1) := by decide +kernel
theorem dX3_messageIn_6 : decode cX3_messageIn 6 = .ok (.imul, 1) := by decide +kernel
theorem dX3_messageIn_7 : decode cX3_messageIn 7 = .ok (.iload_n 2, 1) := by decide +kernel
theorem dX3_messageIn_8 : decode cX3_messageIn 8 = .ok (.iadd, 1) := by decide +kernel
theorem dX3_messageIn_9 : decode cX3_messageIn 9 = .ok (.bipush 10, 2) := by decide +kernel
theorem dX3_messageIn_11 : decode cX3_messageIn 11 = .ok (.imul, 1) := by decide +kernel
theorem dX3_messageIn_12 : decode cX3_messageIn 12 = .ok (.iload_n 3, 1) := by decide +kernel
theorem dX3_messageIn_13 : decode cX3_messageIn 13 = .ok (.iadd, 1) := by decide +kernel
theorem dX3_messageIn_14 : decode cX3_messageIn 14 = .ok (.invokevirtual 26, 3) := by decide +kernel
theorem dX3_messageIn_17 : decode cX3_messageIn 17 = .ok (.ireturn, 1) := by decide +kernel
set_option maxRecDepth 20000 in
theorem ggX3_dropFirst_X5_get : GoodIn wsX3_dropFirst wsX5_get := goodIn_r _ [11, 12, 19] (by decide +kernel) (by decide +kernel)
set_option maxRecDepth 20000 in
theorem gX3_dropFirst_X5_get : GoodIn wsX3_dropFirst (wsV RX3 26 RX5 yX5_get wsX5_get) := goodIn_app (goodIn_of _ (by decide +kernel)) ggX3_dropFirst_X5_get
set_option maxRecDepth 20000 in
theorem ggX3_dropFirst_X5_set : GoodIn wsX3_dropFirst wsX5_set := goodIn_r _ [16, 12, 19] (by decide +kernel) (by decide +kernel)
set_option maxRecDepth 20000 in
theorem gX3_dropFirst_X5_set : GoodIn wsX3_dropFirst (wsV RX3 30 RX5 yX5_set wsX5_set) := goodIn_app (goodIn_of _ (by decide +kernel)) ggX3_dropFirst_X5_set
theorem dX3_dropFirst_0 : decode cX3_dropFirst 0 = .ok (.iload_n 1, 1) := by decide +kernel
theorem dX3_dropFirst_1 : decode cX3_dropFirst 1 = .ok (.iconst 5, 1) := by decide +kernel
theorem dX3_dropFirst_2 : decode cX3_dropFirst 2 = .ok (.imul, 1) := by decide +kernel
theorem dX3_dropFirst_3 : decode cX3_dropFirst 3 = .ok (.iload_n 2, 1) := by decide +kernel
theorem dX3_dropFirst_4 : decode cX3_dropFirst 4 = .ok (.iadd, 1) := by decide +kernel
theorem dX3_dropFirst_5 : decode cX3_dropFirst 5 = .ok (.istore_n 3, 1) := by decide +kernel
theorem dX3_dropFirst_6 : decode cX3_dropFirst 6 = .ok (.aload_n 0, 1) := by decide +kernel
theorem dX3_dropFirst_7 : decode cX3_dropFirst 7 = .ok (.getfield 14, 3) := by decide +kernel
theorem dX3_dropFirst_10 : decode cX3_dropFirst 10 = .ok (.iload_n 3, 1) := by decide +kernel
theorem dX3_dropFirst_11 : decode cX3_dropFirst 11 = .ok (.invokevirtual 26, 3) := by decide +kernel
theorem dX3_dropFirst_14 : decode cX3_dropFirst 14 = .ok (.iconst 1, 1) := by decide +kernel
theorem dX3_dropFirst_15 : decode cX3_dropFirst 15 = .ok (.isub, 1) := by decide +kernel
theorem dX3_dropFirst_16 : decode cX3_dropFirst 16 = .ok (.istore 4, 2) := by decide +kernel
theorem dX3_dropFirst_18 : decode cX3_dropFirst 18 = .ok (.iload_n 3, 1) := by decide +kernel
theorem dX3_dropFirst_19 : decode cX3_dropFirst 19 = .ok (.bipush 10, 2) := by decide +kernel
theorem dX3_dropFirst_21 : decode cX3_dropFirst 21 = .ok (.imul, 1) := by decide +kernel
theorem dX3_dropFirst_22 : decode cX3_dropFirst 22 = .ok (.istore 5, 2) := by decide +kernel
theorem dX3_dropFirst_24 : decode cX3_dropFirst 24 = .ok (.iconst 0, 1) := by decide +kernel
theorem dX3_dropFirst_25 : decode cX3_dropFirst 25 = .ok (.istore 6, 2) := by decide +kernel
theorem dX3_dropFirst_27 : decode cX3_dropFirst 27 = .ok (.iload 6, 2) := by decide +kernel
theorem dX3_dropFirst_29 : decode cX3_dropFirst 29 = .ok (.iload 4, 2) := by decide +kernel
theorem dX3_dropFirst_31 : decode cX3_dropFirst 31 = .ok (.if_icmp .ge 35, 3) := by decide +kernel
theorem dX3_dropFirst_34 : decode cX3_dropFirst 34 = .ok (.aload_n 0, 1) := by decide +kernel
theorem dX3_dropFirst_35 : decode cX3_dropFirst 35 = .ok (.getfield 20, 3) := by decide +kernel
theorem dX3_dropFirst_38 : decode cX3_dropFirst 38 = .ok (.iload 5, 2) := by decide +kernel
theorem dX3_dropFirst_40 : decode cX3_dropFirst 40 = .ok (.iload 6, 2) := by decide +kernel
theorem dX3_dropFirst_42 : decode cX3_dropFirst 42 = .ok (.iadd, 1) := by decide +kernel
theorem dX3_dropFirst_43 : decode cX3_dropFirst 43 = .ok (.aload_n 0, 1) := by decide +kernel
theorem dX3_dropFirst_44 : decode cX3_dropFirst 44 = .ok (.getfield 20, 3) := by decide +kernel
theorem dX3_dropFirst_47 : decode cX3_dropFirst 47 = .ok (.iload 5, 2) := by decide +kernel
theorem dX3_dropFirst_49 : decode cX3_dropFirst 49 = .ok (.iload 6, 2) := by decide +kernel
theorem dX3_dropFirst_51 : decode cX3_dropFirst 51 = .ok (.iadd, 1) := by decide +kernel
theorem dX3_dropFirst_52 : decode cX3_dropFirst 52 = .ok (.iconst 1, 1) := by decide +kernel
theorem dX3_dropFirst_53 : decode cX3_dropFirst 53 = .ok (.iadd, 1) := by decide +kernel
theorem dX3_dropFirst_54 : decode cX3_dropFirst 54 = .ok (.invokevirtual 26, 3) := by decide +kernel
theorem dX3_dropFirst_57 : decode cX3_dropFirst 57 = .ok (.invokevirtual 30, 3) := by decide +kernel
theorem dX3_dropFirst_60 : decode cX3_dropFirst 60 = .ok (.iinc 6 1, 3) := by decide +kernel
theorem dX3_dropFirst_63 : decode cX3_dropFirst 63 = .ok (.goto (-36), 3) := by decide +kernel
theorem dX3_dropFirst_66 : decode cX3_dropFirst 66 = .ok (.aload_n 0, 1) := by decide +kernel
theorem dX3_dropFirst_67 : decode cX3_dropFirst 67 = .ok (.getfield 14, 3) := by decide +kernel
theorem dX3_dropFirst_70 : decode cX3_dropFirst 70 = .ok (.iload_n 3, 1) := by decide +kernel
theorem dX3_dropFirst_71 : decode cX3_dropFirst 71 = .ok (.iload 4, 2) := by decide +kernel
theorem dX3_dropFirst_73 : decode cX3_dropFirst 73 = .ok (.iconst 0, 1) := by decide +kernel
theorem dX3_dropFirst_74 : decode cX3_dropFirst 74 = .ok (.invokestatic 34, 3) := by decide +kernel
theorem dX3_dropFirst_77 : decode cX3_dropFirst 77 = .ok (.invokevirtual 30, 3) := by decide +kernel
theorem dX3_dropFirst_80 : decode cX3_dropFirst 80 = .ok (.return_, 1) := by decide +kernel
set_option maxRecDepth 20000 in
theorem ggX3_carry_X5_get : GoodIn wsX3_carry wsX5_get := goodIn_r _ [7, 8, 11] (by decide +kernel) (by decide +kernel)
set_option maxRecDepth 20000 in
theorem gX3_carry_X5_get : GoodIn wsX3_carry (wsV RX3 26 RX5 yX5_get wsX5_get) := goodIn_app (goodIn_of _ (by decide +kernel)) ggX3_carry_X5_get
theorem dX3_carry_0 : decode cX3_carry 0 = .ok (.iconst 0, 1) := by decide +kernel
theorem dX3_carry_1 : decode cX3_carry 1 = .ok (.istore_n 2, 1) := by decide +kernel
theorem dX3_carry_2 : decode cX3_carry 2 = .ok (.iload_n 2, 1) := by decide +kernel
theorem dX3_carry_3 : decode cX3_carry 3 = .ok (.bipush 25, 2) := by decide +kernel
theorem dX3_carry_5 : decode cX3_carry 5 = .ok (.if_icmp .ge 48, 3) := by decide +kernel
theorem dX3_carry_8 : decode cX3_carry 8 = .ok (.iconst 0, 1) := by decide +kernel
theorem dX3_carry_9 : decode cX3_carry 9 = .ok (.istore_n 3, 1) := by decide +kernel
theorem dX3_carry_10 : decode cX3_carry 10 = .ok (.iload_n 3, 1) := by decide +kernel
theorem dX3_carry_11 : decode cX3_carry 11 = .ok (.aload_n 0, 1) := by decide +kernel
theorem dX3_carry_12 : decode cX3_carry 12 = .ok (.getfield 14, 3) := by decide +kernel
theorem dX3_carry_15 : decode cX3_carry 15 = .ok (.iload_n 2, 1) := by decide +kernel
theorem dX3_carry_16 : decode cX3_carry 16 = .ok (.invokevirtual 26, 3) := by decide +kernel
theorem dX3_carry_19 : decode cX3_carry 19 = .ok (.if_icmp .ge 28, 3) := by decide +kernel
theorem dX3_carry_22 : decode cX3_carry 22 = .ok (.aload_n 0, 1) := by decide +kernel
theorem dX3_carry_23 : decode cX3_carry 23 = .ok (.getfield 20, 3) := by decide +kernel
theorem dX3_carry_26 : decode cX3_carry 26 = .ok (.iload_n 2, 1) := by decide +kernel
theorem dX3_carry_27 : decode cX3_carry 27 = .ok (.bipush 10, 2) := by decide +kernel
theorem dX3_carry_29 : decode cX3_carry 29 = .ok (.imul, 1) := by decide +kernel
theorem dX3_carry_30 : decode cX3_carry 30 = .ok (.iload_n 3, 1) := by decide +kernel
theorem dX3_carry_31 : decode cX3_carry 31 = .ok (.iadd, 1) := by decide +kernel
theorem dX3_carry_32 : decode cX3_carry 32 = .ok (.invokevirtual 26, 3) := by decide +kernel
theorem dX3_carry_35 : decode cX3_carry 35 = .ok (.iload_n 1, 1) := by decide +kernel
theorem dX3_carry_36 : decode cX3_carry 36 = .ok (.if_icmp .ne 5, 3) := by decide +kernel
theorem dX3_carry_39 : decode cX3_carry 39 = .ok (.iconst 1, 1) := by decide +kernel
theorem dX3_carry_40 : decode cX3_carry 40 = .ok (.ireturn, 1) := by decide +kernel
theorem dX3_carry_41 : decode cX3_carry 41 = .ok (.iinc 3 1, 3) := by decide +kernel
theorem dX3_carry_44 : decode cX3_carry 44 = .ok (.goto (-34), 3) := by decide +kernel
theorem dX3_carry_47 : decode cX3_carry 47 = .ok (.iinc 2 1, 3) := by decide +kernel
theorem dX3_carry_50 : decode cX3_carry 50 = .ok (.goto (-48), 3) := by decide +kernel
theorem dX3_carry_53 : decode cX3_carry 53 = .ok (.iconst 0, 1) := by decide +kernel
theorem dX3_carry_54 : decode cX3_carry 54 = .ok (.ireturn, 1) := by decide +kernel
set_option maxRecDepth 20000 in
theorem ggX4_init_X5_init : GoodIn wsX4_init wsX5_init := goodIn_r _ [19, 20, 2, 3, 21, 22, 23, 24, 25, 26, 38] (by decide +kernel) (by decide +kernel)
set_option maxRecDepth 20000 in
theorem gX4_init_X5_init : GoodIn wsX4_init (wsX5_init) := ggX4_init_X5_init
set_option maxRecDepth 20000 in
theorem ggX4_init_X1_init : GoodIn wsX4_init wsX1_init := goodIn_r _ [29, 30, 2, 3, 31, 5, 6, 32, 33, 34, 35, 36, 37, 18, 19, 20, 21, 22, 23, 24, 25, 26, 38, 47, 48, 49, 50, 51] (by decide +kernel) (by decide +kernel)
set_option maxRecDepth 20000 in
theorem gX4_init_X1_init : GoodIn wsX4_init (wsX1_init) := ggX4_init_X1_init
theorem dX4_init_0 : decode cX4_init 0 = .ok (.aload_n 0, 1) := by decide +kernel
theorem dX4_init_1 : decode cX4_init 1 = .ok (.invokespecial 3, 3) := by decide +kernel
theorem dX4_init_4 : decode cX4_init 4 = .ok (.aload_n 0, 1) := by decide +kernel
theorem dX4_init_5 : decode cX4_init 5 = .ok (.new 9, 3) := by decide +kernel
theorem dX4_init_8 : decode cX4_init 8 = .ok (.dup, 1) := by decide +kernel
theorem dX4_init_9 : decode cX4_init 9 = .ok (.iconst 5, 1) := by decide +kernel
theorem dX4_init_10 : decode cX4_init 10 = .ok (.invokespecial 11, 3) := by decide +kernel
theorem dX4_init_13 : decode cX4_init 13 = .ok (.putfield 14, 3) := by decide +kernel
theorem dX4_init_16 : decode cX4_init 16 = .ok (.aload_n 0, 1) := by decide +kernel
theorem dX4_init_17 : decode cX4_init 17 = .ok (.new 9, 3) := by decide +kernel
theorem dX4_init_20 : decode cX4_init 20 = .ok (.dup, 1) := by decide +kernel
theorem dX4_init_21 : decode cX4_init 21 = .ok (.bipush 100, 2) := by decide +kernel
theorem dX4_init_23 : decode cX4_init 23 = .ok (.invokespecial 11, 3) := by decide +kernel
theorem dX4_init_26 : decode cX4_init 26 = .ok (.putfield 20, 3) := by decide +kernel
theorem dX4_init_29 : decode cX4_init 29 = .ok (.aload_n 0, 1) := by decide +kernel
theorem dX4_init_30 : decode cX4_init 30 = .ok (.new 9, 3) := by decide +kernel
theorem dX4_init_33 : decode cX4_init 33 = .ok (.dup, 1) := by decide +kernel
theorem dX4_init_34 : decode cX4_init 34 = .ok (.bipush 100, 2) := by decide +kernel
theorem dX4_init_36 : decode cX4_init 36 = .ok (.invokespecial 11, 3) := by decide +kernel
theorem dX4_init_39 : decode cX4_init 39 = .ok (.putfield 23, 3) := by decide +kernel
theorem dX4_init_42 : decode cX4_init 42 = .ok (.aload_n 0, 1) := by decide +kernel
theorem dX4_init_43 : decode cX4_init 43 = .ok (.new 9, 3) := by decide +kernel
theorem dX4_init_46 : decode cX4_init 46 = .ok (.dup, 1) := by decide +kernel
theorem dX4_init_47 : decode cX4_init 47 = .ok (.bipush 100, 2) := by decide +kernel
theorem dX4_init_49 : decode cX4_init 49 = .ok (.invokespecial 11, 3) := by decide +kernel
theorem dX4_init_52 : decode cX4_init 52 = .ok (.putfield 26, 3) := by decide +kernel
theorem dX4_init_55 : decode cX4_init 55 = .ok (.aload_n 0, 1) := by decide +kernel
theorem dX4_init_56 : decode cX4_init 56 = .ok (.new 9, 3) := by decide +kernel
theorem dX4_init_59 : decode cX4_init 59 = .ok (.dup, 1) := by decide +kernel
theorem dX4_init_60 : decode cX4_init 60 = .ok (.bipush 100, 2) := by decide +kernel
theorem dX4_init_62 : decode cX4_init 62 = .ok (.invokespecial 11, 3) := by decide +kernel
theorem dX4_init_65 : decode cX4_init 65 = .ok (.putfield 29, 3) := by decide +kernel
theorem dX4_init_68 : decode cX4_init 68 = .ok (.aload_n 0, 1) := by decide +kernel
theorem dX4_init_69 : decode cX4_init 69 = .ok (.new 9, 3) := by decide +kernel
theorem dX4_init_72 : decode cX4_init 72 = .ok (.dup, 1) := by decide +kernel
theorem dX4_init_73 : decode cX4_init 73 = .ok (.bipush 100, 2) := by decide +kernel
theorem dX4_init_75 : decode cX4_init 75 = .ok (.invokespecial 11, 3) := by decide +kernel
theorem dX4_init_78 : decode cX4_init 78 = .ok (.putfield 32, 3) := by decide +kernel
theorem dX4_init_81 : decode cX4_init 81 = .ok (.aload_n 0, 1) := by decide +kernel
theorem dX4_init_82 : decode cX4_init 82 = .ok (.new 35, 3) := by decide +kernel
theorem dX4_init_85 : decode cX4_init 85 = .ok (.dup, 1) := by decide +kernel
theorem dX4_init_86 : decode cX4_init 86 = .ok (.bipush 100, 2) := by decide +kernel
theorem dX4_init_88 : decode cX4_init 88 = .ok (.invokespecial 37, 3) := by decide +kernel
theorem dX4_init_91 : decode cX4_init 91 = .ok (.putfield 38, 3) := by decide +kernel
theorem dX4_init_94 : decode cX4_init 94 = .ok (.return_, 1) := by decide +kernel
set_option maxRecDepth 20000 in
theorem ggX4_clear_X5_fill : GoodIn wsX4_clear wsX5_fill := goodIn_r _ [7, 8, 17] (by decide +kernel) (by decide +kernel)
set_option maxRecDepth 20000 in
theorem gX4_clear_X5_fill : GoodIn wsX4_clear (wsV RX4 42 RX5 yX5_fill wsX5_fill) := goodIn_app (goodIn_of _ (by decide +kernel)) ggX4_clear_X5_fill
theorem dX4_clear_0 : decode cX4_clear 0 = .ok (.aload_n 0, 1) := by decide +kernel
theorem dX4_clear_1 : decode cX4_clear 1 = .ok (.getfield 14, 3) := by decide +kernel
theorem dX4_clear_4 : decode cX4_clear 4 = .ok (.iconst 0, 1) := by decide +kernel
theorem dX4_clear_5 : decode cX4_clear 5 = .ok (.invokevirtual 42, 3) := by decide +kernel
theorem dX4_clear_8 : decode cX4_clear 8 = .ok (.aload_n 0, 1) := by decide +kernel
theorem dX4_clear_9 : decode cX4_clear 9 = .ok (.iconst 0, 1) := by decide +kernel
theorem dX4_clear_10 : decode cX4_clear 10 = .ok (.putfield 45, 3) := by decide +kernel
theorem dX4_clear_13 : decode cX4_clear 13 = .ok (.return_, 1) := by decide +kernel
set_option maxRecDepth 20000 in
theorem ggX4_addStroke_X4_addOperation : GoodIn wsX4_addStroke wsX4_addOperation := goodIn_r _ [7, 8, 9, 10, 11, 12, 13, 14, 15, 16, 17, 18, 19, 20, 21, 22, 23, 24, 25, 26, 6, 27, 28, 29, 30, 31, 32, 33, 34, 35, 36, 37, 38, 39, 85, 86, 87, 88, 89, 90, 91, 92, 93] (by decide +kernel) (by decide +kernel)
set_option maxRecDepth 20000 in
theorem gX4_addStroke_X4_addOperation : GoodIn wsX4_addStroke (wsV RX4 49 RX4 yX4_addOperation wsX4_addOperation) := goodIn_app (goodIn_of _ (by decide +kernel)) ggX4_addStroke_X4_addOperation
set_option maxRecDepth 20000 in
theorem ggX4_addStroke_X1_copyFrom : GoodIn wsX4_addStroke wsX1_copyFrom := goodIn_r _ [44, 45, 46, 47, 43, 48, 49, 50, 12, 13, 14, 15, 16, 51, 52, 53, 54, 55, 56, 57, 58, 59, 60, 61, 62, 63, 64, 65, 66, 67, 68, 69, 21, 22, 23, 70, 71, 72, 73, 74, 75, 76, 77, 78, 79, 80, 81, 82, 83, 94, 95, 96, 97, 98, 93] (by decide +kernel) (by decide +kernel)
set_option maxRecDepth 20000 in
theorem gX4_addStroke_X1_copyFrom : GoodIn wsX4_addStroke (wsV RX4 53 RX1 yX1_copyFrom wsX1_copyFrom) := goodIn_app (goodIn_of _ (by decide +kernel)) ggX4_addStroke_X1_copyFrom
set_option maxRecDepth 20000 in
theorem ggX4_addStroke_X1_layerOf : GoodIn wsX4_addStroke wsX1_layerOf := goodIn_r _ [59, 60, 50, 12, 13, 14, 15, 16, 94, 95, 96, 97, 98, 93] (by decide +kernel) (by decide +kernel)
set_option maxRecDepth 20000 in
theorem gX4_addStroke_X1_layerOf : GoodIn wsX4_addStroke (wsV RX4 57 RX1 yX1_layerOf wsX1_layerOf) := goodIn_app (goodIn_of _ (by decide +kernel)) ggX4_addStroke_X1_layerOf
set_option maxRecDepth 20000 in
theorem ggX4_addStroke_X5_set : GoodIn wsX4_addStroke wsX5_set := goodIn_r _ [23, 16, 93] (by decide +kernel) (by decide +kernel)
set_option maxRecDepth 20000 in
theorem gX4_addStroke_X5_set : GoodIn wsX4_addStroke (wsV RX4 61 RX5 yX5_set wsX5_set) := goodIn_app (goodIn_of _ (by decide +kernel)) ggX4_addStroke_X5_set
theorem dX4_addStroke_0 : decode cX4_addStroke 0 = .ok (.aload_n 0, 1) := by decide +kernel
theorem dX4_addStroke_1 : decode cX4_addStroke 1 = .ok (.iload_n 1, 1) := by decide +kernel
theorem dX4_addStroke_2 : decode cX4_addStroke 2 = .ok (.iload_n 2, 1) := by decide +kernel
theorem dX4_addStroke_3 : decode cX4_addStroke 3 = .ok (.iconst 0, 1) := by decide +kernel
theorem dX4_addStroke_4 : decode cX4_addStroke 4 = .ok (.invokevirtual 49, 3) := by decide +kernel
theorem dX4_addStroke_7 : decode cX4_addStroke 7 = .ok (.istore 4, 2) := by decide +kernel
theorem dX4_addStroke_9 : decode cX4_addStroke 9 = .ok (.aload_n 0, 1) := by decide +kernel
theorem dX4_addStroke_10 : decode cX4_addStroke 10 = .ok (.getfield 38, 3) := by decide +kernel
theorem dX4_addStroke_13 : decode cX4_addStroke 13 = .ok (.aload_n 3, 1) := by decide +kernel
theorem dX4_addStroke_14 : decode cX4_addStroke 14 = .ok (.iload_n 1, 1) := by decide +kernel
theorem dX4_addStroke_15 : decode cX4_addStroke 15 = .ok (.iload 4, 2) := by decide +kernel
theorem dX4_addStroke_17 : decode cX4_addStroke 17 = .ok (.invokevirtual 53, 3) := by decide +kernel
theorem dX4_addStroke_20 : decode cX4_addStroke 20 = .ok (.aload_n 0, 1) := by decide +kernel
theorem dX4_addStroke_21 : decode cX4_addStroke 21 = .ok (.getfield 29, 3) := by decide +kernel
theorem dX4_addStroke_24 : decode cX4_addStroke 24 = .ok (.iload 4, 2) := by decide +kernel
theorem dX4_addStroke_26 : decode cX4_addStroke 26 = .ok (.aload_n 0, 1) := by decide +kernel
theorem dX4_addStroke_27 : decode cX4_addStroke 27 = .ok (.getfield 38, 3) := by decide +kernel
theorem dX4_addStroke_30 : decode cX4_addStroke 30 = .ok (.iload 4, 2) := by decide +kernel
theorem dX4_addStroke_32 : decode cX4_addStroke 32 = .ok (.invokevirtual 57, 3) := by decide +kernel
theorem dX4_addStroke_35 : decode cX4_addStroke 35 = .ok (.invokevirtual 61, 3) := by decide +kernel
theorem dX4_addStroke_38 : decode cX4_addStroke 38 = .ok (.iload 4, 2) := by decide +kernel
theorem dX4_addStroke_40 : decode cX4_addStroke 40 = .ok (.ireturn, 1) := by decide +kernel
set_option maxRecDepth 20000 in
theorem ggX4_addChange_X4_addOperation : GoodIn wsX4_addChange wsX4_addOperation := goodIn_r _ [7, 8, 9, 10, 11, 12, 13, 14, 15, 16, 17, 18, 19, 20, 21, 22, 23, 24, 25, 26, 6, 27, 28, 29, 30, 31, 32, 33, 34, 35, 36, 37, 38, 39, 40, 41, 42, 43, 44, 45, 46, 47, 48] (by decide +kernel) (by decide +kernel)
set_option maxRecDepth 20000 in
theorem gX4_addChange_X4_addOperation : GoodIn wsX4_addChange (wsV RX4 49 RX4 yX4_addOperation wsX4_addOperation) := goodIn_app (goodIn_of _ (by decide +kernel)) ggX4_addChange_X4_addOperation
set_option maxRecDepth 20000 in
theorem ggX4_addChange_X5_set : GoodIn wsX4_addChange wsX5_set := goodIn_r _ [23, 16, 48] (by decide +kernel) (by decide +kernel)
set_option maxRecDepth 20000 in
theorem gX4_addChange_X5_set : GoodIn wsX4_addChange (wsV RX4 61 RX5 yX5_set wsX5_set) := goodIn_app (goodIn_of _ (by decide +kernel)) ggX4_addChange_X5_set
theorem dX4_addChange_0 : decode cX4_addChange 0 = .ok (.aload_n 0, 1) := by decide +kernel
theorem dX4_addChange_1 : decode cX4_addChange 1 = .ok (.iload_n 1, 1) := by decide +kernel
theorem dX4_addChange_2 : decode cX4_addChange 2 = .ok (.iload_n 2, 1) := by decide +kernel
theorem dX4_addChange_3 : decode cX4_addChange 3 = .ok (.iload_n 3, 1) := by decide +kernel
theorem dX4_addChange_4 : decode cX4_addChange 4 = .ok (.invokevirtual 49, 3) := by decide +kernel
theorem dX4_addChange_7 : decode cX4_addChange 7 = .ok (.istore 6, 2) := by decide +kernel
theorem dX4_addChange_9 : decode cX4_addChange 9 = .ok (.aload_n 0, 1) := by decide +kernel
theorem dX4_addChange_10 : decode cX4_addChange 10 = .ok (.getfield 26, 3) := by decide +kernel
theorem dX4_addChange_13 : decode cX4_addChange 13 = .ok (.iload 6, 2) := by decide +kernel
theorem dX4_addChange_15 : decode cX4_addChange 15 = .ok (.iload 4, 2) := by decide +kernel
theorem dX4_addChange_17 : decode cX4_addChange 17 = .ok (.invokevirtual 61, 3) := by decide +kernel
theorem dX4_addChange_20 : decode cX4_addChange 20 = .ok (.aload_n 0, 1) := by decide +kernel
theorem dX4_addChange_21 : decode cX4_addChange 21 = .ok (.getfield 29, 3) := by decide +kernel
theorem dX4_addChange_24 : decode cX4_addChange 24 = .ok (.iload 6, 2) := by decide +kernel
theorem dX4_addChange_26 : decode cX4_addChange 26 = .ok (.iload 5, 2) := by decide +kernel
theorem dX4_addChange_28 : decode cX4_addChange 28 = .ok (.invokevirtual 61, 3) := by decide +kernel
theorem dX4_addChange_31 : decode cX4_addChange 31 = .ok (.iload 6, 2) := by decide +kernel
theorem dX4_addChange_33 : decode cX4_addChange 33 = .ok (.ireturn, 1) := by decide +kernel
set_option maxRecDepth 20000 in
theorem ggX4_addOperation_X5_get : GoodIn wsX4_addOperation wsX5_get := goodIn_r _ [8, 9, 42] (by decide +kernel) (by decide +kernel)
set_option maxRecDepth 20000 in
theorem gX4_addOperation_X5_get : GoodIn wsX4_addOperation (wsV RX4 65 RX5 yX5_get wsX5_get) := goodIn_app (goodIn_of _ (by decide +kernel)) ggX4_addOperation_X5_get
set_option maxRecDepth 20000 in
theorem ggX4_addOperation_X6_idOf : GoodIn wsX4_addOperation wsX6_idOf := goodIn_r _ [12] (by decide +kernel) (by decide +kernel)
set_option maxRecDepth 20000 in
theorem gX4_addOperation_X6_idOf_n68 : GoodIn wsX4_addOperation (wsX6_idOf) := ggX4_addOperation_X6_idOf
set_option maxRecDepth 20000 in
theorem ggX4_addOperation_X5_set : GoodIn wsX4_addOperation wsX5_set := goodIn_r _ [16, 9, 42] (by decide +kernel) (by decide +kernel)
set_option maxRecDepth 20000 in
theorem gX4_addOperation_X5_set : GoodIn wsX4_addOperation (wsV RX4 61 RX5 yX5_set wsX5_set) := goodIn_app (goodIn_of _ (by decide +kernel)) ggX4_addOperation_X5_set
set_option maxRecDepth 20000 in
theorem ggX4_addOperation_X4_insert : GoodIn wsX4_addOperation wsX4_insert := goodIn_r _ [21, 22, 23, 4, 5, 6, 7, 8, 9, 24, 25, 26, 20, 27, 2, 28, 29, 30, 31, 32, 11, 33, 13, 14, 15, 16, 34, 35, 36, 37, 38, 39, 40, 41, 42] (by decide +kernel) (by decide +kernel)
set_option maxRecDepth 20000 in
theorem gX4_addOperation_X4_insert : GoodIn wsX4_addOperation (wsV RX4 72 RX4 yX4_insert wsX4_insert) := goodIn_app (goodIn_of _ (by decide +kernel)) ggX4_addOperation_X4_insert
theorem dX4_addOperation_0 : decode cX4_addOperation 0 = .ok (.aload_n 0, 1) := by decide +kernel
theorem dX4_addOperation_1 : decode cX4_addOperation 1 = .ok (.getfield 14, 3) := by decide +kernel
theorem dX4_addOperation_4 : decode cX4_addOperation 4 = .ok (.iload_n 1, 1) := by decide +kernel
theorem dX4_addOperation_5 : decode cX4_addOperation 5 = .ok (.invokevirtual 65, 3) := by decide +kernel
theorem dX4_addOperation_8 : decode cX4_addOperation 8 = .ok (.iconst 1, 1) := by decide +kernel
theorem dX4_addOperation_9 : decode cX4_addOperation 9 = .ok (.iadd, 1) := by decide +kernel
theorem dX4_addOperation_10 : decode cX4_addOperation 10 = .ok (.istore 4, 2) := by decide +kernel
theorem dX4_addOperation_12 : decode cX4_addOperation 12 = .ok (.iload_n 1, 1) := by decide +kernel
theorem dX4_addOperation_13 : decode cX4_addOperation 13 = .ok (.iload 4, 2) := by decide +kernel
theorem dX4_addOperation_15 : decode cX4_addOperation 15 = .ok (.invokestatic 68, 3) := by decide +kernel
theorem dX4_addOperation_18 : decode cX4_addOperation 18 = .ok (.istore 5, 2) := by decide +kernel
theorem dX4_addOperation_20 : decode cX4_addOperation 20 = .ok (.aload_n 0, 1) := by decide +kernel
theorem dX4_addOperation_21 : decode cX4_addOperation 21 = .ok (.getfield 14, 3) := by decide +kernel
theorem dX4_addOperation_24 : decode cX4_addOperation 24 = .ok (.iload_n 1, 1) := by decide +kernel
theorem dX4_addOperation_25 : decode cX4_addOperation 25 = .ok (.iload 4, 2) := by decide +kernel
theorem dX4_addOperation_27 : decode cX4_addOperation 27 = .ok (.invokevirtual 61, 3) := by decide +kernel
theorem dX4_addOperation_30 : decode cX4_addOperation 30 = .ok (.aload_n 0, 1) := by decide +kernel
theorem dX4_addOperation_31 : decode cX4_addOperation 31 = .ok (.getfield 23, 3) := by decide +kernel
theorem dX4_addOperation_34 : decode cX4_addOperation 34 = .ok (.iload 5, 2) := by decide +kernel
theorem dX4_addOperation_36 : decode cX4_addOperation 36 = .ok (.iload_n 2, 1) := by decide +kernel
theorem dX4_addOperation_37 : decode cX4_addOperation 37 = .ok (.invokevirtual 61, 3) := by decide +kernel
theorem dX4_addOperation_40 : decode cX4_addOperation 40 = .ok (.aload_n 0, 1) := by decide +kernel
theorem dX4_addOperation_41 : decode cX4_addOperation 41 = .ok (.getfield 20, 3) := by decide +kernel
theorem dX4_addOperation_44 : decode cX4_addOperation 44 = .ok (.iload 5, 2) := by decide +kernel
theorem dX4_addOperation_46 : decode cX4_addOperation 46 = .ok (.iload_n 3, 1) := by decide +kernel
theorem dX4_addOperation_47 : decode cX4_addOperation 47 = .ok (.invokevirtual 61, 3) := by decide +kernel
theorem dX4_addOperation_50 : decode cX4_addOperation 50 = .ok (.aload_n 0, 1) := by decide +kernel
theorem dX4_addOperation_51 : decode cX4_addOperation 51 = .ok (.iload 5, 2) := by decide +kernel
theorem dX4_addOperation_53 : decode cX4_addOperation 53 = .ok (.invokevirtual 72, 3) := by decide +kernel
theorem dX4_addOperation_56 : decode cX4_addOperation 56 = .ok (.iload 5, 2) := by decide +kernel
theorem dX4_addOperation_58 : decode cX4_addOperation 58 = .ok (.ireturn, 1) := by decide +kernel
set_option maxRecDepth 20000 in
theorem ggX4_insert_X5_get : GoodIn wsX4_insert wsX5_get := goodIn_r _ [7, 8, 34] (by decide +kernel) (by decide +kernel)
set_option maxRecDepth 20000 in
theorem gX4_insert_X5_get : GoodIn wsX4_insert (wsV RX4 65 RX5 yX5_get wsX5_get) := goodIn_app (goodIn_of _ (by decide +kernel)) ggX4_insert_X5_get
set_option maxRecDepth 20000 in
theorem ggX4_insert_X4_comesAfter : GoodIn wsX4_insert wsX4_comesAfter := goodIn_r _ [13, 14, 3, 4, 5, 6, 7, 8, 15, 16, 17, 18, 19, 20, 21, 26, 27, 28, 29, 30, 31, 32, 33, 34] (by decide +kernel) (by decide +kernel)
set_option maxRecDepth 20000 in
theorem gX4_insert_X4_comesAfter : GoodIn wsX4_insert (wsV RX4 75 RX4 yX4_comesAfter wsX4_comesAfter) := goodIn_app (goodIn_of _ (by decide +kernel)) ggX4_insert_X4_comesAfter
set_option maxRecDepth 20000 in
theorem ggX4_insert_X5_set : GoodIn wsX4_insert wsX5_set := goodIn_r _ [25, 8, 34] (by decide +kernel) (by decide +kernel)
set_option maxRecDepth 20000 in
theorem gX4_insert_X5_set : GoodIn wsX4_insert (wsV RX4 61 RX5 yX5_set wsX5_set) := goodIn_app (goodIn_of _ (by decide +kernel)) ggX4_insert_X5_set
theorem dX4_insert_0 : decode cX4_insert 0 = .ok (.aload_n 0, 1) := by decide +kernel
theorem dX4_insert_1 : decode cX4_insert 1 = .ok (.getfield 45, 3) := by decide +kernel
theorem dX4_insert_4 : decode cX4_insert 4 = .ok (.istore_n 2, 1) := by decide +kernel
theorem dX4_insert_5 : decode cX4_insert 5 = .ok (.iload_n 2, 1) := by decide +kernel
theorem dX4_insert_6 : decode cX4_insert 6 = .ok (.ifCond .le 45, 3) := by decide +kernel
theorem dX4_insert_9 : decode cX4_insert 9 = .ok (.aload_n 0, 1) := by decide +kernel
theorem dX4_insert_10 : decode cX4_insert 10 = .ok (.aload_n 0, 1) := by decide +kernel
theorem dX4_insert_11 : decode cX4_insert 11 = .ok (.getfield 32, 3) := by decide +kernel
theorem dX4_insert_14 : decode cX4_insert 14 = .ok (.iload_n 2, 1) := by decide +kernel
theorem dX4_insert_15 : decode cX4_insert 15 = .ok (.iconst 1, 1) := by decide +kernel
theorem dX4_insert_16 : decode cX4_insert 16 = .ok (.isub, 1) := by decide +kernel
theorem dX4_insert_17 : decode cX4_insert 17 = .ok (.invokevirtual 65, 3) := by decide +kernel
theorem dX4_insert_20 : decode cX4_insert 20 = .ok (.iload_n 1, 1) := by decide +kernel
theorem dX4_insert_21 : decode cX4_insert 21 = .ok (.invokevirtual 75, 3) := by decide +kernel
theorem dX4_insert_24 : decode cX4_insert 24 = .ok (.ifCond .eq 27, 3) := by decide +kernel
theorem dX4_insert_27 : decode cX4_insert 27 = .ok (.aload_n 0, 1) := by decide +kernel
theorem dX4_insert_28 : decode cX4_insert 28 = .ok (.getfield 32, 3) := by decide +kernel
end
section
theorem dX4_insert_31 : decode cX4_insert 31 = .ok (.iload_n 2, 1) := by decide +kernel
theorem dX4_insert_32 : decode cX4_insert 32 = .ok (.aload_n 0, 1) := by decide +kernel
theorem dX4_insert_33 : decode cX4_insert 33 = .ok (.getfield 32, 3) := by decide +kernel
theorem dX4_insert_36 : decode cX4_insert 36 = .ok (.iload_n 2, 1) := by decide +kernel
theorem dX4_insert_37 : decode cX4_insert 37 = .ok (.iconst 1, 1) := by decide +kernel
theorem dX4_insert_38 : decode cX4_insert 38 = .ok (.isub, 1) := by decide +kernel
theorem dX4_insert_39 : decode cX4_insert 39 = .ok (.invokevirtual 65, 3) := by decide +kernel
theorem dX4_insert_42 : decode cX4_insert 42 = .ok (.invokevirtual 61, 3) := by decide +kernel
theorem dX4_insert_45 : decode cX4_insert 45 = .ok (.iinc 2 (-1), 3) := by decide +kernel
theorem dX4_insert_48 : decode cX4_insert 48 = .ok (.goto (-43), 3) := by decide +kernel
theorem dX4_insert_51 : decode cX4_insert 51 = .ok (.aload_n 0, 1) := by decide +kernel
theorem dX4_insert_52 : decode cX4_insert 52 = .ok (.getfield 32, 3) := by decide +kernel
theorem dX4_insert_55 : decode cX4_insert 55 = .ok (.iload_n 2, 1) := by decide +kernel
theorem dX4_insert_56 : decode cX4_insert 56 = .ok (.iload_n 1, 1) := by decide +kernel
theorem dX4_insert_57 : decode cX4_insert 57 = .ok (.invokevirtual 61, 3) := by decide +kernel
theorem dX4_insert_60 : decode cX4_insert 60 = .ok (.aload_n 0, 1) := by decide +kernel
theorem dX4_insert_61 : decode cX4_insert 61 = .ok (.dup, 1) := by decide +kernel
theorem dX4_insert_62 : decode cX4_insert 62 = .ok (.getfield 45, 3) := by decide +kernel
theorem dX4_insert_65 : decode cX4_insert 65 = .ok (.iconst 1, 1) := by decide +kernel
theorem dX4_insert_66 : decode cX4_insert 66 = .ok (.iadd, 1) := by decide +kernel
theorem dX4_insert_67 : decode cX4_insert 67 = .ok (.putfield 45, 3) := by decide +kernel
theorem dX4_insert_70 : decode cX4_insert 70 = .ok (.return_, 1) := by decide +kernel
set_option maxRecDepth 20000 in
theorem ggX4_comesAfter_X5_get : GoodIn wsX4_comesAfter wsX5_get := goodIn_r _ [6, 7, 23] (by decide +kernel) (by decide +kernel)
set_option maxRecDepth 20000 in
theorem gX4_comesAfter_X5_get : GoodIn wsX4_comesAfter (wsV RX4 65 RX5 yX5_get wsX5_get) := goodIn_app (goodIn_of _ (by decide +kernel)) ggX4_comesAfter_X5_get
set_option maxRecDepth 20000 in
theorem ggX4_comesAfter_J6_compare_7cf53 : GoodIn wsX4_comesAfter wsJ6_compare_7cf53 := goodIn_r _ [11] (by decide +kernel) (by decide +kernel)
set_option maxRecDepth 20000 in
theorem gX4_comesAfter_J6_compare_7cf53 : GoodIn wsX4_comesAfter (va_wsS RX4 79 yJ6_compare_7cf53 wsJ6_compare_7cf53) := goodIn_app (goodIn_of _ (by decide +kernel)) ggX4_comesAfter_J6_compare_7cf53
set_option maxRecDepth 20000 in
theorem ggX4_comesAfter_X6_authorOf : GoodIn wsX4_comesAfter wsX6_authorOf := goodIn_r _ [14] (by decide +kernel) (by decide +kernel)
set_option maxRecDepth 20000 in
theorem gX4_comesAfter_X6_authorOf_n84 : GoodIn wsX4_comesAfter (wsX6_authorOf) := ggX4_comesAfter_X6_authorOf
theorem dX4_comesAfter_0 : decode cX4_comesAfter 0 = .ok (.aload_n 0, 1) := by decide +kernel
theorem dX4_comesAfter_1 : decode cX4_comesAfter 1 = .ok (.getfield 23, 3) := by decide +kernel
theorem dX4_comesAfter_4 : decode cX4_comesAfter 4 = .ok (.iload_n 1, 1) := by decide +kernel
theorem dX4_comesAfter_5 : decode cX4_comesAfter 5 = .ok (.invokevirtual 65, 3) := by decide +kernel
theorem dX4_comesAfter_8 : decode cX4_comesAfter 8 = .ok (.aload_n 0, 1) := by decide +kernel
theorem dX4_comesAfter_9 : decode cX4_comesAfter 9 = .ok (.getfield 23, 3) := by decide +kernel
theorem dX4_comesAfter_12 : decode cX4_comesAfter 12 = .ok (.iload_n 2, 1) := by decide +kernel
theorem dX4_comesAfter_13 : decode cX4_comesAfter 13 = .ok (.invokevirtual 65, 3) := by decide +kernel
theorem dX4_comesAfter_16 : decode cX4_comesAfter 16 = .ok (.invokestatic 79, 3) := by decide +kernel
theorem dX4_comesAfter_19 : decode cX4_comesAfter 19 = .ok (.istore_n 3, 1) := by decide +kernel
theorem dX4_comesAfter_20 : decode cX4_comesAfter 20 = .ok (.iload_n 3, 1) := by decide +kernel
theorem dX4_comesAfter_21 : decode cX4_comesAfter 21 = .ok (.ifCond .gt 18, 3) := by decide +kernel
theorem dX4_comesAfter_24 : decode cX4_comesAfter 24 = .ok (.iload_n 3, 1) := by decide +kernel
theorem dX4_comesAfter_25 : decode cX4_comesAfter 25 = .ok (.ifCond .ne 18, 3) := by decide +kernel
theorem dX4_comesAfter_28 : decode cX4_comesAfter 28 = .ok (.iload_n 1, 1) := by decide +kernel
theorem dX4_comesAfter_29 : decode cX4_comesAfter 29 = .ok (.invokestatic 84, 3) := by decide +kernel
theorem dX4_comesAfter_32 : decode cX4_comesAfter 32 = .ok (.iload_n 2, 1) := by decide +kernel
theorem dX4_comesAfter_33 : decode cX4_comesAfter 33 = .ok (.invokestatic 84, 3) := by decide +kernel
theorem dX4_comesAfter_36 : decode cX4_comesAfter 36 = .ok (.if_icmp .le 7, 3) := by decide +kernel
theorem dX4_comesAfter_39 : decode cX4_comesAfter 39 = .ok (.iconst 1, 1) := by decide +kernel
theorem dX4_comesAfter_40 : decode cX4_comesAfter 40 = .ok (.goto 4, 3) := by decide +kernel
theorem dX4_comesAfter_43 : decode cX4_comesAfter 43 = .ok (.iconst 0, 1) := by decide +kernel
theorem dX4_comesAfter_44 : decode cX4_comesAfter 44 = .ok (.ireturn, 1) := by decide +kernel
set_option maxRecDepth 20000 in
theorem ggX4_madeBy_X5_get : GoodIn wsX4_madeBy wsX5_get := goodIn_r _ [6, 7, 16] (by decide +kernel) (by decide +kernel)
set_option maxRecDepth 20000 in
theorem gX4_madeBy_X5_get : GoodIn wsX4_madeBy (wsV RX4 65 RX5 yX5_get wsX5_get) := goodIn_app (goodIn_of _ (by decide +kernel)) ggX4_madeBy_X5_get
theorem dX4_madeBy_0 : decode cX4_madeBy 0 = .ok (.aload_n 0, 1) := by decide +kernel
theorem dX4_madeBy_1 : decode cX4_madeBy 1 = .ok (.getfield 14, 3) := by decide +kernel
theorem dX4_madeBy_4 : decode cX4_madeBy 4 = .ok (.iload_n 1, 1) := by decide +kernel
theorem dX4_madeBy_5 : decode cX4_madeBy 5 = .ok (.invokevirtual 65, 3) := by decide +kernel
theorem dX4_madeBy_8 : decode cX4_madeBy 8 = .ok (.ireturn, 1) := by decide +kernel
theorem dX4_totalCount_0 : decode cX4_totalCount 0 = .ok (.aload_n 0, 1) := by decide +kernel
theorem dX4_totalCount_1 : decode cX4_totalCount 1 = .ok (.getfield 45, 3) := by decide +kernel
theorem dX4_totalCount_4 : decode cX4_totalCount 4 = .ok (.ireturn, 1) := by decide +kernel
set_option maxRecDepth 20000 in
theorem ggX4_inOrder_X5_get : GoodIn wsX4_inOrder wsX5_get := goodIn_r _ [6, 7, 16] (by decide +kernel) (by decide +kernel)
set_option maxRecDepth 20000 in
theorem gX4_inOrder_X5_get : GoodIn wsX4_inOrder (wsV RX4 65 RX5 yX5_get wsX5_get) := goodIn_app (goodIn_of _ (by decide +kernel)) ggX4_inOrder_X5_get
theorem dX4_inOrder_0 : decode cX4_inOrder 0 = .ok (.aload_n 0, 1) := by decide +kernel
theorem dX4_inOrder_1 : decode cX4_inOrder 1 = .ok (.getfield 32, 3) := by decide +kernel
theorem dX4_inOrder_4 : decode cX4_inOrder 4 = .ok (.iload_n 1, 1) := by decide +kernel
theorem dX4_inOrder_5 : decode cX4_inOrder 5 = .ok (.invokevirtual 65, 3) := by decide +kernel
theorem dX4_inOrder_8 : decode cX4_inOrder 8 = .ok (.ireturn, 1) := by decide +kernel
set_option maxRecDepth 20000 in
theorem ggX4_kindOf_X5_get : GoodIn wsX4_kindOf wsX5_get := goodIn_r _ [6, 7, 16] (by decide +kernel) (by decide +kernel)
set_option maxRecDepth 20000 in
theorem gX4_kindOf_X5_get : GoodIn wsX4_kindOf (wsV RX4 65 RX5 yX5_get wsX5_get) := goodIn_app (goodIn_of _ (by decide +kernel)) ggX4_kindOf_X5_get
theorem dX4_kindOf_0 : decode cX4_kindOf 0 = .ok (.aload_n 0, 1) := by decide +kernel
theorem dX4_kindOf_1 : decode cX4_kindOf 1 = .ok (.getfield 20, 3) := by decide +kernel
theorem dX4_kindOf_4 : decode cX4_kindOf 4 = .ok (.iload_n 1, 1) := by decide +kernel
theorem dX4_kindOf_5 : decode cX4_kindOf 5 = .ok (.invokevirtual 65, 3) := by decide +kernel
theorem dX4_kindOf_8 : decode cX4_kindOf 8 = .ok (.ireturn, 1) := by decide +kernel
set_option maxRecDepth 20000 in
theorem ggX4_isStroke_X5_get : GoodIn wsX4_isStroke wsX5_get := goodIn_r _ [6, 7, 16] (by decide +kernel) (by decide +kernel)
set_option maxRecDepth 20000 in
theorem gX4_isStroke_X5_get : GoodIn wsX4_isStroke (wsV RX4 65 RX5 yX5_get wsX5_get) := goodIn_app (goodIn_of _ (by decide +kernel)) ggX4_isStroke_X5_get
theorem dX4_isStroke_0 : decode cX4_isStroke 0 = .ok (.aload_n 0, 1) := by decide +kernel
theorem dX4_isStroke_1 : decode cX4_isStroke 1 = .ok (.getfield 20, 3) := by decide +kernel
theorem dX4_isStroke_4 : decode cX4_isStroke 4 = .ok (.iload_n 1, 1) := by decide +kernel
theorem dX4_isStroke_5 : decode cX4_isStroke 5 = .ok (.invokevirtual 65, 3) := by decide +kernel
theorem dX4_isStroke_8 : decode cX4_isStroke 8 = .ok (.ifCond .ne 7, 3) := by decide +kernel
theorem dX4_isStroke_11 : decode cX4_isStroke 11 = .ok (.iconst 1, 1) := by decide +kernel
theorem dX4_isStroke_12 : decode cX4_isStroke 12 = .ok (.goto 4, 3) := by decide +kernel
theorem dX4_isStroke_15 : decode cX4_isStroke 15 = .ok (.iconst 0, 1) := by decide +kernel
theorem dX4_isStroke_16 : decode cX4_isStroke 16 = .ok (.ireturn, 1) := by decide +kernel
set_option maxRecDepth 20000 in
theorem ggX4_timeOf_X5_get : GoodIn wsX4_timeOf wsX5_get := goodIn_r _ [6, 7, 16] (by decide +kernel) (by decide +kernel)
set_option maxRecDepth 20000 in
theorem gX4_timeOf_X5_get : GoodIn wsX4_timeOf (wsV RX4 65 RX5 yX5_get wsX5_get) := goodIn_app (goodIn_of _ (by decide +kernel)) ggX4_timeOf_X5_get
theorem dX4_timeOf_0 : decode cX4_timeOf 0 = .ok (.aload_n 0, 1) := by decide +kernel
theorem dX4_timeOf_1 : decode cX4_timeOf 1 = .ok (.getfield 23, 3) := by decide +kernel
theorem dX4_timeOf_4 : decode cX4_timeOf 4 = .ok (.iload_n 1, 1) := by decide +kernel
theorem dX4_timeOf_5 : decode cX4_timeOf 5 = .ok (.invokevirtual 65, 3) := by decide +kernel
theorem dX4_timeOf_8 : decode cX4_timeOf 8 = .ok (.ireturn, 1) := by decide +kernel
set_option maxRecDepth 20000 in
theorem ggX4_targetOf_X5_get : GoodIn wsX4_targetOf wsX5_get := goodIn_r _ [6, 7, 16] (by decide +kernel) (by decide +kernel)
set_option maxRecDepth 20000 in
theorem gX4_targetOf_X5_get : GoodIn wsX4_targetOf (wsV RX4 65 RX5 yX5_get wsX5_get) := goodIn_app (goodIn_of _ (by decide +kernel)) ggX4_targetOf_X5_get
theorem dX4_targetOf_0 : decode cX4_targetOf 0 = .ok (.aload_n 0, 1) := by decide +kernel
theorem dX4_targetOf_1 : decode cX4_targetOf 1 = .ok (.getfield 26, 3) := by decide +kernel
theorem dX4_targetOf_4 : decode cX4_targetOf 4 = .ok (.iload_n 1, 1) := by decide +kernel
theorem dX4_targetOf_5 : decode cX4_targetOf 5 = .ok (.invokevirtual 65, 3) := by decide +kernel
theorem dX4_targetOf_8 : decode cX4_targetOf 8 = .ok (.ireturn, 1) := by decide +kernel
set_option maxRecDepth 20000 in
theorem ggX4_layerOf_X5_get : GoodIn wsX4_layerOf wsX5_get := goodIn_r _ [6, 7, 16] (by decide +kernel) (by decide +kernel)
set_option maxRecDepth 20000 in
theorem gX4_layerOf_X5_get : GoodIn wsX4_layerOf (wsV RX4 65 RX5 yX5_get wsX5_get) := goodIn_app (goodIn_of _ (by decide +kernel)) ggX4_layerOf_X5_get
theorem dX4_layerOf_0 : decode cX4_layerOf 0 = .ok (.aload_n 0, 1) := by decide +kernel
theorem dX4_layerOf_1 : decode cX4_layerOf 1 = .ok (.getfield 29, 3) := by decide +kernel
theorem dX4_layerOf_4 : decode cX4_layerOf 4 = .ok (.iload_n 1, 1) := by decide +kernel
theorem dX4_layerOf_5 : decode cX4_layerOf 5 = .ok (.invokevirtual 65, 3) := by decide +kernel
theorem dX4_layerOf_8 : decode cX4_layerOf 8 = .ok (.ireturn, 1) := by decide +kernel
set_option maxRecDepth 20000 in
theorem ggX4_sizeOf_X5_get : GoodIn wsX4_sizeOf wsX5_get := goodIn_r _ [7, 8, 37] (by decide +kernel) (by decide +kernel)
set_option maxRecDepth 20000 in
theorem gX4_sizeOf_X5_get : GoodIn wsX4_sizeOf (wsV RX4 65 RX5 yX5_get wsX5_get) := goodIn_app (goodIn_of _ (by decide +kernel)) ggX4_sizeOf_X5_get
set_option maxRecDepth 20000 in
theorem ggX4_sizeOf_X1_sizeOf : GoodIn wsX4_sizeOf wsX1_sizeOf := goodIn_r _ [13, 14, 15, 4, 5, 6, 7, 8, 16, 17, 18, 12, 19, 20, 21, 22, 23, 24, 25, 26, 27, 28, 38, 39, 40, 41, 42, 37] (by decide +kernel) (by decide +kernel)
set_option maxRecDepth 20000 in
theorem gX4_sizeOf_X1_sizeOf : GoodIn wsX4_sizeOf (wsV RX4 87 RX1 yX1_sizeOf wsX1_sizeOf) := goodIn_app (goodIn_of _ (by decide +kernel)) ggX4_sizeOf_X1_sizeOf
theorem dX4_sizeOf_0 : decode cX4_sizeOf 0 = .ok (.aload_n 0, 1) := by decide +kernel
theorem dX4_sizeOf_1 : decode cX4_sizeOf 1 = .ok (.getfield 20, 3) := by decide +kernel
theorem dX4_sizeOf_4 : decode cX4_sizeOf 4 = .ok (.iload_n 1, 1) := by decide +kernel
theorem dX4_sizeOf_5 : decode cX4_sizeOf 5 = .ok (.invokevirtual 65, 3) := by decide +kernel
theorem dX4_sizeOf_8 : decode cX4_sizeOf 8 = .ok (.lookupswitch 39 #[(0, 28), (3, 37)], 28) := by decide +kernel
theorem dX4_sizeOf_36 : decode cX4_sizeOf 36 = .ok (.aload_n 0, 1) := by decide +kernel
theorem dX4_sizeOf_37 : decode cX4_sizeOf 37 = .ok (.getfield 38, 3) := by decide +kernel
theorem dX4_sizeOf_40 : decode cX4_sizeOf 40 = .ok (.iload_n 1, 1) := by decide +kernel
theorem dX4_sizeOf_41 : decode cX4_sizeOf 41 = .ok (.invokevirtual 87, 3) := by decide +kernel
theorem dX4_sizeOf_44 : decode cX4_sizeOf 44 = .ok (.ireturn, 1) := by decide +kernel
theorem dX4_sizeOf_45 : decode cX4_sizeOf 45 = .ok (.iconst 4, 1) := by decide +kernel
theorem dX4_sizeOf_46 : decode cX4_sizeOf 46 = .ok (.ireturn, 1) := by decide +kernel
theorem dX4_sizeOf_47 : decode cX4_sizeOf 47 = .ok (.iconst 3, 1) := by decide +kernel
theorem dX4_sizeOf_48 : decode cX4_sizeOf 48 = .ok (.ireturn, 1) := by decide +kernel
theorem dX5_init_0 : decode cX5_init 0 = .ok (.aload_n 0, 1) := by decide +kernel
theorem dX5_init_1 : decode cX5_init 1 = .ok (.invokespecial 1, 3) := by decide +kernel
theorem dX5_init_4 : decode cX5_init 4 = .ok (.aload_n 0, 1) := by decide +kernel
theorem dX5_init_5 : decode cX5_init 5 = .ok (.iload_n 1, 1) := by decide +kernel
theorem dX5_init_6 : decode cX5_init 6 = .ok (.iconst 0, 1) := by decide +kernel
theorem dX5_init_7 : decode cX5_init 7 = .ok (.invokestatic 7, 3) := by decide +kernel
theorem dX5_init_10 : decode cX5_init 10 = .ok (.newarray .int, 2) := by decide +kernel
theorem dX5_init_12 : decode cX5_init 12 = .ok (.putfield 13, 3) := by decide +kernel
theorem dX5_init_15 : decode cX5_init 15 = .ok (.return_, 1) := by decide +kernel
theorem dX5_get_0 : decode cX5_get 0 = .ok (.iload_n 1, 1) := by decide +kernel
theorem dX5_get_1 : decode cX5_get 1 = .ok (.ifCond .lt 21, 3) := by decide +kernel
theorem dX5_get_4 : decode cX5_get 4 = .ok (.iload_n 1, 1) := by decide +kernel
theorem dX5_get_5 : decode cX5_get 5 = .ok (.aload_n 0, 1) := by decide +kernel
theorem dX5_get_6 : decode cX5_get 6 = .ok (.getfield 13, 3) := by decide +kernel
theorem dX5_get_9 : decode cX5_get 9 = .ok (.arraylength, 1) := by decide +kernel
theorem dX5_get_10 : decode cX5_get 10 = .ok (.if_icmp .ge 12, 3) := by decide +kernel
theorem dX5_get_13 : decode cX5_get 13 = .ok (.aload_n 0, 1) := by decide +kernel
theorem dX5_get_14 : decode cX5_get 14 = .ok (.getfield 13, 3) := by decide +kernel
theorem dX5_get_17 : decode cX5_get 17 = .ok (.iload_n 1, 1) := by decide +kernel
theorem dX5_get_18 : decode cX5_get 18 = .ok (.iaload, 1) := by decide +kernel
theorem dX5_get_19 : decode cX5_get 19 = .ok (.goto 4, 3) := by decide +kernel
theorem dX5_get_22 : decode cX5_get 22 = .ok (.iconst 0, 1) := by decide +kernel
theorem dX5_get_23 : decode cX5_get 23 = .ok (.ireturn, 1) := by decide +kernel
theorem dX5_set_0 : decode cX5_set 0 = .ok (.iload_n 1, 1) := by decide +kernel
theorem dX5_set_1 : decode cX5_set 1 = .ok (.ifCond .lt 19, 3) := by decide +kernel
theorem dX5_set_4 : decode cX5_set 4 = .ok (.iload_n 1, 1) := by decide +kernel
theorem dX5_set_5 : decode cX5_set 5 = .ok (.aload_n 0, 1) := by decide +kernel
theorem dX5_set_6 : decode cX5_set 6 = .ok (.getfield 13, 3) := by decide +kernel
theorem dX5_set_9 : decode cX5_set 9 = .ok (.arraylength, 1) := by decide +kernel
theorem dX5_set_10 : decode cX5_set 10 = .ok (.if_icmp .ge 10, 3) := by decide +kernel
theorem dX5_set_13 : decode cX5_set 13 = .ok (.aload_n 0, 1) := by decide +kernel
theorem dX5_set_14 : decode cX5_set 14 = .ok (.getfield 13, 3) := by decide +kernel
theorem dX5_set_17 : decode cX5_set 17 = .ok (.iload_n 1, 1) := by decide +kernel
theorem dX5_set_18 : decode cX5_set 18 = .ok (.iload_n 2, 1) := by decide +kernel
theorem dX5_set_19 : decode cX5_set 19 = .ok (.iastore, 1) := by decide +kernel
theorem dX5_set_20 : decode cX5_set 20 = .ok (.return_, 1) := by decide +kernel
theorem dX5_fill_0 : decode cX5_fill 0 = .ok (.iconst 0, 1) := by decide +kernel
theorem dX5_fill_1 : decode cX5_fill 1 = .ok (.istore_n 2, 1) := by decide +kernel
theorem dX5_fill_2 : decode cX5_fill 2 = .ok (.iload_n 2, 1) := by decide +kernel
theorem dX5_fill_3 : decode cX5_fill 3 = .ok (.aload_n 0, 1) := by decide +kernel
theorem dX5_fill_4 : decode cX5_fill 4 = .ok (.getfield 13, 3) := by decide +kernel
theorem dX5_fill_7 : decode cX5_fill 7 = .ok (.arraylength, 1) := by decide +kernel
theorem dX5_fill_8 : decode cX5_fill 8 = .ok (.if_icmp .ge 16, 3) := by decide +kernel
theorem dX5_fill_11 : decode cX5_fill 11 = .ok (.aload_n 0, 1) := by decide +kernel
theorem dX5_fill_12 : decode cX5_fill 12 = .ok (.getfield 13, 3) := by decide +kernel
theorem dX5_fill_15 : decode cX5_fill 15 = .ok (.iload_n 2, 1) := by decide +kernel
theorem dX5_fill_16 : decode cX5_fill 16 = .ok (.iload_n 1, 1) := by decide +kernel
theorem dX5_fill_17 : decode cX5_fill 17 = .ok (.iastore, 1) := by decide +kernel
theorem dX5_fill_18 : decode cX5_fill 18 = .ok (.iinc 2 1, 3) := by decide +kernel
theorem dX5_fill_21 : decode cX5_fill 21 = .ok (.goto (-19), 3) := by decide +kernel
theorem dX5_fill_24 : decode cX5_fill 24 = .ok (.return_, 1) := by decide +kernel
set_option maxRecDepth 20000 in
theorem ggX5_copyFrom_X5_get : GoodIn wsX5_copyFrom wsX5_get := goodIn_r _ [6, 1, 7] (by decide +kernel) (by decide +kernel)
set_option maxRecDepth 20000 in
theorem gX5_copyFrom_X5_get : GoodIn wsX5_copyFrom (wsV RX5 19 RX5 yX5_get wsX5_get) := goodIn_app (goodIn_of _ (by decide +kernel)) ggX5_copyFrom_X5_get
theorem dX5_copyFrom_0 : decode cX5_copyFrom 0 = .ok (.iconst 0, 1) := by decide +kernel
theorem dX5_copyFrom_1 : decode cX5_copyFrom 1 = .ok (.istore_n 2, 1) := by decide +kernel
theorem dX5_copyFrom_2 : decode cX5_copyFrom 2 = .ok (.iload_n 2, 1) := by decide +kernel
theorem dX5_copyFrom_3 : decode cX5_copyFrom 3 = .ok (.aload_n 0, 1) := by decide +kernel
theorem dX5_copyFrom_4 : decode cX5_copyFrom 4 = .ok (.getfield 13, 3) := by decide +kernel
theorem dX5_copyFrom_7 : decode cX5_copyFrom 7 = .ok (.arraylength, 1) := by decide +kernel
theorem dX5_copyFrom_8 : decode cX5_copyFrom 8 = .ok (.if_icmp .ge 20, 3) := by decide +kernel
theorem dX5_copyFrom_11 : decode cX5_copyFrom 11 = .ok (.aload_n 0, 1) := by decide +kernel
theorem dX5_copyFrom_12 : decode cX5_copyFrom 12 = .ok (.getfield 13, 3) := by decide +kernel
theorem dX5_copyFrom_15 : decode cX5_copyFrom 15 = .ok (.iload_n 2, 1) := by decide +kernel
theorem dX5_copyFrom_16 : decode cX5_copyFrom 16 = .ok (.aload_n 1, 1) := by decide +kernel
theorem dX5_copyFrom_17 : decode cX5_copyFrom 17 = .ok (.iload_n 2, 1) := by decide +kernel
theorem dX5_copyFrom_18 : decode cX5_copyFrom 18 = .ok (.invokevirtual 19, 3) := by decide +kernel
theorem dX5_copyFrom_21 : decode cX5_copyFrom 21 = .ok (.iastore, 1) := by decide +kernel
theorem dX5_copyFrom_22 : decode cX5_copyFrom 22 = .ok (.iinc 2 1, 3) := by decide +kernel
theorem dX5_copyFrom_25 : decode cX5_copyFrom 25 = .ok (.goto (-23), 3) := by decide +kernel
theorem dX5_copyFrom_28 : decode cX5_copyFrom 28 = .ok (.return_, 1) := by decide +kernel
set_option maxRecDepth 20000 in
theorem ggX6_init_X4_init : GoodIn wsX6_init wsX4_init := goodIn_r _ [32, 33, 2, 3, 34, 27, 28, 35, 36, 37, 38, 39, 40, 41, 9, 10, 42, 43, 44, 45, 46, 47, 48, 49, 50, 51, 52, 53, 54, 55, 56, 57, 58, 59, 60, 61, 62, 63, 116, 87, 88, 89, 90, 91, 92, 93, 94, 104, 105, 106, 107, 108] (by decide +kernel) (by decide +kernel)
set_option maxRecDepth 20000 in
theorem gX6_init_X4_init_n11 : GoodIn wsX6_init (wsX4_init) := ggX6_init_X4_init
set_option maxRecDepth 20000 in
theorem ggX6_init_X1_init : GoodIn wsX6_init wsX1_init := goodIn_r _ [55, 56, 2, 3, 57, 27, 28, 58, 59, 60, 61, 62, 63, 44, 45, 46, 47, 48, 49, 50, 51, 52, 116, 104, 105, 106, 107, 108] (by decide +kernel) (by decide +kernel)
set_option maxRecDepth 20000 in
theorem gX6_init_X1_init : GoodIn wsX6_init (wsX1_init) := ggX6_init_X1_init
set_option maxRecDepth 20000 in
theorem ggX6_init_X2_init : GoodIn wsX6_init wsX2_init := goodIn_r _ [66, 67, 2, 3, 68, 27, 28, 69, 70, 44, 45, 46, 47, 48, 49, 50, 51, 52, 116, 109] (by decide +kernel) (by decide +kernel)
set_option maxRecDepth 20000 in
theorem gX6_init_X2_init_n27 : GoodIn wsX6_init (wsX2_init) := ggX6_init_X2_init
set_option maxRecDepth 20000 in
theorem ggX6_init_X3_init : GoodIn wsX6_init wsX3_init := goodIn_r _ [72, 73, 2, 3, 74, 27, 28, 75, 76, 77, 44, 45, 46, 47, 48, 49, 50, 51, 52, 116, 110, 111] (by decide +kernel) (by decide +kernel)
set_option maxRecDepth 20000 in
theorem gX6_init_X3_init_n37 : GoodIn wsX6_init (wsX3_init) := ggX6_init_X3_init
set_option maxRecDepth 20000 in
theorem ggX6_init_X0_init : GoodIn wsX6_init wsX0_init := goodIn_r _ [79, 80, 2, 3, 81, 27, 28, 82, 83, 84, 85, 44, 45, 46, 47, 48, 49, 50, 51, 52, 116, 112, 113, 114, 115] (by decide +kernel) (by decide +kernel)
set_option maxRecDepth 20000 in
theorem gX6_init_X0_init_n44 : GoodIn wsX6_init (wsX0_init) := ggX6_init_X0_init
set_option maxRecDepth 20000 in
theorem ggX6_init_X5_init : GoodIn wsX6_init wsX5_init := goodIn_r _ [45, 46, 2, 3, 47, 48, 49, 50, 51, 52, 116] (by decide +kernel) (by decide +kernel)
set_option maxRecDepth 20000 in
theorem gX6_init_X5_init : GoodIn wsX6_init (wsX5_init) := ggX6_init_X5_init
theorem dX6_init_0 : decode cX6_init 0 = .ok (.aload_n 0, 1) := by decide +kernel
theorem dX6_init_1 : decode cX6_init 1 = .ok (.invokespecial 3, 3) := by decide +kernel
theorem dX6_init_4 : decode cX6_init 4 = .ok (.aload_n 0, 1) := by decide +kernel
theorem dX6_init_5 : decode cX6_init 5 = .ok (.new 9, 3) := by decide +kernel
theorem dX6_init_8 : decode cX6_init 8 = .ok (.dup, 1) := by decide +kernel
theorem dX6_init_9 : decode cX6_init 9 = .ok (.invokespecial 11, 3) := by decide +kernel
theorem dX6_init_12 : decode cX6_init 12 = .ok (.putfield 12, 3) := by decide +kernel
theorem dX6_init_15 : decode cX6_init 15 = .ok (.aload_n 0, 1) := by decide +kernel
theorem dX6_init_16 : decode cX6_init 16 = .ok (.new 16, 3) := by decide +kernel
theorem dX6_init_19 : decode cX6_init 19 = .ok (.dup, 1) := by decide +kernel
theorem dX6_init_20 : decode cX6_init 20 = .ok (.iconst 5, 1) := by decide +kernel
theorem dX6_init_21 : decode cX6_init 21 = .ok (.invokespecial 18, 3) := by decide +kernel
theorem dX6_init_24 : decode cX6_init 24 = .ok (.putfield 21, 3) := by decide +kernel
theorem dX6_init_27 : decode cX6_init 27 = .ok (.aload_n 0, 1) := by decide +kernel
theorem dX6_init_28 : decode cX6_init 28 = .ok (.new 25, 3) := by decide +kernel
theorem dX6_init_31 : decode cX6_init 31 = .ok (.dup, 1) := by decide +kernel
theorem dX6_init_32 : decode cX6_init 32 = .ok (.invokespecial 27, 3) := by decide +kernel
theorem dX6_init_35 : decode cX6_init 35 = .ok (.putfield 28, 3) := by decide +kernel
theorem dX6_init_38 : decode cX6_init 38 = .ok (.aload_n 0, 1) := by decide +kernel
theorem dX6_init_39 : decode cX6_init 39 = .ok (.new 25, 3) := by decide +kernel
theorem dX6_init_42 : decode cX6_init 42 = .ok (.dup, 1) := by decide +kernel
theorem dX6_init_43 : decode cX6_init 43 = .ok (.invokespecial 27, 3) := by decide +kernel
theorem dX6_init_46 : decode cX6_init 46 = .ok (.putfield 32, 3) := by decide +kernel
theorem dX6_init_49 : decode cX6_init 49 = .ok (.aload_n 0, 1) := by decide +kernel
theorem dX6_init_50 : decode cX6_init 50 = .ok (.new 35, 3) := by decide +kernel
theorem dX6_init_53 : decode cX6_init 53 = .ok (.dup, 1) := by decide +kernel
theorem dX6_init_54 : decode cX6_init 54 = .ok (.invokespecial 37, 3) := by decide +kernel
theorem dX6_init_57 : decode cX6_init 57 = .ok (.putfield 38, 3) := by decide +kernel
theorem dX6_init_60 : decode cX6_init 60 = .ok (.aload_n 0, 1) := by decide +kernel
theorem dX6_init_61 : decode cX6_init 61 = .ok (.new 42, 3) := by decide +kernel
theorem dX6_init_64 : decode cX6_init 64 = .ok (.dup, 1) := by decide +kernel
theorem dX6_init_65 : decode cX6_init 65 = .ok (.invokespecial 44, 3) := by decide +kernel
theorem dX6_init_68 : decode cX6_init 68 = .ok (.putfield 45, 3) := by decide +kernel
theorem dX6_init_71 : decode cX6_init 71 = .ok (.aload_n 0, 1) := by decide +kernel
theorem dX6_init_72 : decode cX6_init 72 = .ok (.new 42, 3) := by decide +kernel
theorem dX6_init_75 : decode cX6_init 75 = .ok (.dup, 1) := by decide +kernel
theorem dX6_init_76 : decode cX6_init 76 = .ok (.invokespecial 44, 3) := by decide +kernel
theorem dX6_init_79 : decode cX6_init 79 = .ok (.putfield 49, 3) := by decide +kernel
theorem dX6_init_82 : decode cX6_init 82 = .ok (.aload_n 0, 1) := by decide +kernel
theorem dX6_init_83 : decode cX6_init 83 = .ok (.new 52, 3) := by decide +kernel
theorem dX6_init_86 : decode cX6_init 86 = .ok (.dup, 1) := by decide +kernel
theorem dX6_init_87 : decode cX6_init 87 = .ok (.iconst 5, 1) := by decide +kernel
theorem dX6_init_88 : decode cX6_init 88 = .ok (.invokespecial 54, 3) := by decide +kernel
theorem dX6_init_91 : decode cX6_init 91 = .ok (.putfield 55, 3) := by decide +kernel
theorem dX6_init_94 : decode cX6_init 94 = .ok (.aload_n 0, 1) := by decide +kernel
theorem dX6_init_95 : decode cX6_init 95 = .ok (.iconst 2, 1) := by decide +kernel
theorem dX6_init_96 : decode cX6_init 96 = .ok (.putfield 59, 3) := by decide +kernel
theorem dX6_init_99 : decode cX6_init 99 = .ok (.return_, 1) := by decide +kernel
set_option maxRecDepth 20000 in
theorem ggX6_reset_X6_isWithin : GoodIn wsX6_reset wsX6_isWithin := goodIn_r _ [11] (by decide +kernel) (by decide +kernel)
set_option maxRecDepth 20000 in
theorem gX6_reset_X6_isWithin : GoodIn wsX6_reset (va_wsS RX6 63 yX6_isWithin wsX6_isWithin) := goodIn_app (goodIn_of _ (by decide +kernel)) ggX6_reset_X6_isWithin
set_option maxRecDepth 20000 in
theorem ggX6_reset_X4_clear : GoodIn wsX6_reset wsX4_clear := goodIn_r _ [16, 17, 18, 19, 20, 21, 22, 23, 24, 56, 57, 58, 59, 60, 61, 62, 63, 64] (by decide +kernel) (by decide +kernel)
set_option maxRecDepth 20000 in
theorem gX6_reset_X4_clear : GoodIn wsX6_reset (wsV RX6 68 RX4 yX4_clear wsX4_clear) := goodIn_app (goodIn_of _ (by decide +kernel)) ggX6_reset_X4_clear
set_option maxRecDepth 20000 in
theorem ggX6_reset_X1_clear : GoodIn wsX6_reset wsX1_clear := goodIn_r _ [29, 30, 31, 20, 21, 22, 23, 24, 65, 66, 67, 68, 69, 64] (by decide +kernel) (by decide +kernel)
set_option maxRecDepth 20000 in
theorem gX6_reset_X1_clear : GoodIn wsX6_reset (wsV RX6 71 RX1 yX1_clear wsX1_clear) := goodIn_app (goodIn_of _ (by decide +kernel)) ggX6_reset_X1_clear
set_option maxRecDepth 20000 in
theorem ggX6_reset_X2_clear : GoodIn wsX6_reset wsX2_clear := goodIn_r _ [36, 37, 38, 20, 21, 22, 23, 24, 70, 64] (by decide +kernel) (by decide +kernel)
set_option maxRecDepth 20000 in
theorem gX6_reset_X2_clear : GoodIn wsX6_reset (wsV RX6 72 RX2 yX2_clear wsX2_clear) := goodIn_app (goodIn_of _ (by decide +kernel)) ggX6_reset_X2_clear
set_option maxRecDepth 20000 in
theorem ggX6_reset_X3_clear : GoodIn wsX6_reset wsX3_clear := goodIn_r _ [43, 44, 45, 20, 21, 22, 23, 24, 71, 72, 64] (by decide +kernel) (by decide +kernel)
set_option maxRecDepth 20000 in
theorem gX6_reset_X3_clear : GoodIn wsX6_reset (wsV RX6 73 RX3 yX3_clear wsX3_clear) := goodIn_app (goodIn_of _ (by decide +kernel)) ggX6_reset_X3_clear
set_option maxRecDepth 20000 in
theorem ggX6_reset_X5_fill : GoodIn wsX6_reset wsX5_fill := goodIn_r _ [23, 24, 64] (by decide +kernel) (by decide +kernel)
set_option maxRecDepth 20000 in
theorem gX6_reset_X5_fill : GoodIn wsX6_reset (wsV RX6 74 RX5 yX5_fill wsX5_fill) := goodIn_app (goodIn_of _ (by decide +kernel)) ggX6_reset_X5_fill
theorem dX6_reset_0 : decode cX6_reset 0 = .ok (.iload_n 1, 1) := by decide +kernel
theorem dX6_reset_1 : decode cX6_reset 1 = .ok (.iconst 1, 1) := by decide +kernel
theorem dX6_reset_2 : decode cX6_reset 2 = .ok (.iconst 5, 1) := by decide +kernel
theorem dX6_reset_3 : decode cX6_reset 3 = .ok (.invokestatic 63, 3) := by decide +kernel
theorem dX6_reset_6 : decode cX6_reset 6 = .ok (.ifCond .ne 6, 3) := by decide +kernel
theorem dX6_reset_9 : decode cX6_reset 9 = .ok (.ldc 67, 2) := by decide +kernel
theorem dX6_reset_11 : decode cX6_reset 11 = .ok (.ireturn, 1) := by decide +kernel
theorem dX6_reset_12 : decode cX6_reset 12 = .ok (.aload_n 0, 1) := by decide +kernel
theorem dX6_reset_13 : decode cX6_reset 13 = .ok (.getfield 59, 3) := by decide +kernel
theorem dX6_reset_16 : decode cX6_reset 16 = .ok (.istore_n 2, 1) := by decide +kernel
theorem dX6_reset_17 : decode cX6_reset 17 = .ok (.aload_n 0, 1) := by decide +kernel
theorem dX6_reset_18 : decode cX6_reset 18 = .ok (.getfield 12, 3) := by decide +kernel
theorem dX6_reset_21 : decode cX6_reset 21 = .ok (.invokevirtual 68, 3) := by decide +kernel
theorem dX6_reset_24 : decode cX6_reset 24 = .ok (.aload_n 0, 1) := by decide +kernel
theorem dX6_reset_25 : decode cX6_reset 25 = .ok (.getfield 21, 3) := by decide +kernel
theorem dX6_reset_28 : decode cX6_reset 28 = .ok (.invokevirtual 71, 3) := by decide +kernel
theorem dX6_reset_31 : decode cX6_reset 31 = .ok (.aload_n 0, 1) := by decide +kernel
theorem dX6_reset_32 : decode cX6_reset 32 = .ok (.getfield 28, 3) := by decide +kernel
theorem dX6_reset_35 : decode cX6_reset 35 = .ok (.invokevirtual 72, 3) := by decide +kernel
theorem dX6_reset_38 : decode cX6_reset 38 = .ok (.aload_n 0, 1) := by decide +kernel
theorem dX6_reset_39 : decode cX6_reset 39 = .ok (.getfield 38, 3) := by decide +kernel
theorem dX6_reset_42 : decode cX6_reset 42 = .ok (.invokevirtual 73, 3) := by decide +kernel
theorem dX6_reset_45 : decode cX6_reset 45 = .ok (.aload_n 0, 1) := by decide +kernel
theorem dX6_reset_46 : decode cX6_reset 46 = .ok (.getfield 55, 3) := by decide +kernel
theorem dX6_reset_49 : decode cX6_reset 49 = .ok (.iconst 0, 1) := by decide +kernel
theorem dX6_reset_50 : decode cX6_reset 50 = .ok (.invokevirtual 74, 3) := by decide +kernel
theorem dX6_reset_53 : decode cX6_reset 53 = .ok (.aload_n 0, 1) := by decide +kernel
theorem dX6_reset_54 : decode cX6_reset 54 = .ok (.iload_n 1, 1) := by decide +kernel
theorem dX6_reset_55 : decode cX6_reset 55 = .ok (.putfield 59, 3) := by decide +kernel
theorem dX6_reset_58 : decode cX6_reset 58 = .ok (.iload_n 2, 1) := by decide +kernel
theorem dX6_reset_59 : decode cX6_reset 59 = .ok (.ireturn, 1) := by decide +kernel
theorem dX6_sites_0 : decode cX6_sites 0 = .ok (.aload_n 0, 1) := by decide +kernel
theorem dX6_sites_1 : decode cX6_sites 1 = .ok (.getfield 59, 3) := by decide +kernel
theorem dX6_sites_4 : decode cX6_sites 4 = .ok (.ireturn, 1) := by decide +kernel
set_option maxRecDepth 20000 in
theorem ggX6_siteInfo_X6_isSite : GoodIn wsX6_siteInfo wsX6_isSite := goodIn_r _ [11, 12, 13, 14, 10, 15, 116, 117, 118, 119, 120, 121, 122, 123, 124] (by decide +kernel) (by decide +kernel)
set_option maxRecDepth 20000 in
theorem gX6_siteInfo_X6_isSite : GoodIn wsX6_siteInfo (wsV RX6 78 RX6 yX6_isSite wsX6_isSite) := goodIn_app (goodIn_of _ (by decide +kernel)) ggX6_siteInfo_X6_isSite
set_option maxRecDepth 20000 in
theorem ggX6_siteInfo_X5_get : GoodIn wsX6_siteInfo wsX5_get := goodIn_r _ [20, 21, 125] (by decide +kernel) (by decide +kernel)
set_option maxRecDepth 20000 in
theorem gX6_siteInfo_X5_get : GoodIn wsX6_siteInfo (wsV RX6 82 RX5 yX5_get wsX5_get) := goodIn_app (goodIn_of _ (by decide +kernel)) ggX6_siteInfo_X5_get
set_option maxRecDepth 20000 in
theorem ggX6_siteInfo_X2_countOf : GoodIn wsX6_siteInfo wsX2_countOf := goodIn_r _ [26, 27, 28, 29, 25, 30, 31, 32, 17, 18, 19, 20, 21, 126, 125] (by decide +kernel) (by decide +kernel)
set_option maxRecDepth 20000 in
theorem gX6_siteInfo_X2_countOf : GoodIn wsX6_siteInfo (wsV RX6 86 RX2 yX2_countOf wsX2_countOf) := goodIn_app (goodIn_of _ (by decide +kernel)) ggX6_siteInfo_X2_countOf
set_option maxRecDepth 20000 in
theorem ggX6_siteInfo_X4_madeBy : GoodIn wsX6_siteInfo wsX4_madeBy := goodIn_r _ [37, 38, 39, 17, 18, 19, 20, 21, 127, 128, 129, 130, 131, 132, 133, 134, 125] (by decide +kernel) (by decide +kernel)
set_option maxRecDepth 20000 in
theorem gX6_siteInfo_X4_madeBy : GoodIn wsX6_siteInfo (wsV RX6 89 RX4 yX4_madeBy wsX4_madeBy) := goodIn_app (goodIn_of _ (by decide +kernel)) ggX6_siteInfo_X4_madeBy
set_option maxRecDepth 20000 in
theorem ggX6_siteInfo_X0_show : GoodIn wsX6_siteInfo wsX0_show := goodIn_r _ [44, 45, 46, 47, 48, 49, 50, 36, 51, 52, 53, 54, 55, 19, 56, 21, 57, 58, 59, 60, 61, 17, 18, 20, 62, 63, 64, 65, 66, 39, 67, 28, 29, 25, 30, 31, 32, 68, 69, 70, 43, 71, 72, 73, 74, 75, 76, 77, 78, 79, 80, 81, 82, 83, 84, 85, 86, 87, 88, 89, 90, 91, 92, 93, 94, 95, 96, 97, 98, 99, 100, 101, 102, 103, 104, 135, 136, 137, 138, 127, 128, 129, 130, 131, 132, 133, 134, 125, 126] (by decide +kernel) (by decide +kernel)
set_option maxRecDepth 20000 in
theorem gX6_siteInfo_X0_show : GoodIn wsX6_siteInfo (wsV RX6 92 RX0 yX0_show wsX0_show) := goodIn_app (goodIn_of _ (by decide +kernel)) ggX6_siteInfo_X0_show
set_option maxRecDepth 20000 in
theorem ggX6_siteInfo_X0_strokeCount : GoodIn wsX6_siteInfo wsX0_strokeCount := goodIn_r _ [108, 47, 135, 136, 137, 138] (by decide +kernel) (by decide +kernel)
set_option maxRecDepth 20000 in
theorem gX6_siteInfo_X0_strokeCount : GoodIn wsX6_siteInfo (wsV RX6 96 RX0 yX0_strokeCount wsX0_strokeCount) := goodIn_app (goodIn_of _ (by decide +kernel)) ggX6_siteInfo_X0_strokeCount
set_option maxRecDepth 20000 in
theorem ggX6_siteInfo_X1_pointCount : GoodIn wsX6_siteInfo wsX1_pointCount := goodIn_r _ [113, 114, 115, 17, 18, 19, 20, 21, 139, 140, 141, 142, 143, 125] (by decide +kernel) (by decide +kernel)
set_option maxRecDepth 20000 in
theorem gX6_siteInfo_X1_pointCount : GoodIn wsX6_siteInfo (wsV RX6 100 RX1 yX1_pointCount wsX1_pointCount) := goodIn_app (goodIn_of _ (by decide +kernel)) ggX6_siteInfo_X1_pointCount
theorem dX6_siteInfo_0 : decode cX6_siteInfo 0 = .ok (.aload_n 0, 1) := by decide +kernel
theorem dX6_siteInfo_1 : decode cX6_siteInfo 1 = .ok (.iload_n 1, 1) := by decide +kernel
theorem dX6_siteInfo_2 : decode cX6_siteInfo 2 = .ok (.invokevirtual 78, 3) := by decide +kernel
theorem dX6_siteInfo_5 : decode cX6_siteInfo 5 = .ok (.ifCond .ne 6, 3) := by decide +kernel
theorem dX6_siteInfo_8 : decode cX6_siteInfo 8 = .ok (.ldc 67, 2) := by decide +kernel
theorem dX6_siteInfo_10 : decode cX6_siteInfo 10 = .ok (.ireturn, 1) := by decide +kernel
theorem dX6_siteInfo_11 : decode cX6_siteInfo 11 = .ok (.iload_n 2, 1) := by decide +kernel
theorem dX6_siteInfo_12 : decode cX6_siteInfo 12 = .ok (.tableswitch 96 0 4 #[36, 45, 54, 63, 87], 36) := by decide +kernel
theorem dX6_siteInfo_48 : decode cX6_siteInfo 48 = .ok (.aload_n 0, 1) := by decide +kernel
theorem dX6_siteInfo_49 : decode cX6_siteInfo 49 = .ok (.getfield 55, 3) := by decide +kernel
theorem dX6_siteInfo_52 : decode cX6_siteInfo 52 = .ok (.iload_n 1, 1) := by decide +kernel
theorem dX6_siteInfo_53 : decode cX6_siteInfo 53 = .ok (.invokevirtual 82, 3) := by decide +kernel
theorem dX6_siteInfo_56 : decode cX6_siteInfo 56 = .ok (.ireturn, 1) := by decide +kernel
theorem dX6_siteInfo_57 : decode cX6_siteInfo 57 = .ok (.aload_n 0, 1) := by decide +kernel
theorem dX6_siteInfo_58 : decode cX6_siteInfo 58 = .ok (.getfield 28, 3) := by decide +kernel
theorem dX6_siteInfo_61 : decode cX6_siteInfo 61 = .ok (.iload_n 1, 1) := by decide +kernel
theorem dX6_siteInfo_62 : decode cX6_siteInfo 62 = .ok (.invokevirtual 86, 3) := by decide +kernel
theorem dX6_siteInfo_65 : decode cX6_siteInfo 65 = .ok (.ireturn, 1) := by decide +kernel
theorem dX6_siteInfo_66 : decode cX6_siteInfo 66 = .ok (.aload_n 0, 1) := by decide +kernel
theorem dX6_siteInfo_67 : decode cX6_siteInfo 67 = .ok (.getfield 12, 3) := by decide +kernel
theorem dX6_siteInfo_70 : decode cX6_siteInfo 70 = .ok (.iload_n 1, 1) := by decide +kernel
theorem dX6_siteInfo_71 : decode cX6_siteInfo 71 = .ok (.invokevirtual 89, 3) := by decide +kernel
theorem dX6_siteInfo_74 : decode cX6_siteInfo 74 = .ok (.ireturn, 1) := by decide +kernel
theorem dX6_siteInfo_75 : decode cX6_siteInfo 75 = .ok (.aload_n 0, 1) := by decide +kernel
theorem dX6_siteInfo_76 : decode cX6_siteInfo 76 = .ok (.getfield 45, 3) := by decide +kernel
theorem dX6_siteInfo_79 : decode cX6_siteInfo 79 = .ok (.aload_n 0, 1) := by decide +kernel
theorem dX6_siteInfo_80 : decode cX6_siteInfo 80 = .ok (.getfield 12, 3) := by decide +kernel
theorem dX6_siteInfo_83 : decode cX6_siteInfo 83 = .ok (.aload_n 0, 1) := by decide +kernel
theorem dX6_siteInfo_84 : decode cX6_siteInfo 84 = .ok (.getfield 28, 3) := by decide +kernel
theorem dX6_siteInfo_87 : decode cX6_siteInfo 87 = .ok (.iload_n 1, 1) := by decide +kernel
theorem dX6_siteInfo_88 : decode cX6_siteInfo 88 = .ok (.invokevirtual 92, 3) := by decide +kernel
theorem dX6_siteInfo_91 : decode cX6_siteInfo 91 = .ok (.aload_n 0, 1) := by decide +kernel
theorem dX6_siteInfo_92 : decode cX6_siteInfo 92 = .ok (.getfield 45, 3) := by decide +kernel
theorem dX6_siteInfo_95 : decode cX6_siteInfo 95 = .ok (.invokevirtual 96, 3) := by decide +kernel
theorem dX6_siteInfo_98 : decode cX6_siteInfo 98 = .ok (.ireturn, 1) := by decide +kernel
theorem dX6_siteInfo_99 : decode cX6_siteInfo 99 = .ok (.aload_n 0, 1) := by decide +kernel
theorem dX6_siteInfo_100 : decode cX6_siteInfo 100 = .ok (.getfield 21, 3) := by decide +kernel
theorem dX6_siteInfo_103 : decode cX6_siteInfo 103 = .ok (.iload_n 1, 1) := by decide +kernel
theorem dX6_siteInfo_104 : decode cX6_siteInfo 104 = .ok (.invokevirtual 100, 3) := by decide +kernel
theorem dX6_siteInfo_107 : decode cX6_siteInfo 107 = .ok (.ireturn, 1) := by decide +kernel
theorem dX6_siteInfo_108 : decode cX6_siteInfo 108 = .ok (.ldc 67, 2) := by decide +kernel
theorem dX6_siteInfo_110 : decode cX6_siteInfo 110 = .ok (.ireturn, 1) := by decide +kernel
set_option maxRecDepth 20000 in
theorem ggX6_penDown_X6_isSite : GoodIn wsX6_penDown wsX6_isSite := goodIn_r _ [7, 8, 9, 10, 6, 11, 44, 45, 46, 47, 48, 49, 50, 51, 52] (by decide +kernel) (by decide +kernel)
set_option maxRecDepth 20000 in
theorem gX6_penDown_X6_isSite : GoodIn wsX6_penDown (wsV RX6 78 RX6 yX6_isSite wsX6_isSite) := goodIn_app (goodIn_of _ (by decide +kernel)) ggX6_penDown_X6_isSite
set_option maxRecDepth 20000 in
theorem ggX6_penDown_X6_isWithin : GoodIn wsX6_penDown wsX6_isWithin := goodIn_r _ [11] (by decide +kernel) (by decide +kernel)
set_option maxRecDepth 20000 in
theorem gX6_penDown_X6_isWithin : GoodIn wsX6_penDown (va_wsS RX6 63 yX6_isWithin wsX6_isWithin) := goodIn_app (goodIn_of _ (by decide +kernel)) ggX6_penDown_X6_isWithin
set_option maxRecDepth 20000 in
theorem ggX6_penDown_X1_start : GoodIn wsX6_penDown wsX1_start := goodIn_r _ [16, 17, 18, 19, 20, 21, 15, 22, 23, 24, 25, 26, 27, 28, 29, 53, 54, 55, 56, 57, 58] (by decide +kernel) (by decide +kernel)
set_option maxRecDepth 20000 in
theorem gX6_penDown_X1_start : GoodIn wsX6_penDown (wsV RX6 103 RX1 yX1_start wsX1_start) := goodIn_app (goodIn_of _ (by decide +kernel)) ggX6_penDown_X1_start
set_option maxRecDepth 20000 in
theorem ggX6_penDown_X1_addPoint : GoodIn wsX6_penDown wsX1_addPoint := goodIn_r _ [33, 23, 34, 35, 36, 37, 38, 27, 39, 29, 24, 25, 26, 28, 53, 54, 55, 56, 57, 58] (by decide +kernel) (by decide +kernel)
set_option maxRecDepth 20000 in
theorem gX6_penDown_X1_addPoint : GoodIn wsX6_penDown (wsV RX6 107 RX1 yX1_addPoint wsX1_addPoint) := goodIn_app (goodIn_of _ (by decide +kernel)) ggX6_penDown_X1_addPoint
set_option maxRecDepth 20000 in
theorem ggX6_penDown_X1_pointCount : GoodIn wsX6_penDown wsX1_pointCount := goodIn_r _ [43, 23, 36, 37, 38, 27, 39, 29, 53, 54, 55, 56, 57, 58] (by decide +kernel) (by decide +kernel)
set_option maxRecDepth 20000 in
theorem gX6_penDown_X1_pointCount : GoodIn wsX6_penDown (wsV RX6 100 RX1 yX1_pointCount wsX1_pointCount) := goodIn_app (goodIn_of _ (by decide +kernel)) ggX6_penDown_X1_pointCount
theorem dX6_penDown_0 : decode cX6_penDown 0 = .ok (.aload_n 0, 1) := by decide +kernel
theorem dX6_penDown_1 : decode cX6_penDown 1 = .ok (.iload_n 1, 1) := by decide +kernel
theorem dX6_penDown_2 : decode cX6_penDown 2 = .ok (.invokevirtual 78, 3) := by decide +kernel
theorem dX6_penDown_5 : decode cX6_penDown 5 = .ok (.ifCond .eq 44, 3) := by decide +kernel
theorem dX6_penDown_8 : decode cX6_penDown 8 = .ok (.iload_n 2, 1) := by decide +kernel
theorem dX6_penDown_9 : decode cX6_penDown 9 = .ok (.iconst 0, 1) := by decide +kernel
theorem dX6_penDown_10 : decode cX6_penDown 10 = .ok (.bipush 63, 2) := by decide +kernel
theorem dX6_penDown_12 : decode cX6_penDown 12 = .ok (.invokestatic 63, 3) := by decide +kernel
theorem dX6_penDown_15 : decode cX6_penDown 15 = .ok (.ifCond .eq 34, 3) := by decide +kernel
theorem dX6_penDown_18 : decode cX6_penDown 18 = .ok (.iload_n 3, 1) := by decide +kernel
theorem dX6_penDown_19 : decode cX6_penDown 19 = .ok (.iconst 0, 1) := by decide +kernel
theorem dX6_penDown_20 : decode cX6_penDown 20 = .ok (.bipush 63, 2) := by decide +kernel
theorem dX6_penDown_22 : decode cX6_penDown 22 = .ok (.invokestatic 63, 3) := by decide +kernel
theorem dX6_penDown_25 : decode cX6_penDown 25 = .ok (.ifCond .eq 24, 3) := by decide +kernel
theorem dX6_penDown_28 : decode cX6_penDown 28 = .ok (.iload 4, 2) := by decide +kernel
theorem dX6_penDown_30 : decode cX6_penDown 30 = .ok (.iconst 0, 1) := by decide +kernel
theorem dX6_penDown_31 : decode cX6_penDown 31 = .ok (.bipush 7, 2) := by decide +kernel
theorem dX6_penDown_33 : decode cX6_penDown 33 = .ok (.invokestatic 63, 3) := by decide +kernel
theorem dX6_penDown_36 : decode cX6_penDown 36 = .ok (.ifCond .eq 13, 3) := by decide +kernel
theorem dX6_penDown_39 : decode cX6_penDown 39 = .ok (.iload 5, 2) := by decide +kernel
theorem dX6_penDown_41 : decode cX6_penDown 41 = .ok (.iconst 0, 1) := by decide +kernel
theorem dX6_penDown_42 : decode cX6_penDown 42 = .ok (.iconst 3, 1) := by decide +kernel
theorem dX6_penDown_43 : decode cX6_penDown 43 = .ok (.invokestatic 63, 3) := by decide +kernel
theorem dX6_penDown_46 : decode cX6_penDown 46 = .ok (.ifCond .ne 6, 3) := by decide +kernel
theorem dX6_penDown_49 : decode cX6_penDown 49 = .ok (.ldc 67, 2) := by decide +kernel
theorem dX6_penDown_51 : decode cX6_penDown 51 = .ok (.ireturn, 1) := by decide +kernel
theorem dX6_penDown_52 : decode cX6_penDown 52 = .ok (.aload_n 0, 1) := by decide +kernel
theorem dX6_penDown_53 : decode cX6_penDown 53 = .ok (.getfield 21, 3) := by decide +kernel
theorem dX6_penDown_56 : decode cX6_penDown 56 = .ok (.iload_n 1, 1) := by decide +kernel
theorem dX6_penDown_57 : decode cX6_penDown 57 = .ok (.iload 4, 2) := by decide +kernel
theorem dX6_penDown_59 : decode cX6_penDown 59 = .ok (.iload 5, 2) := by decide +kernel
theorem dX6_penDown_61 : decode cX6_penDown 61 = .ok (.invokevirtual 103, 3) := by decide +kernel
theorem dX6_penDown_64 : decode cX6_penDown 64 = .ok (.aload_n 0, 1) := by decide +kernel
theorem dX6_penDown_65 : decode cX6_penDown 65 = .ok (.getfield 21, 3) := by decide +kernel
theorem dX6_penDown_68 : decode cX6_penDown 68 = .ok (.iload_n 1, 1) := by decide +kernel
theorem dX6_penDown_69 : decode cX6_penDown 69 = .ok (.iload_n 2, 1) := by decide +kernel
theorem dX6_penDown_70 : decode cX6_penDown 70 = .ok (.iload_n 3, 1) := by decide +kernel
theorem dX6_penDown_71 : decode cX6_penDown 71 = .ok (.invokevirtual 107, 3) := by decide +kernel
theorem dX6_penDown_74 : decode cX6_penDown 74 = .ok (.aload_n 0, 1) := by decide +kernel
theorem dX6_penDown_75 : decode cX6_penDown 75 = .ok (.getfield 21, 3) := by decide +kernel
theorem dX6_penDown_78 : decode cX6_penDown 78 = .ok (.iload_n 1, 1) := by decide +kernel
theorem dX6_penDown_79 : decode cX6_penDown 79 = .ok (.invokevirtual 100, 3) := by decide +kernel
theorem dX6_penDown_82 : decode cX6_penDown 82 = .ok (.ireturn, 1) := by decide +kernel
set_option maxRecDepth 20000 in
theorem ggX6_penMove_X6_isSite : GoodIn wsX6_penMove wsX6_isSite := goodIn_r _ [9, 10, 11, 12, 8, 13, 44, 45, 46, 47, 48, 49, 50, 51, 52] (by decide +kernel) (by decide +kernel)
set_option maxRecDepth 20000 in
theorem gX6_penMove_X6_isSite : GoodIn wsX6_penMove (wsV RX6 78 RX6 yX6_isSite wsX6_isSite) := goodIn_app (goodIn_of _ (by decide +kernel)) ggX6_penMove_X6_isSite
set_option maxRecDepth 20000 in
theorem ggX6_penMove_X6_isWithin : GoodIn wsX6_penMove wsX6_isWithin := goodIn_r _ [13] (by decide +kernel) (by decide +kernel)
set_option maxRecDepth 20000 in
theorem gX6_penMove_X6_isWithin : GoodIn wsX6_penMove (va_wsS RX6 63 yX6_isWithin wsX6_isWithin) := goodIn_app (goodIn_of _ (by decide +kernel)) ggX6_penMove_X6_isWithin
set_option maxRecDepth 20000 in
theorem ggX6_penMove_X1_pointCount : GoodIn wsX6_penMove wsX1_pointCount := goodIn_r _ [18, 19, 20, 21, 22, 23, 24, 25, 53, 54, 55, 56, 57, 58] (by decide +kernel) (by decide +kernel)
set_option maxRecDepth 20000 in
theorem gX6_penMove_X1_pointCount : GoodIn wsX6_penMove (wsV RX6 100 RX1 yX1_pointCount wsX1_pointCount) := goodIn_app (goodIn_of _ (by decide +kernel)) ggX6_penMove_X1_pointCount
set_option maxRecDepth 20000 in
theorem ggX6_penMove_X1_xOf : GoodIn wsX6_penMove wsX1_xOf := goodIn_r _ [29, 30, 20, 21, 22, 23, 24, 25, 53, 54, 55, 56, 57, 58] (by decide +kernel) (by decide +kernel)
set_option maxRecDepth 20000 in
theorem gX6_penMove_X1_xOf : GoodIn wsX6_penMove (wsV RX6 111 RX1 yX1_xOf wsX1_xOf) := goodIn_app (goodIn_of _ (by decide +kernel)) ggX6_penMove_X1_xOf
set_option maxRecDepth 20000 in
theorem ggX6_penMove_X1_yOf : GoodIn wsX6_penMove wsX1_yOf := goodIn_r _ [34, 35, 20, 21, 22, 23, 24, 25, 53, 54, 55, 56, 57, 58] (by decide +kernel) (by decide +kernel)
set_option maxRecDepth 20000 in
theorem gX6_penMove_X1_yOf : GoodIn wsX6_penMove (wsV RX6 115 RX1 yX1_yOf wsX1_yOf) := goodIn_app (goodIn_of _ (by decide +kernel)) ggX6_penMove_X1_yOf
set_option maxRecDepth 20000 in
theorem ggX6_penMove_X1_addPoint : GoodIn wsX6_penMove wsX1_addPoint := goodIn_r _ [39, 19, 30, 35, 20, 21, 22, 23, 24, 25, 40, 41, 42, 43, 53, 54, 55, 56, 57, 58] (by decide +kernel) (by decide +kernel)
set_option maxRecDepth 20000 in
theorem gX6_penMove_X1_addPoint : GoodIn wsX6_penMove (wsV RX6 107 RX1 yX1_addPoint wsX1_addPoint) := goodIn_app (goodIn_of _ (by decide +kernel)) ggX6_penMove_X1_addPoint
theorem dX6_penMove_0 : decode cX6_penMove 0 = .ok (.aload_n 0, 1) := by decide +kernel
theorem dX6_penMove_1 : decode cX6_penMove 1 = .ok (.iload_n 1, 1) := by decide +kernel
theorem dX6_penMove_2 : decode cX6_penMove 2 = .ok (.invokevirtual 78, 3) := by decide +kernel
theorem dX6_penMove_5 : decode cX6_penMove 5 = .ok (.ifCond .eq 25, 3) := by decide +kernel
theorem dX6_penMove_8 : decode cX6_penMove 8 = .ok (.iload_n 2, 1) := by decide +kernel
theorem dX6_penMove_9 : decode cX6_penMove 9 = .ok (.bipush (-8), 2) := by decide +kernel
theorem dX6_penMove_11 : decode cX6_penMove 11 = .ok (.bipush 8, 2) := by decide +kernel
theorem dX6_penMove_13 : decode cX6_penMove 13 = .ok (.invokestatic 63, 3) := by decide +kernel
theorem dX6_penMove_16 : decode cX6_penMove 16 = .ok (.ifCond .eq 14, 3) := by decide +kernel
theorem dX6_penMove_19 : decode cX6_penMove 19 = .ok (.iload_n 3, 1) := by decide +kernel
theorem dX6_penMove_20 : decode cX6_penMove 20 = .ok (.bipush (-8), 2) := by decide +kernel
theorem dX6_penMove_22 : decode cX6_penMove 22 = .ok (.bipush 8, 2) := by decide +kernel
theorem dX6_penMove_24 : decode cX6_penMove 24 = .ok (.invokestatic 63, 3) := by decide +kernel
theorem dX6_penMove_27 : decode cX6_penMove 27 = .ok (.ifCond .ne 6, 3) := by decide +kernel
theorem dX6_penMove_30 : decode cX6_penMove 30 = .ok (.ldc 67, 2) := by decide +kernel
theorem dX6_penMove_32 : decode cX6_penMove 32 = .ok (.ireturn, 1) := by decide +kernel
theorem dX6_penMove_33 : decode cX6_penMove 33 = .ok (.aload_n 0, 1) := by decide +kernel
theorem dX6_penMove_34 : decode cX6_penMove 34 = .ok (.getfield 21, 3) := by decide +kernel
theorem dX6_penMove_37 : decode cX6_penMove 37 = .ok (.iload_n 1, 1) := by decide +kernel
theorem dX6_penMove_38 : decode cX6_penMove 38 = .ok (.invokevirtual 100, 3) := by decide +kernel
theorem dX6_penMove_41 : decode cX6_penMove 41 = .ok (.istore 4, 2) := by decide +kernel
theorem dX6_penMove_43 : decode cX6_penMove 43 = .ok (.iload 4, 2) := by decide +kernel
theorem dX6_penMove_45 : decode cX6_penMove 45 = .ok (.ifCond .ne 6, 3) := by decide +kernel
theorem dX6_penMove_48 : decode cX6_penMove 48 = .ok (.ldc 110, 2) := by decide +kernel
theorem dX6_penMove_50 : decode cX6_penMove 50 = .ok (.ireturn, 1) := by decide +kernel
theorem dX6_penMove_51 : decode cX6_penMove 51 = .ok (.iload 4, 2) := by decide +kernel
theorem dX6_penMove_53 : decode cX6_penMove 53 = .ok (.bipush 8, 2) := by decide +kernel
theorem dX6_penMove_55 : decode cX6_penMove 55 = .ok (.if_icmp .lt 6, 3) := by decide +kernel
theorem dX6_penMove_58 : decode cX6_penMove 58 = .ok (.ldc 77, 2) := by decide +kernel
theorem dX6_penMove_60 : decode cX6_penMove 60 = .ok (.ireturn, 1) := by decide +kernel
theorem dX6_penMove_61 : decode cX6_penMove 61 = .ok (.aload_n 0, 1) := by decide +kernel
theorem dX6_penMove_62 : decode cX6_penMove 62 = .ok (.getfield 21, 3) := by decide +kernel
theorem dX6_penMove_65 : decode cX6_penMove 65 = .ok (.iload_n 1, 1) := by decide +kernel
theorem dX6_penMove_66 : decode cX6_penMove 66 = .ok (.aload_n 0, 1) := by decide +kernel
theorem dX6_penMove_67 : decode cX6_penMove 67 = .ok (.getfield 21, 3) := by decide +kernel
theorem dX6_penMove_70 : decode cX6_penMove 70 = .ok (.iload_n 1, 1) := by decide +kernel
theorem dX6_penMove_71 : decode cX6_penMove 71 = .ok (.iload 4, 2) := by decide +kernel
theorem dX6_penMove_73 : decode cX6_penMove 73 = .ok (.iconst 1, 1) := by decide +kernel
theorem dX6_penMove_74 : decode cX6_penMove 74 = .ok (.isub, 1) := by decide +kernel
theorem dX6_penMove_75 : decode cX6_penMove 75 = .ok (.invokevirtual 111, 3) := by decide +kernel
theorem dX6_penMove_78 : decode cX6_penMove 78 = .ok (.iload_n 2, 1) := by decide +kernel
theorem dX6_penMove_79 : decode cX6_penMove 79 = .ok (.iadd, 1) := by decide +kernel
theorem dX6_penMove_80 : decode cX6_penMove 80 = .ok (.aload_n 0, 1) := by decide +kernel
theorem dX6_penMove_81 : decode cX6_penMove 81 = .ok (.getfield 21, 3) := by decide +kernel
theorem dX6_penMove_84 : decode cX6_penMove 84 = .ok (.iload_n 1, 1) := by decide +kernel
theorem dX6_penMove_85 : decode cX6_penMove 85 = .ok (.iload 4, 2) := by decide +kernel
theorem dX6_penMove_87 : decode cX6_penMove 87 = .ok (.iconst 1, 1) := by decide +kernel
theorem dX6_penMove_88 : decode cX6_penMove 88 = .ok (.isub, 1) := by decide +kernel
theorem dX6_penMove_89 : decode cX6_penMove 89 = .ok (.invokevirtual 115, 3) := by decide +kernel
theorem dX6_penMove_92 : decode cX6_penMove 92 = .ok (.iload_n 3, 1) := by decide +kernel
theorem dX6_penMove_93 : decode cX6_penMove 93 = .ok (.iadd, 1) := by decide +kernel
theorem dX6_penMove_94 : decode cX6_penMove 94 = .ok (.invokevirtual 107, 3) := by decide +kernel
theorem dX6_penMove_97 : decode cX6_penMove 97 = .ok (.aload_n 0, 1) := by decide +kernel
theorem dX6_penMove_98 : decode cX6_penMove 98 = .ok (.getfield 21, 3) := by decide +kernel
theorem dX6_penMove_101 : decode cX6_penMove 101 = .ok (.iload_n 1, 1) := by decide +kernel
theorem dX6_penMove_102 : decode cX6_penMove 102 = .ok (.invokevirtual 100, 3) := by decide +kernel
theorem dX6_penMove_105 : decode cX6_penMove 105 = .ok (.ireturn, 1) := by decide +kernel
set_option maxRecDepth 20000 in
theorem ggX6_penUp_X6_isSite : GoodIn wsX6_penUp wsX6_isSite := goodIn_r _ [10, 11, 12, 13, 9, 14, 144, 145, 146, 147, 148, 149, 150, 151, 152] (by decide +kernel) (by decide +kernel)
set_option maxRecDepth 20000 in
theorem gX6_penUp_X6_isSite : GoodIn wsX6_penUp (wsV RX6 78 RX6 yX6_isSite wsX6_isSite) := goodIn_app (goodIn_of _ (by decide +kernel)) ggX6_penUp_X6_isSite
set_option maxRecDepth 20000 in
theorem ggX6_penUp_X1_pointCount : GoodIn wsX6_penUp wsX1_pointCount := goodIn_r _ [19, 20, 21, 22, 23, 24, 25, 26, 153, 154, 155, 156, 157, 158] (by decide +kernel) (by decide +kernel)
set_option maxRecDepth 20000 in
theorem gX6_penUp_X1_pointCount : GoodIn wsX6_penUp (wsV RX6 100 RX1 yX1_pointCount wsX1_pointCount) := goodIn_app (goodIn_of _ (by decide +kernel)) ggX6_penUp_X1_pointCount
set_option maxRecDepth 20000 in
theorem ggX6_penUp_X6_hasMadeAll : GoodIn wsX6_penUp wsX6_hasMadeAll := goodIn_r _ [30, 5, 31, 32, 33, 34, 35, 36, 37, 22, 23, 24, 25, 26, 144, 145, 146, 147, 148, 149, 150, 151, 152, 159, 160, 161, 162, 163, 164, 165, 166, 158] (by decide +kernel) (by decide +kernel)
set_option maxRecDepth 20000 in
theorem gX6_penUp_X6_hasMadeAll : GoodIn wsX6_penUp (wsV RX6 118 RX6 yX6_hasMadeAll wsX6_hasMadeAll) := goodIn_app (goodIn_of _ (by decide +kernel)) ggX6_penUp_X6_hasMadeAll
set_option maxRecDepth 20000 in
theorem ggX6_penUp_X6_tick : GoodIn wsX6_penUp wsX6_tick := goodIn_r _ [41, 42, 43, 22, 23, 24, 25, 26, 44, 45, 46, 47, 144, 145, 146, 147, 148, 149, 150, 151, 152, 158] (by decide +kernel) (by decide +kernel)
set_option maxRecDepth 20000 in
theorem gX6_penUp_X6_tick : GoodIn wsX6_penUp (wsV RX6 121 RX6 yX6_tick wsX6_tick) := goodIn_app (goodIn_of _ (by decide +kernel)) ggX6_penUp_X6_tick
set_option maxRecDepth 20000 in
theorem ggX6_penUp_X4_addStroke : GoodIn wsX6_penUp wsX4_addStroke := goodIn_r _ [51, 52, 53, 54, 55, 56, 34, 57, 36, 58, 59, 37, 22, 23, 24, 25, 26, 60, 9, 61, 62, 45, 46, 47, 63, 64, 65, 66, 67, 68, 69, 70, 71, 72, 73, 74, 75, 76, 77, 78, 79, 80, 81, 18, 82, 83, 16, 17, 19, 20, 21, 84, 85, 86, 87, 88, 89, 90, 91, 92, 93, 94, 95, 96, 97, 98, 99, 100, 101, 102, 103, 104, 105, 106, 107, 108, 109, 110, 111, 112, 113, 114, 115, 116, 117, 159, 160, 161, 162, 163, 164, 165, 166, 158, 153, 154, 155, 156, 157] (by decide +kernel) (by decide +kernel)
set_option maxRecDepth 20000 in
theorem gX6_penUp_X4_addStroke : GoodIn wsX6_penUp (wsV RX6 124 RX4 yX4_addStroke wsX4_addStroke) := goodIn_app (goodIn_of _ (by decide +kernel)) ggX6_penUp_X4_addStroke
set_option maxRecDepth 20000 in
theorem ggX6_penUp_X1_empty : GoodIn wsX6_penUp wsX1_empty := goodIn_r _ [101, 20, 102, 45, 46, 24, 47, 26, 153, 154, 155, 156, 157, 158] (by decide +kernel) (by decide +kernel)
set_option maxRecDepth 20000 in
theorem gX6_penUp_X1_empty : GoodIn wsX6_penUp (wsV RX6 128 RX1 yX1_empty wsX1_empty) := goodIn_app (goodIn_of _ (by decide +kernel)) ggX6_penUp_X1_empty
set_option maxRecDepth 20000 in
theorem ggX6_penUp_X6_publish : GoodIn wsX6_penUp wsX6_publish := goodIn_r _ [122, 123, 11, 124, 125, 126, 127, 128, 129, 130, 131, 45, 46, 24, 47, 26, 132, 133, 134, 135, 136, 137, 138, 139, 22, 23, 25, 140, 144, 145, 146, 147, 148, 149, 150, 151, 152, 167, 158, 168, 169] (by decide +kernel) (by decide +kernel)
set_option maxRecDepth 20000 in
theorem gX6_penUp_X6_publish : GoodIn wsX6_penUp (wsV RX6 131 RX6 yX6_publish wsX6_publish) := goodIn_app (goodIn_of _ (by decide +kernel)) ggX6_penUp_X6_publish
set_option maxRecDepth 20000 in
theorem ggX6_penUp_X6_numberOf : GoodIn wsX6_penUp wsX6_numberOf := goodIn_r _ [143] (by decide +kernel) (by decide +kernel)
set_option maxRecDepth 20000 in
theorem gX6_penUp_X6_numberOf : GoodIn wsX6_penUp (va_wsS RX6 135 yX6_numberOf wsX6_numberOf) := goodIn_app (goodIn_of _ (by decide +kernel)) ggX6_penUp_X6_numberOf
theorem dX6_penUp_0 : decode cX6_penUp 0 = .ok (.aload_n 0, 1) := by decide +kernel
theorem dX6_penUp_1 : decode cX6_penUp 1 = .ok (.iload_n 1, 1) := by decide +kernel
theorem dX6_penUp_2 : decode cX6_penUp 2 = .ok (.invokevirtual 78, 3) := by decide +kernel
theorem dX6_penUp_5 : decode cX6_penUp 5 = .ok (.ifCond .ne 6, 3) := by decide +kernel
theorem dX6_penUp_8 : decode cX6_penUp 8 = .ok (.ldc 67, 2) := by decide +kernel
theorem dX6_penUp_10 : decode cX6_penUp 10 = .ok (.ireturn, 1) := by decide +kernel
theorem dX6_penUp_11 : decode cX6_penUp 11 = .ok (.aload_n 0, 1) := by decide +kernel
theorem dX6_penUp_12 : decode cX6_penUp 12 = .ok (.getfield 21, 3) := by decide +kernel
theorem dX6_penUp_15 : decode cX6_penUp 15 = .ok (.iload_n 1, 1) := by decide +kernel
theorem dX6_penUp_16 : decode cX6_penUp 16 = .ok (.invokevirtual 100, 3) := by decide +kernel
theorem dX6_penUp_19 : decode cX6_penUp 19 = .ok (.ifCond .ne 6, 3) := by decide +kernel
theorem dX6_penUp_22 : decode cX6_penUp 22 = .ok (.ldc 110, 2) := by decide +kernel
theorem dX6_penUp_24 : decode cX6_penUp 24 = .ok (.ireturn, 1) := by decide +kernel
theorem dX6_penUp_25 : decode cX6_penUp 25 = .ok (.aload_n 0, 1) := by decide +kernel
theorem dX6_penUp_26 : decode cX6_penUp 26 = .ok (.iload_n 1, 1) := by decide +kernel
theorem dX6_penUp_27 : decode cX6_penUp 27 = .ok (.invokevirtual 118, 3) := by decide +kernel
theorem dX6_penUp_30 : decode cX6_penUp 30 = .ok (.ifCond .eq 6, 3) := by decide +kernel
theorem dX6_penUp_33 : decode cX6_penUp 33 = .ok (.ldc 77, 2) := by decide +kernel
theorem dX6_penUp_35 : decode cX6_penUp 35 = .ok (.ireturn, 1) := by decide +kernel
theorem dX6_penUp_36 : decode cX6_penUp 36 = .ok (.aload_n 0, 1) := by decide +kernel
theorem dX6_penUp_37 : decode cX6_penUp 37 = .ok (.getfield 12, 3) := by decide +kernel
theorem dX6_penUp_40 : decode cX6_penUp 40 = .ok (.iload_n 1, 1) := by decide +kernel
theorem dX6_penUp_41 : decode cX6_penUp 41 = .ok (.aload_n 0, 1) := by decide +kernel
theorem dX6_penUp_42 : decode cX6_penUp 42 = .ok (.iload_n 1, 1) := by decide +kernel
theorem dX6_penUp_43 : decode cX6_penUp 43 = .ok (.invokevirtual 121, 3) := by decide +kernel
theorem dX6_penUp_46 : decode cX6_penUp 46 = .ok (.aload_n 0, 1) := by decide +kernel
theorem dX6_penUp_47 : decode cX6_penUp 47 = .ok (.getfield 21, 3) := by decide +kernel
theorem dX6_penUp_50 : decode cX6_penUp 50 = .ok (.invokevirtual 124, 3) := by decide +kernel
theorem dX6_penUp_53 : decode cX6_penUp 53 = .ok (.istore_n 2, 1) := by decide +kernel
theorem dX6_penUp_54 : decode cX6_penUp 54 = .ok (.aload_n 0, 1) := by decide +kernel
theorem dX6_penUp_55 : decode cX6_penUp 55 = .ok (.getfield 21, 3) := by decide +kernel
theorem dX6_penUp_58 : decode cX6_penUp 58 = .ok (.iload_n 1, 1) := by decide +kernel
theorem dX6_penUp_59 : decode cX6_penUp 59 = .ok (.invokevirtual 128, 3) := by decide +kernel
theorem dX6_penUp_62 : decode cX6_penUp 62 = .ok (.aload_n 0, 1) := by decide +kernel
theorem dX6_penUp_63 : decode cX6_penUp 63 = .ok (.iload_n 1, 1) := by decide +kernel
theorem dX6_penUp_64 : decode cX6_penUp 64 = .ok (.iload_n 2, 1) := by decide +kernel
theorem dX6_penUp_65 : decode cX6_penUp 65 = .ok (.invokevirtual 131, 3) := by decide +kernel
theorem dX6_penUp_68 : decode cX6_penUp 68 = .ok (.iload_n 2, 1) := by decide +kernel
theorem dX6_penUp_69 : decode cX6_penUp 69 = .ok (.invokestatic 135, 3) := by decide +kernel
theorem dX6_penUp_72 : decode cX6_penUp 72 = .ok (.ireturn, 1) := by decide +kernel
set_option maxRecDepth 20000 in
theorem ggX6_undo_X6_isSite : GoodIn wsX6_undo wsX6_isSite := goodIn_r _ [6, 7, 8, 9, 5, 10, 169, 170, 171, 172, 173, 174, 175, 176, 177] (by decide +kernel) (by decide +kernel)
set_option maxRecDepth 20000 in
theorem gX6_undo_X6_isSite : GoodIn wsX6_undo (wsV RX6 78 RX6 yX6_isSite wsX6_isSite) := goodIn_app (goodIn_of _ (by decide +kernel)) ggX6_undo_X6_isSite
set_option maxRecDepth 20000 in
theorem ggX6_undo_X6_lastVisibleOwn : GoodIn wsX6_undo wsX6_lastVisibleOwn := goodIn_r _ [14, 15, 16, 17, 18, 19, 20, 21, 22, 23, 24, 25, 26, 27, 28, 29, 30, 31, 32, 33, 34, 35, 36, 37, 38, 39, 40, 41, 42, 43, 44, 45, 46, 47, 48, 49, 50, 51, 52, 53, 54, 55, 56, 57, 58, 59, 60, 61, 62, 63, 64, 65, 66, 67, 68, 69, 70, 71, 72, 73, 74, 75, 76, 77, 78, 79, 80, 81, 82, 83, 84, 85, 86, 87, 88, 89, 90, 91, 92, 93, 94, 95, 96, 97, 98, 99, 100, 101, 102, 5, 103, 104, 105, 169, 170, 171, 172, 173, 174, 175, 176, 177, 178, 179, 180, 181, 182, 183, 184, 185, 186, 187, 188, 189, 190, 191] (by decide +kernel) (by decide +kernel)
set_option maxRecDepth 20000 in
theorem gX6_undo_X6_lastVisibleOwn : GoodIn wsX6_undo (wsV RX6 138 RX6 yX6_lastVisibleOwn wsX6_lastVisibleOwn) := goodIn_app (goodIn_of _ (by decide +kernel)) ggX6_undo_X6_lastVisibleOwn
set_option maxRecDepth 20000 in
theorem ggX6_undo_X6_changeOwn : GoodIn wsX6_undo wsX6_changeOwn := goodIn_r _ [109, 110, 111, 16, 112, 113, 114, 5, 115, 96, 97, 98, 29, 99, 100, 51, 43, 44, 35, 45, 37, 116, 117, 118, 119, 120, 121, 122, 74, 75, 76, 123, 124, 125, 126, 67, 81, 127, 128, 129, 130, 131, 72, 102, 103, 132, 133, 134, 135, 136, 31, 50, 137, 138, 139, 140, 141, 142, 143, 144, 145, 146, 147, 148, 149, 150, 17, 7, 151, 152, 153, 154, 55, 155, 57, 156, 157, 158, 159, 160, 161, 162, 163, 164, 165, 166, 167, 168, 169, 170, 171, 172, 173, 174, 175, 176, 177, 182, 183, 184, 185, 186, 187, 188, 189, 190, 191, 192, 193] (by decide +kernel) (by decide +kernel)
set_option maxRecDepth 20000 in
theorem gX6_undo_X6_changeOwn : GoodIn wsX6_undo (wsV RX6 141 RX6 yX6_changeOwn wsX6_changeOwn) := goodIn_app (goodIn_of _ (by decide +kernel)) ggX6_undo_X6_changeOwn
theorem dX6_undo_0 : decode cX6_undo 0 = .ok (.aload_n 0, 1) := by decide +kernel
theorem dX6_undo_1 : decode cX6_undo 1 = .ok (.iload_n 1, 1) := by decide +kernel
theorem dX6_undo_2 : decode cX6_undo 2 = .ok (.invokevirtual 78, 3) := by decide +kernel
theorem dX6_undo_5 : decode cX6_undo 5 = .ok (.ifCond .ne 6, 3) := by decide +kernel
theorem dX6_undo_8 : decode cX6_undo 8 = .ok (.ldc 67, 2) := by decide +kernel
theorem dX6_undo_10 : decode cX6_undo 10 = .ok (.ireturn, 1) := by decide +kernel
theorem dX6_undo_11 : decode cX6_undo 11 = .ok (.aload_n 0, 1) := by decide +kernel
theorem dX6_undo_12 : decode cX6_undo 12 = .ok (.iload_n 1, 1) := by decide +kernel
theorem dX6_undo_13 : decode cX6_undo 13 = .ok (.iconst 1, 1) := by decide +kernel
theorem dX6_undo_14 : decode cX6_undo 14 = .ok (.aload_n 0, 1) := by decide +kernel
theorem dX6_undo_15 : decode cX6_undo 15 = .ok (.iload_n 1, 1) := by decide +kernel
theorem dX6_undo_16 : decode cX6_undo 16 = .ok (.invokevirtual 138, 3) := by decide +kernel
theorem dX6_undo_19 : decode cX6_undo 19 = .ok (.invokevirtual 141, 3) := by decide +kernel
theorem dX6_undo_22 : decode cX6_undo 22 = .ok (.ireturn, 1) := by decide +kernel
set_option maxRecDepth 20000 in
theorem ggX6_redo_X6_isSite : GoodIn wsX6_redo wsX6_isSite := goodIn_r _ [6, 7, 8, 9, 5, 10, 170, 171, 172, 173, 174, 175, 176, 177, 178] (by decide +kernel) (by decide +kernel)
set_option maxRecDepth 20000 in
theorem gX6_redo_X6_isSite : GoodIn wsX6_redo (wsV RX6 78 RX6 yX6_isSite wsX6_isSite) := goodIn_app (goodIn_of _ (by decide +kernel)) ggX6_redo_X6_isSite
set_option maxRecDepth 20000 in
theorem ggX6_redo_X6_lastUndoneOwn : GoodIn wsX6_redo wsX6_lastUndoneOwn := goodIn_r _ [14, 15, 16, 17, 18, 19, 20, 21, 22, 23, 24, 25, 26, 27, 28, 29, 30, 31, 32, 33, 34, 35, 36, 37, 38, 39, 40, 41, 42, 43, 44, 45, 46, 47, 48, 49, 50, 51, 52, 53, 54, 55, 56, 57, 58, 59, 60, 61, 62, 63, 64, 65, 66, 67, 68, 69, 70, 71, 72, 73, 74, 75, 76, 77, 78, 79, 80, 81, 82, 83, 84, 85, 86, 87, 88, 89, 90, 91, 92, 93, 94, 95, 96, 97, 98, 99, 100, 101, 102, 5, 103, 104, 105, 106, 170, 171, 172, 173, 174, 175, 176, 177, 178, 179, 180, 181, 182, 183, 184, 185, 186, 187, 188, 189, 190, 191, 192] (by decide +kernel) (by decide +kernel)
set_option maxRecDepth 20000 in
theorem gX6_redo_X6_lastUndoneOwn : GoodIn wsX6_redo (wsV RX6 145 RX6 yX6_lastUndoneOwn wsX6_lastUndoneOwn) := goodIn_app (goodIn_of _ (by decide +kernel)) ggX6_redo_X6_lastUndoneOwn
set_option maxRecDepth 20000 in
theorem ggX6_redo_X6_changeOwn : GoodIn wsX6_redo wsX6_changeOwn := goodIn_r _ [110, 111, 112, 16, 113, 114, 115, 5, 116, 96, 97, 98, 29, 99, 100, 51, 43, 44, 35, 45, 37, 117, 118, 119, 120, 121, 122, 123, 74, 75, 76, 124, 125, 126, 127, 67, 81, 128, 129, 130, 131, 132, 72, 102, 103, 133, 134, 135, 136, 137, 31, 50, 138, 139, 140, 141, 142, 143, 144, 145, 146, 147, 148, 149, 150, 151, 17, 7, 152, 153, 154, 155, 55, 156, 57, 157, 158, 159, 160, 161, 162, 163, 164, 165, 166, 167, 168, 169, 170, 171, 172, 173, 174, 175, 176, 177, 178, 183, 184, 185, 186, 187, 188, 189, 190, 191, 192, 193, 194] (by decide +kernel) (by decide +kernel)
set_option maxRecDepth 20000 in
theorem gX6_redo_X6_changeOwn : GoodIn wsX6_redo (wsV RX6 141 RX6 yX6_changeOwn wsX6_changeOwn) := goodIn_app (goodIn_of _ (by decide +kernel)) ggX6_redo_X6_changeOwn
theorem dX6_redo_0 : decode cX6_redo 0 = .ok (.aload_n 0, 1) := by decide +kernel
theorem dX6_redo_1 : decode cX6_redo 1 = .ok (.iload_n 1, 1) := by decide +kernel
theorem dX6_redo_2 : decode cX6_redo 2 = .ok (.invokevirtual 78, 3) := by decide +kernel
theorem dX6_redo_5 : decode cX6_redo 5 = .ok (.ifCond .ne 6, 3) := by decide +kernel
theorem dX6_redo_8 : decode cX6_redo 8 = .ok (.ldc 67, 2) := by decide +kernel
theorem dX6_redo_10 : decode cX6_redo 10 = .ok (.ireturn, 1) := by decide +kernel
theorem dX6_redo_11 : decode cX6_redo 11 = .ok (.aload_n 0, 1) := by decide +kernel
theorem dX6_redo_12 : decode cX6_redo 12 = .ok (.iload_n 1, 1) := by decide +kernel
theorem dX6_redo_13 : decode cX6_redo 13 = .ok (.iconst 2, 1) := by decide +kernel
theorem dX6_redo_14 : decode cX6_redo 14 = .ok (.aload_n 0, 1) := by decide +kernel
theorem dX6_redo_15 : decode cX6_redo 15 = .ok (.iload_n 1, 1) := by decide +kernel
theorem dX6_redo_16 : decode cX6_redo 16 = .ok (.invokevirtual 145, 3) := by decide +kernel
theorem dX6_redo_19 : decode cX6_redo 19 = .ok (.invokevirtual 141, 3) := by decide +kernel
theorem dX6_redo_22 : decode cX6_redo 22 = .ok (.ireturn, 1) := by decide +kernel
set_option maxRecDepth 20000 in
theorem ggX6_lift_X6_isSite : GoodIn wsX6_lift wsX6_isSite := goodIn_r _ [11, 12, 13, 14, 10, 15, 166, 167, 168, 169, 170, 171, 172, 173, 174] (by decide +kernel) (by decide +kernel)
set_option maxRecDepth 20000 in
theorem gX6_lift_X6_isSite : GoodIn wsX6_lift (wsV RX6 78 RX6 yX6_isSite wsX6_isSite) := goodIn_app (goodIn_of _ (by decide +kernel)) ggX6_lift_X6_isSite
set_option maxRecDepth 20000 in
theorem ggX6_lift_X6_isWithin : GoodIn wsX6_lift wsX6_isWithin := goodIn_r _ [15] (by decide +kernel) (by decide +kernel)
set_option maxRecDepth 20000 in
theorem gX6_lift_X6_isWithin : GoodIn wsX6_lift (va_wsS RX6 63 yX6_isWithin wsX6_isWithin) := goodIn_app (goodIn_of _ (by decide +kernel)) ggX6_lift_X6_isWithin
set_option maxRecDepth 20000 in
theorem ggX6_lift_X0_show : GoodIn wsX6_lift wsX0_show := goodIn_r _ [20, 21, 22, 23, 24, 25, 26, 27, 28, 29, 30, 31, 32, 33, 34, 35, 36, 37, 38, 39, 40, 41, 42, 43, 44, 45, 46, 47, 48, 49, 50, 51, 52, 53, 54, 55, 56, 57, 58, 59, 19, 60, 61, 62, 63, 64, 65, 66, 67, 68, 69, 70, 71, 72, 73, 74, 75, 76, 77, 78, 79, 80, 81, 82, 83, 84, 85, 86, 87, 88, 89, 90, 91, 92, 93, 175, 176, 177, 178, 179, 180, 181, 182, 183, 184, 185, 186, 187, 188] (by decide +kernel) (by decide +kernel)
set_option maxRecDepth 20000 in
theorem gX6_lift_X0_show : GoodIn wsX6_lift (wsV RX6 92 RX0 yX0_show wsX0_show) := goodIn_app (goodIn_of _ (by decide +kernel)) ggX6_lift_X0_show
set_option maxRecDepth 20000 in
theorem ggX6_lift_X0_strokeCount : GoodIn wsX6_lift wsX0_strokeCount := goodIn_r _ [97, 23, 175, 176, 177, 178] (by decide +kernel) (by decide +kernel)
set_option maxRecDepth 20000 in
theorem gX6_lift_X0_strokeCount : GoodIn wsX6_lift (wsV RX6 96 RX0 yX0_strokeCount wsX0_strokeCount) := goodIn_app (goodIn_of _ (by decide +kernel)) ggX6_lift_X0_strokeCount
set_option maxRecDepth 20000 in
theorem ggX6_lift_X6_hasMadeAll : GoodIn wsX6_lift wsX6_hasMadeAll := goodIn_r _ [101, 3, 102, 103, 104, 27, 105, 106, 49, 41, 42, 33, 43, 35, 166, 167, 168, 169, 170, 171, 172, 173, 174, 179, 180, 181, 182, 183, 184, 185, 186, 187] (by decide +kernel) (by decide +kernel)
set_option maxRecDepth 20000 in
theorem gX6_lift_X6_hasMadeAll : GoodIn wsX6_lift (wsV RX6 118 RX6 yX6_hasMadeAll wsX6_hasMadeAll) := goodIn_app (goodIn_of _ (by decide +kernel)) ggX6_lift_X6_hasMadeAll
set_option maxRecDepth 20000 in
theorem ggX6_lift_X6_tick : GoodIn wsX6_lift wsX6_tick := goodIn_r _ [110, 111, 112, 41, 42, 33, 43, 35, 113, 72, 73, 74, 166, 167, 168, 169, 170, 171, 172, 173, 174, 187] (by decide +kernel) (by decide +kernel)
set_option maxRecDepth 20000 in
theorem gX6_lift_X6_tick : GoodIn wsX6_lift (wsV RX6 121 RX6 yX6_tick wsX6_tick) := goodIn_app (goodIn_of _ (by decide +kernel)) ggX6_lift_X6_tick
set_option maxRecDepth 20000 in
theorem ggX6_lift_X0_strokeIn : GoodIn wsX6_lift wsX0_strokeIn := goodIn_r _ [117, 84, 89, 41, 42, 33, 43, 35, 175, 176, 177, 178, 187] (by decide +kernel) (by decide +kernel)
set_option maxRecDepth 20000 in
theorem gX6_lift_X0_strokeIn : GoodIn wsX6_lift (wsV RX6 148 RX0 yX0_strokeIn wsX0_strokeIn) := goodIn_app (goodIn_of _ (by decide +kernel)) ggX6_lift_X0_strokeIn
set_option maxRecDepth 20000 in
theorem ggX6_lift_X4_addChange : GoodIn wsX6_lift wsX4_addChange := goodIn_r _ [121, 65, 79, 122, 123, 124, 27, 125, 106, 126, 70, 49, 41, 42, 33, 43, 35, 127, 10, 128, 129, 72, 73, 74, 130, 131, 132, 133, 29, 48, 134, 135, 136, 137, 138, 139, 140, 141, 142, 143, 179, 180, 181, 182, 183, 184, 185, 186, 187] (by decide +kernel) (by decide +kernel)
set_option maxRecDepth 20000 in
theorem gX6_lift_X4_addChange : GoodIn wsX6_lift (wsV RX6 151 RX4 yX4_addChange wsX4_addChange) := goodIn_app (goodIn_of _ (by decide +kernel)) ggX6_lift_X4_addChange
set_option maxRecDepth 20000 in
theorem ggX6_lift_X6_publish : GoodIn wsX6_lift wsX6_publish := goodIn_r _ [147, 4, 12, 148, 149, 150, 151, 53, 152, 55, 153, 72, 73, 33, 74, 35, 154, 155, 156, 157, 158, 159, 160, 161, 41, 42, 43, 162, 166, 167, 168, 169, 170, 171, 172, 173, 174, 188, 187, 189, 190] (by decide +kernel) (by decide +kernel)
set_option maxRecDepth 20000 in
theorem gX6_lift_X6_publish : GoodIn wsX6_lift (wsV RX6 131 RX6 yX6_publish wsX6_publish) := goodIn_app (goodIn_of _ (by decide +kernel)) ggX6_lift_X6_publish
set_option maxRecDepth 20000 in
theorem ggX6_lift_X6_numberOf : GoodIn wsX6_lift wsX6_numberOf := goodIn_r _ [165] (by decide +kernel) (by decide +kernel)
set_option maxRecDepth 20000 in
theorem gX6_lift_X6_numberOf : GoodIn wsX6_lift (va_wsS RX6 135 yX6_numberOf wsX6_numberOf) := goodIn_app (goodIn_of _ (by decide +kernel)) ggX6_lift_X6_numberOf
theorem dX6_lift_0 : decode cX6_lift 0 = .ok (.aload_n 0, 1) := by decide +kernel
theorem dX6_lift_1 : decode cX6_lift 1 = .ok (.iload_n 1, 1) := by decide +kernel
theorem dX6_lift_2 : decode cX6_lift 2 = .ok (.invokevirtual 78, 3) := by decide +kernel
theorem dX6_lift_5 : decode cX6_lift 5 = .ok (.ifCond .eq 16, 3) := by decide +kernel
theorem dX6_lift_8 : decode cX6_lift 8 = .ok (.iload_n 2, 1) := by decide +kernel
theorem dX6_lift_9 : decode cX6_lift 9 = .ok (.ifCond .lt 12, 3) := by decide +kernel
theorem dX6_lift_12 : decode cX6_lift 12 = .ok (.iload_n 3, 1) := by decide +kernel
theorem dX6_lift_13 : decode cX6_lift 13 = .ok (.iconst 0, 1) := by decide +kernel
theorem dX6_lift_14 : decode cX6_lift 14 = .ok (.iconst 3, 1) := by decide +kernel
theorem dX6_lift_15 : decode cX6_lift 15 = .ok (.invokestatic 63, 3) := by decide +kernel
theorem dX6_lift_18 : decode cX6_lift 18 = .ok (.ifCond .ne 6, 3) := by decide +kernel
theorem dX6_lift_21 : decode cX6_lift 21 = .ok (.ldc 67, 2) := by decide +kernel
theorem dX6_lift_23 : decode cX6_lift 23 = .ok (.ireturn, 1) := by decide +kernel
theorem dX6_lift_24 : decode cX6_lift 24 = .ok (.aload_n 0, 1) := by decide +kernel
theorem dX6_lift_25 : decode cX6_lift 25 = .ok (.getfield 45, 3) := by decide +kernel
theorem dX6_lift_28 : decode cX6_lift 28 = .ok (.aload_n 0, 1) := by decide +kernel
theorem dX6_lift_29 : decode cX6_lift 29 = .ok (.getfield 12, 3) := by decide +kernel
theorem dX6_lift_32 : decode cX6_lift 32 = .ok (.aload_n 0, 1) := by decide +kernel
theorem dX6_lift_33 : decode cX6_lift 33 = .ok (.getfield 28, 3) := by decide +kernel
theorem dX6_lift_36 : decode cX6_lift 36 = .ok (.iload_n 1, 1) := by decide +kernel
theorem dX6_lift_37 : decode cX6_lift 37 = .ok (.invokevirtual 92, 3) := by decide +kernel
theorem dX6_lift_40 : decode cX6_lift 40 = .ok (.iload_n 2, 1) := by decide +kernel
theorem dX6_lift_41 : decode cX6_lift 41 = .ok (.aload_n 0, 1) := by decide +kernel
theorem dX6_lift_42 : decode cX6_lift 42 = .ok (.getfield 45, 3) := by decide +kernel
theorem dX6_lift_45 : decode cX6_lift 45 = .ok (.invokevirtual 96, 3) := by decide +kernel
theorem dX6_lift_48 : decode cX6_lift 48 = .ok (.if_icmp .lt 6, 3) := by decide +kernel
theorem dX6_lift_51 : decode cX6_lift 51 = .ok (.ldc 110, 2) := by decide +kernel
theorem dX6_lift_53 : decode cX6_lift 53 = .ok (.ireturn, 1) := by decide +kernel
theorem dX6_lift_54 : decode cX6_lift 54 = .ok (.aload_n 0, 1) := by decide +kernel
theorem dX6_lift_55 : decode cX6_lift 55 = .ok (.iload_n 1, 1) := by decide +kernel
theorem dX6_lift_56 : decode cX6_lift 56 = .ok (.invokevirtual 118, 3) := by decide +kernel
theorem dX6_lift_59 : decode cX6_lift 59 = .ok (.ifCond .eq 6, 3) := by decide +kernel
theorem dX6_lift_62 : decode cX6_lift 62 = .ok (.ldc 77, 2) := by decide +kernel
theorem dX6_lift_64 : decode cX6_lift 64 = .ok (.ireturn, 1) := by decide +kernel
theorem dX6_lift_65 : decode cX6_lift 65 = .ok (.aload_n 0, 1) := by decide +kernel
theorem dX6_lift_66 : decode cX6_lift 66 = .ok (.getfield 12, 3) := by decide +kernel
theorem dX6_lift_69 : decode cX6_lift 69 = .ok (.iload_n 1, 1) := by decide +kernel
theorem dX6_lift_70 : decode cX6_lift 70 = .ok (.aload_n 0, 1) := by decide +kernel
theorem dX6_lift_71 : decode cX6_lift 71 = .ok (.iload_n 1, 1) := by decide +kernel
theorem dX6_lift_72 : decode cX6_lift 72 = .ok (.invokevirtual 121, 3) := by decide +kernel
theorem dX6_lift_75 : decode cX6_lift 75 = .ok (.iconst 3, 1) := by decide +kernel
theorem dX6_lift_76 : decode cX6_lift 76 = .ok (.aload_n 0, 1) := by decide +kernel
theorem dX6_lift_77 : decode cX6_lift 77 = .ok (.getfield 45, 3) := by decide +kernel
theorem dX6_lift_80 : decode cX6_lift 80 = .ok (.iload_n 2, 1) := by decide +kernel
theorem dX6_lift_81 : decode cX6_lift 81 = .ok (.invokevirtual 148, 3) := by decide +kernel
theorem dX6_lift_84 : decode cX6_lift 84 = .ok (.iload_n 3, 1) := by decide +kernel
theorem dX6_lift_85 : decode cX6_lift 85 = .ok (.invokevirtual 151, 3) := by decide +kernel
theorem dX6_lift_88 : decode cX6_lift 88 = .ok (.istore 4, 2) := by decide +kernel
theorem dX6_lift_90 : decode cX6_lift 90 = .ok (.aload_n 0, 1) := by decide +kernel
theorem dX6_lift_91 : decode cX6_lift 91 = .ok (.iload_n 1, 1) := by decide +kernel
theorem dX6_lift_92 : decode cX6_lift 92 = .ok (.iload 4, 2) := by decide +kernel
theorem dX6_lift_94 : decode cX6_lift 94 = .ok (.invokevirtual 131, 3) := by decide +kernel
theorem dX6_lift_97 : decode cX6_lift 97 = .ok (.iload 4, 2) := by decide +kernel
theorem dX6_lift_99 : decode cX6_lift 99 = .ok (.invokestatic 135, 3) := by decide +kernel
theorem dX6_lift_102 : decode cX6_lift 102 = .ok (.ireturn, 1) := by decide +kernel
set_option maxRecDepth 20000 in
theorem ggX6_deliver_X6_areTwoSites : GoodIn wsX6_deliver wsX6_areTwoSites := goodIn_r _ [8, 9, 10, 11, 7, 12, 13, 14, 15, 16, 76, 77, 78, 79, 80, 81, 82, 83, 84] (by decide +kernel) (by decide +kernel)
set_option maxRecDepth 20000 in
theorem gX6_deliver_X6_areTwoSites : GoodIn wsX6_deliver (wsV RX6 155 RX6 yX6_areTwoSites wsX6_areTwoSites) := goodIn_app (goodIn_of _ (by decide +kernel)) ggX6_deliver_X6_areTwoSites
set_option maxRecDepth 20000 in
theorem ggX6_deliver_X3_countIn : GoodIn wsX6_deliver wsX3_countIn := goodIn_r _ [21, 22, 23, 24, 25, 26, 27, 28, 85, 86, 87] (by decide +kernel) (by decide +kernel)
set_option maxRecDepth 20000 in
theorem gX6_deliver_X3_countIn : GoodIn wsX6_deliver (wsV RX6 159 RX3 yX3_countIn wsX3_countIn) := goodIn_app (goodIn_of _ (by decide +kernel)) ggX6_deliver_X3_countIn
set_option maxRecDepth 20000 in
theorem ggX6_deliver_X3_messageIn : GoodIn wsX6_deliver wsX3_messageIn := goodIn_r _ [32, 33, 23, 24, 25, 26, 27, 28, 85, 86, 87] (by decide +kernel) (by decide +kernel)
set_option maxRecDepth 20000 in
theorem gX6_deliver_X3_messageIn : GoodIn wsX6_deliver (wsV RX6 163 RX3 yX3_messageIn wsX3_messageIn) := goodIn_app (goodIn_of _ (by decide +kernel)) ggX6_deliver_X3_messageIn
set_option maxRecDepth 20000 in
theorem ggX6_deliver_X3_dropFirst : GoodIn wsX6_deliver wsX3_dropFirst := goodIn_r _ [37, 22, 33, 38, 39, 40, 41, 23, 24, 25, 26, 27, 28, 42, 43, 44, 45, 85, 86, 87] (by decide +kernel) (by decide +kernel)
set_option maxRecDepth 20000 in
theorem gX6_deliver_X3_dropFirst : GoodIn wsX6_deliver (wsV RX6 166 RX3 yX3_dropFirst wsX3_dropFirst) := goodIn_app (goodIn_of _ (by decide +kernel)) ggX6_deliver_X3_dropFirst
set_option maxRecDepth 20000 in
theorem ggX6_deliver_X6_receive : GoodIn wsX6_deliver wsX6_receive := goodIn_r _ [49, 50, 51, 52, 53, 39, 40, 41, 54, 55, 56, 57, 58, 59, 60, 43, 44, 26, 45, 28, 61, 24, 25, 27, 62, 63, 64, 65, 66, 67, 68, 69, 76, 77, 78, 79, 80, 81, 82, 83, 84, 88, 87, 89, 90, 91, 92, 93, 94, 95, 96] (by decide +kernel) (by decide +kernel)
set_option maxRecDepth 20000 in
theorem gX6_deliver_X6_receive : GoodIn wsX6_deliver (wsV RX6 169 RX6 yX6_receive wsX6_receive) := goodIn_app (goodIn_of _ (by decide +kernel)) ggX6_deliver_X6_receive
set_option maxRecDepth 20000 in
theorem ggX6_deliver_X6_authorOf : GoodIn wsX6_deliver wsX6_authorOf := goodIn_r _ [72] (by decide +kernel) (by decide +kernel)
set_option maxRecDepth 20000 in
theorem gX6_deliver_X6_authorOf : GoodIn wsX6_deliver (va_wsS RX6 172 yX6_authorOf wsX6_authorOf) := goodIn_app (goodIn_of _ (by decide +kernel)) ggX6_deliver_X6_authorOf
set_option maxRecDepth 20000 in
theorem ggX6_deliver_X6_numberOf : GoodIn wsX6_deliver wsX6_numberOf := goodIn_r _ [75] (by decide +kernel) (by decide +kernel)
set_option maxRecDepth 20000 in
theorem gX6_deliver_X6_numberOf : GoodIn wsX6_deliver (va_wsS RX6 135 yX6_numberOf wsX6_numberOf) := goodIn_app (goodIn_of _ (by decide +kernel)) ggX6_deliver_X6_numberOf
theorem dX6_deliver_0 : decode cX6_deliver 0 = .ok (.aload_n 0, 1) := by decide +kernel
theorem dX6_deliver_1 : decode cX6_deliver 1 = .ok (.iload_n 1, 1) := by decide +kernel
theorem dX6_deliver_2 : decode cX6_deliver 2 = .ok (.iload_n 2, 1) := by decide +kernel
theorem dX6_deliver_3 : decode cX6_deliver 3 = .ok (.invokevirtual 155, 3) := by decide +kernel
theorem dX6_deliver_6 : decode cX6_deliver 6 = .ok (.ifCond .ne 6, 3) := by decide +kernel
theorem dX6_deliver_9 : decode cX6_deliver 9 = .ok (.ldc 67, 2) := by decide +kernel
theorem dX6_deliver_11 : decode cX6_deliver 11 = .ok (.ireturn, 1) := by decide +kernel
theorem dX6_deliver_12 : decode cX6_deliver 12 = .ok (.aload_n 0, 1) := by decide +kernel
theorem dX6_deliver_13 : decode cX6_deliver 13 = .ok (.getfield 38, 3) := by decide +kernel
theorem dX6_deliver_16 : decode cX6_deliver 16 = .ok (.iload_n 1, 1) := by decide +kernel
theorem dX6_deliver_17 : decode cX6_deliver 17 = .ok (.iload_n 2, 1) := by decide +kernel
theorem dX6_deliver_18 : decode cX6_deliver 18 = .ok (.invokevirtual 159, 3) := by decide +kernel
theorem dX6_deliver_21 : decode cX6_deliver 21 = .ok (.ifCond .ne 6, 3) := by decide +kernel
theorem dX6_deliver_24 : decode cX6_deliver 24 = .ok (.ldc 162, 2) := by decide +kernel
theorem dX6_deliver_26 : decode cX6_deliver 26 = .ok (.ireturn, 1) := by decide +kernel
theorem dX6_deliver_27 : decode cX6_deliver 27 = .ok (.aload_n 0, 1) := by decide +kernel
theorem dX6_deliver_28 : decode cX6_deliver 28 = .ok (.getfield 38, 3) := by decide +kernel
theorem dX6_deliver_31 : decode cX6_deliver 31 = .ok (.iload_n 1, 1) := by decide +kernel
theorem dX6_deliver_32 : decode cX6_deliver 32 = .ok (.iload_n 2, 1) := by decide +kernel
theorem dX6_deliver_33 : decode cX6_deliver 33 = .ok (.iconst 0, 1) := by decide +kernel
theorem dX6_deliver_34 : decode cX6_deliver 34 = .ok (.invokevirtual 163, 3) := by decide +kernel
theorem dX6_deliver_37 : decode cX6_deliver 37 = .ok (.istore_n 3, 1) := by decide +kernel
theorem dX6_deliver_38 : decode cX6_deliver 38 = .ok (.aload_n 0, 1) := by decide +kernel
theorem dX6_deliver_39 : decode cX6_deliver 39 = .ok (.getfield 38, 3) := by decide +kernel
theorem dX6_deliver_42 : decode cX6_deliver 42 = .ok (.iload_n 1, 1) := by decide +kernel
theorem dX6_deliver_43 : decode cX6_deliver 43 = .ok (.iload_n 2, 1) := by decide +kernel
theorem dX6_deliver_44 : decode cX6_deliver 44 = .ok (.invokevirtual 166, 3) := by decide +kernel
theorem dX6_deliver_47 : decode cX6_deliver 47 = .ok (.aload_n 0, 1) := by decide +kernel
theorem dX6_deliver_48 : decode cX6_deliver 48 = .ok (.iload_n 2, 1) := by decide +kernel
theorem dX6_deliver_49 : decode cX6_deliver 49 = .ok (.iload_n 3, 1) := by decide +kernel
theorem dX6_deliver_50 : decode cX6_deliver 50 = .ok (.invokevirtual 169, 3) := by decide +kernel
theorem dX6_deliver_53 : decode cX6_deliver 53 = .ok (.bipush 100, 2) := by decide +kernel
theorem dX6_deliver_55 : decode cX6_deliver 55 = .ok (.iload_n 3, 1) := by decide +kernel
theorem dX6_deliver_56 : decode cX6_deliver 56 = .ok (.invokestatic 172, 3) := by decide +kernel
theorem dX6_deliver_59 : decode cX6_deliver 59 = .ok (.imul, 1) := by decide +kernel
theorem dX6_deliver_60 : decode cX6_deliver 60 = .ok (.iload_n 3, 1) := by decide +kernel
theorem dX6_deliver_61 : decode cX6_deliver 61 = .ok (.invokestatic 135, 3) := by decide +kernel
theorem dX6_deliver_64 : decode cX6_deliver 64 = .ok (.iadd, 1) := by decide +kernel
theorem dX6_deliver_65 : decode cX6_deliver 65 = .ok (.ireturn, 1) := by decide +kernel
set_option maxRecDepth 20000 in
theorem ggX6_lose_X6_areTwoSites : GoodIn wsX6_lose wsX6_areTwoSites := goodIn_r _ [8, 9, 10, 11, 7, 12, 13, 14, 15, 16, 42, 43, 44, 45, 46, 47, 48, 49, 50] (by decide +kernel) (by decide +kernel)
set_option maxRecDepth 20000 in
theorem gX6_lose_X6_areTwoSites : GoodIn wsX6_lose (wsV RX6 155 RX6 yX6_areTwoSites wsX6_areTwoSites) := goodIn_app (goodIn_of _ (by decide +kernel)) ggX6_lose_X6_areTwoSites
set_option maxRecDepth 20000 in
theorem ggX6_lose_X3_countIn : GoodIn wsX6_lose wsX3_countIn := goodIn_r _ [21, 22, 23, 24, 25, 26, 27, 28, 51, 52, 53] (by decide +kernel) (by decide +kernel)
set_option maxRecDepth 20000 in
theorem gX6_lose_X3_countIn : GoodIn wsX6_lose (wsV RX6 159 RX3 yX3_countIn wsX3_countIn) := goodIn_app (goodIn_of _ (by decide +kernel)) ggX6_lose_X3_countIn
set_option maxRecDepth 20000 in
theorem ggX6_lose_X3_dropFirst : GoodIn wsX6_lose wsX3_dropFirst := goodIn_r _ [32, 22, 33, 34, 35, 36, 37, 23, 24, 25, 26, 27, 28, 38, 39, 40, 41, 51, 52, 53] (by decide +kernel) (by decide +kernel)
set_option maxRecDepth 20000 in
theorem gX6_lose_X3_dropFirst : GoodIn wsX6_lose (wsV RX6 166 RX3 yX3_dropFirst wsX3_dropFirst) := goodIn_app (goodIn_of _ (by decide +kernel)) ggX6_lose_X3_dropFirst
theorem dX6_lose_0 : decode cX6_lose 0 = .ok (.aload_n 0, 1) := by decide +kernel
theorem dX6_lose_1 : decode cX6_lose 1 = .ok (.iload_n 1, 1) := by decide +kernel
theorem dX6_lose_2 : decode cX6_lose 2 = .ok (.iload_n 2, 1) := by decide +kernel
theorem dX6_lose_3 : decode cX6_lose 3 = .ok (.invokevirtual 155, 3) := by decide +kernel
theorem dX6_lose_6 : decode cX6_lose 6 = .ok (.ifCond .ne 6, 3) := by decide +kernel
theorem dX6_lose_9 : decode cX6_lose 9 = .ok (.ldc 67, 2) := by decide +kernel
theorem dX6_lose_11 : decode cX6_lose 11 = .ok (.ireturn, 1) := by decide +kernel
theorem dX6_lose_12 : decode cX6_lose 12 = .ok (.aload_n 0, 1) := by decide +kernel
theorem dX6_lose_13 : decode cX6_lose 13 = .ok (.getfield 38, 3) := by decide +kernel
theorem dX6_lose_16 : decode cX6_lose 16 = .ok (.iload_n 1, 1) := by decide +kernel
theorem dX6_lose_17 : decode cX6_lose 17 = .ok (.iload_n 2, 1) := by decide +kernel
theorem dX6_lose_18 : decode cX6_lose 18 = .ok (.invokevirtual 159, 3) := by decide +kernel
theorem dX6_lose_21 : decode cX6_lose 21 = .ok (.ifCond .ne 6, 3) := by decide +kernel
theorem dX6_lose_24 : decode cX6_lose 24 = .ok (.ldc 162, 2) := by decide +kernel
theorem dX6_lose_26 : decode cX6_lose 26 = .ok (.ireturn, 1) := by decide +kernel
theorem dX6_lose_27 : decode cX6_lose 27 = .ok (.aload_n 0, 1) := by decide +kernel
theorem dX6_lose_28 : decode cX6_lose 28 = .ok (.getfield 38, 3) := by decide +kernel
theorem dX6_lose_31 : decode cX6_lose 31 = .ok (.iload_n 1, 1) := by decide +kernel
theorem dX6_lose_32 : decode cX6_lose 32 = .ok (.iload_n 2, 1) := by decide +kernel
theorem dX6_lose_33 : decode cX6_lose 33 = .ok (.invokevirtual 166, 3) := by decide +kernel
theorem dX6_lose_36 : decode cX6_lose 36 = .ok (.aload_n 0, 1) := by decide +kernel
theorem dX6_lose_37 : decode cX6_lose 37 = .ok (.getfield 38, 3) := by decide +kernel
theorem dX6_lose_40 : decode cX6_lose 40 = .ok (.iload_n 1, 1) := by decide +kernel
theorem dX6_lose_41 : decode cX6_lose 41 = .ok (.iload_n 2, 1) := by decide +kernel
theorem dX6_lose_42 : decode cX6_lose 42 = .ok (.invokevirtual 159, 3) := by decide +kernel
theorem dX6_lose_45 : decode cX6_lose 45 = .ok (.ireturn, 1) := by decide +kernel
set_option maxRecDepth 20000 in
theorem ggX6_deliverAll_X6_deliverLink : GoodIn wsX6_deliverAll wsX6_deliverLink := goodIn_r _ [6, 7, 8, 9, 10, 11, 12, 13, 14, 15, 16, 17, 18, 19, 20, 21, 22, 23, 24, 25, 26, 27, 5, 28, 29, 30, 31, 32, 33, 34, 35, 36, 37, 38, 39, 40, 41, 42, 43, 44, 45, 46, 47, 48, 49, 50, 51, 52, 53, 54, 55, 56, 57, 58, 59, 60, 61, 62, 63, 64, 65, 66, 67, 68, 69, 70, 71, 72, 73, 74, 75, 76, 77, 78, 79, 80, 81] (by decide +kernel) (by decide +kernel)
set_option maxRecDepth 20000 in
theorem gX6_deliverAll_X6_deliverLink : GoodIn wsX6_deliverAll (wsV RX6 175 RX6 yX6_deliverLink wsX6_deliverLink) := goodIn_app (goodIn_of _ (by decide +kernel)) ggX6_deliverAll_X6_deliverLink
theorem dX6_deliverAll_0 : decode cX6_deliverAll 0 = .ok (.iconst 0, 1) := by decide +kernel
theorem dX6_deliverAll_1 : decode cX6_deliverAll 1 = .ok (.istore_n 1, 1) := by decide +kernel
theorem dX6_deliverAll_2 : decode cX6_deliverAll 2 = .ok (.iconst 0, 1) := by decide +kernel
theorem dX6_deliverAll_3 : decode cX6_deliverAll 3 = .ok (.istore_n 2, 1) := by decide +kernel
theorem dX6_deliverAll_4 : decode cX6_deliverAll 4 = .ok (.iload_n 2, 1) := by decide +kernel
theorem dX6_deliverAll_5 : decode cX6_deliverAll 5 = .ok (.aload_n 0, 1) := by decide +kernel
theorem dX6_deliverAll_6 : decode cX6_deliverAll 6 = .ok (.getfield 59, 3) := by decide +kernel
theorem dX6_deliverAll_9 : decode cX6_deliverAll 9 = .ok (.if_icmp .ge 34, 3) := by decide +kernel
theorem dX6_deliverAll_12 : decode cX6_deliverAll 12 = .ok (.iconst 0, 1) := by decide +kernel
theorem dX6_deliverAll_13 : decode cX6_deliverAll 13 = .ok (.istore_n 3, 1) := by decide +kernel
theorem dX6_deliverAll_14 : decode cX6_deliverAll 14 = .ok (.iload_n 3, 1) := by decide +kernel
theorem dX6_deliverAll_15 : decode cX6_deliverAll 15 = .ok (.aload_n 0, 1) := by decide +kernel
theorem dX6_deliverAll_16 : decode cX6_deliverAll 16 = .ok (.getfield 59, 3) := by decide +kernel
theorem dX6_deliverAll_19 : decode cX6_deliverAll 19 = .ok (.if_icmp .ge 18, 3) := by decide +kernel
theorem dX6_deliverAll_22 : decode cX6_deliverAll 22 = .ok (.iload_n 1, 1) := by decide +kernel
theorem dX6_deliverAll_23 : decode cX6_deliverAll 23 = .ok (.aload_n 0, 1) := by decide +kernel
theorem dX6_deliverAll_24 : decode cX6_deliverAll 24 = .ok (.iload_n 2, 1) := by decide +kernel
theorem dX6_deliverAll_25 : decode cX6_deliverAll 25 = .ok (.iload_n 3, 1) := by decide +kernel
theorem dX6_deliverAll_26 : decode cX6_deliverAll 26 = .ok (.invokevirtual 175, 3) := by decide +kernel
theorem dX6_deliverAll_29 : decode cX6_deliverAll 29 = .ok (.iadd, 1) := by decide +kernel
theorem dX6_deliverAll_30 : decode cX6_deliverAll 30 = .ok (.istore_n 1, 1) := by decide +kernel
theorem dX6_deliverAll_31 : decode cX6_deliverAll 31 = .ok (.iinc 3 1, 3) := by decide +kernel
theorem dX6_deliverAll_34 : decode cX6_deliverAll 34 = .ok (.goto (-20), 3) := by decide +kernel
theorem dX6_deliverAll_37 : decode cX6_deliverAll 37 = .ok (.iinc 2 1, 3) := by decide +kernel
theorem dX6_deliverAll_40 : decode cX6_deliverAll 40 = .ok (.goto (-36), 3) := by decide +kernel
theorem dX6_deliverAll_43 : decode cX6_deliverAll 43 = .ok (.iload_n 1, 1) := by decide +kernel
theorem dX6_deliverAll_44 : decode cX6_deliverAll 44 = .ok (.ireturn, 1) := by decide +kernel
set_option maxRecDepth 20000 in
theorem ggX6_waiting_X6_areTwoSites : GoodIn wsX6_waiting wsX6_areTwoSites := goodIn_r _ [7, 8, 9, 10, 6, 11, 12, 13, 14, 15, 28, 29, 30, 31, 32, 33, 34, 35, 36] (by decide +kernel) (by decide +kernel)
set_option maxRecDepth 20000 in
theorem gX6_waiting_X6_areTwoSites : GoodIn wsX6_waiting (wsV RX6 155 RX6 yX6_areTwoSites wsX6_areTwoSites) := goodIn_app (goodIn_of _ (by decide +kernel)) ggX6_waiting_X6_areTwoSites
set_option maxRecDepth 20000 in
theorem ggX6_waiting_X3_countIn : GoodIn wsX6_waiting wsX3_countIn := goodIn_r _ [20, 21, 22, 23, 24, 25, 26, 27, 37, 38, 39] (by decide +kernel) (by decide +kernel)
set_option maxRecDepth 20000 in
theorem gX6_waiting_X3_countIn : GoodIn wsX6_waiting (wsV RX6 159 RX3 yX3_countIn wsX3_countIn) := goodIn_app (goodIn_of _ (by decide +kernel)) ggX6_waiting_X3_countIn
theorem dX6_waiting_0 : decode cX6_waiting 0 = .ok (.aload_n 0, 1) := by decide +kernel
theorem dX6_waiting_1 : decode cX6_waiting 1 = .ok (.iload_n 1, 1) := by decide +kernel
theorem dX6_waiting_2 : decode cX6_waiting 2 = .ok (.iload_n 2, 1) := by decide +kernel
theorem dX6_waiting_3 : decode cX6_waiting 3 = .ok (.invokevirtual 155, 3) := by decide +kernel
theorem dX6_waiting_6 : decode cX6_waiting 6 = .ok (.ifCond .eq 15, 3) := by decide +kernel
theorem dX6_waiting_9 : decode cX6_waiting 9 = .ok (.aload_n 0, 1) := by decide +kernel
theorem dX6_waiting_10 : decode cX6_waiting 10 = .ok (.getfield 38, 3) := by decide +kernel
theorem dX6_waiting_13 : decode cX6_waiting 13 = .ok (.iload_n 1, 1) := by decide +kernel
theorem dX6_waiting_14 : decode cX6_waiting 14 = .ok (.iload_n 2, 1) := by decide +kernel
theorem dX6_waiting_15 : decode cX6_waiting 15 = .ok (.invokevirtual 159, 3) := by decide +kernel
theorem dX6_waiting_18 : decode cX6_waiting 18 = .ok (.goto 5, 3) := by decide +kernel
theorem dX6_waiting_21 : decode cX6_waiting 21 = .ok (.ldc 67, 2) := by decide +kernel
theorem dX6_waiting_23 : decode cX6_waiting 23 = .ok (.ireturn, 1) := by decide +kernel
set_option maxRecDepth 20000 in
theorem ggX6_gap_X6_isSite : GoodIn wsX6_gap wsX6_isSite := goodIn_r _ [8, 9, 10, 11, 7, 12, 28, 29, 30, 31, 32, 33, 34, 35, 36] (by decide +kernel) (by decide +kernel)
set_option maxRecDepth 20000 in
theorem gX6_gap_X6_isSite : GoodIn wsX6_gap (wsV RX6 78 RX6 yX6_isSite wsX6_isSite) := goodIn_app (goodIn_of _ (by decide +kernel)) ggX6_gap_X6_isSite
set_option maxRecDepth 20000 in
theorem ggX6_gap_X6_idOf : GoodIn wsX6_gap wsX6_idOf := goodIn_r _ [15] (by decide +kernel) (by decide +kernel)
set_option maxRecDepth 20000 in
theorem gX6_gap_X6_idOf : GoodIn wsX6_gap (va_wsS RX6 178 yX6_idOf wsX6_idOf) := goodIn_app (goodIn_of _ (by decide +kernel)) ggX6_gap_X6_idOf
set_option maxRecDepth 20000 in
theorem ggX6_gap_X2_has : GoodIn wsX6_gap wsX2_has := goodIn_r _ [20, 21, 22, 23, 24, 25, 26, 27, 37, 38] (by decide +kernel) (by decide +kernel)
set_option maxRecDepth 20000 in
theorem gX6_gap_X2_has : GoodIn wsX6_gap (wsV RX6 181 RX2 yX2_has wsX2_has) := goodIn_app (goodIn_of _ (by decide +kernel)) ggX6_gap_X2_has
theorem dX6_gap_0 : decode cX6_gap 0 = .ok (.aload_n 0, 1) := by decide +kernel
theorem dX6_gap_1 : decode cX6_gap 1 = .ok (.iload_n 1, 1) := by decide +kernel
theorem dX6_gap_2 : decode cX6_gap 2 = .ok (.invokevirtual 78, 3) := by decide +kernel
theorem dX6_gap_5 : decode cX6_gap 5 = .ok (.ifCond .eq 15, 3) := by decide +kernel
theorem dX6_gap_8 : decode cX6_gap 8 = .ok (.aload_n 0, 1) := by decide +kernel
theorem dX6_gap_9 : decode cX6_gap 9 = .ok (.iload_n 2, 1) := by decide +kernel
theorem dX6_gap_10 : decode cX6_gap 10 = .ok (.invokevirtual 78, 3) := by decide +kernel
theorem dX6_gap_13 : decode cX6_gap 13 = .ok (.ifCond .eq 7, 3) := by decide +kernel
theorem dX6_gap_16 : decode cX6_gap 16 = .ok (.iload_n 3, 1) := by decide +kernel
theorem dX6_gap_17 : decode cX6_gap 17 = .ok (.ifCond .ge 6, 3) := by decide +kernel
theorem dX6_gap_20 : decode cX6_gap 20 = .ok (.ldc 67, 2) := by decide +kernel
theorem dX6_gap_22 : decode cX6_gap 22 = .ok (.ireturn, 1) := by decide +kernel
theorem dX6_gap_23 : decode cX6_gap 23 = .ok (.iconst 0, 1) := by decide +kernel
theorem dX6_gap_24 : decode cX6_gap 24 = .ok (.istore 4, 2) := by decide +kernel
theorem dX6_gap_26 : decode cX6_gap 26 = .ok (.iconst 0, 1) := by decide +kernel
theorem dX6_gap_27 : decode cX6_gap 27 = .ok (.istore 5, 2) := by decide +kernel
theorem dX6_gap_29 : decode cX6_gap 29 = .ok (.iconst 1, 1) := by decide +kernel
theorem dX6_gap_30 : decode cX6_gap 30 = .ok (.istore 6, 2) := by decide +kernel
theorem dX6_gap_32 : decode cX6_gap 32 = .ok (.iload 6, 2) := by decide +kernel
theorem dX6_gap_34 : decode cX6_gap 34 = .ok (.bipush 20, 2) := by decide +kernel
theorem dX6_gap_36 : decode cX6_gap 36 = .ok (.if_icmp .gt 72, 3) := by decide +kernel
theorem dX6_gap_39 : decode cX6_gap 39 = .ok (.aload_n 0, 1) := by decide +kernel
theorem dX6_gap_40 : decode cX6_gap 40 = .ok (.getfield 28, 3) := by decide +kernel
theorem dX6_gap_43 : decode cX6_gap 43 = .ok (.iload_n 1, 1) := by decide +kernel
theorem dX6_gap_44 : decode cX6_gap 44 = .ok (.iload_n 2, 1) := by decide +kernel
theorem dX6_gap_45 : decode cX6_gap 45 = .ok (.iload 6, 2) := by decide +kernel
theorem dX6_gap_47 : decode cX6_gap 47 = .ok (.invokestatic 178, 3) := by decide +kernel
theorem dX6_gap_50 : decode cX6_gap 50 = .ok (.invokevirtual 181, 3) := by decide +kernel
theorem dX6_gap_53 : decode cX6_gap 53 = .ok (.istore 7, 2) := by decide +kernel
theorem dX6_gap_55 : decode cX6_gap 55 = .ok (.iload 7, 2) := by decide +kernel
theorem dX6_gap_57 : decode cX6_gap 57 = .ok (.ifCond .ne 12, 3) := by decide +kernel
theorem dX6_gap_60 : decode cX6_gap 60 = .ok (.iload 4, 2) := by decide +kernel
theorem dX6_gap_62 : decode cX6_gap 62 = .ok (.ifCond .ne 7, 3) := by decide +kernel
theorem dX6_gap_65 : decode cX6_gap 65 = .ok (.iload 6, 2) := by decide +kernel
theorem dX6_gap_67 : decode cX6_gap 67 = .ok (.istore 4, 2) := by decide +kernel
theorem dX6_gap_69 : decode cX6_gap 69 = .ok (.iload 7, 2) := by decide +kernel
theorem dX6_gap_71 : decode cX6_gap 71 = .ok (.ifCond .eq 31, 3) := by decide +kernel
theorem dX6_gap_74 : decode cX6_gap 74 = .ok (.iload 4, 2) := by decide +kernel
theorem dX6_gap_76 : decode cX6_gap 76 = .ok (.ifCond .eq 26, 3) := by decide +kernel
theorem dX6_gap_79 : decode cX6_gap 79 = .ok (.iload 5, 2) := by decide +kernel
theorem dX6_gap_81 : decode cX6_gap 81 = .ok (.iload_n 3, 1) := by decide +kernel
theorem dX6_gap_82 : decode cX6_gap 82 = .ok (.if_icmp .ne 14, 3) := by decide +kernel
theorem dX6_gap_85 : decode cX6_gap 85 = .ok (.bipush 100, 2) := by decide +kernel
theorem dX6_gap_87 : decode cX6_gap 87 = .ok (.iload 4, 2) := by decide +kernel
theorem dX6_gap_89 : decode cX6_gap 89 = .ok (.imul, 1) := by decide +kernel
theorem dX6_gap_90 : decode cX6_gap 90 = .ok (.iload 6, 2) := by decide +kernel
theorem dX6_gap_92 : decode cX6_gap 92 = .ok (.iadd, 1) := by decide +kernel
theorem dX6_gap_93 : decode cX6_gap 93 = .ok (.iconst 1, 1) := by decide +kernel
theorem dX6_gap_94 : decode cX6_gap 94 = .ok (.isub, 1) := by decide +kernel
theorem dX6_gap_95 : decode cX6_gap 95 = .ok (.ireturn, 1) := by decide +kernel
theorem dX6_gap_96 : decode cX6_gap 96 = .ok (.iinc 5 1, 3) := by decide +kernel
theorem dX6_gap_99 : decode cX6_gap 99 = .ok (.iconst 0, 1) := by decide +kernel
theorem dX6_gap_100 : decode cX6_gap 100 = .ok (.istore 4, 2) := by decide +kernel
theorem dX6_gap_102 : decode cX6_gap 102 = .ok (.iinc 6 1, 3) := by decide +kernel
theorem dX6_gap_105 : decode cX6_gap 105 = .ok (.goto (-73), 3) := by decide +kernel
theorem dX6_gap_108 : decode cX6_gap 108 = .ok (.ldc 162, 2) := by decide +kernel
theorem dX6_gap_110 : decode cX6_gap 110 = .ok (.ireturn, 1) := by decide +kernel
set_option maxRecDepth 20000 in
theorem ggX6_repair_X6_areTwoSites : GoodIn wsX6_repair wsX6_areTwoSites := goodIn_r _ [6, 7, 8, 9, 5, 10, 11, 12, 13, 14, 74, 75, 76, 77, 78, 79, 80, 81, 82] (by decide +kernel) (by decide +kernel)
set_option maxRecDepth 20000 in
theorem gX6_repair_X6_areTwoSites : GoodIn wsX6_repair (wsV RX6 155 RX6 yX6_areTwoSites wsX6_areTwoSites) := goodIn_app (goodIn_of _ (by decide +kernel)) ggX6_repair_X6_areTwoSites
set_option maxRecDepth 20000 in
theorem ggX6_repair_X6_canRepair : GoodIn wsX6_repair wsX6_canRepair := goodIn_r _ [18, 19, 20, 21, 22, 23, 24, 25, 26, 27, 28, 29, 30, 31, 32, 33, 34, 35, 36, 37, 38, 39, 40, 5, 41, 42, 43, 44, 45, 46, 74, 75, 76, 77, 78, 79, 80, 81, 82, 83, 84] (by decide +kernel) (by decide +kernel)
set_option maxRecDepth 20000 in
theorem gX6_repair_X6_canRepair : GoodIn wsX6_repair (wsV RX6 184 RX6 yX6_canRepair wsX6_canRepair) := goodIn_app (goodIn_of _ (by decide +kernel)) ggX6_repair_X6_canRepair
set_option maxRecDepth 20000 in
theorem ggX6_repair_X6_receive : GoodIn wsX6_repair wsX6_receive := goodIn_r _ [50, 19, 51, 52, 53, 54, 55, 56, 57, 58, 59, 23, 60, 29, 61, 62, 63, 33, 64, 35, 65, 31, 32, 34, 66, 67, 68, 69, 70, 71, 72, 73, 74, 75, 76, 77, 78, 79, 80, 81, 82, 83, 84, 85, 86, 87, 88, 89, 90, 91, 92] (by decide +kernel) (by decide +kernel)
set_option maxRecDepth 20000 in
theorem gX6_repair_X6_receive : GoodIn wsX6_repair (wsV RX6 169 RX6 yX6_receive wsX6_receive) := goodIn_app (goodIn_of _ (by decide +kernel)) ggX6_repair_X6_receive
theorem dX6_repair_0 : decode cX6_repair 0 = .ok (.aload_n 0, 1) := by decide +kernel
theorem dX6_repair_1 : decode cX6_repair 1 = .ok (.iload_n 1, 1) := by decide +kernel
theorem dX6_repair_2 : decode cX6_repair 2 = .ok (.iload_n 2, 1) := by decide +kernel
theorem dX6_repair_3 : decode cX6_repair 3 = .ok (.invokevirtual 155, 3) := by decide +kernel
theorem dX6_repair_6 : decode cX6_repair 6 = .ok (.ifCond .ne 6, 3) := by decide +kernel
theorem dX6_repair_9 : decode cX6_repair 9 = .ok (.ldc 67, 2) := by decide +kernel
theorem dX6_repair_11 : decode cX6_repair 11 = .ok (.ireturn, 1) := by decide +kernel
theorem dX6_repair_12 : decode cX6_repair 12 = .ok (.iconst 0, 1) := by decide +kernel
theorem dX6_repair_13 : decode cX6_repair 13 = .ok (.istore_n 3, 1) := by decide +kernel
theorem dX6_repair_14 : decode cX6_repair 14 = .ok (.iconst 0, 1) := by decide +kernel
theorem dX6_repair_15 : decode cX6_repair 15 = .ok (.istore 4, 2) := by decide +kernel
theorem dX6_repair_17 : decode cX6_repair 17 = .ok (.iload 4, 2) := by decide +kernel
theorem dX6_repair_19 : decode cX6_repair 19 = .ok (.bipush 100, 2) := by decide +kernel
theorem dX6_repair_21 : decode cX6_repair 21 = .ok (.if_icmp .ge 30, 3) := by decide +kernel
theorem dX6_repair_24 : decode cX6_repair 24 = .ok (.aload_n 0, 1) := by decide +kernel
theorem dX6_repair_25 : decode cX6_repair 25 = .ok (.iload_n 1, 1) := by decide +kernel
theorem dX6_repair_26 : decode cX6_repair 26 = .ok (.iload_n 2, 1) := by decide +kernel
theorem dX6_repair_27 : decode cX6_repair 27 = .ok (.iload 4, 2) := by decide +kernel
theorem dX6_repair_29 : decode cX6_repair 29 = .ok (.invokevirtual 184, 3) := by decide +kernel
theorem dX6_repair_32 : decode cX6_repair 32 = .ok (.ifCond .eq 13, 3) := by decide +kernel
theorem dX6_repair_35 : decode cX6_repair 35 = .ok (.aload_n 0, 1) := by decide +kernel
theorem dX6_repair_36 : decode cX6_repair 36 = .ok (.iload_n 1, 1) := by decide +kernel
theorem dX6_repair_37 : decode cX6_repair 37 = .ok (.iload 4, 2) := by decide +kernel
theorem dX6_repair_39 : decode cX6_repair 39 = .ok (.invokevirtual 169, 3) := by decide +kernel
theorem dX6_repair_42 : decode cX6_repair 42 = .ok (.iinc 3 1, 3) := by decide +kernel
theorem dX6_repair_45 : decode cX6_repair 45 = .ok (.iinc 4 1, 3) := by decide +kernel
theorem dX6_repair_48 : decode cX6_repair 48 = .ok (.goto (-31), 3) := by decide +kernel
theorem dX6_repair_51 : decode cX6_repair 51 = .ok (.iload_n 3, 1) := by decide +kernel
theorem dX6_repair_52 : decode cX6_repair 52 = .ok (.ireturn, 1) := by decide +kernel
set_option maxRecDepth 20000 in
theorem ggX6_transfer_X6_areTwoSites : GoodIn wsX6_transfer wsX6_areTwoSites := goodIn_r _ [13, 14, 15, 16, 12, 17, 18, 19, 20, 21, 78, 79, 80, 81, 82, 83, 84, 85, 86] (by decide +kernel) (by decide +kernel)
set_option maxRecDepth 20000 in
theorem gX6_transfer_X6_areTwoSites : GoodIn wsX6_transfer (wsV RX6 155 RX6 yX6_areTwoSites wsX6_areTwoSites) := goodIn_app (goodIn_of _ (by decide +kernel)) ggX6_transfer_X6_areTwoSites
set_option maxRecDepth 20000 in
theorem ggX6_transfer_X2_has : GoodIn wsX6_transfer wsX2_has := goodIn_r _ [26, 27, 28, 29, 30, 31, 32, 33, 87, 88] (by decide +kernel) (by decide +kernel)
set_option maxRecDepth 20000 in
theorem gX6_transfer_X2_has : GoodIn wsX6_transfer (wsV RX6 181 RX2 yX2_has wsX2_has) := goodIn_app (goodIn_of _ (by decide +kernel)) ggX6_transfer_X2_has
set_option maxRecDepth 20000 in
theorem ggX6_transfer_X6_receive : GoodIn wsX6_transfer wsX6_receive := goodIn_r _ [37, 2, 4, 3, 5, 6, 7, 8, 38, 39, 40, 25, 41, 27, 42, 43, 44, 31, 45, 33, 46, 29, 30, 32, 47, 48, 49, 50, 51, 52, 53, 54, 78, 79, 80, 81, 82, 83, 84, 85, 86, 87, 88, 89, 90, 91, 92, 93, 94, 95, 96] (by decide +kernel) (by decide +kernel)
set_option maxRecDepth 20000 in
theorem gX6_transfer_X6_receive : GoodIn wsX6_transfer (wsV RX6 169 RX6 yX6_receive wsX6_receive) := goodIn_app (goodIn_of _ (by decide +kernel)) ggX6_transfer_X6_receive
set_option maxRecDepth 20000 in
theorem ggX6_transfer_X4_sizeOf : GoodIn wsX6_transfer wsX4_sizeOf := goodIn_r _ [58, 59, 60, 53, 29, 30, 31, 32, 33, 61, 62, 63, 64, 65, 66, 67, 68, 69, 70, 71, 72, 20, 12, 21, 73, 74, 75, 76, 77, 89, 90, 91, 92, 93, 94, 95, 96, 88, 97, 98, 99, 100, 101] (by decide +kernel) (by decide +kernel)
set_option maxRecDepth 20000 in
theorem gX6_transfer_X4_sizeOf : GoodIn wsX6_transfer (wsV RX6 187 RX4 yX4_sizeOf wsX4_sizeOf) := goodIn_app (goodIn_of _ (by decide +kernel)) ggX6_transfer_X4_sizeOf
set_option maxRecDepth 20000 in
theorem ggX6_transfer_X5_get : GoodIn wsX6_transfer wsX5_get := goodIn_r _ [32, 33, 88] (by decide +kernel) (by decide +kernel)
set_option maxRecDepth 20000 in
theorem gX6_transfer_X5_get : GoodIn wsX6_transfer (wsV RX6 82 RX5 yX5_get wsX5_get) := goodIn_app (goodIn_of _ (by decide +kernel)) ggX6_transfer_X5_get
set_option maxRecDepth 20000 in
theorem ggX6_transfer_X5_set : GoodIn wsX6_transfer wsX5_set := goodIn_r _ [45, 33, 88] (by decide +kernel) (by decide +kernel)
set_option maxRecDepth 20000 in
theorem gX6_transfer_X5_set : GoodIn wsX6_transfer (wsV RX6 195 RX5 yX5_set wsX5_set) := goodIn_app (goodIn_of _ (by decide +kernel)) ggX6_transfer_X5_set
theorem dX6_transfer_0 : decode cX6_transfer 0 = .ok (.aload_n 0, 1) := by decide +kernel
theorem dX6_transfer_1 : decode cX6_transfer 1 = .ok (.iload_n 1, 1) := by decide +kernel
theorem dX6_transfer_2 : decode cX6_transfer 2 = .ok (.iload_n 2, 1) := by decide +kernel
theorem dX6_transfer_3 : decode cX6_transfer 3 = .ok (.invokevirtual 155, 3) := by decide +kernel
theorem dX6_transfer_6 : decode cX6_transfer 6 = .ok (.ifCond .ne 6, 3) := by decide +kernel
theorem dX6_transfer_9 : decode cX6_transfer 9 = .ok (.ldc 67, 2) := by decide +kernel
theorem dX6_transfer_11 : decode cX6_transfer 11 = .ok (.ireturn, 1) := by decide +kernel
theorem dX6_transfer_12 : decode cX6_transfer 12 = .ok (.iconst 0, 1) := by decide +kernel
theorem dX6_transfer_13 : decode cX6_transfer 13 = .ok (.istore_n 3, 1) := by decide +kernel
theorem dX6_transfer_14 : decode cX6_transfer 14 = .ok (.iconst 0, 1) := by decide +kernel
theorem dX6_transfer_15 : decode cX6_transfer 15 = .ok (.istore 4, 2) := by decide +kernel
theorem dX6_transfer_17 : decode cX6_transfer 17 = .ok (.iload 4, 2) := by decide +kernel
theorem dX6_transfer_19 : decode cX6_transfer 19 = .ok (.bipush 100, 2) := by decide +kernel
theorem dX6_transfer_21 : decode cX6_transfer 21 = .ok (.if_icmp .ge 54, 3) := by decide +kernel
theorem dX6_transfer_24 : decode cX6_transfer 24 = .ok (.aload_n 0, 1) := by decide +kernel
theorem dX6_transfer_25 : decode cX6_transfer 25 = .ok (.getfield 28, 3) := by decide +kernel
theorem dX6_transfer_28 : decode cX6_transfer 28 = .ok (.iload_n 2, 1) := by decide +kernel
theorem dX6_transfer_29 : decode cX6_transfer 29 = .ok (.iload 4, 2) := by decide +kernel
theorem dX6_transfer_31 : decode cX6_transfer 31 = .ok (.invokevirtual 181, 3) := by decide +kernel
theorem dX6_transfer_34 : decode cX6_transfer 34 = .ok (.ifCond .eq 35, 3) := by decide +kernel
theorem dX6_transfer_37 : decode cX6_transfer 37 = .ok (.aload_n 0, 1) := by decide +kernel
theorem dX6_transfer_38 : decode cX6_transfer 38 = .ok (.getfield 28, 3) := by decide +kernel
theorem dX6_transfer_41 : decode cX6_transfer 41 = .ok (.iload_n 1, 1) := by decide +kernel
theorem dX6_transfer_42 : decode cX6_transfer 42 = .ok (.iload 4, 2) := by decide +kernel
theorem dX6_transfer_44 : decode cX6_transfer 44 = .ok (.invokevirtual 181, 3) := by decide +kernel
theorem dX6_transfer_47 : decode cX6_transfer 47 = .ok (.ifCond .ne 22, 3) := by decide +kernel
theorem dX6_transfer_50 : decode cX6_transfer 50 = .ok (.aload_n 0, 1) := by decide +kernel
theorem dX6_transfer_51 : decode cX6_transfer 51 = .ok (.iload_n 1, 1) := by decide +kernel
theorem dX6_transfer_52 : decode cX6_transfer 52 = .ok (.iload 4, 2) := by decide +kernel
theorem dX6_transfer_54 : decode cX6_transfer 54 = .ok (.invokevirtual 169, 3) := by decide +kernel
theorem dX6_transfer_57 : decode cX6_transfer 57 = .ok (.iload_n 3, 1) := by decide +kernel
theorem dX6_transfer_58 : decode cX6_transfer 58 = .ok (.aload_n 0, 1) := by decide +kernel
theorem dX6_transfer_59 : decode cX6_transfer 59 = .ok (.getfield 12, 3) := by decide +kernel
theorem dX6_transfer_62 : decode cX6_transfer 62 = .ok (.iload 4, 2) := by decide +kernel
theorem dX6_transfer_64 : decode cX6_transfer 64 = .ok (.invokevirtual 187, 3) := by decide +kernel
theorem dX6_transfer_67 : decode cX6_transfer 67 = .ok (.iadd, 1) := by decide +kernel
theorem dX6_transfer_68 : decode cX6_transfer 68 = .ok (.istore_n 3, 1) := by decide +kernel
theorem dX6_transfer_69 : decode cX6_transfer 69 = .ok (.iinc 4 1, 3) := by decide +kernel
theorem dX6_transfer_72 : decode cX6_transfer 72 = .ok (.goto (-55), 3) := by decide +kernel
theorem dX6_transfer_75 : decode cX6_transfer 75 = .ok (.aload_n 0, 1) := by decide +kernel
theorem dX6_transfer_76 : decode cX6_transfer 76 = .ok (.getfield 55, 3) := by decide +kernel
theorem dX6_transfer_79 : decode cX6_transfer 79 = .ok (.iload_n 1, 1) := by decide +kernel
theorem dX6_transfer_80 : decode cX6_transfer 80 = .ok (.aload_n 0, 1) := by decide +kernel
theorem dX6_transfer_81 : decode cX6_transfer 81 = .ok (.getfield 55, 3) := by decide +kernel
theorem dX6_transfer_84 : decode cX6_transfer 84 = .ok (.iload_n 1, 1) := by decide +kernel
theorem dX6_transfer_85 : decode cX6_transfer 85 = .ok (.invokevirtual 82, 3) := by decide +kernel
theorem dX6_transfer_88 : decode cX6_transfer 88 = .ok (.aload_n 0, 1) := by decide +kernel
theorem dX6_transfer_89 : decode cX6_transfer 89 = .ok (.getfield 55, 3) := by decide +kernel
theorem dX6_transfer_92 : decode cX6_transfer 92 = .ok (.iload_n 2, 1) := by decide +kernel
theorem dX6_transfer_93 : decode cX6_transfer 93 = .ok (.invokevirtual 82, 3) := by decide +kernel
theorem dX6_transfer_96 : decode cX6_transfer 96 = .ok (.invokestatic 190, 3) := by decide +kernel
theorem dX6_transfer_99 : decode cX6_transfer 99 = .ok (.invokevirtual 195, 3) := by decide +kernel
theorem dX6_transfer_102 : decode cX6_transfer 102 = .ok (.iload_n 3, 1) := by decide +kernel
theorem dX6_transfer_103 : decode cX6_transfer 103 = .ok (.ireturn, 1) := by decide +kernel
set_option maxRecDepth 20000 in
theorem ggX6_operation_X6_isSite : GoodIn wsX6_operation wsX6_isSite := goodIn_r _ [8, 9, 10, 11, 7, 12, 84, 85, 86, 87, 88, 89, 90, 91, 92] (by decide +kernel) (by decide +kernel)
set_option maxRecDepth 20000 in
theorem gX6_operation_X6_isSite : GoodIn wsX6_operation (wsV RX6 78 RX6 yX6_isSite wsX6_isSite) := goodIn_app (goodIn_of _ (by decide +kernel)) ggX6_operation_X6_isSite
set_option maxRecDepth 20000 in
theorem ggX6_operation_X6_isWithin : GoodIn wsX6_operation wsX6_isWithin := goodIn_r _ [12] (by decide +kernel) (by decide +kernel)
set_option maxRecDepth 20000 in
theorem gX6_operation_X6_isWithin : GoodIn wsX6_operation (va_wsS RX6 63 yX6_isWithin wsX6_isWithin) := goodIn_app (goodIn_of _ (by decide +kernel)) ggX6_operation_X6_isWithin
set_option maxRecDepth 20000 in
theorem ggX6_operation_X4_madeBy : GoodIn wsX6_operation wsX4_madeBy := goodIn_r _ [17, 18, 19, 20, 21, 22, 23, 24, 93, 94, 95, 96, 97, 98, 99, 100, 101] (by decide +kernel) (by decide +kernel)
set_option maxRecDepth 20000 in
theorem gX6_operation_X4_madeBy : GoodIn wsX6_operation (wsV RX6 89 RX4 yX4_madeBy wsX4_madeBy) := goodIn_app (goodIn_of _ (by decide +kernel)) ggX6_operation_X4_madeBy
set_option maxRecDepth 20000 in
theorem ggX6_operation_X6_idOf : GoodIn wsX6_operation wsX6_idOf := goodIn_r _ [27] (by decide +kernel) (by decide +kernel)
set_option maxRecDepth 20000 in
theorem gX6_operation_X6_idOf : GoodIn wsX6_operation (va_wsS RX6 178 yX6_idOf wsX6_idOf) := goodIn_app (goodIn_of _ (by decide +kernel)) ggX6_operation_X6_idOf
set_option maxRecDepth 20000 in
theorem ggX6_operation_X4_kindOf : GoodIn wsX6_operation wsX4_kindOf := goodIn_r _ [31, 32, 19, 20, 21, 22, 23, 24, 93, 94, 95, 96, 97, 98, 99, 100, 101] (by decide +kernel) (by decide +kernel)
set_option maxRecDepth 20000 in
theorem gX6_operation_X4_kindOf : GoodIn wsX6_operation (wsV RX6 198 RX4 yX4_kindOf wsX4_kindOf) := goodIn_app (goodIn_of _ (by decide +kernel)) ggX6_operation_X4_kindOf
set_option maxRecDepth 20000 in
theorem ggX6_operation_X4_timeOf : GoodIn wsX6_operation wsX4_timeOf := goodIn_r _ [36, 37, 19, 20, 21, 22, 23, 24, 93, 94, 95, 96, 97, 98, 99, 100, 101] (by decide +kernel) (by decide +kernel)
set_option maxRecDepth 20000 in
theorem gX6_operation_X4_timeOf : GoodIn wsX6_operation (wsV RX6 201 RX4 yX4_timeOf wsX4_timeOf) := goodIn_app (goodIn_of _ (by decide +kernel)) ggX6_operation_X4_timeOf
set_option maxRecDepth 20000 in
theorem ggX6_operation_X4_sizeOf : GoodIn wsX6_operation wsX4_sizeOf := goodIn_r _ [41, 32, 42, 19, 20, 21, 22, 23, 24, 43, 44, 45, 46, 47, 48, 49, 50, 51, 52, 53, 54, 11, 7, 12, 55, 56, 57, 58, 59, 93, 94, 95, 96, 97, 98, 99, 100, 101, 102, 103, 104, 105, 106] (by decide +kernel) (by decide +kernel)
set_option maxRecDepth 20000 in
theorem gX6_operation_X4_sizeOf : GoodIn wsX6_operation (wsV RX6 187 RX4 yX4_sizeOf wsX4_sizeOf) := goodIn_app (goodIn_of _ (by decide +kernel)) ggX6_operation_X4_sizeOf
set_option maxRecDepth 20000 in
theorem ggX6_operation_X4_isStroke : GoodIn wsX6_operation wsX4_isStroke := goodIn_r _ [63, 32, 19, 20, 21, 22, 23, 24, 93, 94, 95, 96, 97, 98, 99, 100, 101] (by decide +kernel) (by decide +kernel)
set_option maxRecDepth 20000 in
theorem gX6_operation_X4_isStroke : GoodIn wsX6_operation (wsV RX6 204 RX4 yX4_isStroke wsX4_isStroke) := goodIn_app (goodIn_of _ (by decide +kernel)) ggX6_operation_X4_isStroke
set_option maxRecDepth 20000 in
theorem ggX6_operation_X1_pointCount : GoodIn wsX6_operation wsX1_pointCount := goodIn_r _ [67, 48, 49, 20, 21, 22, 23, 24, 102, 103, 104, 105, 106, 101] (by decide +kernel) (by decide +kernel)
set_option maxRecDepth 20000 in
theorem gX6_operation_X1_pointCount : GoodIn wsX6_operation (wsV RX6 100 RX1 yX1_pointCount wsX1_pointCount) := goodIn_app (goodIn_of _ (by decide +kernel)) ggX6_operation_X1_pointCount
set_option maxRecDepth 20000 in
theorem ggX6_operation_X4_targetOf : GoodIn wsX6_operation wsX4_targetOf := goodIn_r _ [71, 72, 19, 20, 21, 22, 23, 24, 93, 94, 95, 96, 97, 98, 99, 100, 101] (by decide +kernel) (by decide +kernel)
set_option maxRecDepth 20000 in
theorem gX6_operation_X4_targetOf : GoodIn wsX6_operation (wsV RX6 210 RX4 yX4_targetOf wsX4_targetOf) := goodIn_app (goodIn_of _ (by decide +kernel)) ggX6_operation_X4_targetOf
set_option maxRecDepth 20000 in
theorem ggX6_operation_X6_numberOf : GoodIn wsX6_operation wsX6_numberOf := goodIn_r _ [75] (by decide +kernel) (by decide +kernel)
set_option maxRecDepth 20000 in
theorem gX6_operation_X6_numberOf : GoodIn wsX6_operation (va_wsS RX6 135 yX6_numberOf wsX6_numberOf) := goodIn_app (goodIn_of _ (by decide +kernel)) ggX6_operation_X6_numberOf
set_option maxRecDepth 20000 in
theorem ggX6_operation_X6_authorOf : GoodIn wsX6_operation wsX6_authorOf := goodIn_r _ [78] (by decide +kernel) (by decide +kernel)
set_option maxRecDepth 20000 in
theorem gX6_operation_X6_authorOf : GoodIn wsX6_operation (va_wsS RX6 172 yX6_authorOf wsX6_authorOf) := goodIn_app (goodIn_of _ (by decide +kernel)) ggX6_operation_X6_authorOf
set_option maxRecDepth 20000 in
theorem ggX6_operation_X4_layerOf : GoodIn wsX6_operation wsX4_layerOf := goodIn_r _ [82, 83, 19, 20, 21, 22, 23, 24, 93, 94, 95, 96, 97, 98, 99, 100, 101] (by decide +kernel) (by decide +kernel)
set_option maxRecDepth 20000 in
theorem gX6_operation_X4_layerOf : GoodIn wsX6_operation (wsV RX6 213 RX4 yX4_layerOf wsX4_layerOf) := goodIn_app (goodIn_of _ (by decide +kernel)) ggX6_operation_X4_layerOf
theorem dX6_operation_0 : decode cX6_operation 0 = .ok (.aload_n 0, 1) := by decide +kernel
theorem dX6_operation_1 : decode cX6_operation 1 = .ok (.iload_n 1, 1) := by decide +kernel
theorem dX6_operation_2 : decode cX6_operation 2 = .ok (.invokevirtual 78, 3) := by decide +kernel
theorem dX6_operation_5 : decode cX6_operation 5 = .ok (.ifCond .eq 17, 3) := by decide +kernel
theorem dX6_operation_8 : decode cX6_operation 8 = .ok (.iload_n 2, 1) := by decide +kernel
theorem dX6_operation_9 : decode cX6_operation 9 = .ok (.iconst 1, 1) := by decide +kernel
theorem dX6_operation_10 : decode cX6_operation 10 = .ok (.if_icmp .lt 12, 3) := by decide +kernel
theorem dX6_operation_13 : decode cX6_operation 13 = .ok (.iload_n 3, 1) := by decide +kernel
theorem dX6_operation_14 : decode cX6_operation 14 = .ok (.iconst 0, 1) := by decide +kernel
theorem dX6_operation_15 : decode cX6_operation 15 = .ok (.iconst 5, 1) := by decide +kernel
theorem dX6_operation_16 : decode cX6_operation 16 = .ok (.invokestatic 63, 3) := by decide +kernel
theorem dX6_operation_19 : decode cX6_operation 19 = .ok (.ifCond .ne 6, 3) := by decide +kernel
theorem dX6_operation_22 : decode cX6_operation 22 = .ok (.ldc 67, 2) := by decide +kernel
theorem dX6_operation_24 : decode cX6_operation 24 = .ok (.ireturn, 1) := by decide +kernel
theorem dX6_operation_25 : decode cX6_operation 25 = .ok (.iload_n 2, 1) := by decide +kernel
theorem dX6_operation_26 : decode cX6_operation 26 = .ok (.aload_n 0, 1) := by decide +kernel
theorem dX6_operation_27 : decode cX6_operation 27 = .ok (.getfield 12, 3) := by decide +kernel
theorem dX6_operation_30 : decode cX6_operation 30 = .ok (.iload_n 1, 1) := by decide +kernel
theorem dX6_operation_31 : decode cX6_operation 31 = .ok (.invokevirtual 89, 3) := by decide +kernel
theorem dX6_operation_34 : decode cX6_operation 34 = .ok (.if_icmp .le 6, 3) := by decide +kernel
theorem dX6_operation_37 : decode cX6_operation 37 = .ok (.ldc 162, 2) := by decide +kernel
theorem dX6_operation_39 : decode cX6_operation 39 = .ok (.ireturn, 1) := by decide +kernel
theorem dX6_operation_40 : decode cX6_operation 40 = .ok (.iload_n 1, 1) := by decide +kernel
theorem dX6_operation_41 : decode cX6_operation 41 = .ok (.iload_n 2, 1) := by decide +kernel
theorem dX6_operation_42 : decode cX6_operation 42 = .ok (.invokestatic 178, 3) := by decide +kernel
theorem dX6_operation_45 : decode cX6_operation 45 = .ok (.istore 4, 2) := by decide +kernel
theorem dX6_operation_47 : decode cX6_operation 47 = .ok (.iload_n 3, 1) := by decide +kernel
theorem dX6_operation_48 : decode cX6_operation 48 = .ok (.tableswitch 136 0 4 #[36, 46, 56, 66, 106], 36) := by decide +kernel
theorem dX6_operation_84 : decode cX6_operation 84 = .ok (.aload_n 0, 1) := by decide +kernel
theorem dX6_operation_85 : decode cX6_operation 85 = .ok (.getfield 12, 3) := by decide +kernel
theorem dX6_operation_88 : decode cX6_operation 88 = .ok (.iload 4, 2) := by decide +kernel
theorem dX6_operation_90 : decode cX6_operation 90 = .ok (.invokevirtual 198, 3) := by decide +kernel
theorem dX6_operation_93 : decode cX6_operation 93 = .ok (.ireturn, 1) := by decide +kernel
theorem dX6_operation_94 : decode cX6_operation 94 = .ok (.aload_n 0, 1) := by decide +kernel
theorem dX6_operation_95 : decode cX6_operation 95 = .ok (.getfield 12, 3) := by decide +kernel
theorem dX6_operation_98 : decode cX6_operation 98 = .ok (.iload 4, 2) := by decide +kernel
theorem dX6_operation_100 : decode cX6_operation 100 = .ok (.invokevirtual 201, 3) := by decide +kernel
theorem dX6_operation_103 : decode cX6_operation 103 = .ok (.ireturn, 1) := by decide +kernel
theorem dX6_operation_104 : decode cX6_operation 104 = .ok (.aload_n 0, 1) := by decide +kernel
theorem dX6_operation_105 : decode cX6_operation 105 = .ok (.getfield 12, 3) := by decide +kernel
theorem dX6_operation_108 : decode cX6_operation 108 = .ok (.iload 4, 2) := by decide +kernel
theorem dX6_operation_110 : decode cX6_operation 110 = .ok (.invokevirtual 187, 3) := by decide +kernel
theorem dX6_operation_113 : decode cX6_operation 113 = .ok (.ireturn, 1) := by decide +kernel
theorem dX6_operation_114 : decode cX6_operation 114 = .ok (.aload_n 0, 1) := by decide +kernel
theorem dX6_operation_115 : decode cX6_operation 115 = .ok (.getfield 12, 3) := by decide +kernel
theorem dX6_operation_118 : decode cX6_operation 118 = .ok (.iload 4, 2) := by decide +kernel
theorem dX6_operation_120 : decode cX6_operation 120 = .ok (.invokevirtual 204, 3) := by decide +kernel
theorem dX6_operation_123 : decode cX6_operation 123 = .ok (.ifCond .eq 18, 3) := by decide +kernel
theorem dX6_operation_126 : decode cX6_operation 126 = .ok (.aload_n 0, 1) := by decide +kernel
theorem dX6_operation_127 : decode cX6_operation 127 = .ok (.getfield 12, 3) := by decide +kernel
theorem dX6_operation_130 : decode cX6_operation 130 = .ok (.getfield 207, 3) := by decide +kernel
theorem dX6_operation_133 : decode cX6_operation 133 = .ok (.iload 4, 2) := by decide +kernel
theorem dX6_operation_135 : decode cX6_operation 135 = .ok (.invokevirtual 100, 3) := by decide +kernel
theorem dX6_operation_138 : decode cX6_operation 138 = .ok (.goto 15, 3) := by decide +kernel
theorem dX6_operation_141 : decode cX6_operation 141 = .ok (.aload_n 0, 1) := by decide +kernel
theorem dX6_operation_142 : decode cX6_operation 142 = .ok (.getfield 12, 3) := by decide +kernel
theorem dX6_operation_145 : decode cX6_operation 145 = .ok (.iload 4, 2) := by decide +kernel
theorem dX6_operation_147 : decode cX6_operation 147 = .ok (.invokevirtual 210, 3) := by decide +kernel
theorem dX6_operation_150 : decode cX6_operation 150 = .ok (.invokestatic 135, 3) := by decide +kernel
theorem dX6_operation_153 : decode cX6_operation 153 = .ok (.ireturn, 1) := by decide +kernel
theorem dX6_operation_154 : decode cX6_operation 154 = .ok (.aload_n 0, 1) := by decide +kernel
theorem dX6_operation_155 : decode cX6_operation 155 = .ok (.getfield 12, 3) := by decide +kernel
theorem dX6_operation_158 : decode cX6_operation 158 = .ok (.iload 4, 2) := by decide +kernel
theorem dX6_operation_160 : decode cX6_operation 160 = .ok (.invokevirtual 198, 3) := by decide +kernel
theorem dX6_operation_163 : decode cX6_operation 163 = .ok (.iconst 3, 1) := by decide +kernel
theorem dX6_operation_164 : decode cX6_operation 164 = .ok (.if_icmp .ne 18, 3) := by decide +kernel
theorem dX6_operation_167 : decode cX6_operation 167 = .ok (.aload_n 0, 1) := by decide +kernel
theorem dX6_operation_168 : decode cX6_operation 168 = .ok (.getfield 12, 3) := by decide +kernel
theorem dX6_operation_171 : decode cX6_operation 171 = .ok (.iload 4, 2) := by decide +kernel
theorem dX6_operation_173 : decode cX6_operation 173 = .ok (.invokevirtual 210, 3) := by decide +kernel
theorem dX6_operation_176 : decode cX6_operation 176 = .ok (.invokestatic 172, 3) := by decide +kernel
theorem dX6_operation_179 : decode cX6_operation 179 = .ok (.goto 4, 3) := by decide +kernel
theorem dX6_operation_182 : decode cX6_operation 182 = .ok (.iload_n 1, 1) := by decide +kernel
theorem dX6_operation_183 : decode cX6_operation 183 = .ok (.ireturn, 1) := by decide +kernel
theorem dX6_operation_184 : decode cX6_operation 184 = .ok (.aload_n 0, 1) := by decide +kernel
theorem dX6_operation_185 : decode cX6_operation 185 = .ok (.getfield 12, 3) := by decide +kernel
theorem dX6_operation_188 : decode cX6_operation 188 = .ok (.iload 4, 2) := by decide +kernel
theorem dX6_operation_190 : decode cX6_operation 190 = .ok (.invokevirtual 213, 3) := by decide +kernel
theorem dX6_operation_193 : decode cX6_operation 193 = .ok (.ireturn, 1) := by decide +kernel
set_option maxRecDepth 20000 in
theorem ggX6_knows_X6_isSite : GoodIn wsX6_knows wsX6_isSite := goodIn_r _ [9, 10, 11, 12, 8, 13, 36, 37, 38, 39, 40, 41, 42, 43, 44] (by decide +kernel) (by decide +kernel)
set_option maxRecDepth 20000 in
theorem gX6_knows_X6_isSite : GoodIn wsX6_knows (wsV RX6 78 RX6 yX6_isSite wsX6_isSite) := goodIn_app (goodIn_of _ (by decide +kernel)) ggX6_knows_X6_isSite
set_option maxRecDepth 20000 in
theorem ggX6_knows_X4_madeBy : GoodIn wsX6_knows wsX4_madeBy := goodIn_r _ [18, 19, 20, 21, 22, 23, 24, 25, 45, 46, 47, 48, 49, 50, 51, 52, 53] (by decide +kernel) (by decide +kernel)
set_option maxRecDepth 20000 in
theorem gX6_knows_X4_madeBy : GoodIn wsX6_knows (wsV RX6 89 RX4 yX4_madeBy wsX4_madeBy) := goodIn_app (goodIn_of _ (by decide +kernel)) ggX6_knows_X4_madeBy
set_option maxRecDepth 20000 in
theorem ggX6_knows_X6_idOf : GoodIn wsX6_knows wsX6_idOf := goodIn_r _ [28] (by decide +kernel) (by decide +kernel)
set_option maxRecDepth 20000 in
theorem gX6_knows_X6_idOf : GoodIn wsX6_knows (va_wsS RX6 178 yX6_idOf wsX6_idOf) := goodIn_app (goodIn_of _ (by decide +kernel)) ggX6_knows_X6_idOf
set_option maxRecDepth 20000 in
theorem ggX6_knows_X2_has : GoodIn wsX6_knows wsX2_has := goodIn_r _ [33, 34, 35, 21, 22, 23, 24, 25, 54, 53] (by decide +kernel) (by decide +kernel)
set_option maxRecDepth 20000 in
theorem gX6_knows_X2_has : GoodIn wsX6_knows (wsV RX6 181 RX2 yX2_has wsX2_has) := goodIn_app (goodIn_of _ (by decide +kernel)) ggX6_knows_X2_has
theorem dX6_knows_0 : decode cX6_knows 0 = .ok (.aload_n 0, 1) := by decide +kernel
theorem dX6_knows_1 : decode cX6_knows 1 = .ok (.iload_n 1, 1) := by decide +kernel
theorem dX6_knows_2 : decode cX6_knows 2 = .ok (.invokevirtual 78, 3) := by decide +kernel
theorem dX6_knows_5 : decode cX6_knows 5 = .ok (.ifCond .eq 16, 3) := by decide +kernel
theorem dX6_knows_8 : decode cX6_knows 8 = .ok (.aload_n 0, 1) := by decide +kernel
theorem dX6_knows_9 : decode cX6_knows 9 = .ok (.iload_n 2, 1) := by decide +kernel
end
section
theorem dX6_knows_10 : decode cX6_knows 10 = .ok (.invokevirtual 78, 3) := by decide +kernel
theorem dX6_knows_13 : decode cX6_knows 13 = .ok (.ifCond .eq 8, 3) := by decide +kernel
theorem dX6_knows_16 : decode cX6_knows 16 = .ok (.iload_n 3, 1) := by decide +kernel
theorem dX6_knows_17 : decode cX6_knows 17 = .ok (.iconst 1, 1) := by decide +kernel
theorem dX6_knows_18 : decode cX6_knows 18 = .ok (.if_icmp .ge 6, 3) := by decide +kernel
theorem dX6_knows_21 : decode cX6_knows 21 = .ok (.ldc 67, 2) := by decide +kernel
theorem dX6_knows_23 : decode cX6_knows 23 = .ok (.ireturn, 1) := by decide +kernel
theorem dX6_knows_24 : decode cX6_knows 24 = .ok (.iload_n 3, 1) := by decide +kernel
theorem dX6_knows_25 : decode cX6_knows 25 = .ok (.aload_n 0, 1) := by decide +kernel
theorem dX6_knows_26 : decode cX6_knows 26 = .ok (.getfield 12, 3) := by decide +kernel
theorem dX6_knows_29 : decode cX6_knows 29 = .ok (.iload_n 2, 1) := by decide +kernel
theorem dX6_knows_30 : decode cX6_knows 30 = .ok (.invokevirtual 89, 3) := by decide +kernel
theorem dX6_knows_33 : decode cX6_knows 33 = .ok (.if_icmp .le 6, 3) := by decide +kernel
theorem dX6_knows_36 : decode cX6_knows 36 = .ok (.ldc 162, 2) := by decide +kernel
theorem dX6_knows_38 : decode cX6_knows 38 = .ok (.ireturn, 1) := by decide +kernel
theorem dX6_knows_39 : decode cX6_knows 39 = .ok (.aload_n 0, 1) := by decide +kernel
theorem dX6_knows_40 : decode cX6_knows 40 = .ok (.getfield 28, 3) := by decide +kernel
theorem dX6_knows_43 : decode cX6_knows 43 = .ok (.iload_n 1, 1) := by decide +kernel
theorem dX6_knows_44 : decode cX6_knows 44 = .ok (.iload_n 2, 1) := by decide +kernel
theorem dX6_knows_45 : decode cX6_knows 45 = .ok (.iload_n 3, 1) := by decide +kernel
theorem dX6_knows_46 : decode cX6_knows 46 = .ok (.invokestatic 178, 3) := by decide +kernel
theorem dX6_knows_49 : decode cX6_knows 49 = .ok (.invokevirtual 181, 3) := by decide +kernel
theorem dX6_knows_52 : decode cX6_knows 52 = .ok (.ifCond .eq 7, 3) := by decide +kernel
theorem dX6_knows_55 : decode cX6_knows 55 = .ok (.iconst 1, 1) := by decide +kernel
theorem dX6_knows_56 : decode cX6_knows 56 = .ok (.goto 4, 3) := by decide +kernel
theorem dX6_knows_59 : decode cX6_knows 59 = .ok (.iconst 0, 1) := by decide +kernel
theorem dX6_knows_60 : decode cX6_knows 60 = .ok (.ireturn, 1) := by decide +kernel
set_option maxRecDepth 20000 in
theorem ggX6_stroke_X6_isWithin : GoodIn wsX6_stroke wsX6_isWithin := goodIn_r _ [9] (by decide +kernel) (by decide +kernel)
set_option maxRecDepth 20000 in
theorem gX6_stroke_X6_isWithin : GoodIn wsX6_stroke (va_wsS RX6 63 yX6_isWithin wsX6_isWithin) := goodIn_app (goodIn_of _ (by decide +kernel)) ggX6_stroke_X6_isWithin
set_option maxRecDepth 20000 in
theorem ggX6_stroke_X6_isSite : GoodIn wsX6_stroke wsX6_isSite := goodIn_r _ [13, 14, 6, 7, 8, 9, 141, 142, 143, 144, 145, 146, 147, 148, 149] (by decide +kernel) (by decide +kernel)
set_option maxRecDepth 20000 in
theorem gX6_stroke_X6_isSite : GoodIn wsX6_stroke (wsV RX6 78 RX6 yX6_isSite wsX6_isSite) := goodIn_app (goodIn_of _ (by decide +kernel)) ggX6_stroke_X6_isSite
set_option maxRecDepth 20000 in
theorem ggX6_stroke_X0_show : GoodIn wsX6_stroke wsX0_show := goodIn_r _ [19, 20, 21, 22, 23, 24, 25, 26, 27, 28, 29, 30, 31, 32, 33, 34, 35, 36, 37, 38, 39, 40, 41, 42, 43, 44, 45, 46, 47, 48, 49, 50, 51, 52, 53, 54, 55, 56, 57, 58, 18, 59, 60, 61, 62, 63, 64, 65, 66, 67, 68, 69, 70, 71, 72, 73, 74, 75, 76, 77, 78, 79, 80, 81, 82, 83, 84, 85, 86, 87, 88, 89, 90, 91, 92, 150, 151, 152, 153, 154, 155, 156, 157, 158, 159, 160, 161, 162, 163] (by decide +kernel) (by decide +kernel)
set_option maxRecDepth 20000 in
theorem gX6_stroke_X0_show : GoodIn wsX6_stroke (wsV RX6 92 RX0 yX0_show wsX0_show) := goodIn_app (goodIn_of _ (by decide +kernel)) ggX6_stroke_X0_show
set_option maxRecDepth 20000 in
theorem ggX6_stroke_X0_strokeCount : GoodIn wsX6_stroke wsX0_strokeCount := goodIn_r _ [96, 22, 150, 151, 152, 153] (by decide +kernel) (by decide +kernel)
set_option maxRecDepth 20000 in
theorem gX6_stroke_X0_strokeCount : GoodIn wsX6_stroke (wsV RX6 96 RX0 yX0_strokeCount wsX0_strokeCount) := goodIn_app (goodIn_of _ (by decide +kernel)) ggX6_stroke_X0_strokeCount
set_option maxRecDepth 20000 in
theorem ggX6_stroke_X0_strokeIn : GoodIn wsX6_stroke wsX0_strokeIn := goodIn_r _ [100, 83, 88, 40, 41, 32, 42, 34, 150, 151, 152, 153, 162] (by decide +kernel) (by decide +kernel)
set_option maxRecDepth 20000 in
theorem gX6_stroke_X0_strokeIn : GoodIn wsX6_stroke (wsV RX6 148 RX0 yX0_strokeIn wsX0_strokeIn) := goodIn_app (goodIn_of _ (by decide +kernel)) ggX6_stroke_X0_strokeIn
set_option maxRecDepth 20000 in
theorem ggX6_stroke_X6_coordinate : GoodIn wsX6_stroke wsX6_coordinate := goodIn_r _ [104, 3, 5, 105, 106, 107, 108, 109, 110, 111, 40, 41, 32, 42, 34, 112, 113, 114, 115, 116, 117, 118, 119, 120, 121, 141, 142, 143, 144, 145, 146, 147, 148, 149, 154, 155, 156, 157, 158, 159, 160, 161, 164, 165, 166, 167, 168, 162] (by decide +kernel) (by decide +kernel)
set_option maxRecDepth 20000 in
theorem gX6_stroke_X6_coordinate : GoodIn wsX6_stroke (wsV RX6 216 RX6 yX6_coordinate wsX6_coordinate) := goodIn_app (goodIn_of _ (by decide +kernel)) ggX6_stroke_X6_coordinate
set_option maxRecDepth 20000 in
theorem ggX6_stroke_X6_strokeValue : GoodIn wsX6_stroke wsX6_strokeValue := goodIn_r _ [125, 2, 3, 126, 127, 8, 128, 129, 130, 131, 132, 133, 134, 18, 135, 21, 88, 40, 41, 32, 42, 34, 136, 137, 138, 108, 139, 140, 111, 105, 106, 107, 109, 110, 141, 142, 143, 144, 145, 146, 147, 148, 149, 154, 155, 156, 157, 158, 159, 160, 161, 150, 151, 152, 153, 162, 164, 165, 166, 167, 168] (by decide +kernel) (by decide +kernel)
set_option maxRecDepth 20000 in
theorem gX6_stroke_X6_strokeValue : GoodIn wsX6_stroke (wsV RX6 219 RX6 yX6_strokeValue wsX6_strokeValue) := goodIn_app (goodIn_of _ (by decide +kernel)) ggX6_stroke_X6_strokeValue
theorem dX6_stroke_0 : decode cX6_stroke 0 = .ok (.iload_n 3, 1) := by decide +kernel
theorem dX6_stroke_1 : decode cX6_stroke 1 = .ok (.bipush 10, 2) := by decide +kernel
theorem dX6_stroke_3 : decode cX6_stroke 3 = .ok (.bipush 25, 2) := by decide +kernel
theorem dX6_stroke_5 : decode cX6_stroke 5 = .ok (.invokestatic 63, 3) := by decide +kernel
theorem dX6_stroke_8 : decode cX6_stroke 8 = .ok (.istore 4, 2) := by decide +kernel
theorem dX6_stroke_10 : decode cX6_stroke 10 = .ok (.aload_n 0, 1) := by decide +kernel
theorem dX6_stroke_11 : decode cX6_stroke 11 = .ok (.iload_n 1, 1) := by decide +kernel
theorem dX6_stroke_12 : decode cX6_stroke 12 = .ok (.invokevirtual 78, 3) := by decide +kernel
theorem dX6_stroke_15 : decode cX6_stroke 15 = .ok (.ifCond .eq 21, 3) := by decide +kernel
theorem dX6_stroke_18 : decode cX6_stroke 18 = .ok (.iload_n 2, 1) := by decide +kernel
theorem dX6_stroke_19 : decode cX6_stroke 19 = .ok (.ifCond .lt 17, 3) := by decide +kernel
theorem dX6_stroke_22 : decode cX6_stroke 22 = .ok (.iload 4, 2) := by decide +kernel
theorem dX6_stroke_24 : decode cX6_stroke 24 = .ok (.ifCond .ne 15, 3) := by decide +kernel
theorem dX6_stroke_27 : decode cX6_stroke 27 = .ok (.iload_n 3, 1) := by decide +kernel
theorem dX6_stroke_28 : decode cX6_stroke 28 = .ok (.iconst 0, 1) := by decide +kernel
theorem dX6_stroke_29 : decode cX6_stroke 29 = .ok (.iconst 4, 1) := by decide +kernel
theorem dX6_stroke_30 : decode cX6_stroke 30 = .ok (.invokestatic 63, 3) := by decide +kernel
theorem dX6_stroke_33 : decode cX6_stroke 33 = .ok (.ifCond .ne 6, 3) := by decide +kernel
theorem dX6_stroke_36 : decode cX6_stroke 36 = .ok (.ldc 67, 2) := by decide +kernel
theorem dX6_stroke_38 : decode cX6_stroke 38 = .ok (.ireturn, 1) := by decide +kernel
theorem dX6_stroke_39 : decode cX6_stroke 39 = .ok (.aload_n 0, 1) := by decide +kernel
theorem dX6_stroke_40 : decode cX6_stroke 40 = .ok (.getfield 45, 3) := by decide +kernel
theorem dX6_stroke_43 : decode cX6_stroke 43 = .ok (.aload_n 0, 1) := by decide +kernel
theorem dX6_stroke_44 : decode cX6_stroke 44 = .ok (.getfield 12, 3) := by decide +kernel
theorem dX6_stroke_47 : decode cX6_stroke 47 = .ok (.aload_n 0, 1) := by decide +kernel
theorem dX6_stroke_48 : decode cX6_stroke 48 = .ok (.getfield 28, 3) := by decide +kernel
theorem dX6_stroke_51 : decode cX6_stroke 51 = .ok (.iload_n 1, 1) := by decide +kernel
theorem dX6_stroke_52 : decode cX6_stroke 52 = .ok (.invokevirtual 92, 3) := by decide +kernel
theorem dX6_stroke_55 : decode cX6_stroke 55 = .ok (.iload_n 2, 1) := by decide +kernel
theorem dX6_stroke_56 : decode cX6_stroke 56 = .ok (.aload_n 0, 1) := by decide +kernel
theorem dX6_stroke_57 : decode cX6_stroke 57 = .ok (.getfield 45, 3) := by decide +kernel
theorem dX6_stroke_60 : decode cX6_stroke 60 = .ok (.invokevirtual 96, 3) := by decide +kernel
theorem dX6_stroke_63 : decode cX6_stroke 63 = .ok (.if_icmp .lt 6, 3) := by decide +kernel
theorem dX6_stroke_66 : decode cX6_stroke 66 = .ok (.ldc 162, 2) := by decide +kernel
theorem dX6_stroke_68 : decode cX6_stroke 68 = .ok (.ireturn, 1) := by decide +kernel
theorem dX6_stroke_69 : decode cX6_stroke 69 = .ok (.aload_n 0, 1) := by decide +kernel
theorem dX6_stroke_70 : decode cX6_stroke 70 = .ok (.getfield 45, 3) := by decide +kernel
theorem dX6_stroke_73 : decode cX6_stroke 73 = .ok (.iload_n 2, 1) := by decide +kernel
theorem dX6_stroke_74 : decode cX6_stroke 74 = .ok (.invokevirtual 148, 3) := by decide +kernel
theorem dX6_stroke_77 : decode cX6_stroke 77 = .ok (.istore 5, 2) := by decide +kernel
theorem dX6_stroke_79 : decode cX6_stroke 79 = .ok (.iload 4, 2) := by decide +kernel
theorem dX6_stroke_81 : decode cX6_stroke 81 = .ok (.ifCond .eq 16, 3) := by decide +kernel
theorem dX6_stroke_84 : decode cX6_stroke 84 = .ok (.aload_n 0, 1) := by decide +kernel
theorem dX6_stroke_85 : decode cX6_stroke 85 = .ok (.iload 5, 2) := by decide +kernel
theorem dX6_stroke_87 : decode cX6_stroke 87 = .ok (.iload_n 3, 1) := by decide +kernel
theorem dX6_stroke_88 : decode cX6_stroke 88 = .ok (.bipush 10, 2) := by decide +kernel
theorem dX6_stroke_90 : decode cX6_stroke 90 = .ok (.isub, 1) := by decide +kernel
theorem dX6_stroke_91 : decode cX6_stroke 91 = .ok (.invokevirtual 216, 3) := by decide +kernel
theorem dX6_stroke_94 : decode cX6_stroke 94 = .ok (.goto 10, 3) := by decide +kernel
theorem dX6_stroke_97 : decode cX6_stroke 97 = .ok (.aload_n 0, 1) := by decide +kernel
theorem dX6_stroke_98 : decode cX6_stroke 98 = .ok (.iload 5, 2) := by decide +kernel
theorem dX6_stroke_100 : decode cX6_stroke 100 = .ok (.iload_n 3, 1) := by decide +kernel
theorem dX6_stroke_101 : decode cX6_stroke 101 = .ok (.invokevirtual 219, 3) := by decide +kernel
theorem dX6_stroke_104 : decode cX6_stroke 104 = .ok (.ireturn, 1) := by decide +kernel
set_option maxRecDepth 20000 in
theorem ggX6_strokeAt_X6_isSite : GoodIn wsX6_strokeAt wsX6_isSite := goodIn_r _ [10, 11, 12, 13, 9, 14, 118, 119, 120, 121, 122, 123, 124, 125, 126] (by decide +kernel) (by decide +kernel)
set_option maxRecDepth 20000 in
theorem gX6_strokeAt_X6_isSite : GoodIn wsX6_strokeAt (wsV RX6 78 RX6 yX6_isSite wsX6_isSite) := goodIn_app (goodIn_of _ (by decide +kernel)) ggX6_strokeAt_X6_isSite
set_option maxRecDepth 20000 in
theorem ggX6_strokeAt_X6_isWithin : GoodIn wsX6_strokeAt wsX6_isWithin := goodIn_r _ [14] (by decide +kernel) (by decide +kernel)
set_option maxRecDepth 20000 in
theorem gX6_strokeAt_X6_isWithin : GoodIn wsX6_strokeAt (va_wsS RX6 63 yX6_isWithin wsX6_isWithin) := goodIn_app (goodIn_of _ (by decide +kernel)) ggX6_strokeAt_X6_isWithin
set_option maxRecDepth 20000 in
theorem ggX6_strokeAt_X0_show : GoodIn wsX6_strokeAt wsX0_show := goodIn_r _ [19, 20, 21, 22, 23, 24, 25, 26, 27, 28, 29, 30, 31, 32, 33, 34, 35, 36, 37, 38, 39, 40, 41, 42, 43, 44, 45, 46, 47, 48, 49, 50, 51, 52, 53, 54, 55, 56, 57, 58, 18, 59, 60, 61, 62, 63, 64, 65, 66, 67, 68, 69, 70, 71, 72, 73, 74, 75, 76, 77, 78, 79, 80, 81, 82, 83, 84, 85, 86, 87, 88, 89, 90, 91, 92, 135, 136, 137, 138, 127, 128, 129, 130, 131, 132, 133, 134, 139, 140] (by decide +kernel) (by decide +kernel)
set_option maxRecDepth 20000 in
theorem gX6_strokeAt_X0_show : GoodIn wsX6_strokeAt (wsV RX6 92 RX0 yX0_show wsX0_show) := goodIn_app (goodIn_of _ (by decide +kernel)) ggX6_strokeAt_X0_show
set_option maxRecDepth 20000 in
theorem ggX6_strokeAt_X0_strokeCount : GoodIn wsX6_strokeAt wsX0_strokeCount := goodIn_r _ [96, 22, 135, 136, 137, 138] (by decide +kernel) (by decide +kernel)
set_option maxRecDepth 20000 in
theorem gX6_strokeAt_X0_strokeCount : GoodIn wsX6_strokeAt (wsV RX6 96 RX0 yX0_strokeCount wsX0_strokeCount) := goodIn_app (goodIn_of _ (by decide +kernel)) ggX6_strokeAt_X0_strokeCount
set_option maxRecDepth 20000 in
theorem ggX6_strokeAt_X0_strokeIn : GoodIn wsX6_strokeAt wsX0_strokeIn := goodIn_r _ [100, 83, 88, 40, 41, 32, 42, 34, 135, 136, 137, 138, 139] (by decide +kernel) (by decide +kernel)
set_option maxRecDepth 20000 in
theorem gX6_strokeAt_X0_strokeIn : GoodIn wsX6_strokeAt (wsV RX6 148 RX0 yX0_strokeIn wsX0_strokeIn) := goodIn_app (goodIn_of _ (by decide +kernel)) ggX6_strokeAt_X0_strokeIn
set_option maxRecDepth 20000 in
theorem ggX6_strokeAt_X1_hasPoint : GoodIn wsX6_strokeAt wsX1_hasPoint := goodIn_r _ [105, 106, 107, 40, 41, 32, 42, 34, 108, 109, 110, 104, 111, 112, 113, 114, 115, 116, 117, 141, 142, 143, 144, 145, 139] (by decide +kernel) (by decide +kernel)
set_option maxRecDepth 20000 in
theorem gX6_strokeAt_X1_hasPoint : GoodIn wsX6_strokeAt (wsV RX6 222 RX1 yX1_hasPoint wsX1_hasPoint) := goodIn_app (goodIn_of _ (by decide +kernel)) ggX6_strokeAt_X1_hasPoint
theorem dX6_strokeAt_0 : decode cX6_strokeAt 0 = .ok (.aload_n 0, 1) := by decide +kernel
theorem dX6_strokeAt_1 : decode cX6_strokeAt 1 = .ok (.iload_n 1, 1) := by decide +kernel
theorem dX6_strokeAt_2 : decode cX6_strokeAt 2 = .ok (.invokevirtual 78, 3) := by decide +kernel
theorem dX6_strokeAt_5 : decode cX6_strokeAt 5 = .ok (.ifCond .eq 27, 3) := by decide +kernel
theorem dX6_strokeAt_8 : decode cX6_strokeAt 8 = .ok (.iload_n 2, 1) := by decide +kernel
theorem dX6_strokeAt_9 : decode cX6_strokeAt 9 = .ok (.bipush (-100), 2) := by decide +kernel
theorem dX6_strokeAt_11 : decode cX6_strokeAt 11 = .ok (.sipush 200, 3) := by decide +kernel
theorem dX6_strokeAt_14 : decode cX6_strokeAt 14 = .ok (.invokestatic 63, 3) := by decide +kernel
theorem dX6_strokeAt_17 : decode cX6_strokeAt 17 = .ok (.ifCond .eq 15, 3) := by decide +kernel
theorem dX6_strokeAt_20 : decode cX6_strokeAt 20 = .ok (.iload_n 3, 1) := by decide +kernel
theorem dX6_strokeAt_21 : decode cX6_strokeAt 21 = .ok (.bipush (-100), 2) := by decide +kernel
theorem dX6_strokeAt_23 : decode cX6_strokeAt 23 = .ok (.sipush 200, 3) := by decide +kernel
theorem dX6_strokeAt_26 : decode cX6_strokeAt 26 = .ok (.invokestatic 63, 3) := by decide +kernel
theorem dX6_strokeAt_29 : decode cX6_strokeAt 29 = .ok (.ifCond .ne 6, 3) := by decide +kernel
theorem dX6_strokeAt_32 : decode cX6_strokeAt 32 = .ok (.ldc 67, 2) := by decide +kernel
theorem dX6_strokeAt_34 : decode cX6_strokeAt 34 = .ok (.ireturn, 1) := by decide +kernel
theorem dX6_strokeAt_35 : decode cX6_strokeAt 35 = .ok (.aload_n 0, 1) := by decide +kernel
theorem dX6_strokeAt_36 : decode cX6_strokeAt 36 = .ok (.getfield 45, 3) := by decide +kernel
theorem dX6_strokeAt_39 : decode cX6_strokeAt 39 = .ok (.aload_n 0, 1) := by decide +kernel
theorem dX6_strokeAt_40 : decode cX6_strokeAt 40 = .ok (.getfield 12, 3) := by decide +kernel
theorem dX6_strokeAt_43 : decode cX6_strokeAt 43 = .ok (.aload_n 0, 1) := by decide +kernel
theorem dX6_strokeAt_44 : decode cX6_strokeAt 44 = .ok (.getfield 28, 3) := by decide +kernel
theorem dX6_strokeAt_47 : decode cX6_strokeAt 47 = .ok (.iload_n 1, 1) := by decide +kernel
theorem dX6_strokeAt_48 : decode cX6_strokeAt 48 = .ok (.invokevirtual 92, 3) := by decide +kernel
theorem dX6_strokeAt_51 : decode cX6_strokeAt 51 = .ok (.aload_n 0, 1) := by decide +kernel
theorem dX6_strokeAt_52 : decode cX6_strokeAt 52 = .ok (.getfield 45, 3) := by decide +kernel
theorem dX6_strokeAt_55 : decode cX6_strokeAt 55 = .ok (.invokevirtual 96, 3) := by decide +kernel
theorem dX6_strokeAt_58 : decode cX6_strokeAt 58 = .ok (.iconst 1, 1) := by decide +kernel
theorem dX6_strokeAt_59 : decode cX6_strokeAt 59 = .ok (.isub, 1) := by decide +kernel
theorem dX6_strokeAt_60 : decode cX6_strokeAt 60 = .ok (.istore 4, 2) := by decide +kernel
theorem dX6_strokeAt_62 : decode cX6_strokeAt 62 = .ok (.iload 4, 2) := by decide +kernel
theorem dX6_strokeAt_64 : decode cX6_strokeAt 64 = .ok (.ifCond .lt 36, 3) := by decide +kernel
theorem dX6_strokeAt_67 : decode cX6_strokeAt 67 = .ok (.aload_n 0, 1) := by decide +kernel
theorem dX6_strokeAt_68 : decode cX6_strokeAt 68 = .ok (.getfield 12, 3) := by decide +kernel
theorem dX6_strokeAt_71 : decode cX6_strokeAt 71 = .ok (.getfield 207, 3) := by decide +kernel
theorem dX6_strokeAt_74 : decode cX6_strokeAt 74 = .ok (.aload_n 0, 1) := by decide +kernel
theorem dX6_strokeAt_75 : decode cX6_strokeAt 75 = .ok (.getfield 45, 3) := by decide +kernel
theorem dX6_strokeAt_78 : decode cX6_strokeAt 78 = .ok (.iload 4, 2) := by decide +kernel
theorem dX6_strokeAt_80 : decode cX6_strokeAt 80 = .ok (.invokevirtual 148, 3) := by decide +kernel
theorem dX6_strokeAt_83 : decode cX6_strokeAt 83 = .ok (.iload_n 2, 1) := by decide +kernel
theorem dX6_strokeAt_84 : decode cX6_strokeAt 84 = .ok (.iload_n 3, 1) := by decide +kernel
theorem dX6_strokeAt_85 : decode cX6_strokeAt 85 = .ok (.invokevirtual 222, 3) := by decide +kernel
theorem dX6_strokeAt_88 : decode cX6_strokeAt 88 = .ok (.ifCond .eq 6, 3) := by decide +kernel
theorem dX6_strokeAt_91 : decode cX6_strokeAt 91 = .ok (.iload 4, 2) := by decide +kernel
theorem dX6_strokeAt_93 : decode cX6_strokeAt 93 = .ok (.ireturn, 1) := by decide +kernel
theorem dX6_strokeAt_94 : decode cX6_strokeAt 94 = .ok (.iinc 4 (-1), 3) := by decide +kernel
theorem dX6_strokeAt_97 : decode cX6_strokeAt 97 = .ok (.goto (-35), 3) := by decide +kernel
theorem dX6_strokeAt_100 : decode cX6_strokeAt 100 = .ok (.ldc 162, 2) := by decide +kernel
theorem dX6_strokeAt_102 : decode cX6_strokeAt 102 = .ok (.ireturn, 1) := by decide +kernel
set_option maxRecDepth 20000 in
theorem ggX6_digest_X6_isSite : GoodIn wsX6_digest wsX6_isSite := goodIn_r _ [8, 9, 10, 11, 7, 12, 125, 126, 127, 128, 129, 130, 131, 132, 133] (by decide +kernel) (by decide +kernel)
set_option maxRecDepth 20000 in
theorem gX6_digest_X6_isSite : GoodIn wsX6_digest (wsV RX6 78 RX6 yX6_isSite wsX6_isSite) := goodIn_app (goodIn_of _ (by decide +kernel)) ggX6_digest_X6_isSite
set_option maxRecDepth 20000 in
theorem ggX6_digest_X0_show : GoodIn wsX6_digest wsX0_show := goodIn_r _ [17, 18, 19, 20, 21, 22, 23, 24, 25, 26, 27, 28, 29, 30, 31, 32, 33, 34, 35, 36, 37, 38, 39, 40, 41, 42, 43, 44, 45, 46, 47, 48, 49, 50, 51, 52, 53, 54, 55, 56, 16, 57, 58, 59, 60, 61, 62, 63, 64, 65, 66, 67, 68, 69, 70, 71, 72, 73, 74, 75, 76, 77, 78, 79, 80, 81, 82, 83, 84, 85, 86, 87, 88, 89, 90, 134, 135, 136, 137, 138, 139, 140, 141, 142, 143, 144, 145, 146, 147] (by decide +kernel) (by decide +kernel)
set_option maxRecDepth 20000 in
theorem gX6_digest_X0_show : GoodIn wsX6_digest (wsV RX6 92 RX0 yX0_show wsX0_show) := goodIn_app (goodIn_of _ (by decide +kernel)) ggX6_digest_X0_show
set_option maxRecDepth 20000 in
theorem ggX6_digest_X0_hash : GoodIn wsX6_digest wsX0_hash := goodIn_r _ [94, 20, 81, 19, 86, 38, 39, 30, 40, 32, 95, 7, 96, 97, 98, 99, 100, 101, 102, 103, 104, 105, 106, 107, 108, 16, 109, 110, 111, 112, 113, 114, 115, 116, 117, 118, 119, 120, 121, 122, 123, 124, 134, 135, 136, 137, 138, 139, 140, 141, 142, 143, 144, 145, 146, 148, 149, 150, 151, 152] (by decide +kernel) (by decide +kernel)
set_option maxRecDepth 20000 in
theorem gX6_digest_X0_hash : GoodIn wsX6_digest (wsV RX6 225 RX0 yX0_hash wsX0_hash) := goodIn_app (goodIn_of _ (by decide +kernel)) ggX6_digest_X0_hash
theorem dX6_digest_0 : decode cX6_digest 0 = .ok (.aload_n 0, 1) := by decide +kernel
theorem dX6_digest_1 : decode cX6_digest 1 = .ok (.iload_n 1, 1) := by decide +kernel
theorem dX6_digest_2 : decode cX6_digest 2 = .ok (.invokevirtual 78, 3) := by decide +kernel
theorem dX6_digest_5 : decode cX6_digest 5 = .ok (.ifCond .ne 5, 3) := by decide +kernel
theorem dX6_digest_8 : decode cX6_digest 8 = .ok (.iconst 0, 1) := by decide +kernel
theorem dX6_digest_9 : decode cX6_digest 9 = .ok (.ireturn, 1) := by decide +kernel
theorem dX6_digest_10 : decode cX6_digest 10 = .ok (.aload_n 0, 1) := by decide +kernel
theorem dX6_digest_11 : decode cX6_digest 11 = .ok (.getfield 45, 3) := by decide +kernel
theorem dX6_digest_14 : decode cX6_digest 14 = .ok (.aload_n 0, 1) := by decide +kernel
theorem dX6_digest_15 : decode cX6_digest 15 = .ok (.getfield 12, 3) := by decide +kernel
theorem dX6_digest_18 : decode cX6_digest 18 = .ok (.aload_n 0, 1) := by decide +kernel
theorem dX6_digest_19 : decode cX6_digest 19 = .ok (.getfield 28, 3) := by decide +kernel
theorem dX6_digest_22 : decode cX6_digest 22 = .ok (.iload_n 1, 1) := by decide +kernel
theorem dX6_digest_23 : decode cX6_digest 23 = .ok (.invokevirtual 92, 3) := by decide +kernel
theorem dX6_digest_26 : decode cX6_digest 26 = .ok (.aload_n 0, 1) := by decide +kernel
theorem dX6_digest_27 : decode cX6_digest 27 = .ok (.getfield 45, 3) := by decide +kernel
theorem dX6_digest_30 : decode cX6_digest 30 = .ok (.aload_n 0, 1) := by decide +kernel
theorem dX6_digest_31 : decode cX6_digest 31 = .ok (.getfield 12, 3) := by decide +kernel
theorem dX6_digest_34 : decode cX6_digest 34 = .ok (.invokevirtual 225, 3) := by decide +kernel
theorem dX6_digest_37 : decode cX6_digest 37 = .ok (.ireturn, 1) := by decide +kernel
set_option maxRecDepth 20000 in
theorem ggX6_areSame_X6_isSite : GoodIn wsX6_areSame wsX6_isSite := goodIn_r _ [7, 8, 9, 10, 6, 11, 109, 110, 111, 112, 113, 114, 115, 116, 117] (by decide +kernel) (by decide +kernel)
set_option maxRecDepth 20000 in
theorem gX6_areSame_X6_isSite : GoodIn wsX6_areSame (wsV RX6 78 RX6 yX6_isSite wsX6_isSite) := goodIn_app (goodIn_of _ (by decide +kernel)) ggX6_areSame_X6_isSite
set_option maxRecDepth 20000 in
theorem ggX6_areSame_X6_showSame : GoodIn wsX6_areSame wsX6_showSame := goodIn_r _ [15, 16, 17, 18, 19, 20, 21, 22, 23, 24, 25, 26, 27, 28, 29, 30, 31, 32, 33, 34, 35, 36, 37, 38, 39, 40, 41, 42, 43, 44, 45, 46, 47, 48, 49, 50, 51, 52, 53, 54, 55, 56, 57, 58, 59, 60, 61, 62, 63, 64, 65, 66, 67, 68, 69, 70, 71, 72, 73, 74, 75, 76, 77, 78, 79, 80, 81, 82, 83, 84, 85, 86, 87, 88, 89, 90, 91, 92, 93, 94, 95, 96, 97, 98, 99, 100, 101, 102, 103, 104, 105, 106, 107, 108, 109, 110, 111, 112, 113, 114, 115, 116, 117, 118, 119, 120, 121, 122, 123, 124, 125, 126, 127, 128, 129, 130, 131] (by decide +kernel) (by decide +kernel)
set_option maxRecDepth 20000 in
theorem gX6_areSame_X6_showSame : GoodIn wsX6_areSame (wsV RX6 229 RX6 yX6_showSame wsX6_showSame) := goodIn_app (goodIn_of _ (by decide +kernel)) ggX6_areSame_X6_showSame
theorem dX6_areSame_0 : decode cX6_areSame 0 = .ok (.aload_n 0, 1) := by decide +kernel
theorem dX6_areSame_1 : decode cX6_areSame 1 = .ok (.iload_n 1, 1) := by decide +kernel
theorem dX6_areSame_2 : decode cX6_areSame 2 = .ok (.invokevirtual 78, 3) := by decide +kernel
theorem dX6_areSame_5 : decode cX6_areSame 5 = .ok (.ifCond .eq 11, 3) := by decide +kernel
theorem dX6_areSame_8 : decode cX6_areSame 8 = .ok (.aload_n 0, 1) := by decide +kernel
theorem dX6_areSame_9 : decode cX6_areSame 9 = .ok (.iload_n 2, 1) := by decide +kernel
theorem dX6_areSame_10 : decode cX6_areSame 10 = .ok (.invokevirtual 78, 3) := by decide +kernel
theorem dX6_areSame_13 : decode cX6_areSame 13 = .ok (.ifCond .ne 6, 3) := by decide +kernel
theorem dX6_areSame_16 : decode cX6_areSame 16 = .ok (.ldc 67, 2) := by decide +kernel
theorem dX6_areSame_18 : decode cX6_areSame 18 = .ok (.ireturn, 1) := by decide +kernel
theorem dX6_areSame_19 : decode cX6_areSame 19 = .ok (.aload_n 0, 1) := by decide +kernel
theorem dX6_areSame_20 : decode cX6_areSame 20 = .ok (.aload_n 0, 1) := by decide +kernel
theorem dX6_areSame_21 : decode cX6_areSame 21 = .ok (.getfield 28, 3) := by decide +kernel
theorem dX6_areSame_24 : decode cX6_areSame 24 = .ok (.iload_n 1, 1) := by decide +kernel
theorem dX6_areSame_25 : decode cX6_areSame 25 = .ok (.iload_n 2, 1) := by decide +kernel
theorem dX6_areSame_26 : decode cX6_areSame 26 = .ok (.invokevirtual 229, 3) := by decide +kernel
theorem dX6_areSame_29 : decode cX6_areSame 29 = .ok (.ifCond .eq 7, 3) := by decide +kernel
theorem dX6_areSame_32 : decode cX6_areSame 32 = .ok (.iconst 1, 1) := by decide +kernel
theorem dX6_areSame_33 : decode cX6_areSame 33 = .ok (.goto 4, 3) := by decide +kernel
theorem dX6_areSame_36 : decode cX6_areSame 36 = .ok (.iconst 0, 1) := by decide +kernel
theorem dX6_areSame_37 : decode cX6_areSame 37 = .ok (.ireturn, 1) := by decide +kernel
set_option maxRecDepth 20000 in
theorem ggX6_differing_X6_lookAhead : GoodIn wsX6_differing wsX6_lookAhead := goodIn_r _ [7, 2, 8, 1, 9, 10, 11, 12, 13, 14, 15, 16, 17, 18, 19, 20, 21, 22, 23, 24, 25, 26, 27, 28, 29, 30, 31, 32, 33, 34, 35, 36, 37, 38, 39, 40, 41, 42, 43, 44, 45, 129, 130, 131, 132, 133, 134, 135, 136, 137, 138, 139, 140, 141] (by decide +kernel) (by decide +kernel)
set_option maxRecDepth 20000 in
theorem gX6_differing_X6_lookAhead : GoodIn wsX6_differing (wsV RX6 233 RX6 yX6_lookAhead wsX6_lookAhead) := goodIn_app (goodIn_of _ (by decide +kernel)) ggX6_differing_X6_lookAhead
set_option maxRecDepth 20000 in
theorem ggX6_differing_X6_showSame : GoodIn wsX6_differing wsX6_showSame := goodIn_r _ [49, 50, 51, 52, 53, 54, 55, 56, 57, 58, 59, 60, 61, 62, 63, 64, 65, 66, 67, 68, 69, 19, 70, 21, 71, 17, 18, 20, 22, 23, 24, 25, 72, 73, 74, 75, 76, 77, 78, 79, 80, 13, 81, 15, 82, 83, 84, 85, 86, 87, 88, 89, 90, 91, 92, 93, 94, 95, 96, 97, 43, 44, 45, 98, 99, 100, 101, 102, 103, 104, 105, 106, 107, 108, 109, 110, 111, 112, 113, 114, 115, 116, 117, 118, 119, 120, 121, 122, 123, 124, 125, 126, 127, 128, 129, 130, 131, 132, 133, 134, 135, 136, 137, 142, 143, 144, 145, 146, 147, 148, 149, 150, 151, 152, 153, 139, 138] (by decide +kernel) (by decide +kernel)
set_option maxRecDepth 20000 in
theorem gX6_differing_X6_showSame : GoodIn wsX6_differing (wsV RX6 229 RX6 yX6_showSame wsX6_showSame) := goodIn_app (goodIn_of _ (by decide +kernel)) ggX6_differing_X6_showSame
theorem dX6_differing_0 : decode cX6_differing 0 = .ok (.aload_n 0, 1) := by decide +kernel
theorem dX6_differing_1 : decode cX6_differing 1 = .ok (.invokevirtual 233, 3) := by decide +kernel
theorem dX6_differing_4 : decode cX6_differing 4 = .ok (.iconst 0, 1) := by decide +kernel
theorem dX6_differing_5 : decode cX6_differing 5 = .ok (.istore_n 1, 1) := by decide +kernel
theorem dX6_differing_6 : decode cX6_differing 6 = .ok (.iconst 0, 1) := by decide +kernel
theorem dX6_differing_7 : decode cX6_differing 7 = .ok (.istore_n 2, 1) := by decide +kernel
theorem dX6_differing_8 : decode cX6_differing 8 = .ok (.iload_n 2, 1) := by decide +kernel
theorem dX6_differing_9 : decode cX6_differing 9 = .ok (.aload_n 0, 1) := by decide +kernel
theorem dX6_differing_10 : decode cX6_differing 10 = .ok (.getfield 59, 3) := by decide +kernel
theorem dX6_differing_13 : decode cX6_differing 13 = .ok (.if_icmp .ge 43, 3) := by decide +kernel
theorem dX6_differing_16 : decode cX6_differing 16 = .ok (.iload_n 2, 1) := by decide +kernel
theorem dX6_differing_17 : decode cX6_differing 17 = .ok (.iconst 1, 1) := by decide +kernel
theorem dX6_differing_18 : decode cX6_differing 18 = .ok (.iadd, 1) := by decide +kernel
theorem dX6_differing_19 : decode cX6_differing 19 = .ok (.istore_n 3, 1) := by decide +kernel
theorem dX6_differing_20 : decode cX6_differing 20 = .ok (.iload_n 3, 1) := by decide +kernel
theorem dX6_differing_21 : decode cX6_differing 21 = .ok (.aload_n 0, 1) := by decide +kernel
theorem dX6_differing_22 : decode cX6_differing 22 = .ok (.getfield 59, 3) := by decide +kernel
theorem dX6_differing_25 : decode cX6_differing 25 = .ok (.if_icmp .ge 25, 3) := by decide +kernel
theorem dX6_differing_28 : decode cX6_differing 28 = .ok (.aload_n 0, 1) := by decide +kernel
theorem dX6_differing_29 : decode cX6_differing 29 = .ok (.aload_n 0, 1) := by decide +kernel
theorem dX6_differing_30 : decode cX6_differing 30 = .ok (.getfield 32, 3) := by decide +kernel
theorem dX6_differing_33 : decode cX6_differing 33 = .ok (.iload_n 2, 1) := by decide +kernel
theorem dX6_differing_34 : decode cX6_differing 34 = .ok (.iload_n 3, 1) := by decide +kernel
theorem dX6_differing_35 : decode cX6_differing 35 = .ok (.invokevirtual 229, 3) := by decide +kernel
theorem dX6_differing_38 : decode cX6_differing 38 = .ok (.ifCond .ne 6, 3) := by decide +kernel
theorem dX6_differing_41 : decode cX6_differing 41 = .ok (.iinc 1 1, 3) := by decide +kernel
theorem dX6_differing_44 : decode cX6_differing 44 = .ok (.iinc 3 1, 3) := by decide +kernel
theorem dX6_differing_47 : decode cX6_differing 47 = .ok (.goto (-27), 3) := by decide +kernel
theorem dX6_differing_50 : decode cX6_differing 50 = .ok (.iinc 2 1, 3) := by decide +kernel
theorem dX6_differing_53 : decode cX6_differing 53 = .ok (.goto (-45), 3) := by decide +kernel
theorem dX6_differing_56 : decode cX6_differing 56 = .ok (.iload_n 1, 1) := by decide +kernel
theorem dX6_differing_57 : decode cX6_differing 57 = .ok (.ireturn, 1) := by decide +kernel
set_option maxRecDepth 20000 in
theorem ggX6_bestHelper_X6_isSite : GoodIn wsX6_bestHelper wsX6_isSite := goodIn_r _ [8, 3, 9, 10, 7, 11, 48, 49, 50, 51, 52, 53, 54, 55, 56] (by decide +kernel) (by decide +kernel)
set_option maxRecDepth 20000 in
theorem gX6_bestHelper_X6_isSite : GoodIn wsX6_bestHelper (wsV RX6 78 RX6 yX6_isSite wsX6_isSite) := goodIn_app (goodIn_of _ (by decide +kernel)) ggX6_bestHelper_X6_isSite
set_option maxRecDepth 20000 in
theorem ggX6_bestHelper_X6_repairable : GoodIn wsX6_bestHelper wsX6_repairable := goodIn_r _ [15, 16, 17, 18, 7, 19, 20, 21, 22, 23, 24, 25, 26, 27, 28, 29, 30, 31, 32, 33, 34, 35, 36, 37, 38, 39, 40, 41, 42, 43, 44, 45, 46, 47, 48, 49, 50, 51, 52, 53, 54, 55, 56, 57, 58] (by decide +kernel) (by decide +kernel)
set_option maxRecDepth 20000 in
theorem gX6_bestHelper_X6_repairable : GoodIn wsX6_bestHelper (wsV RX6 236 RX6 yX6_repairable wsX6_repairable) := goodIn_app (goodIn_of _ (by decide +kernel)) ggX6_bestHelper_X6_repairable
theorem dX6_bestHelper_0 : decode cX6_bestHelper 0 = .ok (.aload_n 0, 1) := by decide +kernel
theorem dX6_bestHelper_1 : decode cX6_bestHelper 1 = .ok (.iload_n 1, 1) := by decide +kernel
theorem dX6_bestHelper_2 : decode cX6_bestHelper 2 = .ok (.invokevirtual 78, 3) := by decide +kernel
theorem dX6_bestHelper_5 : decode cX6_bestHelper 5 = .ok (.ifCond .ne 6, 3) := by decide +kernel
theorem dX6_bestHelper_8 : decode cX6_bestHelper 8 = .ok (.ldc 67, 2) := by decide +kernel
theorem dX6_bestHelper_10 : decode cX6_bestHelper 10 = .ok (.ireturn, 1) := by decide +kernel
theorem dX6_bestHelper_11 : decode cX6_bestHelper 11 = .ok (.ldc 162, 2) := by decide +kernel
theorem dX6_bestHelper_13 : decode cX6_bestHelper 13 = .ok (.istore_n 2, 1) := by decide +kernel
theorem dX6_bestHelper_14 : decode cX6_bestHelper 14 = .ok (.iconst 0, 1) := by decide +kernel
theorem dX6_bestHelper_15 : decode cX6_bestHelper 15 = .ok (.istore_n 3, 1) := by decide +kernel
theorem dX6_bestHelper_16 : decode cX6_bestHelper 16 = .ok (.iconst 0, 1) := by decide +kernel
theorem dX6_bestHelper_17 : decode cX6_bestHelper 17 = .ok (.istore 4, 2) := by decide +kernel
theorem dX6_bestHelper_19 : decode cX6_bestHelper 19 = .ok (.iload 4, 2) := by decide +kernel
theorem dX6_bestHelper_21 : decode cX6_bestHelper 21 = .ok (.aload_n 0, 1) := by decide +kernel
theorem dX6_bestHelper_22 : decode cX6_bestHelper 22 = .ok (.getfield 59, 3) := by decide +kernel
theorem dX6_bestHelper_25 : decode cX6_bestHelper 25 = .ok (.if_icmp .ge 30, 3) := by decide +kernel
theorem dX6_bestHelper_28 : decode cX6_bestHelper 28 = .ok (.aload_n 0, 1) := by decide +kernel
theorem dX6_bestHelper_29 : decode cX6_bestHelper 29 = .ok (.iload_n 1, 1) := by decide +kernel
theorem dX6_bestHelper_30 : decode cX6_bestHelper 30 = .ok (.iload 4, 2) := by decide +kernel
theorem dX6_bestHelper_32 : decode cX6_bestHelper 32 = .ok (.invokevirtual 236, 3) := by decide +kernel
theorem dX6_bestHelper_35 : decode cX6_bestHelper 35 = .ok (.istore 5, 2) := by decide +kernel
theorem dX6_bestHelper_37 : decode cX6_bestHelper 37 = .ok (.iload 5, 2) := by decide +kernel
theorem dX6_bestHelper_39 : decode cX6_bestHelper 39 = .ok (.iload_n 3, 1) := by decide +kernel
theorem dX6_bestHelper_40 : decode cX6_bestHelper 40 = .ok (.if_icmp .le 9, 3) := by decide +kernel
theorem dX6_bestHelper_43 : decode cX6_bestHelper 43 = .ok (.iload 4, 2) := by decide +kernel
theorem dX6_bestHelper_45 : decode cX6_bestHelper 45 = .ok (.istore_n 2, 1) := by decide +kernel
theorem dX6_bestHelper_46 : decode cX6_bestHelper 46 = .ok (.iload 5, 2) := by decide +kernel
theorem dX6_bestHelper_48 : decode cX6_bestHelper 48 = .ok (.istore_n 3, 1) := by decide +kernel
theorem dX6_bestHelper_49 : decode cX6_bestHelper 49 = .ok (.iinc 4 1, 3) := by decide +kernel
theorem dX6_bestHelper_52 : decode cX6_bestHelper 52 = .ok (.goto (-33), 3) := by decide +kernel
theorem dX6_bestHelper_55 : decode cX6_bestHelper 55 = .ok (.iload_n 2, 1) := by decide +kernel
theorem dX6_bestHelper_56 : decode cX6_bestHelper 56 = .ok (.ireturn, 1) := by decide +kernel
set_option maxRecDepth 20000 in
theorem ggX6_endangered_X6_isSite : GoodIn wsX6_endangered wsX6_isSite := goodIn_r _ [8, 9, 10, 11, 7, 12, 48, 49, 50, 51, 52, 53, 54, 55, 56] (by decide +kernel) (by decide +kernel)
set_option maxRecDepth 20000 in
theorem gX6_endangered_X6_isSite : GoodIn wsX6_endangered (wsV RX6 78 RX6 yX6_isSite wsX6_isSite) := goodIn_app (goodIn_of _ (by decide +kernel)) ggX6_endangered_X6_isSite
set_option maxRecDepth 20000 in
theorem ggX6_endangered_X4_madeBy : GoodIn wsX6_endangered wsX4_madeBy := goodIn_r _ [17, 18, 19, 20, 21, 22, 23, 24, 57, 58, 59, 60, 61, 62, 63, 64, 65] (by decide +kernel) (by decide +kernel)
set_option maxRecDepth 20000 in
theorem gX6_endangered_X4_madeBy : GoodIn wsX6_endangered (wsV RX6 89 RX4 yX4_madeBy wsX4_madeBy) := goodIn_app (goodIn_of _ (by decide +kernel)) ggX6_endangered_X4_madeBy
set_option maxRecDepth 20000 in
theorem ggX6_endangered_X6_idOf : GoodIn wsX6_endangered wsX6_idOf := goodIn_r _ [27] (by decide +kernel) (by decide +kernel)
set_option maxRecDepth 20000 in
theorem gX6_endangered_X6_idOf : GoodIn wsX6_endangered (va_wsS RX6 178 yX6_idOf wsX6_idOf) := goodIn_app (goodIn_of _ (by decide +kernel)) ggX6_endangered_X6_idOf
set_option maxRecDepth 20000 in
theorem ggX6_endangered_X6_isKnownBeside : GoodIn wsX6_endangered wsX6_isKnownBeside := goodIn_r _ [31, 9, 32, 33, 34, 35, 36, 37, 38, 39, 20, 21, 22, 23, 24, 48, 49, 50, 51, 52, 53, 54, 55, 56, 66, 65] (by decide +kernel) (by decide +kernel)
set_option maxRecDepth 20000 in
theorem gX6_endangered_X6_isKnownBeside : GoodIn wsX6_endangered (wsV RX6 239 RX6 yX6_isKnownBeside wsX6_isKnownBeside) := goodIn_app (goodIn_of _ (by decide +kernel)) ggX6_endangered_X6_isKnownBeside
set_option maxRecDepth 20000 in
theorem ggX6_endangered_X3_carry : GoodIn wsX6_endangered wsX3_carry := goodIn_r _ [44, 45, 46, 47, 20, 21, 22, 23, 24, 67, 68, 65] (by decide +kernel) (by decide +kernel)
set_option maxRecDepth 20000 in
theorem gX6_endangered_X3_carry : GoodIn wsX6_endangered (wsV RX6 242 RX3 yX3_carry wsX3_carry) := goodIn_app (goodIn_of _ (by decide +kernel)) ggX6_endangered_X3_carry
theorem dX6_endangered_0 : decode cX6_endangered 0 = .ok (.aload_n 0, 1) := by decide +kernel
theorem dX6_endangered_1 : decode cX6_endangered 1 = .ok (.iload_n 1, 1) := by decide +kernel
theorem dX6_endangered_2 : decode cX6_endangered 2 = .ok (.invokevirtual 78, 3) := by decide +kernel
theorem dX6_endangered_5 : decode cX6_endangered 5 = .ok (.ifCond .ne 6, 3) := by decide +kernel
theorem dX6_endangered_8 : decode cX6_endangered 8 = .ok (.ldc 67, 2) := by decide +kernel
theorem dX6_endangered_10 : decode cX6_endangered 10 = .ok (.ireturn, 1) := by decide +kernel
theorem dX6_endangered_11 : decode cX6_endangered 11 = .ok (.iconst 0, 1) := by decide +kernel
theorem dX6_endangered_12 : decode cX6_endangered 12 = .ok (.istore_n 2, 1) := by decide +kernel
theorem dX6_endangered_13 : decode cX6_endangered 13 = .ok (.iconst 1, 1) := by decide +kernel
theorem dX6_endangered_14 : decode cX6_endangered 14 = .ok (.istore_n 3, 1) := by decide +kernel
theorem dX6_endangered_15 : decode cX6_endangered 15 = .ok (.iload_n 3, 1) := by decide +kernel
theorem dX6_endangered_16 : decode cX6_endangered 16 = .ok (.aload_n 0, 1) := by decide +kernel
theorem dX6_endangered_17 : decode cX6_endangered 17 = .ok (.getfield 12, 3) := by decide +kernel
theorem dX6_endangered_20 : decode cX6_endangered 20 = .ok (.iload_n 1, 1) := by decide +kernel
theorem dX6_endangered_21 : decode cX6_endangered 21 = .ok (.invokevirtual 89, 3) := by decide +kernel
theorem dX6_endangered_24 : decode cX6_endangered 24 = .ok (.if_icmp .gt 41, 3) := by decide +kernel
theorem dX6_endangered_27 : decode cX6_endangered 27 = .ok (.iload_n 1, 1) := by decide +kernel
theorem dX6_endangered_28 : decode cX6_endangered 28 = .ok (.iload_n 3, 1) := by decide +kernel
theorem dX6_endangered_29 : decode cX6_endangered 29 = .ok (.invokestatic 178, 3) := by decide +kernel
theorem dX6_endangered_32 : decode cX6_endangered 32 = .ok (.istore 4, 2) := by decide +kernel
theorem dX6_endangered_34 : decode cX6_endangered 34 = .ok (.aload_n 0, 1) := by decide +kernel
theorem dX6_endangered_35 : decode cX6_endangered 35 = .ok (.iload_n 1, 1) := by decide +kernel
theorem dX6_endangered_36 : decode cX6_endangered 36 = .ok (.iload 4, 2) := by decide +kernel
theorem dX6_endangered_38 : decode cX6_endangered 38 = .ok (.invokevirtual 239, 3) := by decide +kernel
theorem dX6_endangered_41 : decode cX6_endangered 41 = .ok (.ifCond .ne 18, 3) := by decide +kernel
theorem dX6_endangered_44 : decode cX6_endangered 44 = .ok (.aload_n 0, 1) := by decide +kernel
theorem dX6_endangered_45 : decode cX6_endangered 45 = .ok (.getfield 38, 3) := by decide +kernel
theorem dX6_endangered_48 : decode cX6_endangered 48 = .ok (.iload 4, 2) := by decide +kernel
theorem dX6_endangered_50 : decode cX6_endangered 50 = .ok (.invokevirtual 242, 3) := by decide +kernel
theorem dX6_endangered_53 : decode cX6_endangered 53 = .ok (.ifCond .ne 6, 3) := by decide +kernel
theorem dX6_endangered_56 : decode cX6_endangered 56 = .ok (.iinc 2 1, 3) := by decide +kernel
theorem dX6_endangered_59 : decode cX6_endangered 59 = .ok (.iinc 3 1, 3) := by decide +kernel
theorem dX6_endangered_62 : decode cX6_endangered 62 = .ok (.goto (-47), 3) := by decide +kernel
theorem dX6_endangered_65 : decode cX6_endangered 65 = .ok (.iload_n 2, 1) := by decide +kernel
theorem dX6_endangered_66 : decode cX6_endangered 66 = .ok (.ireturn, 1) := by decide +kernel
theorem dX6_isWithin_0 : decode cX6_isWithin 0 = .ok (.iload_n 0, 1) := by decide +kernel
theorem dX6_isWithin_1 : decode cX6_isWithin 1 = .ok (.iload_n 1, 1) := by decide +kernel
theorem dX6_isWithin_2 : decode cX6_isWithin 2 = .ok (.if_icmp .lt 12, 3) := by decide +kernel
theorem dX6_isWithin_5 : decode cX6_isWithin 5 = .ok (.iload_n 0, 1) := by decide +kernel
theorem dX6_isWithin_6 : decode cX6_isWithin 6 = .ok (.iload_n 2, 1) := by decide +kernel
theorem dX6_isWithin_7 : decode cX6_isWithin 7 = .ok (.if_icmp .gt 7, 3) := by decide +kernel
theorem dX6_isWithin_10 : decode cX6_isWithin 10 = .ok (.iconst 1, 1) := by decide +kernel
theorem dX6_isWithin_11 : decode cX6_isWithin 11 = .ok (.goto 4, 3) := by decide +kernel
theorem dX6_isWithin_14 : decode cX6_isWithin 14 = .ok (.iconst 0, 1) := by decide +kernel
theorem dX6_isWithin_15 : decode cX6_isWithin 15 = .ok (.ireturn, 1) := by decide +kernel
set_option maxRecDepth 20000 in
theorem ggX6_isSite_X6_isWithin : GoodIn wsX6_isSite wsX6_isWithin := goodIn_r _ [5] (by decide +kernel) (by decide +kernel)
set_option maxRecDepth 20000 in
theorem gX6_isSite_X6_isWithin : GoodIn wsX6_isSite (va_wsS RX6 63 yX6_isWithin wsX6_isWithin) := goodIn_app (goodIn_of _ (by decide +kernel)) ggX6_isSite_X6_isWithin
theorem dX6_isSite_0 : decode cX6_isSite 0 = .ok (.iload_n 1, 1) := by decide +kernel
theorem dX6_isSite_1 : decode cX6_isSite 1 = .ok (.iconst 0, 1) := by decide +kernel
theorem dX6_isSite_2 : decode cX6_isSite 2 = .ok (.aload_n 0, 1) := by decide +kernel
theorem dX6_isSite_3 : decode cX6_isSite 3 = .ok (.getfield 59, 3) := by decide +kernel
theorem dX6_isSite_6 : decode cX6_isSite 6 = .ok (.iconst 1, 1) := by decide +kernel
theorem dX6_isSite_7 : decode cX6_isSite 7 = .ok (.isub, 1) := by decide +kernel
theorem dX6_isSite_8 : decode cX6_isSite 8 = .ok (.invokestatic 63, 3) := by decide +kernel
theorem dX6_isSite_11 : decode cX6_isSite 11 = .ok (.ireturn, 1) := by decide +kernel
set_option maxRecDepth 20000 in
theorem ggX6_areTwoSites_X6_isSite : GoodIn wsX6_areTwoSites wsX6_isSite := goodIn_r _ [5, 6, 7, 8, 4, 9, 10, 11, 12, 13, 14, 15, 16, 17, 18] (by decide +kernel) (by decide +kernel)
set_option maxRecDepth 20000 in
theorem gX6_areTwoSites_X6_isSite : GoodIn wsX6_areTwoSites (wsV RX6 78 RX6 yX6_isSite wsX6_isSite) := goodIn_app (goodIn_of _ (by decide +kernel)) ggX6_areTwoSites_X6_isSite
theorem dX6_areTwoSites_0 : decode cX6_areTwoSites 0 = .ok (.aload_n 0, 1) := by decide +kernel
theorem dX6_areTwoSites_1 : decode cX6_areTwoSites 1 = .ok (.iload_n 1, 1) := by decide +kernel
theorem dX6_areTwoSites_2 : decode cX6_areTwoSites 2 = .ok (.invokevirtual 78, 3) := by decide +kernel
theorem dX6_areTwoSites_5 : decode cX6_areTwoSites 5 = .ok (.ifCond .eq 20, 3) := by decide +kernel
theorem dX6_areTwoSites_8 : decode cX6_areTwoSites 8 = .ok (.aload_n 0, 1) := by decide +kernel
theorem dX6_areTwoSites_9 : decode cX6_areTwoSites 9 = .ok (.iload_n 2, 1) := by decide +kernel
theorem dX6_areTwoSites_10 : decode cX6_areTwoSites 10 = .ok (.invokevirtual 78, 3) := by decide +kernel
theorem dX6_areTwoSites_13 : decode cX6_areTwoSites 13 = .ok (.ifCond .eq 12, 3) := by decide +kernel
theorem dX6_areTwoSites_16 : decode cX6_areTwoSites 16 = .ok (.iload_n 1, 1) := by decide +kernel
theorem dX6_areTwoSites_17 : decode cX6_areTwoSites 17 = .ok (.iload_n 2, 1) := by decide +kernel
theorem dX6_areTwoSites_18 : decode cX6_areTwoSites 18 = .ok (.if_icmp .eq 7, 3) := by decide +kernel
theorem dX6_areTwoSites_21 : decode cX6_areTwoSites 21 = .ok (.iconst 1, 1) := by decide +kernel
theorem dX6_areTwoSites_22 : decode cX6_areTwoSites 22 = .ok (.goto 4, 3) := by decide +kernel
theorem dX6_areTwoSites_25 : decode cX6_areTwoSites 25 = .ok (.iconst 0, 1) := by decide +kernel
theorem dX6_areTwoSites_26 : decode cX6_areTwoSites 26 = .ok (.ireturn, 1) := by decide +kernel
set_option maxRecDepth 20000 in
theorem ggX6_hasMadeAll_X4_madeBy : GoodIn wsX6_hasMadeAll wsX4_madeBy := goodIn_r _ [6, 7, 8, 9, 10, 11, 12, 13, 23, 24, 25, 26, 27, 28, 29, 30, 31] (by decide +kernel) (by decide +kernel)
set_option maxRecDepth 20000 in
theorem gX6_hasMadeAll_X4_madeBy : GoodIn wsX6_hasMadeAll (wsV RX6 89 RX4 yX4_madeBy wsX4_madeBy) := goodIn_app (goodIn_of _ (by decide +kernel)) ggX6_hasMadeAll_X4_madeBy
theorem dX6_hasMadeAll_0 : decode cX6_hasMadeAll 0 = .ok (.aload_n 0, 1) := by decide +kernel
theorem dX6_hasMadeAll_1 : decode cX6_hasMadeAll 1 = .ok (.getfield 12, 3) := by decide +kernel
theorem dX6_hasMadeAll_4 : decode cX6_hasMadeAll 4 = .ok (.iload_n 1, 1) := by decide +kernel
theorem dX6_hasMadeAll_5 : decode cX6_hasMadeAll 5 = .ok (.invokevirtual 89, 3) := by decide +kernel
theorem dX6_hasMadeAll_8 : decode cX6_hasMadeAll 8 = .ok (.bipush 20, 2) := by decide +kernel
theorem dX6_hasMadeAll_10 : decode cX6_hasMadeAll 10 = .ok (.if_icmp .lt 7, 3) := by decide +kernel
theorem dX6_hasMadeAll_13 : decode cX6_hasMadeAll 13 = .ok (.iconst 1, 1) := by decide +kernel
theorem dX6_hasMadeAll_14 : decode cX6_hasMadeAll 14 = .ok (.goto 4, 3) := by decide +kernel
theorem dX6_hasMadeAll_17 : decode cX6_hasMadeAll 17 = .ok (.iconst 0, 1) := by decide +kernel
theorem dX6_hasMadeAll_18 : decode cX6_hasMadeAll 18 = .ok (.ireturn, 1) := by decide +kernel
theorem dX6_idOf_0 : decode cX6_idOf 0 = .ok (.iload_n 0, 1) := by decide +kernel
theorem dX6_idOf_1 : decode cX6_idOf 1 = .ok (.bipush 20, 2) := by decide +kernel
theorem dX6_idOf_3 : decode cX6_idOf 3 = .ok (.imul, 1) := by decide +kernel
theorem dX6_idOf_4 : decode cX6_idOf 4 = .ok (.iload_n 1, 1) := by decide +kernel
theorem dX6_idOf_5 : decode cX6_idOf 5 = .ok (.iadd, 1) := by decide +kernel
theorem dX6_idOf_6 : decode cX6_idOf 6 = .ok (.iconst 1, 1) := by decide +kernel
theorem dX6_idOf_7 : decode cX6_idOf 7 = .ok (.isub, 1) := by decide +kernel
theorem dX6_idOf_8 : decode cX6_idOf 8 = .ok (.ireturn, 1) := by decide +kernel
theorem dX6_authorOf_0 : decode cX6_authorOf 0 = .ok (.iload_n 0, 1) := by decide +kernel
theorem dX6_authorOf_1 : decode cX6_authorOf 1 = .ok (.bipush 20, 2) := by decide +kernel
theorem dX6_authorOf_3 : decode cX6_authorOf 3 = .ok (.idiv, 1) := by decide +kernel
theorem dX6_authorOf_4 : decode cX6_authorOf 4 = .ok (.ireturn, 1) := by decide +kernel
theorem dX6_numberOf_0 : decode cX6_numberOf 0 = .ok (.iload_n 0, 1) := by decide +kernel
theorem dX6_numberOf_1 : decode cX6_numberOf 1 = .ok (.bipush 20, 2) := by decide +kernel
theorem dX6_numberOf_3 : decode cX6_numberOf 3 = .ok (.irem, 1) := by decide +kernel
theorem dX6_numberOf_4 : decode cX6_numberOf 4 = .ok (.iconst 1, 1) := by decide +kernel
theorem dX6_numberOf_5 : decode cX6_numberOf 5 = .ok (.iadd, 1) := by decide +kernel
theorem dX6_numberOf_6 : decode cX6_numberOf 6 = .ok (.ireturn, 1) := by decide +kernel
set_option maxRecDepth 20000 in
theorem ggX6_tick_X5_get : GoodIn wsX6_tick wsX5_get := goodIn_r _ [6, 7, 21] (by decide +kernel) (by decide +kernel)
set_option maxRecDepth 20000 in
theorem gX6_tick_X5_get : GoodIn wsX6_tick (wsV RX6 82 RX5 yX5_get wsX5_get) := goodIn_app (goodIn_of _ (by decide +kernel)) ggX6_tick_X5_get
set_option maxRecDepth 20000 in
theorem ggX6_tick_X5_set : GoodIn wsX6_tick wsX5_set := goodIn_r _ [11, 7, 21] (by decide +kernel) (by decide +kernel)
set_option maxRecDepth 20000 in
theorem gX6_tick_X5_set : GoodIn wsX6_tick (wsV RX6 195 RX5 yX5_set wsX5_set) := goodIn_app (goodIn_of _ (by decide +kernel)) ggX6_tick_X5_set
theorem dX6_tick_0 : decode cX6_tick 0 = .ok (.aload_n 0, 1) := by decide +kernel
theorem dX6_tick_1 : decode cX6_tick 1 = .ok (.getfield 55, 3) := by decide +kernel
theorem dX6_tick_4 : decode cX6_tick 4 = .ok (.iload_n 1, 1) := by decide +kernel
theorem dX6_tick_5 : decode cX6_tick 5 = .ok (.aload_n 0, 1) := by decide +kernel
theorem dX6_tick_6 : decode cX6_tick 6 = .ok (.getfield 55, 3) := by decide +kernel
theorem dX6_tick_9 : decode cX6_tick 9 = .ok (.iload_n 1, 1) := by decide +kernel
theorem dX6_tick_10 : decode cX6_tick 10 = .ok (.invokevirtual 82, 3) := by decide +kernel
theorem dX6_tick_13 : decode cX6_tick 13 = .ok (.iconst 1, 1) := by decide +kernel
theorem dX6_tick_14 : decode cX6_tick 14 = .ok (.iadd, 1) := by decide +kernel
theorem dX6_tick_15 : decode cX6_tick 15 = .ok (.invokevirtual 195, 3) := by decide +kernel
theorem dX6_tick_18 : decode cX6_tick 18 = .ok (.aload_n 0, 1) := by decide +kernel
theorem dX6_tick_19 : decode cX6_tick 19 = .ok (.getfield 55, 3) := by decide +kernel
theorem dX6_tick_22 : decode cX6_tick 22 = .ok (.iload_n 1, 1) := by decide +kernel
theorem dX6_tick_23 : decode cX6_tick 23 = .ok (.invokevirtual 82, 3) := by decide +kernel
theorem dX6_tick_26 : decode cX6_tick 26 = .ok (.ireturn, 1) := by decide +kernel
set_option maxRecDepth 20000 in
theorem ggX6_publish_X2_learn : GoodIn wsX6_publish wsX2_learn := goodIn_r _ [8, 9, 10, 11, 12, 13, 14, 15, 37, 38] (by decide +kernel) (by decide +kernel)
set_option maxRecDepth 20000 in
theorem gX6_publish_X2_learn : GoodIn wsX6_publish (wsV RX6 245 RX2 yX2_learn wsX2_learn) := goodIn_app (goodIn_of _ (by decide +kernel)) ggX6_publish_X2_learn
set_option maxRecDepth 20000 in
theorem ggX6_publish_X3_send : GoodIn wsX6_publish wsX3_send := goodIn_r _ [20, 21, 22, 23, 24, 25, 13, 26, 15, 27, 11, 12, 14, 39, 40, 38] (by decide +kernel) (by decide +kernel)
set_option maxRecDepth 20000 in
theorem gX6_publish_X3_send : GoodIn wsX6_publish (wsV RX6 248 RX3 yX3_send wsX3_send) := goodIn_app (goodIn_of _ (by decide +kernel)) ggX6_publish_X3_send
theorem dX6_publish_0 : decode cX6_publish 0 = .ok (.aload_n 0, 1) := by decide +kernel
theorem dX6_publish_1 : decode cX6_publish 1 = .ok (.getfield 28, 3) := by decide +kernel
theorem dX6_publish_4 : decode cX6_publish 4 = .ok (.iload_n 1, 1) := by decide +kernel
theorem dX6_publish_5 : decode cX6_publish 5 = .ok (.iload_n 2, 1) := by decide +kernel
theorem dX6_publish_6 : decode cX6_publish 6 = .ok (.invokevirtual 245, 3) := by decide +kernel
theorem dX6_publish_9 : decode cX6_publish 9 = .ok (.iconst 0, 1) := by decide +kernel
theorem dX6_publish_10 : decode cX6_publish 10 = .ok (.istore_n 3, 1) := by decide +kernel
theorem dX6_publish_11 : decode cX6_publish 11 = .ok (.iload_n 3, 1) := by decide +kernel
theorem dX6_publish_12 : decode cX6_publish 12 = .ok (.aload_n 0, 1) := by decide +kernel
theorem dX6_publish_13 : decode cX6_publish 13 = .ok (.getfield 59, 3) := by decide +kernel
theorem dX6_publish_16 : decode cX6_publish 16 = .ok (.if_icmp .ge 24, 3) := by decide +kernel
theorem dX6_publish_19 : decode cX6_publish 19 = .ok (.iload_n 3, 1) := by decide +kernel
theorem dX6_publish_20 : decode cX6_publish 20 = .ok (.iload_n 1, 1) := by decide +kernel
theorem dX6_publish_21 : decode cX6_publish 21 = .ok (.if_icmp .eq 13, 3) := by decide +kernel
theorem dX6_publish_24 : decode cX6_publish 24 = .ok (.aload_n 0, 1) := by decide +kernel
theorem dX6_publish_25 : decode cX6_publish 25 = .ok (.getfield 38, 3) := by decide +kernel
theorem dX6_publish_28 : decode cX6_publish 28 = .ok (.iload_n 1, 1) := by decide +kernel
theorem dX6_publish_29 : decode cX6_publish 29 = .ok (.iload_n 3, 1) := by decide +kernel
theorem dX6_publish_30 : decode cX6_publish 30 = .ok (.iload_n 2, 1) := by decide +kernel
theorem dX6_publish_31 : decode cX6_publish 31 = .ok (.invokevirtual 248, 3) := by decide +kernel
theorem dX6_publish_34 : decode cX6_publish 34 = .ok (.iinc 3 1, 3) := by decide +kernel
theorem dX6_publish_37 : decode cX6_publish 37 = .ok (.goto (-26), 3) := by decide +kernel
theorem dX6_publish_40 : decode cX6_publish 40 = .ok (.return_, 1) := by decide +kernel
set_option maxRecDepth 20000 in
theorem ggX6_receive_X2_learn : GoodIn wsX6_receive wsX2_learn := goodIn_r _ [12, 13, 14, 15, 16, 17, 18, 19, 41, 42] (by decide +kernel) (by decide +kernel)
set_option maxRecDepth 20000 in
theorem gX6_receive_X2_learn : GoodIn wsX6_receive (wsV RX6 245 RX2 yX2_learn wsX2_learn) := goodIn_app (goodIn_of _ (by decide +kernel)) ggX6_receive_X2_learn
set_option maxRecDepth 20000 in
theorem ggX6_receive_X5_get : GoodIn wsX6_receive wsX5_get := goodIn_r _ [23, 19, 42] (by decide +kernel) (by decide +kernel)
set_option maxRecDepth 20000 in
theorem gX6_receive_X5_get : GoodIn wsX6_receive (wsV RX6 82 RX5 yX5_get wsX5_get) := goodIn_app (goodIn_of _ (by decide +kernel)) ggX6_receive_X5_get
set_option maxRecDepth 20000 in
theorem ggX6_receive_X4_timeOf : GoodIn wsX6_receive wsX4_timeOf := goodIn_r _ [28, 29, 30, 21, 22, 17, 23, 19, 43, 44, 45, 46, 47, 48, 49, 50, 42] (by decide +kernel) (by decide +kernel)
set_option maxRecDepth 20000 in
theorem gX6_receive_X4_timeOf : GoodIn wsX6_receive (wsV RX6 201 RX4 yX4_timeOf wsX4_timeOf) := goodIn_app (goodIn_of _ (by decide +kernel)) ggX6_receive_X4_timeOf
set_option maxRecDepth 20000 in
theorem ggX6_receive_X5_set : GoodIn wsX6_receive wsX5_set := goodIn_r _ [18, 19, 42] (by decide +kernel) (by decide +kernel)
set_option maxRecDepth 20000 in
theorem gX6_receive_X5_set : GoodIn wsX6_receive (wsV RX6 195 RX5 yX5_set wsX5_set) := goodIn_app (goodIn_of _ (by decide +kernel)) ggX6_receive_X5_set
theorem dX6_receive_0 : decode cX6_receive 0 = .ok (.aload_n 0, 1) := by decide +kernel
theorem dX6_receive_1 : decode cX6_receive 1 = .ok (.getfield 28, 3) := by decide +kernel
theorem dX6_receive_4 : decode cX6_receive 4 = .ok (.iload_n 1, 1) := by decide +kernel
theorem dX6_receive_5 : decode cX6_receive 5 = .ok (.iload_n 2, 1) := by decide +kernel
theorem dX6_receive_6 : decode cX6_receive 6 = .ok (.invokevirtual 245, 3) := by decide +kernel
theorem dX6_receive_9 : decode cX6_receive 9 = .ok (.aload_n 0, 1) := by decide +kernel
theorem dX6_receive_10 : decode cX6_receive 10 = .ok (.getfield 55, 3) := by decide +kernel
theorem dX6_receive_13 : decode cX6_receive 13 = .ok (.iload_n 1, 1) := by decide +kernel
theorem dX6_receive_14 : decode cX6_receive 14 = .ok (.aload_n 0, 1) := by decide +kernel
theorem dX6_receive_15 : decode cX6_receive 15 = .ok (.getfield 55, 3) := by decide +kernel
theorem dX6_receive_18 : decode cX6_receive 18 = .ok (.iload_n 1, 1) := by decide +kernel
theorem dX6_receive_19 : decode cX6_receive 19 = .ok (.invokevirtual 82, 3) := by decide +kernel
theorem dX6_receive_22 : decode cX6_receive 22 = .ok (.aload_n 0, 1) := by decide +kernel
theorem dX6_receive_23 : decode cX6_receive 23 = .ok (.getfield 12, 3) := by decide +kernel
theorem dX6_receive_26 : decode cX6_receive 26 = .ok (.iload_n 2, 1) := by decide +kernel
theorem dX6_receive_27 : decode cX6_receive 27 = .ok (.invokevirtual 201, 3) := by decide +kernel
theorem dX6_receive_30 : decode cX6_receive 30 = .ok (.invokestatic 190, 3) := by decide +kernel
theorem dX6_receive_33 : decode cX6_receive 33 = .ok (.invokevirtual 195, 3) := by decide +kernel
theorem dX6_receive_36 : decode cX6_receive 36 = .ok (.return_, 1) := by decide +kernel
set_option maxRecDepth 20000 in
theorem ggX6_changeOwn_X6_hasMadeAll : GoodIn wsX6_changeOwn wsX6_hasMadeAll := goodIn_r _ [8, 3, 9, 10, 11, 12, 13, 14, 15, 16, 17, 18, 19, 20, 88, 89, 90, 91, 92, 93, 94, 95, 96, 97, 98, 99, 100, 101, 102, 103, 104, 105] (by decide +kernel) (by decide +kernel)
set_option maxRecDepth 20000 in
theorem gX6_changeOwn_X6_hasMadeAll : GoodIn wsX6_changeOwn (wsV RX6 118 RX6 yX6_hasMadeAll wsX6_hasMadeAll) := goodIn_app (goodIn_of _ (by decide +kernel)) ggX6_changeOwn_X6_hasMadeAll
set_option maxRecDepth 20000 in
theorem ggX6_changeOwn_X6_tick : GoodIn wsX6_changeOwn wsX6_tick := goodIn_r _ [24, 25, 26, 16, 17, 18, 19, 20, 27, 28, 29, 30, 88, 89, 90, 91, 92, 93, 94, 95, 96, 105] (by decide +kernel) (by decide +kernel)
set_option maxRecDepth 20000 in
theorem gX6_changeOwn_X6_tick : GoodIn wsX6_changeOwn (wsV RX6 121 RX6 yX6_tick wsX6_tick) := goodIn_app (goodIn_of _ (by decide +kernel)) ggX6_changeOwn_X6_tick
set_option maxRecDepth 20000 in
theorem ggX6_changeOwn_X4_addChange : GoodIn wsX6_changeOwn wsX4_addChange := goodIn_r _ [34, 35, 36, 37, 38, 39, 12, 40, 14, 41, 42, 15, 16, 17, 18, 19, 20, 43, 7, 44, 45, 28, 29, 30, 46, 47, 48, 49, 50, 51, 52, 53, 54, 55, 56, 57, 58, 59, 60, 61, 97, 98, 99, 100, 101, 102, 103, 104, 105] (by decide +kernel) (by decide +kernel)
set_option maxRecDepth 20000 in
theorem gX6_changeOwn_X4_addChange : GoodIn wsX6_changeOwn (wsV RX6 151 RX4 yX4_addChange wsX4_addChange) := goodIn_app (goodIn_of _ (by decide +kernel)) ggX6_changeOwn_X4_addChange
set_option maxRecDepth 20000 in
theorem ggX6_changeOwn_X6_publish : GoodIn wsX6_changeOwn wsX6_publish := goodIn_r _ [65, 66, 67, 68, 69, 70, 71, 72, 73, 74, 75, 28, 29, 18, 30, 20, 76, 77, 78, 79, 80, 81, 82, 83, 16, 17, 19, 84, 88, 89, 90, 91, 92, 93, 94, 95, 96, 106, 105, 107, 108] (by decide +kernel) (by decide +kernel)
set_option maxRecDepth 20000 in
theorem gX6_changeOwn_X6_publish : GoodIn wsX6_changeOwn (wsV RX6 131 RX6 yX6_publish wsX6_publish) := goodIn_app (goodIn_of _ (by decide +kernel)) ggX6_changeOwn_X6_publish
set_option maxRecDepth 20000 in
theorem ggX6_changeOwn_X6_numberOf : GoodIn wsX6_changeOwn wsX6_numberOf := goodIn_r _ [87] (by decide +kernel) (by decide +kernel)
set_option maxRecDepth 20000 in
theorem gX6_changeOwn_X6_numberOf : GoodIn wsX6_changeOwn (va_wsS RX6 135 yX6_numberOf wsX6_numberOf) := goodIn_app (goodIn_of _ (by decide +kernel)) ggX6_changeOwn_X6_numberOf
theorem dX6_changeOwn_0 : decode cX6_changeOwn 0 = .ok (.iload_n 3, 1) := by decide +kernel
theorem dX6_changeOwn_1 : decode cX6_changeOwn 1 = .ok (.iconst (-1), 1) := by decide +kernel
theorem dX6_changeOwn_2 : decode cX6_changeOwn 2 = .ok (.if_icmp .ne 6, 3) := by decide +kernel
theorem dX6_changeOwn_5 : decode cX6_changeOwn 5 = .ok (.ldc 110, 2) := by decide +kernel
theorem dX6_changeOwn_7 : decode cX6_changeOwn 7 = .ok (.ireturn, 1) := by decide +kernel
theorem dX6_changeOwn_8 : decode cX6_changeOwn 8 = .ok (.aload_n 0, 1) := by decide +kernel
theorem dX6_changeOwn_9 : decode cX6_changeOwn 9 = .ok (.iload_n 1, 1) := by decide +kernel
theorem dX6_changeOwn_10 : decode cX6_changeOwn 10 = .ok (.invokevirtual 118, 3) := by decide +kernel
theorem dX6_changeOwn_13 : decode cX6_changeOwn 13 = .ok (.ifCond .eq 6, 3) := by decide +kernel
theorem dX6_changeOwn_16 : decode cX6_changeOwn 16 = .ok (.ldc 77, 2) := by decide +kernel
theorem dX6_changeOwn_18 : decode cX6_changeOwn 18 = .ok (.ireturn, 1) := by decide +kernel
theorem dX6_changeOwn_19 : decode cX6_changeOwn 19 = .ok (.aload_n 0, 1) := by decide +kernel
theorem dX6_changeOwn_20 : decode cX6_changeOwn 20 = .ok (.iload_n 1, 1) := by decide +kernel
theorem dX6_changeOwn_21 : decode cX6_changeOwn 21 = .ok (.aload_n 0, 1) := by decide +kernel
theorem dX6_changeOwn_22 : decode cX6_changeOwn 22 = .ok (.getfield 12, 3) := by decide +kernel
theorem dX6_changeOwn_25 : decode cX6_changeOwn 25 = .ok (.iload_n 1, 1) := by decide +kernel
theorem dX6_changeOwn_26 : decode cX6_changeOwn 26 = .ok (.aload_n 0, 1) := by decide +kernel
theorem dX6_changeOwn_27 : decode cX6_changeOwn 27 = .ok (.iload_n 1, 1) := by decide +kernel
theorem dX6_changeOwn_28 : decode cX6_changeOwn 28 = .ok (.invokevirtual 121, 3) := by decide +kernel
theorem dX6_changeOwn_31 : decode cX6_changeOwn 31 = .ok (.iload_n 2, 1) := by decide +kernel
theorem dX6_changeOwn_32 : decode cX6_changeOwn 32 = .ok (.iload_n 3, 1) := by decide +kernel
theorem dX6_changeOwn_33 : decode cX6_changeOwn 33 = .ok (.iconst (-1), 1) := by decide +kernel
theorem dX6_changeOwn_34 : decode cX6_changeOwn 34 = .ok (.invokevirtual 151, 3) := by decide +kernel
theorem dX6_changeOwn_37 : decode cX6_changeOwn 37 = .ok (.invokevirtual 131, 3) := by decide +kernel
theorem dX6_changeOwn_40 : decode cX6_changeOwn 40 = .ok (.iload_n 3, 1) := by decide +kernel
theorem dX6_changeOwn_41 : decode cX6_changeOwn 41 = .ok (.invokestatic 135, 3) := by decide +kernel
theorem dX6_changeOwn_44 : decode cX6_changeOwn 44 = .ok (.ireturn, 1) := by decide +kernel
set_option maxRecDepth 20000 in
theorem ggX6_lastVisibleOwn_X0_show : GoodIn wsX6_lastVisibleOwn wsX0_show := goodIn_r _ [8, 9, 10, 11, 12, 13, 14, 15, 16, 17, 18, 19, 20, 21, 22, 23, 24, 25, 26, 27, 28, 29, 30, 31, 32, 33, 34, 35, 36, 37, 38, 39, 40, 41, 42, 43, 44, 45, 46, 47, 7, 48, 49, 50, 51, 52, 53, 54, 55, 56, 57, 58, 59, 60, 61, 62, 63, 64, 65, 66, 67, 68, 69, 70, 71, 72, 73, 74, 75, 76, 77, 78, 79, 80, 81, 102, 103, 104, 105, 106, 107, 108, 109, 110, 111, 112, 113, 114, 115] (by decide +kernel) (by decide +kernel)
set_option maxRecDepth 20000 in
theorem gX6_lastVisibleOwn_X0_show : GoodIn wsX6_lastVisibleOwn (wsV RX6 92 RX0 yX0_show wsX0_show) := goodIn_app (goodIn_of _ (by decide +kernel)) ggX6_lastVisibleOwn_X0_show
set_option maxRecDepth 20000 in
theorem ggX6_lastVisibleOwn_X4_madeBy : GoodIn wsX6_lastVisibleOwn wsX4_madeBy := goodIn_r _ [85, 86, 37, 29, 30, 21, 31, 23, 106, 107, 108, 109, 110, 111, 112, 113, 114] (by decide +kernel) (by decide +kernel)
set_option maxRecDepth 20000 in
theorem gX6_lastVisibleOwn_X4_madeBy : GoodIn wsX6_lastVisibleOwn (wsV RX6 89 RX4 yX4_madeBy wsX4_madeBy) := goodIn_app (goodIn_of _ (by decide +kernel)) ggX6_lastVisibleOwn_X4_madeBy
set_option maxRecDepth 20000 in
theorem ggX6_lastVisibleOwn_X6_idOf : GoodIn wsX6_lastVisibleOwn wsX6_idOf := goodIn_r _ [90] (by decide +kernel) (by decide +kernel)
set_option maxRecDepth 20000 in
theorem gX6_lastVisibleOwn_X6_idOf : GoodIn wsX6_lastVisibleOwn (va_wsS RX6 178 yX6_idOf wsX6_idOf) := goodIn_app (goodIn_of _ (by decide +kernel)) ggX6_lastVisibleOwn_X6_idOf
set_option maxRecDepth 20000 in
theorem ggX6_lastVisibleOwn_X4_isStroke : GoodIn wsX6_lastVisibleOwn wsX4_isStroke := goodIn_r _ [76, 58, 37, 29, 30, 21, 31, 23, 106, 107, 108, 109, 110, 111, 112, 113, 114] (by decide +kernel) (by decide +kernel)
set_option maxRecDepth 20000 in
theorem gX6_lastVisibleOwn_X4_isStroke : GoodIn wsX6_lastVisibleOwn (wsV RX6 204 RX4 yX4_isStroke wsX4_isStroke) := goodIn_app (goodIn_of _ (by decide +kernel)) ggX6_lastVisibleOwn_X4_isStroke
set_option maxRecDepth 20000 in
theorem ggX6_lastVisibleOwn_X0_isUndone : GoodIn wsX6_lastVisibleOwn wsX0_isUndone := goodIn_r _ [81, 9, 77, 29, 30, 21, 31, 23, 102, 103, 104, 105, 114] (by decide +kernel) (by decide +kernel)
set_option maxRecDepth 20000 in
theorem gX6_lastVisibleOwn_X0_isUndone : GoodIn wsX6_lastVisibleOwn (wsV RX6 251 RX0 yX0_isUndone wsX0_isUndone) := goodIn_app (goodIn_of _ (by decide +kernel)) ggX6_lastVisibleOwn_X0_isUndone
theorem dX6_lastVisibleOwn_0 : decode cX6_lastVisibleOwn 0 = .ok (.aload_n 0, 1) := by decide +kernel
theorem dX6_lastVisibleOwn_1 : decode cX6_lastVisibleOwn 1 = .ok (.getfield 45, 3) := by decide +kernel
theorem dX6_lastVisibleOwn_4 : decode cX6_lastVisibleOwn 4 = .ok (.aload_n 0, 1) := by decide +kernel
theorem dX6_lastVisibleOwn_5 : decode cX6_lastVisibleOwn 5 = .ok (.getfield 12, 3) := by decide +kernel
theorem dX6_lastVisibleOwn_8 : decode cX6_lastVisibleOwn 8 = .ok (.aload_n 0, 1) := by decide +kernel
theorem dX6_lastVisibleOwn_9 : decode cX6_lastVisibleOwn 9 = .ok (.getfield 28, 3) := by decide +kernel
theorem dX6_lastVisibleOwn_12 : decode cX6_lastVisibleOwn 12 = .ok (.iload_n 1, 1) := by decide +kernel
theorem dX6_lastVisibleOwn_13 : decode cX6_lastVisibleOwn 13 = .ok (.invokevirtual 92, 3) := by decide +kernel
theorem dX6_lastVisibleOwn_16 : decode cX6_lastVisibleOwn 16 = .ok (.aload_n 0, 1) := by decide +kernel
theorem dX6_lastVisibleOwn_17 : decode cX6_lastVisibleOwn 17 = .ok (.getfield 12, 3) := by decide +kernel
theorem dX6_lastVisibleOwn_20 : decode cX6_lastVisibleOwn 20 = .ok (.iload_n 1, 1) := by decide +kernel
theorem dX6_lastVisibleOwn_21 : decode cX6_lastVisibleOwn 21 = .ok (.invokevirtual 89, 3) := by decide +kernel
theorem dX6_lastVisibleOwn_24 : decode cX6_lastVisibleOwn 24 = .ok (.istore_n 2, 1) := by decide +kernel
theorem dX6_lastVisibleOwn_25 : decode cX6_lastVisibleOwn 25 = .ok (.iload_n 2, 1) := by decide +kernel
theorem dX6_lastVisibleOwn_26 : decode cX6_lastVisibleOwn 26 = .ok (.iconst 1, 1) := by decide +kernel
theorem dX6_lastVisibleOwn_27 : decode cX6_lastVisibleOwn 27 = .ok (.if_icmp .lt 39, 3) := by decide +kernel
theorem dX6_lastVisibleOwn_30 : decode cX6_lastVisibleOwn 30 = .ok (.iload_n 1, 1) := by decide +kernel
theorem dX6_lastVisibleOwn_31 : decode cX6_lastVisibleOwn 31 = .ok (.iload_n 2, 1) := by decide +kernel
theorem dX6_lastVisibleOwn_32 : decode cX6_lastVisibleOwn 32 = .ok (.invokestatic 178, 3) := by decide +kernel
theorem dX6_lastVisibleOwn_35 : decode cX6_lastVisibleOwn 35 = .ok (.istore_n 3, 1) := by decide +kernel
theorem dX6_lastVisibleOwn_36 : decode cX6_lastVisibleOwn 36 = .ok (.aload_n 0, 1) := by decide +kernel
theorem dX6_lastVisibleOwn_37 : decode cX6_lastVisibleOwn 37 = .ok (.getfield 12, 3) := by decide +kernel
theorem dX6_lastVisibleOwn_40 : decode cX6_lastVisibleOwn 40 = .ok (.iload_n 3, 1) := by decide +kernel
theorem dX6_lastVisibleOwn_41 : decode cX6_lastVisibleOwn 41 = .ok (.invokevirtual 204, 3) := by decide +kernel
theorem dX6_lastVisibleOwn_44 : decode cX6_lastVisibleOwn 44 = .ok (.ifCond .eq 16, 3) := by decide +kernel
theorem dX6_lastVisibleOwn_47 : decode cX6_lastVisibleOwn 47 = .ok (.aload_n 0, 1) := by decide +kernel
theorem dX6_lastVisibleOwn_48 : decode cX6_lastVisibleOwn 48 = .ok (.getfield 45, 3) := by decide +kernel
theorem dX6_lastVisibleOwn_51 : decode cX6_lastVisibleOwn 51 = .ok (.iload_n 3, 1) := by decide +kernel
theorem dX6_lastVisibleOwn_52 : decode cX6_lastVisibleOwn 52 = .ok (.invokevirtual 251, 3) := by decide +kernel
theorem dX6_lastVisibleOwn_55 : decode cX6_lastVisibleOwn 55 = .ok (.ifCond .ne 5, 3) := by decide +kernel
theorem dX6_lastVisibleOwn_58 : decode cX6_lastVisibleOwn 58 = .ok (.iload_n 3, 1) := by decide +kernel
theorem dX6_lastVisibleOwn_59 : decode cX6_lastVisibleOwn 59 = .ok (.ireturn, 1) := by decide +kernel
theorem dX6_lastVisibleOwn_60 : decode cX6_lastVisibleOwn 60 = .ok (.iinc 2 (-1), 3) := by decide +kernel
theorem dX6_lastVisibleOwn_63 : decode cX6_lastVisibleOwn 63 = .ok (.goto (-38), 3) := by decide +kernel
theorem dX6_lastVisibleOwn_66 : decode cX6_lastVisibleOwn 66 = .ok (.iconst (-1), 1) := by decide +kernel
theorem dX6_lastVisibleOwn_67 : decode cX6_lastVisibleOwn 67 = .ok (.ireturn, 1) := by decide +kernel
set_option maxRecDepth 20000 in
theorem ggX6_lastUndoneOwn_X0_show : GoodIn wsX6_lastUndoneOwn wsX0_show := goodIn_r _ [8, 9, 10, 11, 12, 13, 14, 15, 16, 17, 18, 19, 20, 21, 22, 23, 24, 25, 26, 27, 28, 29, 30, 31, 32, 33, 34, 35, 36, 37, 38, 39, 40, 41, 42, 43, 44, 45, 46, 47, 7, 48, 49, 50, 51, 52, 53, 54, 55, 56, 57, 58, 59, 60, 61, 62, 63, 64, 65, 66, 67, 68, 69, 70, 71, 72, 73, 74, 75, 76, 77, 78, 79, 80, 81, 103, 104, 105, 106, 107, 108, 109, 110, 111, 112, 113, 114, 115, 116] (by decide +kernel) (by decide +kernel)
set_option maxRecDepth 20000 in
theorem gX6_lastUndoneOwn_X0_show : GoodIn wsX6_lastUndoneOwn (wsV RX6 92 RX0 yX0_show wsX0_show) := goodIn_app (goodIn_of _ (by decide +kernel)) ggX6_lastUndoneOwn_X0_show
set_option maxRecDepth 20000 in
theorem ggX6_lastUndoneOwn_X4_madeBy : GoodIn wsX6_lastUndoneOwn wsX4_madeBy := goodIn_r _ [85, 86, 37, 29, 30, 21, 31, 23, 107, 108, 109, 110, 111, 112, 113, 114, 115] (by decide +kernel) (by decide +kernel)
set_option maxRecDepth 20000 in
theorem gX6_lastUndoneOwn_X4_madeBy : GoodIn wsX6_lastUndoneOwn (wsV RX6 89 RX4 yX4_madeBy wsX4_madeBy) := goodIn_app (goodIn_of _ (by decide +kernel)) ggX6_lastUndoneOwn_X4_madeBy
set_option maxRecDepth 20000 in
theorem ggX6_lastUndoneOwn_X6_idOf : GoodIn wsX6_lastUndoneOwn wsX6_idOf := goodIn_r _ [90] (by decide +kernel) (by decide +kernel)
set_option maxRecDepth 20000 in
theorem gX6_lastUndoneOwn_X6_idOf : GoodIn wsX6_lastUndoneOwn (va_wsS RX6 178 yX6_idOf wsX6_idOf) := goodIn_app (goodIn_of _ (by decide +kernel)) ggX6_lastUndoneOwn_X6_idOf
set_option maxRecDepth 20000 in
theorem ggX6_lastUndoneOwn_X4_kindOf : GoodIn wsX6_lastUndoneOwn wsX4_kindOf := goodIn_r _ [57, 58, 37, 29, 30, 21, 31, 23, 107, 108, 109, 110, 111, 112, 113, 114, 115] (by decide +kernel) (by decide +kernel)
set_option maxRecDepth 20000 in
theorem gX6_lastUndoneOwn_X4_kindOf : GoodIn wsX6_lastUndoneOwn (wsV RX6 198 RX4 yX4_kindOf wsX4_kindOf) := goodIn_app (goodIn_of _ (by decide +kernel)) ggX6_lastUndoneOwn_X4_kindOf
set_option maxRecDepth 20000 in
theorem ggX6_lastUndoneOwn_X4_targetOf : GoodIn wsX6_lastUndoneOwn wsX4_targetOf := goodIn_r _ [52, 53, 37, 29, 30, 21, 31, 23, 107, 108, 109, 110, 111, 112, 113, 114, 115] (by decide +kernel) (by decide +kernel)
set_option maxRecDepth 20000 in
theorem gX6_lastUndoneOwn_X4_targetOf : GoodIn wsX6_lastUndoneOwn (wsV RX6 210 RX4 yX4_targetOf wsX4_targetOf) := goodIn_app (goodIn_of _ (by decide +kernel)) ggX6_lastUndoneOwn_X4_targetOf
set_option maxRecDepth 20000 in
theorem ggX6_lastUndoneOwn_X0_isUndone : GoodIn wsX6_lastUndoneOwn wsX0_isUndone := goodIn_r _ [81, 9, 77, 29, 30, 21, 31, 23, 103, 104, 105, 106, 115] (by decide +kernel) (by decide +kernel)
set_option maxRecDepth 20000 in
theorem gX6_lastUndoneOwn_X0_isUndone : GoodIn wsX6_lastUndoneOwn (wsV RX6 251 RX0 yX0_isUndone wsX0_isUndone) := goodIn_app (goodIn_of _ (by decide +kernel)) ggX6_lastUndoneOwn_X0_isUndone
theorem dX6_lastUndoneOwn_0 : decode cX6_lastUndoneOwn 0 = .ok (.aload_n 0, 1) := by decide +kernel
theorem dX6_lastUndoneOwn_1 : decode cX6_lastUndoneOwn 1 = .ok (.getfield 45, 3) := by decide +kernel
theorem dX6_lastUndoneOwn_4 : decode cX6_lastUndoneOwn 4 = .ok (.aload_n 0, 1) := by decide +kernel
theorem dX6_lastUndoneOwn_5 : decode cX6_lastUndoneOwn 5 = .ok (.getfield 12, 3) := by decide +kernel
theorem dX6_lastUndoneOwn_8 : decode cX6_lastUndoneOwn 8 = .ok (.aload_n 0, 1) := by decide +kernel
theorem dX6_lastUndoneOwn_9 : decode cX6_lastUndoneOwn 9 = .ok (.getfield 28, 3) := by decide +kernel
theorem dX6_lastUndoneOwn_12 : decode cX6_lastUndoneOwn 12 = .ok (.iload_n 1, 1) := by decide +kernel
theorem dX6_lastUndoneOwn_13 : decode cX6_lastUndoneOwn 13 = .ok (.invokevirtual 92, 3) := by decide +kernel
theorem dX6_lastUndoneOwn_16 : decode cX6_lastUndoneOwn 16 = .ok (.aload_n 0, 1) := by decide +kernel
theorem dX6_lastUndoneOwn_17 : decode cX6_lastUndoneOwn 17 = .ok (.getfield 12, 3) := by decide +kernel
theorem dX6_lastUndoneOwn_20 : decode cX6_lastUndoneOwn 20 = .ok (.iload_n 1, 1) := by decide +kernel
theorem dX6_lastUndoneOwn_21 : decode cX6_lastUndoneOwn 21 = .ok (.invokevirtual 89, 3) := by decide +kernel
theorem dX6_lastUndoneOwn_24 : decode cX6_lastUndoneOwn 24 = .ok (.istore_n 2, 1) := by decide +kernel
theorem dX6_lastUndoneOwn_25 : decode cX6_lastUndoneOwn 25 = .ok (.iload_n 2, 1) := by decide +kernel
theorem dX6_lastUndoneOwn_26 : decode cX6_lastUndoneOwn 26 = .ok (.iconst 1, 1) := by decide +kernel
theorem dX6_lastUndoneOwn_27 : decode cX6_lastUndoneOwn 27 = .ok (.if_icmp .lt 54, 3) := by decide +kernel
theorem dX6_lastUndoneOwn_30 : decode cX6_lastUndoneOwn 30 = .ok (.iload_n 1, 1) := by decide +kernel
theorem dX6_lastUndoneOwn_31 : decode cX6_lastUndoneOwn 31 = .ok (.iload_n 2, 1) := by decide +kernel
theorem dX6_lastUndoneOwn_32 : decode cX6_lastUndoneOwn 32 = .ok (.invokestatic 178, 3) := by decide +kernel
theorem dX6_lastUndoneOwn_35 : decode cX6_lastUndoneOwn 35 = .ok (.istore_n 3, 1) := by decide +kernel
theorem dX6_lastUndoneOwn_36 : decode cX6_lastUndoneOwn 36 = .ok (.aload_n 0, 1) := by decide +kernel
theorem dX6_lastUndoneOwn_37 : decode cX6_lastUndoneOwn 37 = .ok (.getfield 12, 3) := by decide +kernel
theorem dX6_lastUndoneOwn_40 : decode cX6_lastUndoneOwn 40 = .ok (.iload_n 3, 1) := by decide +kernel
theorem dX6_lastUndoneOwn_41 : decode cX6_lastUndoneOwn 41 = .ok (.invokevirtual 198, 3) := by decide +kernel
theorem dX6_lastUndoneOwn_44 : decode cX6_lastUndoneOwn 44 = .ok (.iconst 1, 1) := by decide +kernel
theorem dX6_lastUndoneOwn_45 : decode cX6_lastUndoneOwn 45 = .ok (.if_icmp .ne 30, 3) := by decide +kernel
theorem dX6_lastUndoneOwn_48 : decode cX6_lastUndoneOwn 48 = .ok (.aload_n 0, 1) := by decide +kernel
theorem dX6_lastUndoneOwn_49 : decode cX6_lastUndoneOwn 49 = .ok (.getfield 45, 3) := by decide +kernel
theorem dX6_lastUndoneOwn_52 : decode cX6_lastUndoneOwn 52 = .ok (.aload_n 0, 1) := by decide +kernel
theorem dX6_lastUndoneOwn_53 : decode cX6_lastUndoneOwn 53 = .ok (.getfield 12, 3) := by decide +kernel
theorem dX6_lastUndoneOwn_56 : decode cX6_lastUndoneOwn 56 = .ok (.iload_n 3, 1) := by decide +kernel
theorem dX6_lastUndoneOwn_57 : decode cX6_lastUndoneOwn 57 = .ok (.invokevirtual 210, 3) := by decide +kernel
theorem dX6_lastUndoneOwn_60 : decode cX6_lastUndoneOwn 60 = .ok (.invokevirtual 251, 3) := by decide +kernel
theorem dX6_lastUndoneOwn_63 : decode cX6_lastUndoneOwn 63 = .ok (.ifCond .eq 12, 3) := by decide +kernel
theorem dX6_lastUndoneOwn_66 : decode cX6_lastUndoneOwn 66 = .ok (.aload_n 0, 1) := by decide +kernel
theorem dX6_lastUndoneOwn_67 : decode cX6_lastUndoneOwn 67 = .ok (.getfield 12, 3) := by decide +kernel
theorem dX6_lastUndoneOwn_70 : decode cX6_lastUndoneOwn 70 = .ok (.iload_n 3, 1) := by decide +kernel
theorem dX6_lastUndoneOwn_71 : decode cX6_lastUndoneOwn 71 = .ok (.invokevirtual 210, 3) := by decide +kernel
theorem dX6_lastUndoneOwn_74 : decode cX6_lastUndoneOwn 74 = .ok (.ireturn, 1) := by decide +kernel
theorem dX6_lastUndoneOwn_75 : decode cX6_lastUndoneOwn 75 = .ok (.iinc 2 (-1), 3) := by decide +kernel
theorem dX6_lastUndoneOwn_78 : decode cX6_lastUndoneOwn 78 = .ok (.goto (-53), 3) := by decide +kernel
theorem dX6_lastUndoneOwn_81 : decode cX6_lastUndoneOwn 81 = .ok (.iconst (-1), 1) := by decide +kernel
theorem dX6_lastUndoneOwn_82 : decode cX6_lastUndoneOwn 82 = .ok (.ireturn, 1) := by decide +kernel
set_option maxRecDepth 20000 in
theorem ggX6_deliverLink_X3_countIn : GoodIn wsX6_deliverLink wsX3_countIn := goodIn_r _ [6, 7, 8, 9, 10, 11, 12, 13, 65, 66, 67] (by decide +kernel) (by decide +kernel)
set_option maxRecDepth 20000 in
theorem gX6_deliverLink_X3_countIn : GoodIn wsX6_deliverLink (wsV RX6 159 RX3 yX3_countIn wsX3_countIn) := goodIn_app (goodIn_of _ (by decide +kernel)) ggX6_deliverLink_X3_countIn
set_option maxRecDepth 20000 in
theorem ggX6_deliverLink_X3_messageIn : GoodIn wsX6_deliverLink wsX3_messageIn := goodIn_r _ [17, 18, 8, 9, 10, 11, 12, 13, 65, 66, 67] (by decide +kernel) (by decide +kernel)
set_option maxRecDepth 20000 in
theorem gX6_deliverLink_X3_messageIn : GoodIn wsX6_deliverLink (wsV RX6 163 RX3 yX3_messageIn wsX3_messageIn) := goodIn_app (goodIn_of _ (by decide +kernel)) ggX6_deliverLink_X3_messageIn
set_option maxRecDepth 20000 in
theorem ggX6_deliverLink_X6_receive : GoodIn wsX6_deliverLink wsX6_receive := goodIn_r _ [23, 24, 25, 26, 27, 28, 29, 30, 31, 32, 33, 34, 35, 36, 37, 38, 39, 11, 40, 13, 41, 9, 10, 12, 42, 43, 44, 45, 46, 47, 48, 49, 56, 57, 58, 59, 60, 61, 62, 63, 64, 68, 67, 69, 70, 71, 72, 73, 74, 75, 76] (by decide +kernel) (by decide +kernel)
set_option maxRecDepth 20000 in
theorem gX6_deliverLink_X6_receive : GoodIn wsX6_deliverLink (wsV RX6 169 RX6 yX6_receive wsX6_receive) := goodIn_app (goodIn_of _ (by decide +kernel)) ggX6_deliverLink_X6_receive
set_option maxRecDepth 20000 in
theorem ggX6_deliverLink_X3_dropFirst : GoodIn wsX6_deliverLink wsX3_dropFirst := goodIn_r _ [53, 7, 18, 54, 28, 29, 30, 8, 9, 10, 11, 12, 13, 55, 38, 39, 40, 65, 66, 67] (by decide +kernel) (by decide +kernel)
set_option maxRecDepth 20000 in
theorem gX6_deliverLink_X3_dropFirst : GoodIn wsX6_deliverLink (wsV RX6 166 RX3 yX3_dropFirst wsX3_dropFirst) := goodIn_app (goodIn_of _ (by decide +kernel)) ggX6_deliverLink_X3_dropFirst
theorem dX6_deliverLink_0 : decode cX6_deliverLink 0 = .ok (.aload_n 0, 1) := by decide +kernel
theorem dX6_deliverLink_1 : decode cX6_deliverLink 1 = .ok (.getfield 38, 3) := by decide +kernel
theorem dX6_deliverLink_4 : decode cX6_deliverLink 4 = .ok (.iload_n 1, 1) := by decide +kernel
theorem dX6_deliverLink_5 : decode cX6_deliverLink 5 = .ok (.iload_n 2, 1) := by decide +kernel
theorem dX6_deliverLink_6 : decode cX6_deliverLink 6 = .ok (.invokevirtual 159, 3) := by decide +kernel
theorem dX6_deliverLink_9 : decode cX6_deliverLink 9 = .ok (.istore_n 3, 1) := by decide +kernel
theorem dX6_deliverLink_10 : decode cX6_deliverLink 10 = .ok (.iconst 0, 1) := by decide +kernel
theorem dX6_deliverLink_11 : decode cX6_deliverLink 11 = .ok (.istore 4, 2) := by decide +kernel
theorem dX6_deliverLink_13 : decode cX6_deliverLink 13 = .ok (.iload 4, 2) := by decide +kernel
theorem dX6_deliverLink_15 : decode cX6_deliverLink 15 = .ok (.iload_n 3, 1) := by decide +kernel
theorem dX6_deliverLink_16 : decode cX6_deliverLink 16 = .ok (.if_icmp .ge 33, 3) := by decide +kernel
theorem dX6_deliverLink_19 : decode cX6_deliverLink 19 = .ok (.aload_n 0, 1) := by decide +kernel
theorem dX6_deliverLink_20 : decode cX6_deliverLink 20 = .ok (.iload_n 2, 1) := by decide +kernel
theorem dX6_deliverLink_21 : decode cX6_deliverLink 21 = .ok (.aload_n 0, 1) := by decide +kernel
theorem dX6_deliverLink_22 : decode cX6_deliverLink 22 = .ok (.getfield 38, 3) := by decide +kernel
theorem dX6_deliverLink_25 : decode cX6_deliverLink 25 = .ok (.iload_n 1, 1) := by decide +kernel
theorem dX6_deliverLink_26 : decode cX6_deliverLink 26 = .ok (.iload_n 2, 1) := by decide +kernel
theorem dX6_deliverLink_27 : decode cX6_deliverLink 27 = .ok (.iconst 0, 1) := by decide +kernel
theorem dX6_deliverLink_28 : decode cX6_deliverLink 28 = .ok (.invokevirtual 163, 3) := by decide +kernel
theorem dX6_deliverLink_31 : decode cX6_deliverLink 31 = .ok (.invokevirtual 169, 3) := by decide +kernel
theorem dX6_deliverLink_34 : decode cX6_deliverLink 34 = .ok (.aload_n 0, 1) := by decide +kernel
theorem dX6_deliverLink_35 : decode cX6_deliverLink 35 = .ok (.getfield 38, 3) := by decide +kernel
theorem dX6_deliverLink_38 : decode cX6_deliverLink 38 = .ok (.iload_n 1, 1) := by decide +kernel
theorem dX6_deliverLink_39 : decode cX6_deliverLink 39 = .ok (.iload_n 2, 1) := by decide +kernel
theorem dX6_deliverLink_40 : decode cX6_deliverLink 40 = .ok (.invokevirtual 166, 3) := by decide +kernel
theorem dX6_deliverLink_43 : decode cX6_deliverLink 43 = .ok (.iinc 4 1, 3) := by decide +kernel
theorem dX6_deliverLink_46 : decode cX6_deliverLink 46 = .ok (.goto (-33), 3) := by decide +kernel
theorem dX6_deliverLink_49 : decode cX6_deliverLink 49 = .ok (.iload_n 3, 1) := by decide +kernel
theorem dX6_deliverLink_50 : decode cX6_deliverLink 50 = .ok (.ireturn, 1) := by decide +kernel
set_option maxRecDepth 20000 in
theorem ggX6_canRepair_X2_isInGap : GoodIn wsX6_canRepair wsX2_isInGap := goodIn_r _ [6, 7, 8, 9, 5, 10, 11, 12, 13, 14, 15, 16, 17, 18, 19, 20, 21, 22, 23, 24, 25, 26, 27, 28, 39, 40] (by decide +kernel) (by decide +kernel)
set_option maxRecDepth 20000 in
theorem gX6_canRepair_X2_isInGap : GoodIn wsX6_canRepair (wsV RX6 254 RX2 yX2_isInGap wsX2_isInGap) := goodIn_app (goodIn_of _ (by decide +kernel)) ggX6_canRepair_X2_isInGap
set_option maxRecDepth 20000 in
theorem ggX6_canRepair_X2_has : GoodIn wsX6_canRepair wsX2_has := goodIn_r _ [10, 11, 12, 13, 14, 15, 16, 17, 39, 40] (by decide +kernel) (by decide +kernel)
set_option maxRecDepth 20000 in
theorem gX6_canRepair_X2_has : GoodIn wsX6_canRepair (wsV RX6 181 RX2 yX2_has wsX2_has) := goodIn_app (goodIn_of _ (by decide +kernel)) ggX6_canRepair_X2_has
theorem dX6_canRepair_0 : decode cX6_canRepair 0 = .ok (.aload_n 0, 1) := by decide +kernel
theorem dX6_canRepair_1 : decode cX6_canRepair 1 = .ok (.getfield 28, 3) := by decide +kernel
theorem dX6_canRepair_4 : decode cX6_canRepair 4 = .ok (.iload_n 1, 1) := by decide +kernel
theorem dX6_canRepair_5 : decode cX6_canRepair 5 = .ok (.iload_n 3, 1) := by decide +kernel
theorem dX6_canRepair_6 : decode cX6_canRepair 6 = .ok (.invokevirtual 254, 3) := by decide +kernel
theorem dX6_canRepair_9 : decode cX6_canRepair 9 = .ok (.ifCond .eq 19, 3) := by decide +kernel
theorem dX6_canRepair_12 : decode cX6_canRepair 12 = .ok (.aload_n 0, 1) := by decide +kernel
theorem dX6_canRepair_13 : decode cX6_canRepair 13 = .ok (.getfield 28, 3) := by decide +kernel
theorem dX6_canRepair_16 : decode cX6_canRepair 16 = .ok (.iload_n 2, 1) := by decide +kernel
theorem dX6_canRepair_17 : decode cX6_canRepair 17 = .ok (.iload_n 3, 1) := by decide +kernel
theorem dX6_canRepair_18 : decode cX6_canRepair 18 = .ok (.invokevirtual 181, 3) := by decide +kernel
theorem dX6_canRepair_21 : decode cX6_canRepair 21 = .ok (.ifCond .eq 7, 3) := by decide +kernel
theorem dX6_canRepair_24 : decode cX6_canRepair 24 = .ok (.iconst 1, 1) := by decide +kernel
theorem dX6_canRepair_25 : decode cX6_canRepair 25 = .ok (.goto 4, 3) := by decide +kernel
theorem dX6_canRepair_28 : decode cX6_canRepair 28 = .ok (.iconst 0, 1) := by decide +kernel
theorem dX6_canRepair_29 : decode cX6_canRepair 29 = .ok (.ireturn, 1) := by decide +kernel
set_option maxRecDepth 20000 in
theorem ggX6_repairable_X6_canRepair : GoodIn wsX6_repairable wsX6_canRepair := goodIn_r _ [5, 6, 7, 8, 9, 10, 11, 12, 13, 14, 15, 16, 17, 18, 19, 20, 21, 22, 23, 24, 25, 26, 27, 4, 28, 29, 30, 31, 32, 33, 34, 35, 36, 37, 38, 39, 40, 41, 42, 43, 44] (by decide +kernel) (by decide +kernel)
set_option maxRecDepth 20000 in
theorem gX6_repairable_X6_canRepair : GoodIn wsX6_repairable (wsV RX6 184 RX6 yX6_canRepair wsX6_canRepair) := goodIn_app (goodIn_of _ (by decide +kernel)) ggX6_repairable_X6_canRepair
theorem dX6_repairable_0 : decode cX6_repairable 0 = .ok (.iconst 0, 1) := by decide +kernel
theorem dX6_repairable_1 : decode cX6_repairable 1 = .ok (.istore_n 3, 1) := by decide +kernel
theorem dX6_repairable_2 : decode cX6_repairable 2 = .ok (.iconst 0, 1) := by decide +kernel
theorem dX6_repairable_3 : decode cX6_repairable 3 = .ok (.istore 4, 2) := by decide +kernel
theorem dX6_repairable_5 : decode cX6_repairable 5 = .ok (.iload 4, 2) := by decide +kernel
theorem dX6_repairable_7 : decode cX6_repairable 7 = .ok (.bipush 100, 2) := by decide +kernel
theorem dX6_repairable_9 : decode cX6_repairable 9 = .ok (.if_icmp .ge 23, 3) := by decide +kernel
theorem dX6_repairable_12 : decode cX6_repairable 12 = .ok (.aload_n 0, 1) := by decide +kernel
theorem dX6_repairable_13 : decode cX6_repairable 13 = .ok (.iload_n 1, 1) := by decide +kernel
theorem dX6_repairable_14 : decode cX6_repairable 14 = .ok (.iload_n 2, 1) := by decide +kernel
theorem dX6_repairable_15 : decode cX6_repairable 15 = .ok (.iload 4, 2) := by decide +kernel
theorem dX6_repairable_17 : decode cX6_repairable 17 = .ok (.invokevirtual 184, 3) := by decide +kernel
theorem dX6_repairable_20 : decode cX6_repairable 20 = .ok (.ifCond .eq 6, 3) := by decide +kernel
theorem dX6_repairable_23 : decode cX6_repairable 23 = .ok (.iinc 3 1, 3) := by decide +kernel
theorem dX6_repairable_26 : decode cX6_repairable 26 = .ok (.iinc 4 1, 3) := by decide +kernel
theorem dX6_repairable_29 : decode cX6_repairable 29 = .ok (.goto (-24), 3) := by decide +kernel
theorem dX6_repairable_32 : decode cX6_repairable 32 = .ok (.iload_n 3, 1) := by decide +kernel
theorem dX6_repairable_33 : decode cX6_repairable 33 = .ok (.ireturn, 1) := by decide +kernel
set_option maxRecDepth 20000 in
theorem ggX6_strokeValue_X6_authorOf : GoodIn wsX6_strokeValue wsX6_authorOf := goodIn_r _ [6] (by decide +kernel) (by decide +kernel)
set_option maxRecDepth 20000 in
theorem gX6_strokeValue_X6_authorOf : GoodIn wsX6_strokeValue (va_wsS RX6 172 yX6_authorOf wsX6_authorOf) := goodIn_app (goodIn_of _ (by decide +kernel)) ggX6_strokeValue_X6_authorOf
set_option maxRecDepth 20000 in
theorem ggX6_strokeValue_X6_numberOf : GoodIn wsX6_strokeValue wsX6_numberOf := goodIn_r _ [9] (by decide +kernel) (by decide +kernel)
set_option maxRecDepth 20000 in
theorem gX6_strokeValue_X6_numberOf : GoodIn wsX6_strokeValue (va_wsS RX6 135 yX6_numberOf wsX6_numberOf) := goodIn_app (goodIn_of _ (by decide +kernel)) ggX6_strokeValue_X6_numberOf
set_option maxRecDepth 20000 in
theorem ggX6_strokeValue_X0_layerOf : GoodIn wsX6_strokeValue wsX0_layerOf := goodIn_r _ [14, 15, 16, 17, 18, 19, 20, 21, 51, 52, 53, 54, 55] (by decide +kernel) (by decide +kernel)
set_option maxRecDepth 20000 in
theorem gX6_strokeValue_X0_layerOf : GoodIn wsX6_strokeValue (wsV RX6 257 RX0 yX0_layerOf wsX0_layerOf) := goodIn_app (goodIn_of _ (by decide +kernel)) ggX6_strokeValue_X0_layerOf
set_option maxRecDepth 20000 in
theorem ggX6_strokeValue_X1_colorOf : GoodIn wsX6_strokeValue wsX1_colorOf := goodIn_r _ [26, 27, 28, 17, 18, 19, 20, 21, 56, 57, 58, 59, 60, 55] (by decide +kernel) (by decide +kernel)
set_option maxRecDepth 20000 in
theorem gX6_strokeValue_X1_colorOf : GoodIn wsX6_strokeValue (wsV RX6 258 RX1 yX1_colorOf wsX1_colorOf) := goodIn_app (goodIn_of _ (by decide +kernel)) ggX6_strokeValue_X1_colorOf
set_option maxRecDepth 20000 in
theorem ggX6_strokeValue_X1_pointCount : GoodIn wsX6_strokeValue wsX1_pointCount := goodIn_r _ [32, 33, 28, 17, 18, 19, 20, 21, 56, 57, 58, 59, 60, 55] (by decide +kernel) (by decide +kernel)
set_option maxRecDepth 20000 in
theorem gX6_strokeValue_X1_pointCount : GoodIn wsX6_strokeValue (wsV RX6 100 RX1 yX1_pointCount wsX1_pointCount) := goodIn_app (goodIn_of _ (by decide +kernel)) ggX6_strokeValue_X1_pointCount
theorem dX6_strokeValue_0 : decode cX6_strokeValue 0 = .ok (.iload_n 2, 1) := by decide +kernel
theorem dX6_strokeValue_1 : decode cX6_strokeValue 1 = .ok (.tableswitch 62 0 3 #[31, 36, 41, 50], 31) := by decide +kernel
theorem dX6_strokeValue_32 : decode cX6_strokeValue 32 = .ok (.iload_n 1, 1) := by decide +kernel
theorem dX6_strokeValue_33 : decode cX6_strokeValue 33 = .ok (.invokestatic 172, 3) := by decide +kernel
theorem dX6_strokeValue_36 : decode cX6_strokeValue 36 = .ok (.ireturn, 1) := by decide +kernel
theorem dX6_strokeValue_37 : decode cX6_strokeValue 37 = .ok (.iload_n 1, 1) := by decide +kernel
theorem dX6_strokeValue_38 : decode cX6_strokeValue 38 = .ok (.invokestatic 135, 3) := by decide +kernel
theorem dX6_strokeValue_41 : decode cX6_strokeValue 41 = .ok (.ireturn, 1) := by decide +kernel
theorem dX6_strokeValue_42 : decode cX6_strokeValue 42 = .ok (.aload_n 0, 1) := by decide +kernel
theorem dX6_strokeValue_43 : decode cX6_strokeValue 43 = .ok (.getfield 45, 3) := by decide +kernel
theorem dX6_strokeValue_46 : decode cX6_strokeValue 46 = .ok (.iload_n 1, 1) := by decide +kernel
theorem dX6_strokeValue_47 : decode cX6_strokeValue 47 = .ok (.invokevirtual 257, 3) := by decide +kernel
theorem dX6_strokeValue_50 : decode cX6_strokeValue 50 = .ok (.ireturn, 1) := by decide +kernel
theorem dX6_strokeValue_51 : decode cX6_strokeValue 51 = .ok (.aload_n 0, 1) := by decide +kernel
theorem dX6_strokeValue_52 : decode cX6_strokeValue 52 = .ok (.getfield 12, 3) := by decide +kernel
theorem dX6_strokeValue_55 : decode cX6_strokeValue 55 = .ok (.getfield 207, 3) := by decide +kernel
theorem dX6_strokeValue_58 : decode cX6_strokeValue 58 = .ok (.iload_n 1, 1) := by decide +kernel
theorem dX6_strokeValue_59 : decode cX6_strokeValue 59 = .ok (.invokevirtual 258, 3) := by decide +kernel
theorem dX6_strokeValue_62 : decode cX6_strokeValue 62 = .ok (.ireturn, 1) := by decide +kernel
theorem dX6_strokeValue_63 : decode cX6_strokeValue 63 = .ok (.aload_n 0, 1) := by decide +kernel
theorem dX6_strokeValue_64 : decode cX6_strokeValue 64 = .ok (.getfield 12, 3) := by decide +kernel
theorem dX6_strokeValue_67 : decode cX6_strokeValue 67 = .ok (.getfield 207, 3) := by decide +kernel
theorem dX6_strokeValue_70 : decode cX6_strokeValue 70 = .ok (.iload_n 1, 1) := by decide +kernel
theorem dX6_strokeValue_71 : decode cX6_strokeValue 71 = .ok (.invokevirtual 100, 3) := by decide +kernel
theorem dX6_strokeValue_74 : decode cX6_strokeValue 74 = .ok (.ireturn, 1) := by decide +kernel
set_option maxRecDepth 20000 in
theorem ggX6_coordinate_X1_pointCount : GoodIn wsX6_coordinate wsX1_pointCount := goodIn_r _ [7, 8, 9, 10, 11, 12, 13, 14, 42, 43, 44, 45, 46, 47] (by decide +kernel) (by decide +kernel)
set_option maxRecDepth 20000 in
theorem gX6_coordinate_X1_pointCount : GoodIn wsX6_coordinate (wsV RX6 100 RX1 yX1_pointCount wsX1_pointCount) := goodIn_app (goodIn_of _ (by decide +kernel)) ggX6_coordinate_X1_pointCount
set_option maxRecDepth 20000 in
theorem ggX6_coordinate_X1_xOf : GoodIn wsX6_coordinate wsX1_xOf := goodIn_r _ [18, 19, 9, 10, 11, 12, 13, 14, 42, 43, 44, 45, 46, 47] (by decide +kernel) (by decide +kernel)
set_option maxRecDepth 20000 in
theorem gX6_coordinate_X1_xOf : GoodIn wsX6_coordinate (wsV RX6 111 RX1 yX1_xOf wsX1_xOf) := goodIn_app (goodIn_of _ (by decide +kernel)) ggX6_coordinate_X1_xOf
set_option maxRecDepth 20000 in
theorem ggX6_coordinate_X1_yOf : GoodIn wsX6_coordinate wsX1_yOf := goodIn_r _ [23, 24, 9, 10, 11, 12, 13, 14, 42, 43, 44, 45, 46, 47] (by decide +kernel) (by decide +kernel)
set_option maxRecDepth 20000 in
theorem gX6_coordinate_X1_yOf : GoodIn wsX6_coordinate (wsV RX6 115 RX1 yX1_yOf wsX1_yOf) := goodIn_app (goodIn_of _ (by decide +kernel)) ggX6_coordinate_X1_yOf
theorem dX6_coordinate_0 : decode cX6_coordinate 0 = .ok (.iload_n 2, 1) := by decide +kernel
theorem dX6_coordinate_1 : decode cX6_coordinate 1 = .ok (.iconst 2, 1) := by decide +kernel
theorem dX6_coordinate_2 : decode cX6_coordinate 2 = .ok (.idiv, 1) := by decide +kernel
theorem dX6_coordinate_3 : decode cX6_coordinate 3 = .ok (.istore_n 3, 1) := by decide +kernel
theorem dX6_coordinate_4 : decode cX6_coordinate 4 = .ok (.iload_n 3, 1) := by decide +kernel
theorem dX6_coordinate_5 : decode cX6_coordinate 5 = .ok (.aload_n 0, 1) := by decide +kernel
theorem dX6_coordinate_6 : decode cX6_coordinate 6 = .ok (.getfield 12, 3) := by decide +kernel
theorem dX6_coordinate_9 : decode cX6_coordinate 9 = .ok (.getfield 207, 3) := by decide +kernel
theorem dX6_coordinate_12 : decode cX6_coordinate 12 = .ok (.iload_n 1, 1) := by decide +kernel
theorem dX6_coordinate_13 : decode cX6_coordinate 13 = .ok (.invokevirtual 100, 3) := by decide +kernel
theorem dX6_coordinate_16 : decode cX6_coordinate 16 = .ok (.if_icmp .lt 6, 3) := by decide +kernel
theorem dX6_coordinate_19 : decode cX6_coordinate 19 = .ok (.ldc 162, 2) := by decide +kernel
theorem dX6_coordinate_21 : decode cX6_coordinate 21 = .ok (.ireturn, 1) := by decide +kernel
theorem dX6_coordinate_22 : decode cX6_coordinate 22 = .ok (.iload_n 2, 1) := by decide +kernel
theorem dX6_coordinate_23 : decode cX6_coordinate 23 = .ok (.iconst 2, 1) := by decide +kernel
theorem dX6_coordinate_24 : decode cX6_coordinate 24 = .ok (.irem, 1) := by decide +kernel
theorem dX6_coordinate_25 : decode cX6_coordinate 25 = .ok (.ifCond .ne 18, 3) := by decide +kernel
theorem dX6_coordinate_28 : decode cX6_coordinate 28 = .ok (.aload_n 0, 1) := by decide +kernel
theorem dX6_coordinate_29 : decode cX6_coordinate 29 = .ok (.getfield 12, 3) := by decide +kernel
theorem dX6_coordinate_32 : decode cX6_coordinate 32 = .ok (.getfield 207, 3) := by decide +kernel
theorem dX6_coordinate_35 : decode cX6_coordinate 35 = .ok (.iload_n 1, 1) := by decide +kernel
theorem dX6_coordinate_36 : decode cX6_coordinate 36 = .ok (.iload_n 3, 1) := by decide +kernel
theorem dX6_coordinate_37 : decode cX6_coordinate 37 = .ok (.invokevirtual 111, 3) := by decide +kernel
theorem dX6_coordinate_40 : decode cX6_coordinate 40 = .ok (.goto 15, 3) := by decide +kernel
theorem dX6_coordinate_43 : decode cX6_coordinate 43 = .ok (.aload_n 0, 1) := by decide +kernel
theorem dX6_coordinate_44 : decode cX6_coordinate 44 = .ok (.getfield 12, 3) := by decide +kernel
theorem dX6_coordinate_47 : decode cX6_coordinate 47 = .ok (.getfield 207, 3) := by decide +kernel
theorem dX6_coordinate_50 : decode cX6_coordinate 50 = .ok (.iload_n 1, 1) := by decide +kernel
theorem dX6_coordinate_51 : decode cX6_coordinate 51 = .ok (.iload_n 3, 1) := by decide +kernel
theorem dX6_coordinate_52 : decode cX6_coordinate 52 = .ok (.invokevirtual 115, 3) := by decide +kernel
theorem dX6_coordinate_55 : decode cX6_coordinate 55 = .ok (.ireturn, 1) := by decide +kernel
set_option maxRecDepth 20000 in
theorem ggX6_showSame_X0_show : GoodIn wsX6_showSame wsX0_show := goodIn_r _ [8, 9, 10, 11, 12, 13, 14, 15, 16, 17, 18, 19, 20, 21, 22, 23, 24, 25, 26, 27, 28, 29, 30, 31, 32, 33, 34, 35, 36, 37, 38, 39, 40, 41, 42, 43, 44, 45, 46, 47, 7, 48, 49, 50, 51, 52, 53, 54, 55, 56, 57, 58, 59, 60, 61, 62, 63, 64, 65, 66, 67, 68, 69, 70, 71, 72, 73, 74, 75, 76, 77, 78, 79, 80, 81, 103, 104, 105, 106, 107, 108, 109, 110, 111, 112, 113, 114, 115, 116] (by decide +kernel) (by decide +kernel)
set_option maxRecDepth 20000 in
theorem gX6_showSame_X0_show : GoodIn wsX6_showSame (wsV RX6 92 RX0 yX0_show wsX0_show) := goodIn_app (goodIn_of _ (by decide +kernel)) ggX6_showSame_X0_show
set_option maxRecDepth 20000 in
theorem ggX6_showSame_X0_matches : GoodIn wsX6_showSame wsX0_matches := goodIn_r _ [85, 11, 72, 10, 77, 29, 30, 21, 31, 23, 86, 87, 88, 7, 89, 90, 91, 92, 93, 103, 104, 105, 106, 115] (by decide +kernel) (by decide +kernel)
set_option maxRecDepth 20000 in
theorem gX6_showSame_X0_matches : GoodIn wsX6_showSame (wsV RX6 261 RX0 yX0_matches wsX0_matches) := goodIn_app (goodIn_of _ (by decide +kernel)) ggX6_showSame_X0_matches
theorem dX6_showSame_0 : decode cX6_showSame 0 = .ok (.aload_n 0, 1) := by decide +kernel
theorem dX6_showSame_1 : decode cX6_showSame 1 = .ok (.getfield 45, 3) := by decide +kernel
theorem dX6_showSame_4 : decode cX6_showSame 4 = .ok (.aload_n 0, 1) := by decide +kernel
theorem dX6_showSame_5 : decode cX6_showSame 5 = .ok (.getfield 12, 3) := by decide +kernel
theorem dX6_showSame_8 : decode cX6_showSame 8 = .ok (.aload_n 1, 1) := by decide +kernel
theorem dX6_showSame_9 : decode cX6_showSame 9 = .ok (.iload_n 2, 1) := by decide +kernel
theorem dX6_showSame_10 : decode cX6_showSame 10 = .ok (.invokevirtual 92, 3) := by decide +kernel
theorem dX6_showSame_13 : decode cX6_showSame 13 = .ok (.aload_n 0, 1) := by decide +kernel
theorem dX6_showSame_14 : decode cX6_showSame 14 = .ok (.getfield 49, 3) := by decide +kernel
theorem dX6_showSame_17 : decode cX6_showSame 17 = .ok (.aload_n 0, 1) := by decide +kernel
theorem dX6_showSame_18 : decode cX6_showSame 18 = .ok (.getfield 12, 3) := by decide +kernel
theorem dX6_showSame_21 : decode cX6_showSame 21 = .ok (.aload_n 1, 1) := by decide +kernel
theorem dX6_showSame_22 : decode cX6_showSame 22 = .ok (.iload_n 3, 1) := by decide +kernel
theorem dX6_showSame_23 : decode cX6_showSame 23 = .ok (.invokevirtual 92, 3) := by decide +kernel
theorem dX6_showSame_26 : decode cX6_showSame 26 = .ok (.aload_n 0, 1) := by decide +kernel
theorem dX6_showSame_27 : decode cX6_showSame 27 = .ok (.getfield 45, 3) := by decide +kernel
theorem dX6_showSame_30 : decode cX6_showSame 30 = .ok (.aload_n 0, 1) := by decide +kernel
theorem dX6_showSame_31 : decode cX6_showSame 31 = .ok (.getfield 49, 3) := by decide +kernel
theorem dX6_showSame_34 : decode cX6_showSame 34 = .ok (.invokevirtual 261, 3) := by decide +kernel
theorem dX6_showSame_37 : decode cX6_showSame 37 = .ok (.ireturn, 1) := by decide +kernel
set_option maxRecDepth 20000 in
theorem ggX6_lookAhead_X2_copyFrom : GoodIn wsX6_lookAhead wsX2_copyFrom := goodIn_r _ [9, 10, 11, 12, 13, 14, 15, 16, 17, 18, 19, 20, 50, 51] (by decide +kernel) (by decide +kernel)
set_option maxRecDepth 20000 in
theorem gX6_lookAhead_X2_copyFrom : GoodIn wsX6_lookAhead (wsV RX6 265 RX2 yX2_copyFrom wsX2_copyFrom) := goodIn_app (goodIn_of _ (by decide +kernel)) ggX6_lookAhead_X2_copyFrom
set_option maxRecDepth 20000 in
theorem ggX6_lookAhead_X3_countIn : GoodIn wsX6_lookAhead wsX3_countIn := goodIn_r _ [25, 26, 27, 18, 19, 14, 20, 16, 52, 53, 51] (by decide +kernel) (by decide +kernel)
set_option maxRecDepth 20000 in
theorem gX6_lookAhead_X3_countIn : GoodIn wsX6_lookAhead (wsV RX6 159 RX3 yX3_countIn wsX3_countIn) := goodIn_app (goodIn_of _ (by decide +kernel)) ggX6_lookAhead_X3_countIn
set_option maxRecDepth 20000 in
theorem ggX6_lookAhead_X3_messageIn : GoodIn wsX6_lookAhead wsX3_messageIn := goodIn_r _ [31, 32, 27, 18, 19, 14, 20, 16, 52, 53, 51] (by decide +kernel) (by decide +kernel)
set_option maxRecDepth 20000 in
theorem gX6_lookAhead_X3_messageIn : GoodIn wsX6_lookAhead (wsV RX6 163 RX3 yX3_messageIn wsX3_messageIn) := goodIn_app (goodIn_of _ (by decide +kernel)) ggX6_lookAhead_X3_messageIn
set_option maxRecDepth 20000 in
theorem ggX6_lookAhead_X2_learn : GoodIn wsX6_lookAhead wsX2_learn := goodIn_r _ [36, 10, 37, 38, 39, 14, 40, 16, 50, 51] (by decide +kernel) (by decide +kernel)
set_option maxRecDepth 20000 in
theorem gX6_lookAhead_X2_learn : GoodIn wsX6_lookAhead (wsV RX6 245 RX2 yX2_learn wsX2_learn) := goodIn_app (goodIn_of _ (by decide +kernel)) ggX6_lookAhead_X2_learn
theorem dX6_lookAhead_0 : decode cX6_lookAhead 0 = .ok (.aload_n 0, 1) := by decide +kernel
theorem dX6_lookAhead_1 : decode cX6_lookAhead 1 = .ok (.getfield 32, 3) := by decide +kernel
theorem dX6_lookAhead_4 : decode cX6_lookAhead 4 = .ok (.aload_n 0, 1) := by decide +kernel
theorem dX6_lookAhead_5 : decode cX6_lookAhead 5 = .ok (.getfield 28, 3) := by decide +kernel
theorem dX6_lookAhead_8 : decode cX6_lookAhead 8 = .ok (.invokevirtual 265, 3) := by decide +kernel
theorem dX6_lookAhead_11 : decode cX6_lookAhead 11 = .ok (.iconst 0, 1) := by decide +kernel
theorem dX6_lookAhead_12 : decode cX6_lookAhead 12 = .ok (.istore_n 1, 1) := by decide +kernel
theorem dX6_lookAhead_13 : decode cX6_lookAhead 13 = .ok (.iload_n 1, 1) := by decide +kernel
theorem dX6_lookAhead_14 : decode cX6_lookAhead 14 = .ok (.aload_n 0, 1) := by decide +kernel
theorem dX6_lookAhead_15 : decode cX6_lookAhead 15 = .ok (.getfield 59, 3) := by decide +kernel
theorem dX6_lookAhead_18 : decode cX6_lookAhead 18 = .ok (.if_icmp .ge 64, 3) := by decide +kernel
theorem dX6_lookAhead_21 : decode cX6_lookAhead 21 = .ok (.iconst 0, 1) := by decide +kernel
theorem dX6_lookAhead_22 : decode cX6_lookAhead 22 = .ok (.istore_n 2, 1) := by decide +kernel
theorem dX6_lookAhead_23 : decode cX6_lookAhead 23 = .ok (.iload_n 2, 1) := by decide +kernel
theorem dX6_lookAhead_24 : decode cX6_lookAhead 24 = .ok (.aload_n 0, 1) := by decide +kernel
theorem dX6_lookAhead_25 : decode cX6_lookAhead 25 = .ok (.getfield 59, 3) := by decide +kernel
theorem dX6_lookAhead_28 : decode cX6_lookAhead 28 = .ok (.if_icmp .ge 48, 3) := by decide +kernel
theorem dX6_lookAhead_31 : decode cX6_lookAhead 31 = .ok (.iconst 0, 1) := by decide +kernel
theorem dX6_lookAhead_32 : decode cX6_lookAhead 32 = .ok (.istore_n 3, 1) := by decide +kernel
theorem dX6_lookAhead_33 : decode cX6_lookAhead 33 = .ok (.iload_n 3, 1) := by decide +kernel
theorem dX6_lookAhead_34 : decode cX6_lookAhead 34 = .ok (.aload_n 0, 1) := by decide +kernel
theorem dX6_lookAhead_35 : decode cX6_lookAhead 35 = .ok (.getfield 38, 3) := by decide +kernel
theorem dX6_lookAhead_38 : decode cX6_lookAhead 38 = .ok (.iload_n 1, 1) := by decide +kernel
theorem dX6_lookAhead_39 : decode cX6_lookAhead 39 = .ok (.iload_n 2, 1) := by decide +kernel
theorem dX6_lookAhead_40 : decode cX6_lookAhead 40 = .ok (.invokevirtual 159, 3) := by decide +kernel
theorem dX6_lookAhead_43 : decode cX6_lookAhead 43 = .ok (.if_icmp .ge 27, 3) := by decide +kernel
theorem dX6_lookAhead_46 : decode cX6_lookAhead 46 = .ok (.aload_n 0, 1) := by decide +kernel
theorem dX6_lookAhead_47 : decode cX6_lookAhead 47 = .ok (.getfield 32, 3) := by decide +kernel
theorem dX6_lookAhead_50 : decode cX6_lookAhead 50 = .ok (.iload_n 2, 1) := by decide +kernel
theorem dX6_lookAhead_51 : decode cX6_lookAhead 51 = .ok (.aload_n 0, 1) := by decide +kernel
theorem dX6_lookAhead_52 : decode cX6_lookAhead 52 = .ok (.getfield 38, 3) := by decide +kernel
theorem dX6_lookAhead_55 : decode cX6_lookAhead 55 = .ok (.iload_n 1, 1) := by decide +kernel
theorem dX6_lookAhead_56 : decode cX6_lookAhead 56 = .ok (.iload_n 2, 1) := by decide +kernel
theorem dX6_lookAhead_57 : decode cX6_lookAhead 57 = .ok (.iload_n 3, 1) := by decide +kernel
theorem dX6_lookAhead_58 : decode cX6_lookAhead 58 = .ok (.invokevirtual 163, 3) := by decide +kernel
theorem dX6_lookAhead_61 : decode cX6_lookAhead 61 = .ok (.invokevirtual 245, 3) := by decide +kernel
theorem dX6_lookAhead_64 : decode cX6_lookAhead 64 = .ok (.iinc 3 1, 3) := by decide +kernel
theorem dX6_lookAhead_67 : decode cX6_lookAhead 67 = .ok (.goto (-34), 3) := by decide +kernel
theorem dX6_lookAhead_70 : decode cX6_lookAhead 70 = .ok (.iinc 2 1, 3) := by decide +kernel
theorem dX6_lookAhead_73 : decode cX6_lookAhead 73 = .ok (.goto (-50), 3) := by decide +kernel
theorem dX6_lookAhead_76 : decode cX6_lookAhead 76 = .ok (.iinc 1 1, 3) := by decide +kernel
theorem dX6_lookAhead_79 : decode cX6_lookAhead 79 = .ok (.goto (-66), 3) := by decide +kernel
theorem dX6_lookAhead_82 : decode cX6_lookAhead 82 = .ok (.return_, 1) := by decide +kernel
set_option maxRecDepth 20000 in
theorem ggX6_isKnownBeside_X2_has : GoodIn wsX6_isKnownBeside wsX2_has := goodIn_r _ [7, 8, 9, 10, 11, 12, 13, 14, 24, 25] (by decide +kernel) (by decide +kernel)
set_option maxRecDepth 20000 in
theorem gX6_isKnownBeside_X2_has : GoodIn wsX6_isKnownBeside (wsV RX6 181 RX2 yX2_has wsX2_has) := goodIn_app (goodIn_of _ (by decide +kernel)) ggX6_isKnownBeside_X2_has
theorem dX6_isKnownBeside_0 : decode cX6_isKnownBeside 0 = .ok (.iconst 0, 1) := by decide +kernel
theorem dX6_isKnownBeside_1 : decode cX6_isKnownBeside 1 = .ok (.istore_n 3, 1) := by decide +kernel
theorem dX6_isKnownBeside_2 : decode cX6_isKnownBeside 2 = .ok (.iload_n 3, 1) := by decide +kernel
theorem dX6_isKnownBeside_3 : decode cX6_isKnownBeside 3 = .ok (.aload_n 0, 1) := by decide +kernel
theorem dX6_isKnownBeside_4 : decode cX6_isKnownBeside 4 = .ok (.getfield 59, 3) := by decide +kernel
theorem dX6_isKnownBeside_7 : decode cX6_isKnownBeside 7 = .ok (.if_icmp .ge 28, 3) := by decide +kernel
theorem dX6_isKnownBeside_10 : decode cX6_isKnownBeside 10 = .ok (.iload_n 3, 1) := by decide +kernel
theorem dX6_isKnownBeside_11 : decode cX6_isKnownBeside 11 = .ok (.iload_n 1, 1) := by decide +kernel
theorem dX6_isKnownBeside_12 : decode cX6_isKnownBeside 12 = .ok (.if_icmp .eq 17, 3) := by decide +kernel
theorem dX6_isKnownBeside_15 : decode cX6_isKnownBeside 15 = .ok (.aload_n 0, 1) := by decide +kernel
theorem dX6_isKnownBeside_16 : decode cX6_isKnownBeside 16 = .ok (.getfield 28, 3) := by decide +kernel
theorem dX6_isKnownBeside_19 : decode cX6_isKnownBeside 19 = .ok (.iload_n 3, 1) := by decide +kernel
theorem dX6_isKnownBeside_20 : decode cX6_isKnownBeside 20 = .ok (.iload_n 2, 1) := by decide +kernel
theorem dX6_isKnownBeside_21 : decode cX6_isKnownBeside 21 = .ok (.invokevirtual 181, 3) := by decide +kernel
theorem dX6_isKnownBeside_24 : decode cX6_isKnownBeside 24 = .ok (.ifCond .eq 5, 3) := by decide +kernel
theorem dX6_isKnownBeside_27 : decode cX6_isKnownBeside 27 = .ok (.iconst 1, 1) := by decide +kernel
theorem dX6_isKnownBeside_28 : decode cX6_isKnownBeside 28 = .ok (.ireturn, 1) := by decide +kernel
theorem dX6_isKnownBeside_29 : decode cX6_isKnownBeside 29 = .ok (.iinc 3 1, 3) := by decide +kernel
theorem dX6_isKnownBeside_32 : decode cX6_isKnownBeside 32 = .ok (.goto (-30), 3) := by decide +kernel
theorem dX6_isKnownBeside_35 : decode cX6_isKnownBeside 35 = .ok (.iconst 0, 1) := by decide +kernel
theorem dX6_isKnownBeside_36 : decode cX6_isKnownBeside 36 = .ok (.ireturn, 1) := by decide +kernel
theorem dJ6_compare_7cf53_0 : decode cJ6_compare_7cf53 0 = .ok (.iload_n 0, 1) := by decide +kernel
theorem dJ6_compare_7cf53_1 : decode cJ6_compare_7cf53 1 = .ok (.iload_n 1, 1) := by decide +kernel
theorem dJ6_compare_7cf53_2 : decode cJ6_compare_7cf53 2 = .ok (.if_icmp .ge 7, 3) := by decide +kernel
theorem dJ6_compare_7cf53_5 : decode cJ6_compare_7cf53 5 = .ok (.iconst (-1), 1) := by decide +kernel
theorem dJ6_compare_7cf53_6 : decode cJ6_compare_7cf53 6 = .ok (.goto 13, 3) := by decide +kernel
theorem dJ6_compare_7cf53_9 : decode cJ6_compare_7cf53 9 = .ok (.iload_n 0, 1) := by decide +kernel
theorem dJ6_compare_7cf53_10 : decode cJ6_compare_7cf53 10 = .ok (.iload_n 1, 1) := by decide +kernel
theorem dJ6_compare_7cf53_11 : decode cJ6_compare_7cf53 11 = .ok (.if_icmp .ne 7, 3) := by decide +kernel
theorem dJ6_compare_7cf53_14 : decode cJ6_compare_7cf53 14 = .ok (.iconst 0, 1) := by decide +kernel
theorem dJ6_compare_7cf53_15 : decode cJ6_compare_7cf53 15 = .ok (.goto 4, 3) := by decide +kernel
theorem dJ6_compare_7cf53_18 : decode cJ6_compare_7cf53 18 = .ok (.iconst 1, 1) := by decide +kernel
theorem dJ6_compare_7cf53_19 : decode cJ6_compare_7cf53 19 = .ok (.ireturn, 1) := by decide +kernel
theorem dJ9_max_7cf53_0 : decode cJ9_max_7cf53 0 = .ok (.iload_n 0, 1) := by decide +kernel
theorem dJ9_max_7cf53_1 : decode cJ9_max_7cf53 1 = .ok (.iload_n 1, 1) := by decide +kernel
theorem dJ9_max_7cf53_2 : decode cJ9_max_7cf53 2 = .ok (.if_icmp .lt 7, 3) := by decide +kernel
theorem dJ9_max_7cf53_5 : decode cJ9_max_7cf53 5 = .ok (.iload_n 0, 1) := by decide +kernel
theorem dJ9_max_7cf53_6 : decode cJ9_max_7cf53 6 = .ok (.goto 4, 3) := by decide +kernel
theorem dJ9_max_7cf53_9 : decode cJ9_max_7cf53 9 = .ok (.iload_n 1, 1) := by decide +kernel
theorem dJ9_max_7cf53_10 : decode cJ9_max_7cf53 10 = .ok (.ireturn, 1) := by decide +kernel
theorem dL_cell_0 : decode cL_cell 0 = .ok (.iload_n 1, 1) := by decide +kernel
theorem dL_cell_1 : decode cL_cell 1 = .ok (.aload_n 0, 1) := by decide +kernel
theorem dL_cell_2 : decode cL_cell 2 = .ok (.arraylength, 1) := by decide +kernel
theorem dL_cell_3 : decode cL_cell 3 = .ok (.if_icmp .ge 9, 3) := by decide +kernel
theorem dL_cell_6 : decode cL_cell 6 = .ok (.aload_n 0, 1) := by decide +kernel
theorem dL_cell_7 : decode cL_cell 7 = .ok (.iload_n 1, 1) := by decide +kernel
theorem dL_cell_8 : decode cL_cell 8 = .ok (.iaload, 1) := by decide +kernel
theorem dL_cell_9 : decode cL_cell 9 = .ok (.goto 15, 3) := by decide +kernel
theorem dL_cell_12 : decode cL_cell 12 = .ok (.ldc 7, 2) := by decide +kernel
theorem dL_cell_14 : decode cL_cell 14 = .ok (.iload_n 1, 1) := by decide +kernel
theorem dL_cell_15 : decode cL_cell 15 = .ok (.sipush 1283, 3) := by decide +kernel
theorem dL_cell_18 : decode cL_cell 18 = .ok (.iadd, 1) := by decide +kernel
theorem dL_cell_19 : decode cL_cell 19 = .ok (.imul, 1) := by decide +kernel
theorem dL_cell_20 : decode cL_cell 20 = .ok (.sipush 1091, 3) := by decide +kernel
theorem dL_cell_23 : decode cL_cell 23 = .ok (.iadd, 1) := by decide +kernel
theorem dL_cell_24 : decode cL_cell 24 = .ok (.ireturn, 1) := by decide +kernel
theorem dL_low_0 : decode cL_low 0 = .ok (.iload_n 0, 1) := by decide +kernel
theorem dL_low_1 : decode cL_low 1 = .ok (.ldc 8, 2) := by decide +kernel
theorem dL_low_3 : decode cL_low 3 = .ok (.iand, 1) := by decide +kernel
theorem dL_low_4 : decode cL_low 4 = .ok (.iload_n 1, 1) := by decide +kernel
theorem dL_low_5 : decode cL_low 5 = .ok (.irem, 1) := by decide +kernel
theorem dL_low_6 : decode cL_low 6 = .ok (.ireturn, 1) := by decide +kernel
set_option maxRecDepth 20000 in
theorem ggL_sound_X6_siteInfo : GoodIn wsL_sound wsX6_siteInfo := goodIn_r _ [6, 7, 8, 9, 10, 11, 12, 13, 14, 15, 5, 16, 17, 18, 19, 20, 21, 22, 23, 24, 25, 26, 27, 28, 29, 30, 31, 32, 33, 34, 35, 36, 37, 38, 39, 40, 41, 42, 43, 44, 45, 46, 47, 48, 49, 50, 51, 52, 53, 54, 55, 56, 57, 58, 59, 60, 61, 62, 63, 64, 65, 66, 67, 68, 69, 70, 71, 72, 73, 74, 75, 76, 77, 78, 79, 80, 81, 82, 83, 84, 85, 86, 87, 88, 89, 90, 91, 92, 93, 94, 95, 96, 97, 98, 99, 100, 101, 102, 103, 104, 105, 106, 107, 108, 109, 110, 111, 112, 113, 114, 115, 116, 117, 118, 119, 120, 251, 252, 253, 254, 255, 256, 257, 258, 259, 260, 261, 262, 263, 264, 265, 266, 267, 268, 269, 270, 271, 272, 273, 274, 275, 276, 277, 278] (by decide +kernel) (by decide +kernel)
set_option maxRecDepth 20000 in
theorem gL_sound_X6_siteInfo : GoodIn wsL_sound (wsV RL 9 RX6 yX6_siteInfo wsX6_siteInfo) := goodIn_app (goodIn_of _ (by decide +kernel)) ggL_sound_X6_siteInfo
set_option maxRecDepth 20000 in
theorem ggL_sound_X6_operation : GoodIn wsL_sound wsX6_operation := goodIn_r _ [124, 7, 10, 125, 13, 14, 15, 5, 16, 17, 18, 19, 20, 38, 39, 40, 41, 42, 43, 44, 22, 23, 24, 25, 26, 126, 127, 128, 129, 83, 84, 85, 86, 130, 131, 132, 133, 134, 135, 136, 137, 138, 139, 140, 141, 142, 117, 143, 119, 120, 144, 145, 146, 147, 148, 149, 150, 151, 152, 153, 154, 102, 103, 104, 114, 115, 116, 118, 155, 78, 79, 80, 81, 156, 157, 158, 159, 160, 161, 162, 92, 93, 94, 95, 251, 252, 253, 254, 255, 256, 257, 258, 259, 262, 263, 264, 265, 266, 267, 268, 269, 260, 274, 275, 276, 277, 278] (by decide +kernel) (by decide +kernel)
set_option maxRecDepth 20000 in
theorem gL_sound_X6_operation : GoodIn wsL_sound (wsV RL 15 RX6 yX6_operation wsX6_operation) := goodIn_app (goodIn_of _ (by decide +kernel)) ggL_sound_X6_operation
set_option maxRecDepth 20000 in
theorem ggL_sound_X6_knows : GoodIn wsL_sound wsX6_knows := goodIn_r _ [166, 7, 10, 125, 9, 13, 14, 15, 5, 16, 17, 18, 19, 20, 38, 39, 40, 41, 42, 43, 44, 22, 23, 24, 25, 26, 126, 127, 128, 167, 33, 34, 30, 35, 36, 37, 251, 252, 253, 254, 255, 256, 257, 258, 259, 262, 263, 264, 265, 266, 267, 268, 269, 260, 261] (by decide +kernel) (by decide +kernel)
set_option maxRecDepth 20000 in
theorem gL_sound_X6_knows : GoodIn wsL_sound (wsV RL 19 RX6 yX6_knows wsX6_knows) := goodIn_app (goodIn_of _ (by decide +kernel)) ggL_sound_X6_knows
end
section
set_option maxRecDepth 20000 in
theorem ggL_sound_X6_stroke : GoodIn wsL_sound wsX6_stroke := goodIn_r _ [171, 7, 11, 10, 9, 125, 18, 19, 5, 20, 13, 14, 15, 16, 17, 45, 46, 47, 48, 49, 50, 51, 52, 53, 54, 55, 41, 56, 57, 58, 59, 60, 24, 61, 26, 62, 63, 64, 65, 66, 22, 23, 25, 67, 68, 69, 70, 71, 44, 72, 33, 34, 30, 35, 36, 37, 73, 74, 75, 76, 77, 78, 79, 80, 81, 82, 83, 84, 85, 86, 87, 88, 89, 90, 91, 92, 93, 94, 95, 96, 97, 98, 99, 100, 101, 102, 103, 104, 105, 106, 107, 108, 109, 110, 111, 112, 113, 172, 173, 174, 175, 176, 177, 178, 179, 114, 115, 116, 117, 118, 119, 120, 180, 145, 146, 147, 148, 181, 150, 151, 152, 153, 182, 183, 184, 185, 159, 160, 161, 156, 157, 158, 186, 187, 188, 189, 190, 191, 192, 193, 194, 251, 252, 253, 254, 255, 256, 257, 258, 259, 270, 271, 272, 273, 262, 263, 264, 265, 266, 267, 268, 269, 260, 261, 274, 275, 276, 277, 278] (by decide +kernel) (by decide +kernel)
set_option maxRecDepth 20000 in
theorem gL_sound_X6_stroke : GoodIn wsL_sound (wsV RL 22 RX6 yX6_stroke wsX6_stroke) := goodIn_app (goodIn_of _ (by decide +kernel)) ggL_sound_X6_stroke
set_option maxRecDepth 20000 in
theorem ggL_sound_X6_endangered : GoodIn wsL_sound wsX6_endangered := goodIn_r _ [198, 7, 10, 199, 13, 14, 15, 5, 16, 17, 18, 19, 20, 38, 39, 40, 41, 42, 43, 44, 22, 23, 24, 25, 26, 126, 127, 128, 200, 201, 202, 203, 9, 167, 33, 34, 30, 35, 36, 37, 204, 205, 206, 207, 208, 209, 210, 211, 251, 252, 253, 254, 255, 256, 257, 258, 259, 262, 263, 264, 265, 266, 267, 268, 269, 260, 261, 279, 280] (by decide +kernel) (by decide +kernel)
set_option maxRecDepth 20000 in
theorem gL_sound_X6_endangered : GoodIn wsL_sound (wsV RL 25 RX6 yX6_endangered wsX6_endangered) := goodIn_app (goodIn_of _ (by decide +kernel)) ggL_sound_X6_endangered
set_option maxRecDepth 20000 in
theorem ggL_sound_X6_gap : GoodIn wsL_sound wsX6_gap := goodIn_r _ [215, 7, 9, 125, 13, 14, 15, 5, 16, 17, 18, 19, 20, 126, 127, 128, 167, 33, 34, 30, 35, 36, 37, 22, 23, 24, 25, 26, 251, 252, 253, 254, 255, 256, 257, 258, 259, 261, 260] (by decide +kernel) (by decide +kernel)
set_option maxRecDepth 20000 in
theorem gL_sound_X6_gap : GoodIn wsL_sound (wsV RL 29 RX6 yX6_gap wsX6_gap) := goodIn_app (goodIn_of _ (by decide +kernel)) ggL_sound_X6_gap
set_option maxRecDepth 20000 in
theorem ggL_sound_X6_bestHelper : GoodIn wsL_sound wsX6_bestHelper := goodIn_r _ [219, 7, 125, 17, 13, 14, 15, 5, 16, 18, 19, 20, 220, 221, 222, 223, 224, 225, 226, 227, 9, 228, 229, 230, 30, 231, 32, 33, 34, 35, 36, 37, 22, 23, 24, 25, 26, 232, 233, 234, 235, 160, 161, 157, 158, 127, 128, 167, 251, 252, 253, 254, 255, 256, 257, 258, 259, 261, 260] (by decide +kernel) (by decide +kernel)
set_option maxRecDepth 20000 in
theorem gL_sound_X6_bestHelper : GoodIn wsL_sound (wsV RL 35 RX6 yX6_bestHelper wsX6_bestHelper) := goodIn_app (goodIn_of _ (by decide +kernel)) ggL_sound_X6_bestHelper
set_option maxRecDepth 20000 in
theorem ggL_sound_X6_areSame : GoodIn wsL_sound wsX6_areSame := goodIn_r _ [239, 7, 9, 13, 14, 15, 5, 16, 17, 18, 19, 20, 240, 241, 242, 243, 11, 10, 244, 45, 46, 47, 48, 49, 50, 51, 52, 53, 54, 55, 41, 56, 57, 58, 59, 60, 24, 61, 26, 62, 63, 64, 65, 66, 22, 23, 25, 67, 68, 69, 70, 71, 44, 72, 33, 34, 30, 35, 36, 37, 73, 74, 75, 76, 77, 78, 79, 80, 81, 82, 83, 84, 85, 86, 87, 88, 89, 90, 91, 92, 93, 94, 95, 96, 97, 98, 99, 100, 101, 102, 103, 104, 105, 106, 107, 108, 109, 245, 246, 247, 248, 249, 173, 174, 175, 250, 187, 188, 189, 251, 252, 253, 254, 255, 256, 257, 258, 259, 270, 271, 272, 273, 262, 263, 264, 265, 266, 267, 268, 269, 260, 261] (by decide +kernel) (by decide +kernel)
set_option maxRecDepth 20000 in
theorem gL_sound_X6_areSame : GoodIn wsL_sound (wsV RL 38 RX6 yX6_areSame wsX6_areSame) := goodIn_app (goodIn_of _ (by decide +kernel)) ggL_sound_X6_areSame
theorem dL_sound_0 : decode cL_sound 0 = .ok (.aload_n 0, 1) := by decide +kernel
theorem dL_sound_1 : decode cL_sound 1 = .ok (.iload_n 1, 1) := by decide +kernel
theorem dL_sound_2 : decode cL_sound 2 = .ok (.iconst 2, 1) := by decide +kernel
theorem dL_sound_3 : decode cL_sound 3 = .ok (.invokevirtual 9, 3) := by decide +kernel
theorem dL_sound_6 : decode cL_sound 6 = .ok (.istore_n 3, 1) := by decide +kernel
theorem dL_sound_7 : decode cL_sound 7 = .ok (.iconst 0, 1) := by decide +kernel
theorem dL_sound_8 : decode cL_sound 8 = .ok (.istore 4, 2) := by decide +kernel
theorem dL_sound_10 : decode cL_sound 10 = .ok (.iconst 1, 1) := by decide +kernel
theorem dL_sound_11 : decode cL_sound 11 = .ok (.istore 5, 2) := by decide +kernel
theorem dL_sound_13 : decode cL_sound 13 = .ok (.iload 5, 2) := by decide +kernel
theorem dL_sound_15 : decode cL_sound 15 = .ok (.iload_n 3, 1) := by decide +kernel
theorem dL_sound_16 : decode cL_sound 16 = .ok (.if_icmp .gt 55, 3) := by decide +kernel
theorem dL_sound_19 : decode cL_sound 19 = .ok (.aload_n 0, 1) := by decide +kernel
theorem dL_sound_20 : decode cL_sound 20 = .ok (.iload_n 1, 1) := by decide +kernel
theorem dL_sound_21 : decode cL_sound 21 = .ok (.iload 5, 2) := by decide +kernel
theorem dL_sound_23 : decode cL_sound 23 = .ok (.iconst 1, 1) := by decide +kernel
theorem dL_sound_24 : decode cL_sound 24 = .ok (.invokevirtual 15, 3) := by decide +kernel
theorem dL_sound_27 : decode cL_sound 27 = .ok (.istore 6, 2) := by decide +kernel
theorem dL_sound_29 : decode cL_sound 29 = .ok (.aload_n 0, 1) := by decide +kernel
theorem dL_sound_30 : decode cL_sound 30 = .ok (.iload_n 1, 1) := by decide +kernel
theorem dL_sound_31 : decode cL_sound 31 = .ok (.iload_n 1, 1) := by decide +kernel
theorem dL_sound_32 : decode cL_sound 32 = .ok (.iload 5, 2) := by decide +kernel
theorem dL_sound_34 : decode cL_sound 34 = .ok (.invokevirtual 19, 3) := by decide +kernel
theorem dL_sound_37 : decode cL_sound 37 = .ok (.iconst 1, 1) := by decide +kernel
theorem dL_sound_38 : decode cL_sound 38 = .ok (.if_icmp .ne 21, 3) := by decide +kernel
theorem dL_sound_41 : decode cL_sound 41 = .ok (.iload 6, 2) := by decide +kernel
theorem dL_sound_43 : decode cL_sound 43 = .ok (.iload 4, 2) := by decide +kernel
theorem dL_sound_45 : decode cL_sound 45 = .ok (.if_icmp .le 14, 3) := by decide +kernel
theorem dL_sound_48 : decode cL_sound 48 = .ok (.iload 6, 2) := by decide +kernel
theorem dL_sound_50 : decode cL_sound 50 = .ok (.aload_n 0, 1) := by decide +kernel
theorem dL_sound_51 : decode cL_sound 51 = .ok (.iload_n 1, 1) := by decide +kernel
theorem dL_sound_52 : decode cL_sound 52 = .ok (.iconst 0, 1) := by decide +kernel
theorem dL_sound_53 : decode cL_sound 53 = .ok (.invokevirtual 9, 3) := by decide +kernel
theorem dL_sound_56 : decode cL_sound 56 = .ok (.if_icmp .le 5, 3) := by decide +kernel
theorem dL_sound_59 : decode cL_sound 59 = .ok (.iconst 0, 1) := by decide +kernel
theorem dL_sound_60 : decode cL_sound 60 = .ok (.ireturn, 1) := by decide +kernel
theorem dL_sound_61 : decode cL_sound 61 = .ok (.iload 6, 2) := by decide +kernel
theorem dL_sound_63 : decode cL_sound 63 = .ok (.istore 4, 2) := by decide +kernel
theorem dL_sound_65 : decode cL_sound 65 = .ok (.iinc 5 1, 3) := by decide +kernel
theorem dL_sound_68 : decode cL_sound 68 = .ok (.goto (-55), 3) := by decide +kernel
theorem dL_sound_71 : decode cL_sound 71 = .ok (.aload_n 0, 1) := by decide +kernel
theorem dL_sound_72 : decode cL_sound 72 = .ok (.iload_n 1, 1) := by decide +kernel
theorem dL_sound_73 : decode cL_sound 73 = .ok (.iconst 3, 1) := by decide +kernel
theorem dL_sound_74 : decode cL_sound 74 = .ok (.invokevirtual 9, 3) := by decide +kernel
theorem dL_sound_77 : decode cL_sound 77 = .ok (.istore 5, 2) := by decide +kernel
theorem dL_sound_79 : decode cL_sound 79 = .ok (.iconst 0, 1) := by decide +kernel
theorem dL_sound_80 : decode cL_sound 80 = .ok (.istore 6, 2) := by decide +kernel
theorem dL_sound_82 : decode cL_sound 82 = .ok (.iload 6, 2) := by decide +kernel
theorem dL_sound_84 : decode cL_sound 84 = .ok (.iload 5, 2) := by decide +kernel
theorem dL_sound_86 : decode cL_sound 86 = .ok (.if_icmp .ge 99, 3) := by decide +kernel
theorem dL_sound_89 : decode cL_sound 89 = .ok (.aload_n 0, 1) := by decide +kernel
theorem dL_sound_90 : decode cL_sound 90 = .ok (.iload_n 1, 1) := by decide +kernel
theorem dL_sound_91 : decode cL_sound 91 = .ok (.iload 6, 2) := by decide +kernel
theorem dL_sound_93 : decode cL_sound 93 = .ok (.iconst 0, 1) := by decide +kernel
theorem dL_sound_94 : decode cL_sound 94 = .ok (.invokevirtual 22, 3) := by decide +kernel
theorem dL_sound_97 : decode cL_sound 97 = .ok (.istore 7, 2) := by decide +kernel
theorem dL_sound_99 : decode cL_sound 99 = .ok (.aload_n 0, 1) := by decide +kernel
theorem dL_sound_100 : decode cL_sound 100 = .ok (.iload_n 1, 1) := by decide +kernel
theorem dL_sound_101 : decode cL_sound 101 = .ok (.iload 6, 2) := by decide +kernel
theorem dL_sound_103 : decode cL_sound 103 = .ok (.iconst 1, 1) := by decide +kernel
theorem dL_sound_104 : decode cL_sound 104 = .ok (.invokevirtual 22, 3) := by decide +kernel
theorem dL_sound_107 : decode cL_sound 107 = .ok (.istore 8, 2) := by decide +kernel
theorem dL_sound_109 : decode cL_sound 109 = .ok (.aload_n 0, 1) := by decide +kernel
theorem dL_sound_110 : decode cL_sound 110 = .ok (.iload 7, 2) := by decide +kernel
theorem dL_sound_112 : decode cL_sound 112 = .ok (.iload 8, 2) := by decide +kernel
theorem dL_sound_114 : decode cL_sound 114 = .ok (.iconst 0, 1) := by decide +kernel
theorem dL_sound_115 : decode cL_sound 115 = .ok (.invokevirtual 15, 3) := by decide +kernel
theorem dL_sound_118 : decode cL_sound 118 = .ok (.ifCond .ne 59, 3) := by decide +kernel
theorem dL_sound_121 : decode cL_sound 121 = .ok (.aload_n 0, 1) := by decide +kernel
theorem dL_sound_122 : decode cL_sound 122 = .ok (.iload_n 1, 1) := by decide +kernel
theorem dL_sound_123 : decode cL_sound 123 = .ok (.iload 7, 2) := by decide +kernel
theorem dL_sound_125 : decode cL_sound 125 = .ok (.iload 8, 2) := by decide +kernel
theorem dL_sound_127 : decode cL_sound 127 = .ok (.invokevirtual 19, 3) := by decide +kernel
theorem dL_sound_130 : decode cL_sound 130 = .ok (.iconst 1, 1) := by decide +kernel
theorem dL_sound_131 : decode cL_sound 131 = .ok (.if_icmp .ne 46, 3) := by decide +kernel
theorem dL_sound_134 : decode cL_sound 134 = .ok (.aload_n 0, 1) := by decide +kernel
theorem dL_sound_135 : decode cL_sound 135 = .ok (.iload_n 1, 1) := by decide +kernel
theorem dL_sound_136 : decode cL_sound 136 = .ok (.iload 6, 2) := by decide +kernel
theorem dL_sound_138 : decode cL_sound 138 = .ok (.iconst 4, 1) := by decide +kernel
theorem dL_sound_139 : decode cL_sound 139 = .ok (.invokevirtual 22, 3) := by decide +kernel
theorem dL_sound_142 : decode cL_sound 142 = .ok (.aload_n 0, 1) := by decide +kernel
theorem dL_sound_143 : decode cL_sound 143 = .ok (.iload 7, 2) := by decide +kernel
theorem dL_sound_145 : decode cL_sound 145 = .ok (.iload 8, 2) := by decide +kernel
theorem dL_sound_147 : decode cL_sound 147 = .ok (.iconst 3, 1) := by decide +kernel
theorem dL_sound_148 : decode cL_sound 148 = .ok (.invokevirtual 15, 3) := by decide +kernel
theorem dL_sound_151 : decode cL_sound 151 = .ok (.if_icmp .ne 26, 3) := by decide +kernel
theorem dL_sound_154 : decode cL_sound 154 = .ok (.aload_n 0, 1) := by decide +kernel
theorem dL_sound_155 : decode cL_sound 155 = .ok (.iload_n 1, 1) := by decide +kernel
theorem dL_sound_156 : decode cL_sound 156 = .ok (.iload 6, 2) := by decide +kernel
theorem dL_sound_158 : decode cL_sound 158 = .ok (.iconst 2, 1) := by decide +kernel
theorem dL_sound_159 : decode cL_sound 159 = .ok (.invokevirtual 22, 3) := by decide +kernel
theorem dL_sound_162 : decode cL_sound 162 = .ok (.ifCond .lt 15, 3) := by decide +kernel
theorem dL_sound_165 : decode cL_sound 165 = .ok (.aload_n 0, 1) := by decide +kernel
theorem dL_sound_166 : decode cL_sound 166 = .ok (.iload_n 1, 1) := by decide +kernel
theorem dL_sound_167 : decode cL_sound 167 = .ok (.iload 6, 2) := by decide +kernel
theorem dL_sound_169 : decode cL_sound 169 = .ok (.iconst 2, 1) := by decide +kernel
theorem dL_sound_170 : decode cL_sound 170 = .ok (.invokevirtual 22, 3) := by decide +kernel
theorem dL_sound_173 : decode cL_sound 173 = .ok (.iconst 3, 1) := by decide +kernel
theorem dL_sound_174 : decode cL_sound 174 = .ok (.if_icmp .le 5, 3) := by decide +kernel
theorem dL_sound_177 : decode cL_sound 177 = .ok (.iconst 0, 1) := by decide +kernel
theorem dL_sound_178 : decode cL_sound 178 = .ok (.ireturn, 1) := by decide +kernel
theorem dL_sound_179 : decode cL_sound 179 = .ok (.iinc 6 1, 3) := by decide +kernel
theorem dL_sound_182 : decode cL_sound 182 = .ok (.goto (-100), 3) := by decide +kernel
theorem dL_sound_185 : decode cL_sound 185 = .ok (.aload_n 0, 1) := by decide +kernel
theorem dL_sound_186 : decode cL_sound 186 = .ok (.iload_n 1, 1) := by decide +kernel
theorem dL_sound_187 : decode cL_sound 187 = .ok (.invokevirtual 25, 3) := by decide +kernel
theorem dL_sound_190 : decode cL_sound 190 = .ok (.istore 6, 2) := by decide +kernel
theorem dL_sound_192 : decode cL_sound 192 = .ok (.aload_n 0, 1) := by decide +kernel
theorem dL_sound_193 : decode cL_sound 193 = .ok (.iload_n 1, 1) := by decide +kernel
theorem dL_sound_194 : decode cL_sound 194 = .ok (.iconst 0, 1) := by decide +kernel
theorem dL_sound_195 : decode cL_sound 195 = .ok (.invokevirtual 9, 3) := by decide +kernel
theorem dL_sound_198 : decode cL_sound 198 = .ok (.iload_n 2, 1) := by decide +kernel
theorem dL_sound_199 : decode cL_sound 199 = .ok (.if_icmp .lt 65, 3) := by decide +kernel
theorem dL_sound_202 : decode cL_sound 202 = .ok (.iload_n 3, 1) := by decide +kernel
theorem dL_sound_203 : decode cL_sound 203 = .ok (.bipush 20, 2) := by decide +kernel
theorem dL_sound_205 : decode cL_sound 205 = .ok (.if_icmp .gt 59, 3) := by decide +kernel
end
section
theorem dL_sound_208 : decode cL_sound 208 = .ok (.iload_n 3, 1) := by decide +kernel
theorem dL_sound_209 : decode cL_sound 209 = .ok (.aload_n 0, 1) := by decide +kernel
theorem dL_sound_210 : decode cL_sound 210 = .ok (.iload_n 1, 1) := by decide +kernel
theorem dL_sound_211 : decode cL_sound 211 = .ok (.iconst 1, 1) := by decide +kernel
theorem dL_sound_212 : decode cL_sound 212 = .ok (.invokevirtual 9, 3) := by decide +kernel
theorem dL_sound_215 : decode cL_sound 215 = .ok (.if_icmp .gt 49, 3) := by decide +kernel
theorem dL_sound_218 : decode cL_sound 218 = .ok (.aload_n 0, 1) := by decide +kernel
theorem dL_sound_219 : decode cL_sound 219 = .ok (.iload_n 1, 1) := by decide +kernel
theorem dL_sound_220 : decode cL_sound 220 = .ok (.iload_n 1, 1) := by decide +kernel
theorem dL_sound_221 : decode cL_sound 221 = .ok (.iconst 0, 1) := by decide +kernel
theorem dL_sound_222 : decode cL_sound 222 = .ok (.invokevirtual 29, 3) := by decide +kernel
theorem dL_sound_225 : decode cL_sound 225 = .ok (.ldc 34, 2) := by decide +kernel
theorem dL_sound_227 : decode cL_sound 227 = .ok (.if_icmp .ne 37, 3) := by decide +kernel
theorem dL_sound_230 : decode cL_sound 230 = .ok (.iload 6, 2) := by decide +kernel
theorem dL_sound_232 : decode cL_sound 232 = .ok (.ifCond .lt 32, 3) := by decide +kernel
theorem dL_sound_235 : decode cL_sound 235 = .ok (.iload 6, 2) := by decide +kernel
theorem dL_sound_237 : decode cL_sound 237 = .ok (.iload_n 3, 1) := by decide +kernel
theorem dL_sound_238 : decode cL_sound 238 = .ok (.if_icmp .gt 26, 3) := by decide +kernel
theorem dL_sound_241 : decode cL_sound 241 = .ok (.aload_n 0, 1) := by decide +kernel
theorem dL_sound_242 : decode cL_sound 242 = .ok (.iload_n 1, 1) := by decide +kernel
theorem dL_sound_243 : decode cL_sound 243 = .ok (.invokevirtual 35, 3) := by decide +kernel
theorem dL_sound_246 : decode cL_sound 246 = .ok (.iload_n 1, 1) := by decide +kernel
theorem dL_sound_247 : decode cL_sound 247 = .ok (.if_icmp .eq 17, 3) := by decide +kernel
theorem dL_sound_250 : decode cL_sound 250 = .ok (.aload_n 0, 1) := by decide +kernel
theorem dL_sound_251 : decode cL_sound 251 = .ok (.iload_n 1, 1) := by decide +kernel
theorem dL_sound_252 : decode cL_sound 252 = .ok (.iload_n 1, 1) := by decide +kernel
theorem dL_sound_253 : decode cL_sound 253 = .ok (.invokevirtual 38, 3) := by decide +kernel
theorem dL_sound_256 : decode cL_sound 256 = .ok (.iconst 1, 1) := by decide +kernel
theorem dL_sound_257 : decode cL_sound 257 = .ok (.if_icmp .ne 7, 3) := by decide +kernel
theorem dL_sound_260 : decode cL_sound 260 = .ok (.iconst 1, 1) := by decide +kernel
theorem dL_sound_261 : decode cL_sound 261 = .ok (.goto 4, 3) := by decide +kernel
theorem dL_sound_264 : decode cL_sound 264 = .ok (.iconst 0, 1) := by decide +kernel
theorem dL_sound_265 : decode cL_sound 265 = .ok (.ireturn, 1) := by decide +kernel
set_option maxRecDepth 20000 in
theorem ggL_knowSame_X6_sites : GoodIn wsL_knowSame wsX6_sites := goodIn_r _ [5, 6, 133, 134, 135, 136, 137, 138, 139, 140, 141] (by decide +kernel) (by decide +kernel)
set_option maxRecDepth 20000 in
theorem gL_knowSame_X6_sites : GoodIn wsL_knowSame (wsV RL 41 RX6 yX6_sites wsX6_sites) := goodIn_app (goodIn_of _ (by decide +kernel)) ggL_knowSame_X6_sites
set_option maxRecDepth 20000 in
theorem ggL_knowSame_X6_siteInfo : GoodIn wsL_knowSame wsX6_siteInfo := goodIn_r _ [10, 11, 12, 13, 14, 15, 16, 17, 18, 19, 4, 20, 6, 21, 22, 23, 24, 25, 26, 27, 28, 29, 30, 31, 32, 33, 34, 35, 36, 37, 38, 39, 40, 41, 42, 43, 44, 45, 46, 47, 48, 49, 50, 51, 52, 53, 54, 55, 56, 57, 58, 59, 60, 61, 62, 63, 64, 65, 66, 67, 68, 69, 70, 71, 72, 73, 74, 75, 76, 77, 78, 79, 80, 81, 82, 83, 84, 85, 86, 87, 88, 89, 90, 91, 92, 93, 94, 95, 96, 97, 98, 99, 100, 101, 102, 103, 104, 105, 106, 107, 108, 109, 110, 111, 112, 113, 114, 115, 116, 117, 118, 119, 120, 121, 122, 123, 133, 134, 135, 136, 137, 138, 139, 140, 141, 142, 143, 144, 145, 146, 147, 148, 149, 150, 151, 152, 153, 154, 155, 156, 157, 158, 159, 160] (by decide +kernel) (by decide +kernel)
set_option maxRecDepth 20000 in
theorem gL_knowSame_X6_siteInfo : GoodIn wsL_knowSame (wsV RL 9 RX6 yX6_siteInfo wsX6_siteInfo) := goodIn_app (goodIn_of _ (by decide +kernel)) ggL_knowSame_X6_siteInfo
set_option maxRecDepth 20000 in
theorem ggL_knowSame_X6_knows : GoodIn wsL_knowSame wsX6_knows := goodIn_r _ [127, 11, 14, 128, 13, 17, 18, 19, 4, 20, 6, 21, 22, 23, 41, 42, 43, 44, 45, 46, 47, 25, 26, 27, 28, 29, 129, 130, 131, 132, 36, 37, 33, 38, 39, 40, 133, 134, 135, 136, 137, 138, 139, 140, 141, 144, 145, 146, 147, 148, 149, 150, 151, 142, 143] (by decide +kernel) (by decide +kernel)
set_option maxRecDepth 20000 in
theorem gL_knowSame_X6_knows : GoodIn wsL_knowSame (wsV RL 19 RX6 yX6_knows wsX6_knows) := goodIn_app (goodIn_of _ (by decide +kernel)) ggL_knowSame_X6_knows
theorem dL_knowSame_0 : decode cL_knowSame 0 = .ok (.iconst 1, 1) := by decide +kernel
theorem dL_knowSame_1 : decode cL_knowSame 1 = .ok (.istore_n 3, 1) := by decide +kernel
theorem dL_knowSame_2 : decode cL_knowSame 2 = .ok (.iconst 0, 1) := by decide +kernel
theorem dL_knowSame_3 : decode cL_knowSame 3 = .ok (.istore 4, 2) := by decide +kernel
theorem dL_knowSame_5 : decode cL_knowSame 5 = .ok (.iload 4, 2) := by decide +kernel
theorem dL_knowSame_7 : decode cL_knowSame 7 = .ok (.aload_n 0, 1) := by decide +kernel
theorem dL_knowSame_8 : decode cL_knowSame 8 = .ok (.invokevirtual 41, 3) := by decide +kernel
theorem dL_knowSame_11 : decode cL_knowSame 11 = .ok (.if_icmp .ge 61, 3) := by decide +kernel
theorem dL_knowSame_14 : decode cL_knowSame 14 = .ok (.iconst 1, 1) := by decide +kernel
theorem dL_knowSame_15 : decode cL_knowSame 15 = .ok (.istore 5, 2) := by decide +kernel
theorem dL_knowSame_17 : decode cL_knowSame 17 = .ok (.iload 5, 2) := by decide +kernel
theorem dL_knowSame_19 : decode cL_knowSame 19 = .ok (.aload_n 0, 1) := by decide +kernel
theorem dL_knowSame_20 : decode cL_knowSame 20 = .ok (.iload 4, 2) := by decide +kernel
theorem dL_knowSame_22 : decode cL_knowSame 22 = .ok (.iconst 2, 1) := by decide +kernel
theorem dL_knowSame_23 : decode cL_knowSame 23 = .ok (.invokevirtual 9, 3) := by decide +kernel
theorem dL_knowSame_26 : decode cL_knowSame 26 = .ok (.if_icmp .gt 40, 3) := by decide +kernel
theorem dL_knowSame_29 : decode cL_knowSame 29 = .ok (.iload_n 3, 1) := by decide +kernel
theorem dL_knowSame_30 : decode cL_knowSame 30 = .ok (.ifCond .eq 28, 3) := by decide +kernel
theorem dL_knowSame_33 : decode cL_knowSame 33 = .ok (.aload_n 0, 1) := by decide +kernel
theorem dL_knowSame_34 : decode cL_knowSame 34 = .ok (.iload_n 1, 1) := by decide +kernel
theorem dL_knowSame_35 : decode cL_knowSame 35 = .ok (.iload 4, 2) := by decide +kernel
theorem dL_knowSame_37 : decode cL_knowSame 37 = .ok (.iload 5, 2) := by decide +kernel
theorem dL_knowSame_39 : decode cL_knowSame 39 = .ok (.invokevirtual 19, 3) := by decide +kernel
theorem dL_knowSame_42 : decode cL_knowSame 42 = .ok (.aload_n 0, 1) := by decide +kernel
theorem dL_knowSame_43 : decode cL_knowSame 43 = .ok (.iload_n 2, 1) := by decide +kernel
theorem dL_knowSame_44 : decode cL_knowSame 44 = .ok (.iload 4, 2) := by decide +kernel
theorem dL_knowSame_46 : decode cL_knowSame 46 = .ok (.iload 5, 2) := by decide +kernel
theorem dL_knowSame_48 : decode cL_knowSame 48 = .ok (.invokevirtual 19, 3) := by decide +kernel
theorem dL_knowSame_51 : decode cL_knowSame 51 = .ok (.if_icmp .ne 7, 3) := by decide +kernel
theorem dL_knowSame_54 : decode cL_knowSame 54 = .ok (.iconst 1, 1) := by decide +kernel
theorem dL_knowSame_55 : decode cL_knowSame 55 = .ok (.goto 4, 3) := by decide +kernel
theorem dL_knowSame_58 : decode cL_knowSame 58 = .ok (.iconst 0, 1) := by decide +kernel
theorem dL_knowSame_59 : decode cL_knowSame 59 = .ok (.istore_n 3, 1) := by decide +kernel
theorem dL_knowSame_60 : decode cL_knowSame 60 = .ok (.iinc 5 1, 3) := by decide +kernel
theorem dL_knowSame_63 : decode cL_knowSame 63 = .ok (.goto (-46), 3) := by decide +kernel
theorem dL_knowSame_66 : decode cL_knowSame 66 = .ok (.iinc 4 1, 3) := by decide +kernel
theorem dL_knowSame_69 : decode cL_knowSame 69 = .ok (.goto (-64), 3) := by decide +kernel
theorem dL_knowSame_72 : decode cL_knowSame 72 = .ok (.iload_n 3, 1) := by decide +kernel
theorem dL_knowSame_73 : decode cL_knowSame 73 = .ok (.ireturn, 1) := by decide +kernel
set_option maxRecDepth 20000 in
theorem ggL_pairs_X6_sites : GoodIn wsL_pairs wsX6_sites := goodIn_r _ [5, 6, 206, 207, 208, 209, 210, 211, 212, 213, 214] (by decide +kernel) (by decide +kernel)
set_option maxRecDepth 20000 in
theorem gL_pairs_X6_sites : GoodIn wsL_pairs (wsV RL 41 RX6 yX6_sites wsX6_sites) := goodIn_app (goodIn_of _ (by decide +kernel)) ggL_pairs_X6_sites
set_option maxRecDepth 20000 in
theorem ggL_pairs_X6_areSame : GoodIn wsL_pairs wsX6_areSame := goodIn_r _ [10, 11, 12, 13, 14, 15, 4, 16, 6, 17, 18, 19, 20, 21, 22, 23, 24, 25, 26, 27, 28, 29, 30, 31, 32, 33, 34, 35, 36, 37, 38, 39, 40, 41, 42, 43, 44, 45, 46, 47, 48, 49, 50, 51, 52, 53, 54, 55, 56, 57, 58, 59, 60, 61, 62, 63, 64, 65, 66, 67, 68, 69, 70, 71, 72, 73, 74, 75, 76, 77, 78, 79, 80, 81, 82, 83, 84, 85, 86, 87, 88, 89, 90, 91, 92, 93, 94, 95, 96, 97, 98, 99, 100, 101, 102, 103, 104, 105, 106, 107, 108, 109, 110, 111, 112, 113, 114, 115, 116, 206, 207, 208, 209, 210, 211, 212, 213, 214, 215, 216, 217, 218, 219, 220, 221, 222, 223, 224, 225, 226, 227, 228] (by decide +kernel) (by decide +kernel)
set_option maxRecDepth 20000 in
theorem gL_pairs_X6_areSame : GoodIn wsL_pairs (wsV RL 38 RX6 yX6_areSame wsX6_areSame) := goodIn_app (goodIn_of _ (by decide +kernel)) ggL_pairs_X6_areSame
set_option maxRecDepth 20000 in
theorem ggL_pairs_L_knowSame : GoodIn wsL_pairs wsL_knowSame := goodIn_r _ [120, 1, 2, 3, 4, 5, 6, 121, 122, 123, 124, 11, 125, 12, 25, 24, 126, 13, 14, 15, 16, 17, 18, 19, 127, 52, 53, 44, 54, 46, 128, 129, 130, 64, 131, 132, 62, 63, 65, 66, 67, 133, 134, 135, 38, 136, 137, 60, 27, 28, 29, 30, 31, 32, 33, 34, 35, 36, 37, 39, 40, 41, 42, 43, 45, 47, 48, 49, 50, 51, 55, 56, 57, 58, 59, 61, 68, 69, 70, 71, 72, 73, 74, 75, 76, 77, 78, 79, 80, 81, 82, 83, 84, 85, 86, 87, 88, 89, 90, 91, 92, 93, 94, 95, 96, 97, 98, 99, 100, 101, 102, 103, 104, 138, 139, 140, 141, 142, 143, 144, 145, 146, 147, 148, 149, 150, 151, 152, 153, 154, 155, 156, 157, 206, 207, 208, 209, 210, 211, 212, 213, 214, 227, 228, 219, 220, 221, 222, 223, 224, 225, 226, 215, 216, 217, 218, 229, 230, 231, 232, 233] (by decide +kernel) (by decide +kernel)
set_option maxRecDepth 20000 in
theorem gL_pairs_L_knowSame : GoodIn wsL_pairs (va_wsS RL 45 yL_knowSame wsL_knowSame) := goodIn_app (goodIn_of _ (by decide +kernel)) ggL_pairs_L_knowSame
set_option maxRecDepth 20000 in
theorem ggL_pairs_X6_digest : GoodIn wsL_pairs wsX6_digest := goodIn_r _ [161, 24, 25, 12, 13, 14, 15, 4, 16, 6, 17, 18, 19, 27, 28, 29, 30, 31, 32, 33, 34, 35, 36, 37, 38, 39, 40, 41, 42, 43, 44, 45, 46, 47, 48, 49, 50, 51, 52, 53, 54, 55, 56, 57, 58, 59, 60, 61, 62, 63, 64, 65, 66, 67, 68, 69, 70, 71, 72, 73, 74, 75, 76, 77, 78, 79, 80, 81, 82, 83, 84, 85, 86, 87, 88, 89, 90, 91, 92, 93, 94, 95, 96, 97, 98, 99, 100, 101, 102, 103, 104, 162, 163, 164, 165, 166, 167, 168, 169, 170, 171, 172, 145, 173, 174, 148, 175, 176, 177, 178, 179, 143, 144, 146, 147, 180, 181, 182, 183, 184, 185, 186, 187, 188, 189, 206, 207, 208, 209, 210, 211, 212, 213, 214, 215, 216, 217, 218, 219, 220, 221, 222, 223, 224, 225, 226, 227, 228, 229, 230, 231, 232, 233] (by decide +kernel) (by decide +kernel)
set_option maxRecDepth 20000 in
theorem gL_pairs_X6_digest : GoodIn wsL_pairs (wsV RL 49 RX6 yX6_digest wsX6_digest) := goodIn_app (goodIn_of _ (by decide +kernel)) ggL_pairs_X6_digest
set_option maxRecDepth 20000 in
theorem ggL_pairs_X6_waiting : GoodIn wsL_pairs wsX6_waiting := goodIn_r _ [193, 194, 11, 195, 196, 197, 4, 198, 13, 14, 15, 16, 6, 17, 18, 19, 199, 200, 201, 202, 203, 204, 205, 52, 53, 44, 54, 46, 206, 207, 208, 209, 210, 211, 212, 213, 214, 234, 235, 227] (by decide +kernel) (by decide +kernel)
set_option maxRecDepth 20000 in
theorem gL_pairs_X6_waiting : GoodIn wsL_pairs (wsV RL 52 RX6 yX6_waiting wsX6_waiting) := goodIn_app (goodIn_of _ (by decide +kernel)) ggL_pairs_X6_waiting
theorem dL_pairs_0 : decode cL_pairs 0 = .ok (.iconst 0, 1) := by decide +kernel
theorem dL_pairs_1 : decode cL_pairs 1 = .ok (.istore_n 1, 1) := by decide +kernel
theorem dL_pairs_2 : decode cL_pairs 2 = .ok (.iload_n 1, 1) := by decide +kernel
theorem dL_pairs_3 : decode cL_pairs 3 = .ok (.aload_n 0, 1) := by decide +kernel
theorem dL_pairs_4 : decode cL_pairs 4 = .ok (.invokevirtual 41, 3) := by decide +kernel
theorem dL_pairs_7 : decode cL_pairs 7 = .ok (.if_icmp .ge 98, 3) := by decide +kernel
theorem dL_pairs_10 : decode cL_pairs 10 = .ok (.iconst 0, 1) := by decide +kernel
theorem dL_pairs_11 : decode cL_pairs 11 = .ok (.istore_n 2, 1) := by decide +kernel
theorem dL_pairs_12 : decode cL_pairs 12 = .ok (.iload_n 2, 1) := by decide +kernel
theorem dL_pairs_13 : decode cL_pairs 13 = .ok (.aload_n 0, 1) := by decide +kernel
theorem dL_pairs_14 : decode cL_pairs 14 = .ok (.invokevirtual 41, 3) := by decide +kernel
theorem dL_pairs_17 : decode cL_pairs 17 = .ok (.if_icmp .ge 82, 3) := by decide +kernel
theorem dL_pairs_20 : decode cL_pairs 20 = .ok (.aload_n 0, 1) := by decide +kernel
theorem dL_pairs_21 : decode cL_pairs 21 = .ok (.iload_n 1, 1) := by decide +kernel
theorem dL_pairs_22 : decode cL_pairs 22 = .ok (.iload_n 2, 1) := by decide +kernel
theorem dL_pairs_23 : decode cL_pairs 23 = .ok (.invokevirtual 38, 3) := by decide +kernel
theorem dL_pairs_26 : decode cL_pairs 26 = .ok (.iconst 1, 1) := by decide +kernel
theorem dL_pairs_27 : decode cL_pairs 27 = .ok (.if_icmp .ne 7, 3) := by decide +kernel
theorem dL_pairs_30 : decode cL_pairs 30 = .ok (.iconst 1, 1) := by decide +kernel
theorem dL_pairs_31 : decode cL_pairs 31 = .ok (.goto 4, 3) := by decide +kernel
theorem dL_pairs_34 : decode cL_pairs 34 = .ok (.iconst 0, 1) := by decide +kernel
theorem dL_pairs_35 : decode cL_pairs 35 = .ok (.istore_n 3, 1) := by decide +kernel
theorem dL_pairs_36 : decode cL_pairs 36 = .ok (.aload_n 0, 1) := by decide +kernel
theorem dL_pairs_37 : decode cL_pairs 37 = .ok (.iload_n 1, 1) := by decide +kernel
theorem dL_pairs_38 : decode cL_pairs 38 = .ok (.iload_n 2, 1) := by decide +kernel
theorem dL_pairs_39 : decode cL_pairs 39 = .ok (.invokestatic 45, 3) := by decide +kernel
theorem dL_pairs_42 : decode cL_pairs 42 = .ok (.ifCond .eq 7, 3) := by decide +kernel
theorem dL_pairs_45 : decode cL_pairs 45 = .ok (.iload_n 3, 1) := by decide +kernel
theorem dL_pairs_46 : decode cL_pairs 46 = .ok (.ifCond .eq 45, 3) := by decide +kernel
theorem dL_pairs_49 : decode cL_pairs 49 = .ok (.iload_n 3, 1) := by decide +kernel
theorem dL_pairs_50 : decode cL_pairs 50 = .ok (.ifCond .eq 16, 3) := by decide +kernel
theorem dL_pairs_53 : decode cL_pairs 53 = .ok (.aload_n 0, 1) := by decide +kernel
theorem dL_pairs_54 : decode cL_pairs 54 = .ok (.iload_n 1, 1) := by decide +kernel
theorem dL_pairs_55 : decode cL_pairs 55 = .ok (.invokevirtual 49, 3) := by decide +kernel
theorem dL_pairs_58 : decode cL_pairs 58 = .ok (.aload_n 0, 1) := by decide +kernel
theorem dL_pairs_59 : decode cL_pairs 59 = .ok (.iload_n 2, 1) := by decide +kernel
theorem dL_pairs_60 : decode cL_pairs 60 = .ok (.invokevirtual 49, 3) := by decide +kernel
theorem dL_pairs_63 : decode cL_pairs 63 = .ok (.if_icmp .ne 28, 3) := by decide +kernel
theorem dL_pairs_66 : decode cL_pairs 66 = .ok (.iload_n 1, 1) := by decide +kernel
end
section
theorem dL_pairs_67 : decode cL_pairs 67 = .ok (.iload_n 2, 1) := by decide +kernel
theorem dL_pairs_68 : decode cL_pairs 68 = .ok (.if_icmp .eq 25, 3) := by decide +kernel
theorem dL_pairs_71 : decode cL_pairs 71 = .ok (.aload_n 0, 1) := by decide +kernel
theorem dL_pairs_72 : decode cL_pairs 72 = .ok (.iload_n 1, 1) := by decide +kernel
theorem dL_pairs_73 : decode cL_pairs 73 = .ok (.iload_n 2, 1) := by decide +kernel
theorem dL_pairs_74 : decode cL_pairs 74 = .ok (.invokevirtual 52, 3) := by decide +kernel
theorem dL_pairs_77 : decode cL_pairs 77 = .ok (.ifCond .lt 14, 3) := by decide +kernel
theorem dL_pairs_80 : decode cL_pairs 80 = .ok (.aload_n 0, 1) := by decide +kernel
theorem dL_pairs_81 : decode cL_pairs 81 = .ok (.iload_n 1, 1) := by decide +kernel
theorem dL_pairs_82 : decode cL_pairs 82 = .ok (.iload_n 2, 1) := by decide +kernel
theorem dL_pairs_83 : decode cL_pairs 83 = .ok (.invokevirtual 52, 3) := by decide +kernel
theorem dL_pairs_86 : decode cL_pairs 86 = .ok (.bipush 10, 2) := by decide +kernel
theorem dL_pairs_88 : decode cL_pairs 88 = .ok (.if_icmp .le 5, 3) := by decide +kernel
theorem dL_pairs_91 : decode cL_pairs 91 = .ok (.iconst 0, 1) := by decide +kernel
theorem dL_pairs_92 : decode cL_pairs 92 = .ok (.ireturn, 1) := by decide +kernel
theorem dL_pairs_93 : decode cL_pairs 93 = .ok (.iinc 2 1, 3) := by decide +kernel
theorem dL_pairs_96 : decode cL_pairs 96 = .ok (.goto (-84), 3) := by decide +kernel
theorem dL_pairs_99 : decode cL_pairs 99 = .ok (.iinc 1 1, 3) := by decide +kernel
theorem dL_pairs_102 : decode cL_pairs 102 = .ok (.goto (-100), 3) := by decide +kernel
theorem dL_pairs_105 : decode cL_pairs 105 = .ok (.iconst 1, 1) := by decide +kernel
theorem dL_pairs_106 : decode cL_pairs 106 = .ok (.ireturn, 1) := by decide +kernel
set_option maxRecDepth 20000 in
theorem ggL_repairs_X6_siteInfo : GoodIn wsL_repairs wsX6_siteInfo := goodIn_r _ [6, 7, 8, 9, 10, 11, 12, 13, 14, 15, 5, 16, 17, 18, 19, 20, 21, 22, 23, 24, 25, 26, 27, 28, 29, 30, 31, 32, 33, 34, 35, 36, 37, 38, 39, 40, 41, 42, 43, 44, 45, 46, 47, 48, 49, 50, 51, 52, 53, 54, 55, 56, 57, 58, 59, 60, 61, 62, 63, 64, 65, 66, 67, 68, 69, 70, 71, 72, 73, 74, 75, 76, 77, 78, 79, 80, 81, 82, 83, 84, 85, 86, 87, 88, 89, 90, 91, 92, 93, 94, 95, 96, 97, 98, 99, 100, 101, 102, 103, 104, 105, 106, 107, 108, 109, 110, 111, 112, 113, 114, 115, 116, 117, 118, 119, 120, 189, 190, 191, 192, 193, 194, 195, 196, 197, 198, 199, 200, 201, 202, 203, 204, 205, 206, 207, 208, 209, 210, 211, 212, 213, 214, 215, 216] (by decide +kernel) (by decide +kernel)
set_option maxRecDepth 20000 in
theorem gL_repairs_X6_siteInfo : GoodIn wsL_repairs (wsV RL 9 RX6 yX6_siteInfo wsX6_siteInfo) := goodIn_app (goodIn_of _ (by decide +kernel)) ggL_repairs_X6_siteInfo
set_option maxRecDepth 20000 in
theorem ggL_repairs_X6_bestHelper : GoodIn wsL_repairs wsX6_bestHelper := goodIn_r _ [124, 7, 125, 17, 13, 14, 15, 5, 16, 18, 19, 20, 126, 127, 128, 129, 130, 131, 132, 133, 9, 134, 135, 136, 30, 137, 32, 33, 34, 35, 36, 37, 22, 23, 24, 25, 26, 138, 139, 140, 141, 142, 143, 144, 145, 146, 147, 148, 189, 190, 191, 192, 193, 194, 195, 196, 197, 199, 198] (by decide +kernel) (by decide +kernel)
set_option maxRecDepth 20000 in
theorem gL_repairs_X6_bestHelper : GoodIn wsL_repairs (wsV RL 35 RX6 yX6_bestHelper wsX6_bestHelper) := goodIn_app (goodIn_of _ (by decide +kernel)) ggL_repairs_X6_bestHelper
set_option maxRecDepth 20000 in
theorem ggL_repairs_X6_repair : GoodIn wsL_repairs wsX6_repair := goodIn_r _ [152, 7, 153, 154, 155, 5, 156, 13, 14, 15, 16, 17, 18, 19, 20, 130, 131, 132, 133, 9, 134, 135, 136, 30, 137, 32, 33, 34, 35, 36, 37, 22, 23, 24, 25, 26, 138, 139, 140, 141, 142, 143, 144, 145, 146, 147, 148, 157, 158, 159, 160, 8, 10, 161, 162, 163, 164, 165, 166, 167, 168, 169, 88, 89, 90, 21, 170, 171, 172, 41, 173, 174, 44, 175, 189, 190, 191, 192, 193, 194, 195, 196, 197, 199, 198, 200, 201, 202, 203, 204, 205, 206, 207] (by decide +kernel) (by decide +kernel)
set_option maxRecDepth 20000 in
theorem gL_repairs_X6_repair : GoodIn wsL_repairs (wsV RL 55 RX6 yX6_repair wsX6_repair) := goodIn_app (goodIn_of _ (by decide +kernel)) ggL_repairs_X6_repair
set_option maxRecDepth 20000 in
theorem ggL_repairs_X6_sites : GoodIn wsL_repairs wsX6_sites := goodIn_r _ [179, 17, 189, 190, 191, 192, 193, 194, 195, 196, 197] (by decide +kernel) (by decide +kernel)
set_option maxRecDepth 20000 in
theorem gL_repairs_X6_sites : GoodIn wsL_repairs (wsV RL 41 RX6 yX6_sites wsX6_sites) := goodIn_app (goodIn_of _ (by decide +kernel)) ggL_repairs_X6_sites
set_option maxRecDepth 20000 in
theorem ggL_repairs_X6_gap : GoodIn wsL_repairs wsX6_gap := goodIn_r _ [183, 7, 9, 125, 13, 14, 15, 5, 16, 17, 18, 19, 20, 184, 146, 147, 148, 33, 34, 30, 35, 36, 37, 22, 23, 24, 25, 26, 189, 190, 191, 192, 193, 194, 195, 196, 197, 199, 198] (by decide +kernel) (by decide +kernel)
set_option maxRecDepth 20000 in
theorem gL_repairs_X6_gap : GoodIn wsL_repairs (wsV RL 29 RX6 yX6_gap wsX6_gap) := goodIn_app (goodIn_of _ (by decide +kernel)) ggL_repairs_X6_gap
set_option maxRecDepth 20000 in
theorem ggL_repairs_X6_knows : GoodIn wsL_repairs wsX6_knows := goodIn_r _ [188, 7, 10, 125, 9, 13, 14, 15, 5, 16, 17, 18, 19, 20, 38, 39, 40, 41, 42, 43, 44, 22, 23, 24, 25, 26, 184, 146, 147, 148, 33, 34, 30, 35, 36, 37, 189, 190, 191, 192, 193, 194, 195, 196, 197, 200, 201, 202, 203, 204, 205, 206, 207, 198, 199] (by decide +kernel) (by decide +kernel)
set_option maxRecDepth 20000 in
theorem gL_repairs_X6_knows : GoodIn wsL_repairs (wsV RL 19 RX6 yX6_knows wsX6_knows) := goodIn_app (goodIn_of _ (by decide +kernel)) ggL_repairs_X6_knows
theorem dL_repairs_0 : decode cL_repairs 0 = .ok (.aload_n 0, 1) := by decide +kernel
theorem dL_repairs_1 : decode cL_repairs 1 = .ok (.iload_n 1, 1) := by decide +kernel
theorem dL_repairs_2 : decode cL_repairs 2 = .ok (.iconst 1, 1) := by decide +kernel
theorem dL_repairs_3 : decode cL_repairs 3 = .ok (.invokevirtual 9, 3) := by decide +kernel
theorem dL_repairs_6 : decode cL_repairs 6 = .ok (.istore_n 3, 1) := by decide +kernel
theorem dL_repairs_7 : decode cL_repairs 7 = .ok (.aload_n 0, 1) := by decide +kernel
theorem dL_repairs_8 : decode cL_repairs 8 = .ok (.iload_n 1, 1) := by decide +kernel
theorem dL_repairs_9 : decode cL_repairs 9 = .ok (.invokevirtual 35, 3) := by decide +kernel
theorem dL_repairs_12 : decode cL_repairs 12 = .ok (.istore 4, 2) := by decide +kernel
theorem dL_repairs_14 : decode cL_repairs 14 = .ok (.aload_n 0, 1) := by decide +kernel
theorem dL_repairs_15 : decode cL_repairs 15 = .ok (.iload_n 1, 1) := by decide +kernel
theorem dL_repairs_16 : decode cL_repairs 16 = .ok (.iload_n 2, 1) := by decide +kernel
theorem dL_repairs_17 : decode cL_repairs 17 = .ok (.invokevirtual 55, 3) := by decide +kernel
theorem dL_repairs_20 : decode cL_repairs 20 = .ok (.istore 5, 2) := by decide +kernel
theorem dL_repairs_22 : decode cL_repairs 22 = .ok (.iload 5, 2) := by decide +kernel
theorem dL_repairs_24 : decode cL_repairs 24 = .ok (.ifCond .lt 28, 3) := by decide +kernel
theorem dL_repairs_27 : decode cL_repairs 27 = .ok (.aload_n 0, 1) := by decide +kernel
theorem dL_repairs_28 : decode cL_repairs 28 = .ok (.iload_n 1, 1) := by decide +kernel
theorem dL_repairs_29 : decode cL_repairs 29 = .ok (.iconst 1, 1) := by decide +kernel
theorem dL_repairs_30 : decode cL_repairs 30 = .ok (.invokevirtual 9, 3) := by decide +kernel
theorem dL_repairs_33 : decode cL_repairs 33 = .ok (.iload_n 3, 1) := by decide +kernel
theorem dL_repairs_34 : decode cL_repairs 34 = .ok (.iload 5, 2) := by decide +kernel
theorem dL_repairs_36 : decode cL_repairs 36 = .ok (.iadd, 1) := by decide +kernel
theorem dL_repairs_37 : decode cL_repairs 37 = .ok (.if_icmp .ne 15, 3) := by decide +kernel
theorem dL_repairs_40 : decode cL_repairs 40 = .ok (.iload 4, 2) := by decide +kernel
theorem dL_repairs_42 : decode cL_repairs 42 = .ok (.ldc 34, 2) := by decide +kernel
theorem dL_repairs_44 : decode cL_repairs 44 = .ok (.if_icmp .ne 10, 3) := by decide +kernel
theorem dL_repairs_47 : decode cL_repairs 47 = .ok (.iload 5, 2) := by decide +kernel
theorem dL_repairs_49 : decode cL_repairs 49 = .ok (.ifCond .le 5, 3) := by decide +kernel
theorem dL_repairs_52 : decode cL_repairs 52 = .ok (.iconst 0, 1) := by decide +kernel
theorem dL_repairs_53 : decode cL_repairs 53 = .ok (.ireturn, 1) := by decide +kernel
theorem dL_repairs_54 : decode cL_repairs 54 = .ok (.iconst 0, 1) := by decide +kernel
theorem dL_repairs_55 : decode cL_repairs 55 = .ok (.istore 6, 2) := by decide +kernel
theorem dL_repairs_57 : decode cL_repairs 57 = .ok (.iload 6, 2) := by decide +kernel
theorem dL_repairs_59 : decode cL_repairs 59 = .ok (.aload_n 0, 1) := by decide +kernel
theorem dL_repairs_60 : decode cL_repairs 60 = .ok (.invokevirtual 41, 3) := by decide +kernel
theorem dL_repairs_63 : decode cL_repairs 63 = .ok (.if_icmp .ge 90, 3) := by decide +kernel
theorem dL_repairs_66 : decode cL_repairs 66 = .ok (.iconst 0, 1) := by decide +kernel
theorem dL_repairs_67 : decode cL_repairs 67 = .ok (.istore 7, 2) := by decide +kernel
theorem dL_repairs_69 : decode cL_repairs 69 = .ok (.aload_n 0, 1) := by decide +kernel
theorem dL_repairs_70 : decode cL_repairs 70 = .ok (.iload_n 1, 1) := by decide +kernel
theorem dL_repairs_71 : decode cL_repairs 71 = .ok (.iload 6, 2) := by decide +kernel
theorem dL_repairs_73 : decode cL_repairs 73 = .ok (.iload 7, 2) := by decide +kernel
theorem dL_repairs_75 : decode cL_repairs 75 = .ok (.invokevirtual 29, 3) := by decide +kernel
theorem dL_repairs_78 : decode cL_repairs 78 = .ok (.ifCond .lt 69, 3) := by decide +kernel
theorem dL_repairs_81 : decode cL_repairs 81 = .ok (.aload_n 0, 1) := by decide +kernel
theorem dL_repairs_82 : decode cL_repairs 82 = .ok (.iload_n 1, 1) := by decide +kernel
theorem dL_repairs_83 : decode cL_repairs 83 = .ok (.iload 6, 2) := by decide +kernel
theorem dL_repairs_85 : decode cL_repairs 85 = .ok (.iload 7, 2) := by decide +kernel
theorem dL_repairs_87 : decode cL_repairs 87 = .ok (.invokevirtual 29, 3) := by decide +kernel
theorem dL_repairs_90 : decode cL_repairs 90 = .ok (.istore 8, 2) := by decide +kernel
theorem dL_repairs_92 : decode cL_repairs 92 = .ok (.iload 8, 2) := by decide +kernel
theorem dL_repairs_94 : decode cL_repairs 94 = .ok (.bipush 100, 2) := by decide +kernel
theorem dL_repairs_96 : decode cL_repairs 96 = .ok (.idiv, 1) := by decide +kernel
theorem dL_repairs_97 : decode cL_repairs 97 = .ok (.istore 9, 2) := by decide +kernel
theorem dL_repairs_99 : decode cL_repairs 99 = .ok (.iload 9, 2) := by decide +kernel
theorem dL_repairs_101 : decode cL_repairs 101 = .ok (.iload 8, 2) := by decide +kernel
theorem dL_repairs_103 : decode cL_repairs 103 = .ok (.bipush 100, 2) := by decide +kernel
theorem dL_repairs_105 : decode cL_repairs 105 = .ok (.irem, 1) := by decide +kernel
theorem dL_repairs_106 : decode cL_repairs 106 = .ok (.if_icmp .gt 35, 3) := by decide +kernel
theorem dL_repairs_109 : decode cL_repairs 109 = .ok (.aload_n 0, 1) := by decide +kernel
theorem dL_repairs_110 : decode cL_repairs 110 = .ok (.iload_n 1, 1) := by decide +kernel
theorem dL_repairs_111 : decode cL_repairs 111 = .ok (.iload 6, 2) := by decide +kernel
theorem dL_repairs_113 : decode cL_repairs 113 = .ok (.iload 9, 2) := by decide +kernel
theorem dL_repairs_115 : decode cL_repairs 115 = .ok (.invokevirtual 19, 3) := by decide +kernel
theorem dL_repairs_118 : decode cL_repairs 118 = .ok (.ifCond .ne 15, 3) := by decide +kernel
theorem dL_repairs_121 : decode cL_repairs 121 = .ok (.aload_n 0, 1) := by decide +kernel
theorem dL_repairs_122 : decode cL_repairs 122 = .ok (.iload_n 2, 1) := by decide +kernel
theorem dL_repairs_123 : decode cL_repairs 123 = .ok (.iload 6, 2) := by decide +kernel
theorem dL_repairs_125 : decode cL_repairs 125 = .ok (.iload 9, 2) := by decide +kernel
theorem dL_repairs_127 : decode cL_repairs 127 = .ok (.invokevirtual 19, 3) := by decide +kernel
theorem dL_repairs_130 : decode cL_repairs 130 = .ok (.ifCond .eq 5, 3) := by decide +kernel
theorem dL_repairs_133 : decode cL_repairs 133 = .ok (.iconst 0, 1) := by decide +kernel
theorem dL_repairs_134 : decode cL_repairs 134 = .ok (.ireturn, 1) := by decide +kernel
theorem dL_repairs_135 : decode cL_repairs 135 = .ok (.iinc 9 1, 3) := by decide +kernel
theorem dL_repairs_138 : decode cL_repairs 138 = .ok (.goto (-39), 3) := by decide +kernel
theorem dL_repairs_141 : decode cL_repairs 141 = .ok (.iinc 7 1, 3) := by decide +kernel
theorem dL_repairs_144 : decode cL_repairs 144 = .ok (.goto (-75), 3) := by decide +kernel
theorem dL_repairs_147 : decode cL_repairs 147 = .ok (.iinc 6 1, 3) := by decide +kernel
theorem dL_repairs_150 : decode cL_repairs 150 = .ok (.goto (-93), 3) := by decide +kernel
theorem dL_repairs_153 : decode cL_repairs 153 = .ok (.aload_n 0, 1) := by decide +kernel
theorem dL_repairs_154 : decode cL_repairs 154 = .ok (.iload_n 1, 1) := by decide +kernel
theorem dL_repairs_155 : decode cL_repairs 155 = .ok (.iload_n 2, 1) := by decide +kernel
theorem dL_repairs_156 : decode cL_repairs 156 = .ok (.invokevirtual 55, 3) := by decide +kernel
theorem dL_repairs_159 : decode cL_repairs 159 = .ok (.ifCond .ne 7, 3) := by decide +kernel
theorem dL_repairs_162 : decode cL_repairs 162 = .ok (.iconst 1, 1) := by decide +kernel
theorem dL_repairs_163 : decode cL_repairs 163 = .ok (.goto 4, 3) := by decide +kernel
theorem dL_repairs_166 : decode cL_repairs 166 = .ok (.iconst 0, 1) := by decide +kernel
theorem dL_repairs_167 : decode cL_repairs 167 = .ok (.ireturn, 1) := by decide +kernel
set_option maxRecDepth 20000 in
theorem ggL_transfers_X6_sites : GoodIn wsL_transfers wsX6_sites := goodIn_r _ [5, 6, 193, 194, 195, 196, 197, 198, 199, 200, 201] (by decide +kernel) (by decide +kernel)
set_option maxRecDepth 20000 in
theorem gL_transfers_X6_sites : GoodIn wsL_transfers (wsV RL 41 RX6 yX6_sites wsX6_sites) := goodIn_app (goodIn_of _ (by decide +kernel)) ggL_transfers_X6_sites
set_option maxRecDepth 20000 in
theorem ggL_transfers_X6_siteInfo : GoodIn wsL_transfers wsX6_siteInfo := goodIn_r _ [10, 11, 12, 13, 14, 15, 16, 17, 18, 19, 4, 20, 6, 21, 22, 23, 24, 25, 26, 27, 28, 29, 30, 31, 32, 33, 34, 35, 36, 37, 38, 39, 40, 41, 42, 43, 44, 45, 46, 47, 48, 49, 50, 51, 52, 53, 54, 55, 56, 57, 58, 59, 60, 61, 62, 63, 64, 65, 66, 67, 68, 69, 70, 71, 72, 73, 74, 75, 76, 77, 78, 79, 80, 81, 82, 83, 84, 85, 86, 87, 88, 89, 90, 91, 92, 93, 94, 95, 96, 97, 98, 99, 100, 101, 102, 103, 104, 105, 106, 107, 108, 109, 110, 111, 112, 113, 114, 115, 116, 117, 118, 119, 120, 121, 122, 123, 193, 194, 195, 196, 197, 198, 199, 200, 201, 202, 203, 204, 205, 206, 207, 208, 209, 210, 211, 212, 213, 214, 215, 216, 217, 218, 219, 220] (by decide +kernel) (by decide +kernel)
set_option maxRecDepth 20000 in
theorem gL_transfers_X6_siteInfo : GoodIn wsL_transfers (wsV RL 9 RX6 yX6_siteInfo wsX6_siteInfo) := goodIn_app (goodIn_of _ (by decide +kernel)) ggL_transfers_X6_siteInfo
set_option maxRecDepth 20000 in
theorem ggL_transfers_X6_knows : GoodIn wsL_transfers wsX6_knows := goodIn_r _ [127, 11, 14, 128, 13, 17, 18, 19, 4, 20, 6, 21, 22, 23, 41, 42, 43, 44, 45, 46, 47, 25, 26, 27, 28, 29, 129, 130, 131, 132, 36, 37, 33, 38, 39, 40, 193, 194, 195, 196, 197, 198, 199, 200, 201, 204, 205, 206, 207, 208, 209, 210, 211, 202, 203] (by decide +kernel) (by decide +kernel)
set_option maxRecDepth 20000 in
theorem gL_transfers_X6_knows : GoodIn wsL_transfers (wsV RL 19 RX6 yX6_knows wsX6_knows) := goodIn_app (goodIn_of _ (by decide +kernel)) ggL_transfers_X6_knows
end
section
set_option maxRecDepth 20000 in
theorem ggL_transfers_X6_operation : GoodIn wsL_transfers wsX6_operation := goodIn_r _ [136, 11, 14, 128, 17, 18, 19, 4, 20, 6, 21, 22, 23, 41, 42, 43, 44, 45, 46, 47, 25, 26, 27, 28, 29, 129, 130, 131, 137, 86, 87, 88, 89, 138, 139, 140, 141, 142, 143, 144, 145, 146, 147, 148, 149, 150, 120, 151, 122, 123, 152, 153, 154, 155, 156, 157, 158, 159, 160, 161, 162, 105, 106, 107, 117, 118, 119, 121, 163, 81, 82, 83, 84, 164, 165, 166, 167, 168, 169, 170, 95, 96, 97, 98, 193, 194, 195, 196, 197, 198, 199, 200, 201, 204, 205, 206, 207, 208, 209, 210, 211, 202, 216, 217, 218, 219, 220] (by decide +kernel) (by decide +kernel)
set_option maxRecDepth 20000 in
theorem gL_transfers_X6_operation : GoodIn wsL_transfers (wsV RL 15 RX6 yX6_operation wsX6_operation) := goodIn_app (goodIn_of _ (by decide +kernel)) ggL_transfers_X6_operation
set_option maxRecDepth 20000 in
theorem ggL_transfers_X6_transfer : GoodIn wsL_transfers wsX6_transfer := goodIn_r _ [174, 11, 13, 14, 12, 175, 176, 177, 178, 179, 180, 181, 4, 182, 17, 18, 19, 20, 6, 21, 22, 23, 132, 36, 37, 33, 38, 39, 40, 25, 26, 27, 28, 29, 183, 184, 185, 186, 187, 188, 189, 190, 191, 91, 92, 93, 24, 138, 139, 140, 44, 141, 142, 47, 192, 143, 144, 145, 146, 89, 147, 148, 149, 150, 120, 151, 122, 123, 152, 153, 154, 155, 156, 157, 158, 159, 160, 161, 193, 194, 195, 196, 197, 198, 199, 200, 201, 203, 202, 204, 205, 206, 207, 208, 209, 210, 211, 216, 217, 218, 219, 220] (by decide +kernel) (by decide +kernel)
set_option maxRecDepth 20000 in
theorem gL_transfers_X6_transfer : GoodIn wsL_transfers (wsV RL 58 RX6 yX6_transfer wsX6_transfer) := goodIn_app (goodIn_of _ (by decide +kernel)) ggL_transfers_X6_transfer
theorem dL_transfers_0 : decode cL_transfers 0 = .ok (.iconst 0, 1) := by decide +kernel
theorem dL_transfers_1 : decode cL_transfers 1 = .ok (.istore_n 3, 1) := by decide +kernel
theorem dL_transfers_2 : decode cL_transfers 2 = .ok (.iconst 0, 1) := by decide +kernel
theorem dL_transfers_3 : decode cL_transfers 3 = .ok (.istore 4, 2) := by decide +kernel
theorem dL_transfers_5 : decode cL_transfers 5 = .ok (.iload 4, 2) := by decide +kernel
theorem dL_transfers_7 : decode cL_transfers 7 = .ok (.aload_n 0, 1) := by decide +kernel
theorem dL_transfers_8 : decode cL_transfers 8 = .ok (.invokevirtual 41, 3) := by decide +kernel
theorem dL_transfers_11 : decode cL_transfers 11 = .ok (.if_icmp .ge 71, 3) := by decide +kernel
theorem dL_transfers_14 : decode cL_transfers 14 = .ok (.iconst 1, 1) := by decide +kernel
theorem dL_transfers_15 : decode cL_transfers 15 = .ok (.istore 5, 2) := by decide +kernel
theorem dL_transfers_17 : decode cL_transfers 17 = .ok (.iload 5, 2) := by decide +kernel
theorem dL_transfers_19 : decode cL_transfers 19 = .ok (.aload_n 0, 1) := by decide +kernel
theorem dL_transfers_20 : decode cL_transfers 20 = .ok (.iload 4, 2) := by decide +kernel
theorem dL_transfers_22 : decode cL_transfers 22 = .ok (.iconst 2, 1) := by decide +kernel
theorem dL_transfers_23 : decode cL_transfers 23 = .ok (.invokevirtual 9, 3) := by decide +kernel
theorem dL_transfers_26 : decode cL_transfers 26 = .ok (.if_icmp .gt 50, 3) := by decide +kernel
theorem dL_transfers_29 : decode cL_transfers 29 = .ok (.iload_n 3, 1) := by decide +kernel
theorem dL_transfers_30 : decode cL_transfers 30 = .ok (.aload_n 0, 1) := by decide +kernel
theorem dL_transfers_31 : decode cL_transfers 31 = .ok (.iload_n 2, 1) := by decide +kernel
theorem dL_transfers_32 : decode cL_transfers 32 = .ok (.iload 4, 2) := by decide +kernel
theorem dL_transfers_34 : decode cL_transfers 34 = .ok (.iload 5, 2) := by decide +kernel
theorem dL_transfers_36 : decode cL_transfers 36 = .ok (.invokevirtual 19, 3) := by decide +kernel
theorem dL_transfers_39 : decode cL_transfers 39 = .ok (.iconst 1, 1) := by decide +kernel
theorem dL_transfers_40 : decode cL_transfers 40 = .ok (.if_icmp .ne 27, 3) := by decide +kernel
theorem dL_transfers_43 : decode cL_transfers 43 = .ok (.aload_n 0, 1) := by decide +kernel
theorem dL_transfers_44 : decode cL_transfers 44 = .ok (.iload_n 1, 1) := by decide +kernel
theorem dL_transfers_45 : decode cL_transfers 45 = .ok (.iload 4, 2) := by decide +kernel
theorem dL_transfers_47 : decode cL_transfers 47 = .ok (.iload 5, 2) := by decide +kernel
theorem dL_transfers_49 : decode cL_transfers 49 = .ok (.invokevirtual 19, 3) := by decide +kernel
theorem dL_transfers_52 : decode cL_transfers 52 = .ok (.ifCond .ne 15, 3) := by decide +kernel
theorem dL_transfers_55 : decode cL_transfers 55 = .ok (.aload_n 0, 1) := by decide +kernel
theorem dL_transfers_56 : decode cL_transfers 56 = .ok (.iload 4, 2) := by decide +kernel
theorem dL_transfers_58 : decode cL_transfers 58 = .ok (.iload 5, 2) := by decide +kernel
theorem dL_transfers_60 : decode cL_transfers 60 = .ok (.iconst 2, 1) := by decide +kernel
theorem dL_transfers_61 : decode cL_transfers 61 = .ok (.invokevirtual 15, 3) := by decide +kernel
theorem dL_transfers_64 : decode cL_transfers 64 = .ok (.goto 4, 3) := by decide +kernel
theorem dL_transfers_67 : decode cL_transfers 67 = .ok (.iconst 0, 1) := by decide +kernel
theorem dL_transfers_68 : decode cL_transfers 68 = .ok (.iadd, 1) := by decide +kernel
theorem dL_transfers_69 : decode cL_transfers 69 = .ok (.istore_n 3, 1) := by decide +kernel
theorem dL_transfers_70 : decode cL_transfers 70 = .ok (.iinc 5 1, 3) := by decide +kernel
theorem dL_transfers_73 : decode cL_transfers 73 = .ok (.goto (-56), 3) := by decide +kernel
theorem dL_transfers_76 : decode cL_transfers 76 = .ok (.iinc 4 1, 3) := by decide +kernel
theorem dL_transfers_79 : decode cL_transfers 79 = .ok (.goto (-74), 3) := by decide +kernel
theorem dL_transfers_82 : decode cL_transfers 82 = .ok (.aload_n 0, 1) := by decide +kernel
theorem dL_transfers_83 : decode cL_transfers 83 = .ok (.iload_n 1, 1) := by decide +kernel
theorem dL_transfers_84 : decode cL_transfers 84 = .ok (.iload_n 2, 1) := by decide +kernel
theorem dL_transfers_85 : decode cL_transfers 85 = .ok (.invokevirtual 58, 3) := by decide +kernel
theorem dL_transfers_88 : decode cL_transfers 88 = .ok (.iload_n 3, 1) := by decide +kernel
theorem dL_transfers_89 : decode cL_transfers 89 = .ok (.if_icmp .ne 18, 3) := by decide +kernel
theorem dL_transfers_92 : decode cL_transfers 92 = .ok (.aload_n 0, 1) := by decide +kernel
theorem dL_transfers_93 : decode cL_transfers 93 = .ok (.iload_n 1, 1) := by decide +kernel
theorem dL_transfers_94 : decode cL_transfers 94 = .ok (.iconst 0, 1) := by decide +kernel
theorem dL_transfers_95 : decode cL_transfers 95 = .ok (.invokevirtual 9, 3) := by decide +kernel
theorem dL_transfers_98 : decode cL_transfers 98 = .ok (.aload_n 0, 1) := by decide +kernel
theorem dL_transfers_99 : decode cL_transfers 99 = .ok (.iload_n 2, 1) := by decide +kernel
theorem dL_transfers_100 : decode cL_transfers 100 = .ok (.iconst 0, 1) := by decide +kernel
theorem dL_transfers_101 : decode cL_transfers 101 = .ok (.invokevirtual 9, 3) := by decide +kernel
theorem dL_transfers_104 : decode cL_transfers 104 = .ok (.if_icmp .ge 5, 3) := by decide +kernel
theorem dL_transfers_107 : decode cL_transfers 107 = .ok (.iconst 0, 1) := by decide +kernel
theorem dL_transfers_108 : decode cL_transfers 108 = .ok (.ireturn, 1) := by decide +kernel
theorem dL_transfers_109 : decode cL_transfers 109 = .ok (.iconst 0, 1) := by decide +kernel
theorem dL_transfers_110 : decode cL_transfers 110 = .ok (.istore 4, 2) := by decide +kernel
theorem dL_transfers_112 : decode cL_transfers 112 = .ok (.iload 4, 2) := by decide +kernel
theorem dL_transfers_114 : decode cL_transfers 114 = .ok (.aload_n 0, 1) := by decide +kernel
theorem dL_transfers_115 : decode cL_transfers 115 = .ok (.invokevirtual 41, 3) := by decide +kernel
theorem dL_transfers_118 : decode cL_transfers 118 = .ok (.if_icmp .ge 58, 3) := by decide +kernel
theorem dL_transfers_121 : decode cL_transfers 121 = .ok (.iconst 1, 1) := by decide +kernel
theorem dL_transfers_122 : decode cL_transfers 122 = .ok (.istore 5, 2) := by decide +kernel
theorem dL_transfers_124 : decode cL_transfers 124 = .ok (.iload 5, 2) := by decide +kernel
theorem dL_transfers_126 : decode cL_transfers 126 = .ok (.aload_n 0, 1) := by decide +kernel
theorem dL_transfers_127 : decode cL_transfers 127 = .ok (.iload 4, 2) := by decide +kernel
theorem dL_transfers_129 : decode cL_transfers 129 = .ok (.iconst 2, 1) := by decide +kernel
theorem dL_transfers_130 : decode cL_transfers 130 = .ok (.invokevirtual 9, 3) := by decide +kernel
theorem dL_transfers_133 : decode cL_transfers 133 = .ok (.if_icmp .gt 37, 3) := by decide +kernel
theorem dL_transfers_136 : decode cL_transfers 136 = .ok (.aload_n 0, 1) := by decide +kernel
theorem dL_transfers_137 : decode cL_transfers 137 = .ok (.iload_n 2, 1) := by decide +kernel
theorem dL_transfers_138 : decode cL_transfers 138 = .ok (.iload 4, 2) := by decide +kernel
theorem dL_transfers_140 : decode cL_transfers 140 = .ok (.iload 5, 2) := by decide +kernel
theorem dL_transfers_142 : decode cL_transfers 142 = .ok (.invokevirtual 19, 3) := by decide +kernel
theorem dL_transfers_145 : decode cL_transfers 145 = .ok (.iconst 1, 1) := by decide +kernel
theorem dL_transfers_146 : decode cL_transfers 146 = .ok (.if_icmp .ne 18, 3) := by decide +kernel
theorem dL_transfers_149 : decode cL_transfers 149 = .ok (.aload_n 0, 1) := by decide +kernel
theorem dL_transfers_150 : decode cL_transfers 150 = .ok (.iload_n 1, 1) := by decide +kernel
theorem dL_transfers_151 : decode cL_transfers 151 = .ok (.iload 4, 2) := by decide +kernel
theorem dL_transfers_153 : decode cL_transfers 153 = .ok (.iload 5, 2) := by decide +kernel
theorem dL_transfers_155 : decode cL_transfers 155 = .ok (.invokevirtual 19, 3) := by decide +kernel
theorem dL_transfers_158 : decode cL_transfers 158 = .ok (.iconst 1, 1) := by decide +kernel
theorem dL_transfers_159 : decode cL_transfers 159 = .ok (.if_icmp .eq 5, 3) := by decide +kernel
theorem dL_transfers_162 : decode cL_transfers 162 = .ok (.iconst 0, 1) := by decide +kernel
theorem dL_transfers_163 : decode cL_transfers 163 = .ok (.ireturn, 1) := by decide +kernel
theorem dL_transfers_164 : decode cL_transfers 164 = .ok (.iinc 5 1, 3) := by decide +kernel
theorem dL_transfers_167 : decode cL_transfers 167 = .ok (.goto (-43), 3) := by decide +kernel
theorem dL_transfers_170 : decode cL_transfers 170 = .ok (.iinc 4 1, 3) := by decide +kernel
theorem dL_transfers_173 : decode cL_transfers 173 = .ok (.goto (-61), 3) := by decide +kernel
theorem dL_transfers_176 : decode cL_transfers 176 = .ok (.aload_n 0, 1) := by decide +kernel
theorem dL_transfers_177 : decode cL_transfers 177 = .ok (.iload_n 1, 1) := by decide +kernel
theorem dL_transfers_178 : decode cL_transfers 178 = .ok (.iload_n 2, 1) := by decide +kernel
theorem dL_transfers_179 : decode cL_transfers 179 = .ok (.invokevirtual 58, 3) := by decide +kernel
theorem dL_transfers_182 : decode cL_transfers 182 = .ok (.ifCond .ne 7, 3) := by decide +kernel
theorem dL_transfers_185 : decode cL_transfers 185 = .ok (.iconst 1, 1) := by decide +kernel
theorem dL_transfers_186 : decode cL_transfers 186 = .ok (.goto 4, 3) := by decide +kernel
theorem dL_transfers_189 : decode cL_transfers 189 = .ok (.iconst 0, 1) := by decide +kernel
theorem dL_transfers_190 : decode cL_transfers 190 = .ok (.ireturn, 1) := by decide +kernel
set_option maxRecDepth 20000 in
theorem ggL_turns_X6_digest : GoodIn wsL_turns wsX6_digest := goodIn_r _ [7, 8, 9, 10, 11, 12, 13, 6, 14, 15, 16, 17, 18, 19, 20, 21, 22, 23, 24, 25, 26, 27, 28, 29, 30, 31, 32, 33, 34, 35, 36, 37, 38, 39, 40, 41, 42, 43, 44, 45, 46, 47, 48, 49, 50, 51, 52, 53, 54, 55, 56, 57, 58, 59, 60, 61, 62, 63, 64, 65, 66, 67, 68, 69, 70, 71, 72, 73, 74, 75, 76, 77, 78, 79, 80, 81, 82, 83, 84, 85, 86, 87, 88, 89, 90, 91, 92, 93, 94, 95, 96, 97, 98, 99, 100, 101, 102, 103, 104, 105, 106, 107, 108, 109, 110, 111, 112, 113, 114, 115, 116, 117, 118, 119, 120, 121, 122, 123, 124, 125, 126, 127, 128, 129, 130, 256, 257, 258, 259, 260, 261, 262, 263, 264, 265, 266, 267, 268, 269, 270, 271, 272, 273, 274, 275, 276, 277, 278, 279, 280, 281, 282, 283] (by decide +kernel) (by decide +kernel)
set_option maxRecDepth 20000 in
theorem gL_turns_X6_digest : GoodIn wsL_turns (wsV RL 49 RX6 yX6_digest wsX6_digest) := goodIn_app (goodIn_of _ (by decide +kernel)) ggL_turns_X6_digest
set_option maxRecDepth 20000 in
theorem ggL_turns_X6_siteInfo : GoodIn wsL_turns wsX6_siteInfo := goodIn_r _ [134, 135, 136, 10, 9, 8, 137, 11, 12, 13, 6, 14, 15, 16, 17, 18, 138, 44, 45, 36, 46, 38, 139, 140, 141, 56, 142, 143, 54, 55, 57, 58, 59, 144, 145, 146, 30, 147, 148, 52, 19, 20, 21, 22, 23, 24, 25, 26, 27, 28, 29, 31, 32, 33, 34, 35, 37, 39, 40, 41, 42, 43, 47, 48, 49, 50, 51, 53, 60, 61, 62, 63, 64, 65, 66, 67, 68, 69, 70, 71, 72, 73, 74, 75, 76, 77, 78, 79, 80, 81, 82, 83, 84, 85, 86, 87, 88, 89, 90, 91, 92, 93, 94, 95, 96, 149, 150, 151, 152, 153, 117, 118, 108, 119, 120, 111, 256, 257, 258, 259, 260, 261, 262, 263, 264, 277, 278, 269, 270, 271, 272, 273, 274, 275, 276, 265, 266, 267, 268, 279, 280, 281, 282, 283] (by decide +kernel) (by decide +kernel)
set_option maxRecDepth 20000 in
theorem gL_turns_X6_siteInfo : GoodIn wsL_turns (wsV RL 9 RX6 yX6_siteInfo wsX6_siteInfo) := goodIn_app (goodIn_of _ (by decide +kernel)) ggL_turns_X6_siteInfo
set_option maxRecDepth 20000 in
theorem ggL_turns_X6_undo : GoodIn wsL_turns wsX6_undo := goodIn_r _ [157, 135, 11, 12, 13, 6, 14, 15, 16, 17, 18, 158, 159, 160, 161, 8, 9, 10, 19, 20, 21, 22, 23, 24, 25, 26, 27, 28, 29, 30, 31, 32, 33, 34, 35, 36, 37, 38, 39, 40, 41, 42, 43, 44, 45, 46, 47, 48, 49, 50, 51, 52, 53, 54, 55, 56, 57, 58, 59, 60, 61, 62, 63, 64, 65, 66, 67, 68, 69, 70, 71, 72, 73, 74, 75, 76, 77, 78, 79, 80, 81, 82, 83, 84, 85, 86, 87, 88, 89, 90, 91, 92, 93, 94, 95, 96, 144, 145, 146, 147, 148, 162, 163, 164, 165, 166, 167, 168, 169, 170, 171, 172, 173, 174, 175, 176, 177, 178, 179, 180, 136, 138, 181, 182, 183, 184, 185, 186, 187, 188, 189, 190, 191, 192, 193, 194, 195, 196, 197, 198, 199, 200, 201, 202, 203, 101, 102, 204, 205, 206, 207, 208, 209, 210, 211, 212, 213, 214, 215, 216, 217, 218, 219, 220, 221, 222, 223, 103, 104, 256, 257, 258, 259, 260, 261, 262, 263, 264, 265, 266, 267, 268, 269, 270, 271, 272, 273, 274, 275, 276, 277, 278, 284, 285] (by decide +kernel) (by decide +kernel)
set_option maxRecDepth 20000 in
theorem gL_turns_X6_undo : GoodIn wsL_turns (wsV RL 61 RX6 yX6_undo wsX6_undo) := goodIn_app (goodIn_of _ (by decide +kernel)) ggL_turns_X6_undo
set_option maxRecDepth 20000 in
theorem ggL_turns_X6_operation : GoodIn wsL_turns wsX6_operation := goodIn_r _ [227, 135, 9, 228, 11, 12, 13, 6, 14, 15, 16, 17, 18, 144, 145, 146, 30, 147, 148, 52, 44, 45, 36, 46, 38, 162, 163, 164, 229, 70, 71, 72, 73, 230, 231, 232, 233, 190, 234, 235, 236, 237, 238, 239, 240, 241, 108, 242, 120, 111, 243, 122, 123, 124, 125, 244, 127, 128, 129, 130, 165, 89, 90, 91, 153, 117, 118, 119, 245, 65, 66, 67, 68, 223, 103, 104, 246, 101, 102, 247, 79, 80, 81, 82, 256, 257, 258, 259, 260, 261, 262, 263, 264, 269, 270, 271, 272, 273, 274, 275, 276, 277, 279, 280, 281, 282, 283] (by decide +kernel) (by decide +kernel)
set_option maxRecDepth 20000 in
theorem gL_turns_X6_operation : GoodIn wsL_turns (wsV RL 15 RX6 yX6_operation wsX6_operation) := goodIn_app (goodIn_of _ (by decide +kernel)) ggL_turns_X6_operation
set_option maxRecDepth 20000 in
theorem ggL_turns_X6_redo : GoodIn wsL_turns wsX6_redo := goodIn_r _ [251, 135, 11, 12, 13, 6, 14, 15, 16, 17, 18, 252, 253, 254, 255, 8, 9, 10, 19, 20, 21, 22, 23, 24, 25, 26, 27, 28, 29, 30, 31, 32, 33, 34, 35, 36, 37, 38, 39, 40, 41, 42, 43, 44, 45, 46, 47, 48, 49, 50, 51, 52, 53, 54, 55, 56, 57, 58, 59, 60, 61, 62, 63, 64, 65, 66, 67, 68, 69, 70, 71, 72, 73, 74, 75, 76, 77, 78, 79, 80, 81, 82, 83, 84, 85, 86, 87, 88, 89, 90, 91, 92, 93, 94, 95, 96, 144, 145, 146, 147, 148, 162, 163, 164, 229, 245, 166, 167, 168, 169, 170, 171, 172, 173, 174, 175, 176, 177, 178, 179, 180, 136, 138, 181, 182, 183, 184, 185, 186, 187, 188, 189, 190, 191, 192, 193, 194, 195, 196, 197, 198, 199, 200, 201, 202, 203, 101, 102, 204, 205, 206, 207, 208, 209, 210, 211, 212, 213, 214, 215, 216, 217, 218, 219, 220, 221, 222, 223, 103, 104, 256, 257, 258, 259, 260, 261, 262, 263, 264, 265, 266, 267, 268, 269, 270, 271, 272, 273, 274, 275, 276, 277, 278, 284, 285] (by decide +kernel) (by decide +kernel)
set_option maxRecDepth 20000 in
theorem gL_turns_X6_redo : GoodIn wsL_turns (wsV RL 66 RX6 yX6_redo wsX6_redo) := goodIn_app (goodIn_of _ (by decide +kernel)) ggL_turns_X6_redo
theorem dL_turns_0 : decode cL_turns 0 = .ok (.aload_n 0, 1) := by decide +kernel
theorem dL_turns_1 : decode cL_turns 1 = .ok (.iload_n 1, 1) := by decide +kernel
theorem dL_turns_2 : decode cL_turns 2 = .ok (.invokevirtual 49, 3) := by decide +kernel
theorem dL_turns_5 : decode cL_turns 5 = .ok (.istore_n 2, 1) := by decide +kernel
theorem dL_turns_6 : decode cL_turns 6 = .ok (.aload_n 0, 1) := by decide +kernel
theorem dL_turns_7 : decode cL_turns 7 = .ok (.iload_n 1, 1) := by decide +kernel
theorem dL_turns_8 : decode cL_turns 8 = .ok (.iconst 2, 1) := by decide +kernel
theorem dL_turns_9 : decode cL_turns 9 = .ok (.invokevirtual 9, 3) := by decide +kernel
theorem dL_turns_12 : decode cL_turns 12 = .ok (.istore_n 3, 1) := by decide +kernel
theorem dL_turns_13 : decode cL_turns 13 = .ok (.aload_n 0, 1) := by decide +kernel
end
section
theorem dL_turns_14 : decode cL_turns 14 = .ok (.iload_n 1, 1) := by decide +kernel
theorem dL_turns_15 : decode cL_turns 15 = .ok (.iconst 3, 1) := by decide +kernel
theorem dL_turns_16 : decode cL_turns 16 = .ok (.invokevirtual 9, 3) := by decide +kernel
theorem dL_turns_19 : decode cL_turns 19 = .ok (.istore 4, 2) := by decide +kernel
theorem dL_turns_21 : decode cL_turns 21 = .ok (.aload_n 0, 1) := by decide +kernel
theorem dL_turns_22 : decode cL_turns 22 = .ok (.iload_n 1, 1) := by decide +kernel
theorem dL_turns_23 : decode cL_turns 23 = .ok (.invokevirtual 61, 3) := by decide +kernel
theorem dL_turns_26 : decode cL_turns 26 = .ok (.istore 5, 2) := by decide +kernel
theorem dL_turns_28 : decode cL_turns 28 = .ok (.iload 5, 2) := by decide +kernel
theorem dL_turns_30 : decode cL_turns 30 = .ok (.ifCond .ge 48, 3) := by decide +kernel
theorem dL_turns_33 : decode cL_turns 33 = .ok (.iload 5, 2) := by decide +kernel
theorem dL_turns_35 : decode cL_turns 35 = .ok (.ldc 64, 2) := by decide +kernel
theorem dL_turns_37 : decode cL_turns 37 = .ok (.if_icmp .eq 16, 3) := by decide +kernel
theorem dL_turns_40 : decode cL_turns 40 = .ok (.iload 5, 2) := by decide +kernel
theorem dL_turns_42 : decode cL_turns 42 = .ok (.ldc 65, 2) := by decide +kernel
theorem dL_turns_44 : decode cL_turns 44 = .ok (.if_icmp .ne 32, 3) := by decide +kernel
theorem dL_turns_47 : decode cL_turns 47 = .ok (.iload_n 3, 1) := by decide +kernel
theorem dL_turns_48 : decode cL_turns 48 = .ok (.bipush 20, 2) := by decide +kernel
theorem dL_turns_50 : decode cL_turns 50 = .ok (.if_icmp .ne 26, 3) := by decide +kernel
theorem dL_turns_53 : decode cL_turns 53 = .ok (.aload_n 0, 1) := by decide +kernel
theorem dL_turns_54 : decode cL_turns 54 = .ok (.iload_n 1, 1) := by decide +kernel
theorem dL_turns_55 : decode cL_turns 55 = .ok (.invokevirtual 49, 3) := by decide +kernel
theorem dL_turns_58 : decode cL_turns 58 = .ok (.iload_n 2, 1) := by decide +kernel
theorem dL_turns_59 : decode cL_turns 59 = .ok (.if_icmp .ne 17, 3) := by decide +kernel
theorem dL_turns_62 : decode cL_turns 62 = .ok (.aload_n 0, 1) := by decide +kernel
theorem dL_turns_63 : decode cL_turns 63 = .ok (.iload_n 1, 1) := by decide +kernel
theorem dL_turns_64 : decode cL_turns 64 = .ok (.iconst 2, 1) := by decide +kernel
theorem dL_turns_65 : decode cL_turns 65 = .ok (.invokevirtual 9, 3) := by decide +kernel
theorem dL_turns_68 : decode cL_turns 68 = .ok (.iload_n 3, 1) := by decide +kernel
theorem dL_turns_69 : decode cL_turns 69 = .ok (.if_icmp .ne 7, 3) := by decide +kernel
theorem dL_turns_72 : decode cL_turns 72 = .ok (.iconst 1, 1) := by decide +kernel
theorem dL_turns_73 : decode cL_turns 73 = .ok (.goto 4, 3) := by decide +kernel
theorem dL_turns_76 : decode cL_turns 76 = .ok (.iconst 0, 1) := by decide +kernel
theorem dL_turns_77 : decode cL_turns 77 = .ok (.ireturn, 1) := by decide +kernel
theorem dL_turns_78 : decode cL_turns 78 = .ok (.aload_n 0, 1) := by decide +kernel
theorem dL_turns_79 : decode cL_turns 79 = .ok (.iload_n 1, 1) := by decide +kernel
theorem dL_turns_80 : decode cL_turns 80 = .ok (.iconst 3, 1) := by decide +kernel
theorem dL_turns_81 : decode cL_turns 81 = .ok (.invokevirtual 9, 3) := by decide +kernel
theorem dL_turns_84 : decode cL_turns 84 = .ok (.iload 4, 2) := by decide +kernel
theorem dL_turns_86 : decode cL_turns 86 = .ok (.iconst 1, 1) := by decide +kernel
theorem dL_turns_87 : decode cL_turns 87 = .ok (.isub, 1) := by decide +kernel
theorem dL_turns_88 : decode cL_turns 88 = .ok (.if_icmp .ne 30, 3) := by decide +kernel
theorem dL_turns_91 : decode cL_turns 91 = .ok (.aload_n 0, 1) := by decide +kernel
theorem dL_turns_92 : decode cL_turns 92 = .ok (.iload_n 1, 1) := by decide +kernel
theorem dL_turns_93 : decode cL_turns 93 = .ok (.iload_n 3, 1) := by decide +kernel
theorem dL_turns_94 : decode cL_turns 94 = .ok (.iconst 1, 1) := by decide +kernel
theorem dL_turns_95 : decode cL_turns 95 = .ok (.iadd, 1) := by decide +kernel
theorem dL_turns_96 : decode cL_turns 96 = .ok (.iconst 0, 1) := by decide +kernel
theorem dL_turns_97 : decode cL_turns 97 = .ok (.invokevirtual 15, 3) := by decide +kernel
theorem dL_turns_100 : decode cL_turns 100 = .ok (.iconst 1, 1) := by decide +kernel
theorem dL_turns_101 : decode cL_turns 101 = .ok (.if_icmp .ne 17, 3) := by decide +kernel
theorem dL_turns_104 : decode cL_turns 104 = .ok (.aload_n 0, 1) := by decide +kernel
theorem dL_turns_105 : decode cL_turns 105 = .ok (.iload_n 1, 1) := by decide +kernel
theorem dL_turns_106 : decode cL_turns 106 = .ok (.iload_n 3, 1) := by decide +kernel
theorem dL_turns_107 : decode cL_turns 107 = .ok (.iconst 1, 1) := by decide +kernel
theorem dL_turns_108 : decode cL_turns 108 = .ok (.iadd, 1) := by decide +kernel
theorem dL_turns_109 : decode cL_turns 109 = .ok (.iconst 3, 1) := by decide +kernel
theorem dL_turns_110 : decode cL_turns 110 = .ok (.invokevirtual 15, 3) := by decide +kernel
theorem dL_turns_113 : decode cL_turns 113 = .ok (.iload 5, 2) := by decide +kernel
theorem dL_turns_115 : decode cL_turns 115 = .ok (.if_icmp .eq 5, 3) := by decide +kernel
theorem dL_turns_118 : decode cL_turns 118 = .ok (.iconst 0, 1) := by decide +kernel
theorem dL_turns_119 : decode cL_turns 119 = .ok (.ireturn, 1) := by decide +kernel
theorem dL_turns_120 : decode cL_turns 120 = .ok (.aload_n 0, 1) := by decide +kernel
theorem dL_turns_121 : decode cL_turns 121 = .ok (.iload_n 1, 1) := by decide +kernel
theorem dL_turns_122 : decode cL_turns 122 = .ok (.invokevirtual 66, 3) := by decide +kernel
theorem dL_turns_125 : decode cL_turns 125 = .ok (.istore 6, 2) := by decide +kernel
theorem dL_turns_127 : decode cL_turns 127 = .ok (.iload_n 3, 1) := by decide +kernel
theorem dL_turns_128 : decode cL_turns 128 = .ok (.bipush 19, 2) := by decide +kernel
theorem dL_turns_130 : decode cL_turns 130 = .ok (.if_icmp .ne 18, 3) := by decide +kernel
theorem dL_turns_133 : decode cL_turns 133 = .ok (.iload 6, 2) := by decide +kernel
theorem dL_turns_135 : decode cL_turns 135 = .ok (.ldc 65, 2) := by decide +kernel
theorem dL_turns_137 : decode cL_turns 137 = .ok (.if_icmp .ne 7, 3) := by decide +kernel
theorem dL_turns_140 : decode cL_turns 140 = .ok (.iconst 1, 1) := by decide +kernel
theorem dL_turns_141 : decode cL_turns 141 = .ok (.goto 39, 3) := by decide +kernel
theorem dL_turns_144 : decode cL_turns 144 = .ok (.iconst 0, 1) := by decide +kernel
theorem dL_turns_145 : decode cL_turns 145 = .ok (.goto 35, 3) := by decide +kernel
theorem dL_turns_148 : decode cL_turns 148 = .ok (.iload 6, 2) := by decide +kernel
theorem dL_turns_150 : decode cL_turns 150 = .ok (.iload 5, 2) := by decide +kernel
theorem dL_turns_152 : decode cL_turns 152 = .ok (.if_icmp .ne 27, 3) := by decide +kernel
theorem dL_turns_155 : decode cL_turns 155 = .ok (.aload_n 0, 1) := by decide +kernel
theorem dL_turns_156 : decode cL_turns 156 = .ok (.iload_n 1, 1) := by decide +kernel
theorem dL_turns_157 : decode cL_turns 157 = .ok (.invokevirtual 49, 3) := by decide +kernel
theorem dL_turns_160 : decode cL_turns 160 = .ok (.iload_n 2, 1) := by decide +kernel
theorem dL_turns_161 : decode cL_turns 161 = .ok (.if_icmp .ne 18, 3) := by decide +kernel
theorem dL_turns_164 : decode cL_turns 164 = .ok (.aload_n 0, 1) := by decide +kernel
theorem dL_turns_165 : decode cL_turns 165 = .ok (.iload_n 1, 1) := by decide +kernel
theorem dL_turns_166 : decode cL_turns 166 = .ok (.iconst 3, 1) := by decide +kernel
theorem dL_turns_167 : decode cL_turns 167 = .ok (.invokevirtual 9, 3) := by decide +kernel
theorem dL_turns_170 : decode cL_turns 170 = .ok (.iload 4, 2) := by decide +kernel
theorem dL_turns_172 : decode cL_turns 172 = .ok (.if_icmp .ne 7, 3) := by decide +kernel
theorem dL_turns_175 : decode cL_turns 175 = .ok (.iconst 1, 1) := by decide +kernel
theorem dL_turns_176 : decode cL_turns 176 = .ok (.goto 4, 3) := by decide +kernel
theorem dL_turns_179 : decode cL_turns 179 = .ok (.iconst 0, 1) := by decide +kernel
theorem dL_turns_180 : decode cL_turns 180 = .ok (.ireturn, 1) := by decide +kernel
set_option maxRecDepth 20000 in
theorem ggL_refuses_X6_sites : GoodIn wsL_refuses wsX6_sites := goodIn_r _ [8, 9, 466, 467, 468, 469, 470, 471, 472, 473, 474] (by decide +kernel) (by decide +kernel)
set_option maxRecDepth 20000 in
theorem gL_refuses_X6_sites : GoodIn wsL_refuses (wsV RL 41 RX6 yX6_sites wsX6_sites) := goodIn_app (goodIn_of _ (by decide +kernel)) ggL_refuses_X6_sites
set_option maxRecDepth 20000 in
theorem ggL_refuses_X6_digest : GoodIn wsL_refuses wsX6_digest := goodIn_r _ [13, 14, 15, 16, 17, 18, 19, 7, 20, 9, 21, 22, 23, 24, 25, 26, 27, 28, 29, 30, 31, 32, 33, 34, 35, 36, 37, 38, 39, 40, 41, 42, 43, 44, 45, 46, 47, 48, 49, 50, 51, 52, 53, 54, 55, 56, 57, 58, 59, 60, 61, 62, 63, 64, 65, 66, 67, 68, 69, 70, 71, 72, 73, 74, 75, 76, 77, 78, 79, 80, 81, 82, 83, 84, 85, 86, 87, 88, 89, 90, 91, 92, 93, 94, 95, 96, 97, 98, 99, 100, 101, 102, 103, 104, 105, 106, 107, 108, 109, 110, 111, 112, 113, 114, 115, 116, 117, 118, 119, 120, 121, 122, 123, 124, 125, 126, 127, 128, 129, 130, 131, 132, 133, 134, 135, 466, 467, 468, 469, 470, 471, 472, 473, 474, 475, 476, 477, 478, 479, 480, 481, 482, 483, 484, 485, 486, 487, 488, 489, 490, 491, 492, 493] (by decide +kernel) (by decide +kernel)
set_option maxRecDepth 20000 in
theorem gL_refuses_X6_digest : GoodIn wsL_refuses (wsV RL 49 RX6 yX6_digest wsX6_digest) := goodIn_app (goodIn_of _ (by decide +kernel)) ggL_refuses_X6_digest
set_option maxRecDepth 20000 in
theorem ggL_refuses_X6_siteInfo : GoodIn wsL_refuses wsX6_siteInfo := goodIn_r _ [139, 140, 141, 16, 15, 14, 142, 17, 18, 19, 7, 20, 9, 21, 22, 23, 143, 49, 50, 41, 51, 43, 144, 145, 146, 61, 147, 148, 59, 60, 62, 63, 64, 149, 150, 151, 35, 152, 153, 57, 24, 25, 26, 27, 28, 29, 30, 31, 32, 33, 34, 36, 37, 38, 39, 40, 42, 44, 45, 46, 47, 48, 52, 53, 54, 55, 56, 58, 65, 66, 67, 68, 69, 70, 71, 72, 73, 74, 75, 76, 77, 78, 79, 80, 81, 82, 83, 84, 85, 86, 87, 88, 89, 90, 91, 92, 93, 94, 95, 96, 97, 98, 99, 100, 101, 154, 155, 156, 157, 158, 122, 123, 113, 124, 125, 116, 466, 467, 468, 469, 470, 471, 472, 473, 474, 487, 488, 479, 480, 481, 482, 483, 484, 485, 486, 475, 476, 477, 478, 489, 490, 491, 492, 493] (by decide +kernel) (by decide +kernel)
set_option maxRecDepth 20000 in
theorem gL_refuses_X6_siteInfo : GoodIn wsL_refuses (wsV RL 9 RX6 yX6_siteInfo wsX6_siteInfo) := goodIn_app (goodIn_of _ (by decide +kernel)) ggL_refuses_X6_siteInfo
set_option maxRecDepth 20000 in
theorem ggL_refuses_X6_reset : GoodIn wsL_refuses wsX6_reset := goodIn_r _ [162, 140, 9, 15, 142, 16, 163, 141, 21, 22, 7, 23, 164, 165, 166, 35, 167, 153, 37, 168, 39, 40, 41, 42, 43, 169, 170, 171, 113, 172, 125, 173, 174, 175, 176, 61, 177, 63, 178, 179, 180, 181, 182, 183, 184, 185, 186, 466, 467, 468, 469, 470, 471, 472, 473, 474, 479, 480, 481, 482, 483, 484, 485, 486, 487, 489, 490, 491, 492, 493, 488, 494, 495] (by decide +kernel) (by decide +kernel)
set_option maxRecDepth 20000 in
theorem gL_refuses_X6_reset : GoodIn wsL_refuses (wsV RL 69 RX6 yX6_reset wsX6_reset) := goodIn_app (goodIn_of _ (by decide +kernel)) ggL_refuses_X6_reset
set_option maxRecDepth 20000 in
theorem ggL_refuses_X6_penDown : GoodIn wsL_refuses wsX6_penDown := goodIn_r _ [190, 140, 142, 17, 18, 19, 7, 20, 9, 21, 22, 23, 191, 192, 193, 113, 194, 115, 195, 196, 197, 198, 199, 125, 200, 80, 81, 41, 82, 43, 201, 202, 203, 204, 130, 135, 116, 49, 50, 51, 158, 122, 123, 124, 466, 467, 468, 469, 470, 471, 472, 473, 474, 489, 490, 491, 492, 493, 487] (by decide +kernel) (by decide +kernel)
set_option maxRecDepth 20000 in
theorem gL_refuses_X6_penDown : GoodIn wsL_refuses (wsV RL 73 RX6 yX6_penDown wsX6_penDown) := goodIn_app (goodIn_of _ (by decide +kernel)) ggL_refuses_X6_penDown
set_option maxRecDepth 20000 in
theorem ggL_refuses_X6_penMove : GoodIn wsL_refuses wsX6_penMove := goodIn_r _ [208, 140, 142, 209, 210, 17, 18, 19, 7, 20, 9, 21, 22, 23, 158, 122, 123, 113, 124, 125, 116, 49, 50, 41, 51, 43, 211, 127, 128, 129, 130, 212, 132, 133, 134, 135, 201, 202, 203, 204, 200, 80, 81, 82, 466, 467, 468, 469, 470, 471, 472, 473, 474, 489, 490, 491, 492, 493, 487] (by decide +kernel) (by decide +kernel)
set_option maxRecDepth 20000 in
theorem gL_refuses_X6_penMove : GoodIn wsL_refuses (wsV RL 77 RX6 yX6_penMove wsX6_penMove) := goodIn_app (goodIn_of _ (by decide +kernel)) ggL_refuses_X6_penMove
set_option maxRecDepth 20000 in
theorem ggL_refuses_X6_penUp : GoodIn wsL_refuses wsX6_penUp := goodIn_r _ [216, 140, 142, 209, 210, 15, 17, 18, 19, 7, 20, 9, 21, 22, 23, 158, 122, 123, 113, 124, 125, 116, 49, 50, 41, 51, 43, 217, 218, 219, 220, 149, 150, 151, 35, 152, 153, 57, 221, 222, 223, 224, 141, 143, 225, 80, 81, 82, 226, 227, 228, 229, 230, 87, 231, 232, 233, 234, 235, 78, 236, 237, 238, 239, 240, 241, 242, 37, 56, 243, 244, 245, 246, 247, 248, 249, 250, 106, 107, 251, 252, 253, 254, 255, 256, 111, 112, 114, 115, 257, 258, 259, 260, 195, 261, 192, 193, 194, 196, 197, 198, 199, 200, 262, 127, 128, 129, 130, 263, 132, 133, 134, 135, 264, 202, 203, 204, 265, 266, 267, 268, 269, 270, 16, 163, 271, 272, 273, 61, 274, 63, 275, 276, 277, 278, 182, 279, 184, 280, 281, 282, 283, 108, 109, 466, 467, 468, 469, 470, 471, 472, 473, 474, 489, 490, 491, 492, 493, 487, 479, 480, 481, 482, 483, 484, 485, 486, 488, 494, 495] (by decide +kernel) (by decide +kernel)
set_option maxRecDepth 20000 in
theorem gL_refuses_X6_penUp : GoodIn wsL_refuses (wsV RL 80 RX6 yX6_penUp wsX6_penUp) := goodIn_app (goodIn_of _ (by decide +kernel)) ggL_refuses_X6_penUp
set_option maxRecDepth 20000 in
theorem ggL_refuses_X6_undo : GoodIn wsL_refuses wsX6_undo := goodIn_r _ [287, 140, 17, 18, 19, 7, 20, 9, 21, 22, 23, 288, 289, 290, 291, 14, 15, 16, 24, 25, 26, 27, 28, 29, 30, 31, 32, 33, 34, 35, 36, 37, 38, 39, 40, 41, 42, 43, 44, 45, 46, 47, 48, 49, 50, 51, 52, 53, 54, 55, 56, 57, 58, 59, 60, 61, 62, 63, 64, 65, 66, 67, 68, 69, 70, 71, 72, 73, 74, 75, 76, 77, 78, 79, 80, 81, 82, 83, 84, 85, 86, 87, 88, 89, 90, 91, 92, 93, 94, 95, 96, 97, 98, 99, 100, 101, 149, 150, 151, 152, 153, 292, 236, 237, 293, 294, 295, 296, 297, 298, 209, 210, 217, 218, 219, 220, 221, 222, 223, 224, 141, 143, 225, 299, 300, 301, 302, 231, 232, 233, 234, 235, 238, 239, 240, 241, 242, 243, 244, 245, 246, 247, 248, 249, 250, 106, 107, 267, 268, 269, 270, 163, 271, 272, 273, 274, 275, 276, 277, 278, 182, 279, 184, 280, 281, 282, 283, 108, 109, 466, 467, 468, 469, 470, 471, 472, 473, 474, 475, 476, 477, 478, 479, 480, 481, 482, 483, 484, 485, 486, 487, 488, 494, 495] (by decide +kernel) (by decide +kernel)
set_option maxRecDepth 20000 in
theorem gL_refuses_X6_undo : GoodIn wsL_refuses (wsV RL 61 RX6 yX6_undo wsX6_undo) := goodIn_app (goodIn_of _ (by decide +kernel)) ggL_refuses_X6_undo
set_option maxRecDepth 20000 in
theorem ggL_refuses_X6_redo : GoodIn wsL_refuses wsX6_redo := goodIn_r _ [306, 140, 17, 18, 19, 7, 20, 9, 21, 22, 23, 307, 308, 309, 310, 14, 15, 16, 24, 25, 26, 27, 28, 29, 30, 31, 32, 33, 34, 35, 36, 37, 38, 39, 40, 41, 42, 43, 44, 45, 46, 47, 48, 49, 50, 51, 52, 53, 54, 55, 56, 57, 58, 59, 60, 61, 62, 63, 64, 65, 66, 67, 68, 69, 70, 71, 72, 73, 74, 75, 76, 77, 78, 79, 80, 81, 82, 83, 84, 85, 86, 87, 88, 89, 90, 91, 92, 93, 94, 95, 96, 97, 98, 99, 100, 101, 149, 150, 151, 152, 153, 292, 236, 237, 311, 312, 294, 295, 296, 297, 298, 209, 210, 217, 218, 219, 220, 221, 222, 223, 224, 141, 143, 225, 299, 300, 301, 302, 231, 232, 233, 234, 235, 238, 239, 240, 241, 242, 243, 244, 245, 246, 247, 248, 249, 250, 106, 107, 267, 268, 269, 270, 163, 271, 272, 273, 274, 275, 276, 277, 278, 182, 279, 184, 280, 281, 282, 283, 108, 109, 466, 467, 468, 469, 470, 471, 472, 473, 474, 475, 476, 477, 478, 479, 480, 481, 482, 483, 484, 485, 486, 487, 488, 494, 495] (by decide +kernel) (by decide +kernel)
set_option maxRecDepth 20000 in
theorem gL_refuses_X6_redo : GoodIn wsL_refuses (wsV RL 66 RX6 yX6_redo wsX6_redo) := goodIn_app (goodIn_of _ (by decide +kernel)) ggL_refuses_X6_redo
set_option maxRecDepth 20000 in
theorem ggL_refuses_X6_lift : GoodIn wsL_refuses wsX6_lift := goodIn_r _ [316, 140, 14, 15, 16, 209, 210, 17, 18, 19, 7, 20, 9, 21, 22, 23, 24, 25, 26, 27, 28, 29, 30, 31, 32, 33, 34, 35, 36, 37, 38, 39, 40, 41, 42, 43, 44, 45, 46, 47, 48, 49, 50, 51, 52, 53, 54, 55, 56, 57, 58, 59, 60, 61, 62, 63, 64, 65, 66, 67, 68, 69, 70, 71, 72, 73, 74, 75, 76, 77, 78, 79, 80, 81, 82, 83, 84, 85, 86, 87, 88, 89, 90, 91, 92, 93, 94, 95, 96, 97, 98, 99, 100, 101, 154, 155, 156, 157, 217, 218, 219, 220, 149, 150, 151, 152, 153, 221, 222, 223, 224, 141, 143, 225, 317, 318, 319, 320, 299, 300, 301, 302, 231, 232, 233, 234, 235, 236, 237, 238, 239, 240, 241, 242, 243, 244, 245, 246, 247, 248, 249, 250, 106, 107, 267, 268, 269, 270, 163, 271, 272, 273, 274, 275, 276, 277, 278, 182, 279, 184, 280, 281, 282, 283, 108, 109, 466, 467, 468, 469, 470, 471, 472, 473, 474, 475, 476, 477, 478, 479, 480, 481, 482, 483, 484, 485, 486, 487, 488, 494, 495] (by decide +kernel) (by decide +kernel)
set_option maxRecDepth 20000 in
theorem gL_refuses_X6_lift : GoodIn wsL_refuses (wsV RL 83 RX6 yX6_lift wsX6_lift) := goodIn_app (goodIn_of _ (by decide +kernel)) ggL_refuses_X6_lift
set_option maxRecDepth 20000 in
theorem ggL_refuses_X6_deliver : GoodIn wsL_refuses wsX6_deliver := goodIn_r _ [324, 140, 163, 325, 326, 327, 328, 7, 329, 17, 18, 19, 20, 9, 21, 22, 23, 330, 331, 332, 182, 333, 184, 281, 49, 50, 41, 51, 43, 334, 335, 336, 337, 280, 338, 339, 340, 341, 342, 343, 344, 345, 282, 80, 81, 82, 346, 347, 348, 349, 16, 141, 15, 350, 271, 272, 273, 61, 274, 63, 275, 143, 351, 352, 353, 35, 354, 235, 57, 225, 355, 106, 107, 283, 108, 109, 466, 467, 468, 469, 470, 471, 472, 473, 474, 494, 495, 487, 488, 479, 480, 481, 482, 483, 484, 485, 486] (by decide +kernel) (by decide +kernel)
set_option maxRecDepth 20000 in
theorem gL_refuses_X6_deliver : GoodIn wsL_refuses (wsV RL 86 RX6 yX6_deliver wsX6_deliver) := goodIn_app (goodIn_of _ (by decide +kernel)) ggL_refuses_X6_deliver
set_option maxRecDepth 20000 in
theorem ggL_refuses_X6_lose : GoodIn wsL_refuses wsX6_lose := goodIn_r _ [359, 140, 163, 325, 326, 327, 328, 7, 329, 17, 18, 19, 20, 9, 21, 22, 23, 330, 331, 332, 182, 333, 184, 281, 49, 50, 41, 51, 43, 338, 339, 340, 341, 280, 342, 343, 344, 345, 282, 80, 81, 82, 466, 467, 468, 469, 470, 471, 472, 473, 474, 494, 495, 487] (by decide +kernel) (by decide +kernel)
set_option maxRecDepth 20000 in
theorem gL_refuses_X6_lose : GoodIn wsL_refuses (wsV RL 89 RX6 yX6_lose wsX6_lose) := goodIn_app (goodIn_of _ (by decide +kernel)) ggL_refuses_X6_lose
set_option maxRecDepth 20000 in
theorem ggL_refuses_X6_waiting : GoodIn wsL_refuses wsX6_waiting := goodIn_r _ [363, 163, 140, 326, 327, 328, 7, 329, 17, 18, 19, 20, 9, 21, 22, 23, 330, 331, 332, 182, 333, 184, 281, 49, 50, 41, 51, 43, 466, 467, 468, 469, 470, 471, 472, 473, 474, 494, 495, 487] (by decide +kernel) (by decide +kernel)
set_option maxRecDepth 20000 in
theorem gL_refuses_X6_waiting : GoodIn wsL_refuses (wsV RL 52 RX6 yX6_waiting wsX6_waiting) := goodIn_app (goodIn_of _ (by decide +kernel)) ggL_refuses_X6_waiting
set_option maxRecDepth 20000 in
theorem ggL_refuses_X6_gap : GoodIn wsL_refuses wsX6_gap := goodIn_r _ [367, 140, 16, 325, 17, 18, 19, 7, 20, 9, 21, 22, 23, 292, 236, 237, 368, 59, 60, 61, 62, 63, 64, 49, 50, 41, 51, 43, 466, 467, 468, 469, 470, 471, 472, 473, 474, 488, 487] (by decide +kernel) (by decide +kernel)
set_option maxRecDepth 20000 in
theorem gL_refuses_X6_gap : GoodIn wsL_refuses (wsV RL 29 RX6 yX6_gap wsX6_gap) := goodIn_app (goodIn_of _ (by decide +kernel)) ggL_refuses_X6_gap
set_option maxRecDepth 20000 in
theorem ggL_refuses_X6_repair : GoodIn wsL_refuses wsX6_repair := goodIn_r _ [372, 140, 326, 327, 328, 7, 329, 17, 18, 19, 20, 9, 21, 22, 23, 373, 374, 375, 376, 16, 377, 378, 379, 61, 380, 148, 59, 60, 62, 63, 64, 49, 50, 41, 51, 43, 381, 382, 383, 384, 106, 107, 108, 109, 236, 237, 368, 346, 347, 348, 349, 141, 15, 350, 343, 344, 345, 271, 272, 273, 274, 275, 80, 81, 82, 143, 351, 352, 353, 35, 354, 235, 57, 225, 466, 467, 468, 469, 470, 471, 472, 473, 474, 488, 487, 479, 480, 481, 482, 483, 484, 485, 486] (by decide +kernel) (by decide +kernel)
set_option maxRecDepth 20000 in
theorem gL_refuses_X6_repair : GoodIn wsL_refuses (wsV RL 55 RX6 yX6_repair wsX6_repair) := goodIn_app (goodIn_of _ (by decide +kernel)) ggL_refuses_X6_repair
set_option maxRecDepth 20000 in
theorem ggL_refuses_X6_transfer : GoodIn wsL_refuses wsX6_transfer := goodIn_r _ [388, 140, 16, 15, 141, 350, 343, 344, 345, 326, 327, 328, 7, 329, 17, 18, 19, 20, 9, 21, 22, 23, 368, 59, 60, 61, 62, 63, 64, 49, 50, 41, 51, 43, 346, 347, 348, 349, 271, 272, 273, 274, 275, 80, 81, 82, 143, 351, 352, 353, 35, 354, 235, 57, 225, 389, 390, 391, 392, 78, 230, 393, 394, 395, 113, 396, 125, 116, 262, 127, 128, 129, 130, 263, 132, 133, 134, 135, 466, 467, 468, 469, 470, 471, 472, 473, 474, 488, 487, 479, 480, 481, 482, 483, 484, 485, 486, 489, 490, 491, 492, 493] (by decide +kernel) (by decide +kernel)
set_option maxRecDepth 20000 in
theorem gL_refuses_X6_transfer : GoodIn wsL_refuses (wsV RL 58 RX6 yX6_transfer wsX6_transfer) := goodIn_app (goodIn_of _ (by decide +kernel)) ggL_refuses_X6_transfer
set_option maxRecDepth 20000 in
theorem ggL_refuses_X6_operation : GoodIn wsL_refuses wsX6_operation := goodIn_r _ [400, 140, 15, 325, 17, 18, 19, 7, 20, 9, 21, 22, 23, 149, 150, 151, 35, 152, 153, 57, 49, 50, 41, 51, 43, 292, 236, 237, 311, 75, 76, 77, 78, 351, 352, 353, 354, 235, 389, 390, 391, 392, 230, 393, 394, 395, 113, 396, 125, 116, 262, 127, 128, 129, 130, 263, 132, 133, 134, 135, 293, 94, 95, 96, 158, 122, 123, 124, 312, 70, 71, 72, 73, 283, 108, 109, 355, 106, 107, 401, 84, 85, 86, 87, 466, 467, 468, 469, 470, 471, 472, 473, 474, 479, 480, 481, 482, 483, 484, 485, 486, 487, 489, 490, 491, 492, 493] (by decide +kernel) (by decide +kernel)
set_option maxRecDepth 20000 in
theorem gL_refuses_X6_operation : GoodIn wsL_refuses (wsV RL 15 RX6 yX6_operation wsX6_operation) := goodIn_app (goodIn_of _ (by decide +kernel)) ggL_refuses_X6_operation
set_option maxRecDepth 20000 in
theorem ggL_refuses_X6_knows : GoodIn wsL_refuses wsX6_knows := goodIn_r _ [405, 140, 15, 325, 16, 17, 18, 19, 7, 20, 9, 21, 22, 23, 149, 150, 151, 35, 152, 153, 57, 49, 50, 41, 51, 43, 292, 236, 237, 368, 59, 60, 61, 62, 63, 64, 466, 467, 468, 469, 470, 471, 472, 473, 474, 479, 480, 481, 482, 483, 484, 485, 486, 487, 488] (by decide +kernel) (by decide +kernel)
set_option maxRecDepth 20000 in
theorem gL_refuses_X6_knows : GoodIn wsL_refuses (wsV RL 19 RX6 yX6_knows wsX6_knows) := goodIn_app (goodIn_of _ (by decide +kernel)) ggL_refuses_X6_knows
set_option maxRecDepth 20000 in
theorem ggL_refuses_X6_stroke : GoodIn wsL_refuses wsX6_stroke := goodIn_r _ [409, 140, 14, 15, 16, 325, 21, 22, 7, 23, 17, 18, 19, 20, 9, 24, 25, 26, 27, 28, 29, 30, 31, 32, 33, 34, 35, 36, 37, 38, 39, 40, 41, 42, 43, 44, 45, 46, 47, 48, 49, 50, 51, 52, 53, 54, 55, 56, 57, 58, 59, 60, 61, 62, 63, 64, 65, 66, 67, 68, 69, 70, 71, 72, 73, 74, 75, 76, 77, 78, 79, 80, 81, 82, 83, 84, 85, 86, 87, 88, 89, 90, 91, 92, 93, 94, 95, 96, 97, 98, 99, 100, 101, 154, 155, 156, 157, 317, 318, 319, 320, 410, 411, 412, 413, 158, 122, 123, 113, 124, 125, 116, 211, 127, 128, 129, 130, 212, 132, 133, 134, 135, 414, 415, 416, 417, 355, 106, 107, 283, 108, 109, 418, 419, 420, 421, 422, 111, 112, 114, 115, 466, 467, 468, 469, 470, 471, 472, 473, 474, 475, 476, 477, 478, 479, 480, 481, 482, 483, 484, 485, 486, 487, 488, 489, 490, 491, 492, 493] (by decide +kernel) (by decide +kernel)
end
section
set_option maxRecDepth 20000 in
theorem gL_refuses_X6_stroke : GoodIn wsL_refuses (wsV RL 22 RX6 yX6_stroke wsX6_stroke) := goodIn_app (goodIn_of _ (by decide +kernel)) ggL_refuses_X6_stroke
set_option maxRecDepth 20000 in
theorem ggL_refuses_X6_strokeAt : GoodIn wsL_refuses wsX6_strokeAt := goodIn_r _ [426, 140, 14, 15, 16, 325, 17, 18, 19, 7, 20, 9, 21, 22, 23, 24, 25, 26, 27, 28, 29, 30, 31, 32, 33, 34, 35, 36, 37, 38, 39, 40, 41, 42, 43, 44, 45, 46, 47, 48, 49, 50, 51, 52, 53, 54, 55, 56, 57, 58, 59, 60, 61, 62, 63, 64, 65, 66, 67, 68, 69, 70, 71, 72, 73, 74, 75, 76, 77, 78, 79, 80, 81, 82, 83, 84, 85, 86, 87, 88, 89, 90, 91, 92, 93, 94, 95, 96, 97, 98, 99, 100, 101, 154, 155, 156, 157, 317, 318, 319, 320, 427, 428, 429, 113, 430, 125, 116, 262, 127, 128, 129, 130, 263, 132, 133, 134, 135, 466, 467, 468, 469, 470, 471, 472, 473, 474, 479, 480, 481, 482, 483, 484, 485, 486, 475, 476, 477, 478, 487, 488, 489, 490, 491, 492, 493] (by decide +kernel) (by decide +kernel)
set_option maxRecDepth 20000 in
theorem gL_refuses_X6_strokeAt : GoodIn wsL_refuses (wsV RL 92 RX6 yX6_strokeAt wsX6_strokeAt) := goodIn_app (goodIn_of _ (by decide +kernel)) ggL_refuses_X6_strokeAt
set_option maxRecDepth 20000 in
theorem ggL_refuses_X6_areSame : GoodIn wsL_refuses wsX6_areSame := goodIn_r _ [434, 140, 16, 17, 18, 19, 7, 20, 9, 21, 22, 23, 435, 436, 437, 438, 14, 15, 439, 24, 25, 26, 27, 28, 29, 30, 31, 32, 33, 34, 35, 36, 37, 38, 39, 40, 41, 42, 43, 44, 45, 46, 47, 48, 49, 50, 51, 52, 53, 54, 55, 56, 57, 58, 59, 60, 61, 62, 63, 64, 65, 66, 67, 68, 69, 70, 71, 72, 73, 74, 75, 76, 77, 78, 79, 80, 81, 82, 83, 84, 85, 86, 87, 88, 89, 90, 91, 92, 93, 94, 95, 96, 97, 98, 99, 100, 101, 440, 441, 442, 443, 444, 318, 319, 320, 445, 419, 420, 421, 466, 467, 468, 469, 470, 471, 472, 473, 474, 475, 476, 477, 478, 479, 480, 481, 482, 483, 484, 485, 486, 487, 488] (by decide +kernel) (by decide +kernel)
set_option maxRecDepth 20000 in
theorem gL_refuses_X6_areSame : GoodIn wsL_refuses (wsV RL 38 RX6 yX6_areSame wsX6_areSame) := goodIn_app (goodIn_of _ (by decide +kernel)) ggL_refuses_X6_areSame
set_option maxRecDepth 20000 in
theorem ggL_refuses_X6_bestHelper : GoodIn wsL_refuses wsX6_bestHelper := goodIn_r _ [449, 140, 325, 9, 17, 18, 19, 7, 20, 21, 22, 23, 450, 451, 452, 453, 373, 374, 375, 376, 16, 377, 378, 379, 61, 380, 148, 59, 60, 62, 63, 64, 49, 50, 41, 51, 43, 381, 382, 383, 384, 106, 107, 108, 109, 236, 237, 368, 466, 467, 468, 469, 470, 471, 472, 473, 474, 488, 487] (by decide +kernel) (by decide +kernel)
set_option maxRecDepth 20000 in
theorem gL_refuses_X6_bestHelper : GoodIn wsL_refuses (wsV RL 35 RX6 yX6_bestHelper wsX6_bestHelper) := goodIn_app (goodIn_of _ (by decide +kernel)) ggL_refuses_X6_bestHelper
set_option maxRecDepth 20000 in
theorem ggL_refuses_X6_endangered : GoodIn wsL_refuses wsX6_endangered := goodIn_r _ [457, 140, 15, 163, 17, 18, 19, 7, 20, 9, 21, 22, 23, 149, 150, 151, 35, 152, 153, 57, 49, 50, 41, 51, 43, 292, 236, 237, 458, 459, 460, 461, 16, 368, 59, 60, 61, 62, 63, 64, 462, 463, 464, 182, 465, 184, 280, 281, 466, 467, 468, 469, 470, 471, 472, 473, 474, 479, 480, 481, 482, 483, 484, 485, 486, 487, 488, 494, 495] (by decide +kernel) (by decide +kernel)
set_option maxRecDepth 20000 in
theorem gL_refuses_X6_endangered : GoodIn wsL_refuses (wsV RL 25 RX6 yX6_endangered wsX6_endangered) := goodIn_app (goodIn_of _ (by decide +kernel)) ggL_refuses_X6_endangered
theorem dL_refuses_0 : decode cL_refuses 0 = .ok (.aload_n 0, 1) := by decide +kernel
theorem dL_refuses_1 : decode cL_refuses 1 = .ok (.invokevirtual 41, 3) := by decide +kernel
theorem dL_refuses_4 : decode cL_refuses 4 = .ok (.istore_n 1, 1) := by decide +kernel
theorem dL_refuses_5 : decode cL_refuses 5 = .ok (.iconst 0, 1) := by decide +kernel
theorem dL_refuses_6 : decode cL_refuses 6 = .ok (.istore_n 2, 1) := by decide +kernel
theorem dL_refuses_7 : decode cL_refuses 7 = .ok (.iconst 0, 1) := by decide +kernel
theorem dL_refuses_8 : decode cL_refuses 8 = .ok (.istore_n 3, 1) := by decide +kernel
theorem dL_refuses_9 : decode cL_refuses 9 = .ok (.iload_n 3, 1) := by decide +kernel
theorem dL_refuses_10 : decode cL_refuses 10 = .ok (.iload_n 1, 1) := by decide +kernel
theorem dL_refuses_11 : decode cL_refuses 11 = .ok (.if_icmp .ge 47, 3) := by decide +kernel
theorem dL_refuses_14 : decode cL_refuses 14 = .ok (.bipush 31, 2) := by decide +kernel
theorem dL_refuses_16 : decode cL_refuses 16 = .ok (.iload_n 2, 1) := by decide +kernel
theorem dL_refuses_17 : decode cL_refuses 17 = .ok (.imul, 1) := by decide +kernel
theorem dL_refuses_18 : decode cL_refuses 18 = .ok (.aload_n 0, 1) := by decide +kernel
theorem dL_refuses_19 : decode cL_refuses 19 = .ok (.iload_n 3, 1) := by decide +kernel
theorem dL_refuses_20 : decode cL_refuses 20 = .ok (.invokevirtual 49, 3) := by decide +kernel
theorem dL_refuses_23 : decode cL_refuses 23 = .ok (.iadd, 1) := by decide +kernel
theorem dL_refuses_24 : decode cL_refuses 24 = .ok (.bipush 7, 2) := by decide +kernel
theorem dL_refuses_26 : decode cL_refuses 26 = .ok (.aload_n 0, 1) := by decide +kernel
theorem dL_refuses_27 : decode cL_refuses 27 = .ok (.iload_n 3, 1) := by decide +kernel
theorem dL_refuses_28 : decode cL_refuses 28 = .ok (.iconst 0, 1) := by decide +kernel
theorem dL_refuses_29 : decode cL_refuses 29 = .ok (.invokevirtual 9, 3) := by decide +kernel
theorem dL_refuses_32 : decode cL_refuses 32 = .ok (.imul, 1) := by decide +kernel
theorem dL_refuses_33 : decode cL_refuses 33 = .ok (.iadd, 1) := by decide +kernel
theorem dL_refuses_34 : decode cL_refuses 34 = .ok (.aload_n 0, 1) := by decide +kernel
theorem dL_refuses_35 : decode cL_refuses 35 = .ok (.iload_n 3, 1) := by decide +kernel
theorem dL_refuses_36 : decode cL_refuses 36 = .ok (.iconst 1, 1) := by decide +kernel
theorem dL_refuses_37 : decode cL_refuses 37 = .ok (.invokevirtual 9, 3) := by decide +kernel
theorem dL_refuses_40 : decode cL_refuses 40 = .ok (.iadd, 1) := by decide +kernel
theorem dL_refuses_41 : decode cL_refuses 41 = .ok (.bipush 100, 2) := by decide +kernel
theorem dL_refuses_43 : decode cL_refuses 43 = .ok (.aload_n 0, 1) := by decide +kernel
theorem dL_refuses_44 : decode cL_refuses 44 = .ok (.iload_n 3, 1) := by decide +kernel
theorem dL_refuses_45 : decode cL_refuses 45 = .ok (.iconst 4, 1) := by decide +kernel
theorem dL_refuses_46 : decode cL_refuses 46 = .ok (.invokevirtual 9, 3) := by decide +kernel
theorem dL_refuses_49 : decode cL_refuses 49 = .ok (.imul, 1) := by decide +kernel
theorem dL_refuses_50 : decode cL_refuses 50 = .ok (.iadd, 1) := by decide +kernel
theorem dL_refuses_51 : decode cL_refuses 51 = .ok (.istore_n 2, 1) := by decide +kernel
theorem dL_refuses_52 : decode cL_refuses 52 = .ok (.iinc 3 1, 3) := by decide +kernel
theorem dL_refuses_55 : decode cL_refuses 55 = .ok (.goto (-46), 3) := by decide +kernel
theorem dL_refuses_58 : decode cL_refuses 58 = .ok (.aload_n 0, 1) := by decide +kernel
theorem dL_refuses_59 : decode cL_refuses 59 = .ok (.bipush 6, 2) := by decide +kernel
theorem dL_refuses_61 : decode cL_refuses 61 = .ok (.invokevirtual 69, 3) := by decide +kernel
theorem dL_refuses_64 : decode cL_refuses 64 = .ok (.ldc 72, 2) := by decide +kernel
theorem dL_refuses_66 : decode cL_refuses 66 = .ok (.if_icmp .ne 140, 3) := by decide +kernel
theorem dL_refuses_69 : decode cL_refuses 69 = .ok (.aload_n 0, 1) := by decide +kernel
theorem dL_refuses_70 : decode cL_refuses 70 = .ok (.iload_n 1, 1) := by decide +kernel
theorem dL_refuses_71 : decode cL_refuses 71 = .ok (.iconst 0, 1) := by decide +kernel
theorem dL_refuses_72 : decode cL_refuses 72 = .ok (.invokevirtual 9, 3) := by decide +kernel
theorem dL_refuses_75 : decode cL_refuses 75 = .ok (.ldc 72, 2) := by decide +kernel
theorem dL_refuses_77 : decode cL_refuses 77 = .ok (.if_icmp .ne 129, 3) := by decide +kernel
theorem dL_refuses_80 : decode cL_refuses 80 = .ok (.aload_n 0, 1) := by decide +kernel
theorem dL_refuses_81 : decode cL_refuses 81 = .ok (.iconst 0, 1) := by decide +kernel
theorem dL_refuses_82 : decode cL_refuses 82 = .ok (.iconst (-1), 1) := by decide +kernel
theorem dL_refuses_83 : decode cL_refuses 83 = .ok (.invokevirtual 9, 3) := by decide +kernel
theorem dL_refuses_86 : decode cL_refuses 86 = .ok (.ldc 72, 2) := by decide +kernel
theorem dL_refuses_88 : decode cL_refuses 88 = .ok (.if_icmp .ne 118, 3) := by decide +kernel
theorem dL_refuses_91 : decode cL_refuses 91 = .ok (.aload_n 0, 1) := by decide +kernel
theorem dL_refuses_92 : decode cL_refuses 92 = .ok (.iload_n 1, 1) := by decide +kernel
theorem dL_refuses_93 : decode cL_refuses 93 = .ok (.iconst 0, 1) := by decide +kernel
theorem dL_refuses_94 : decode cL_refuses 94 = .ok (.iconst 0, 1) := by decide +kernel
theorem dL_refuses_95 : decode cL_refuses 95 = .ok (.iconst 0, 1) := by decide +kernel
theorem dL_refuses_96 : decode cL_refuses 96 = .ok (.iconst 0, 1) := by decide +kernel
theorem dL_refuses_97 : decode cL_refuses 97 = .ok (.invokevirtual 73, 3) := by decide +kernel
theorem dL_refuses_100 : decode cL_refuses 100 = .ok (.ldc 72, 2) := by decide +kernel
theorem dL_refuses_102 : decode cL_refuses 102 = .ok (.if_icmp .ne 104, 3) := by decide +kernel
theorem dL_refuses_105 : decode cL_refuses 105 = .ok (.aload_n 0, 1) := by decide +kernel
theorem dL_refuses_106 : decode cL_refuses 106 = .ok (.iconst 0, 1) := by decide +kernel
theorem dL_refuses_107 : decode cL_refuses 107 = .ok (.iconst 0, 1) := by decide +kernel
theorem dL_refuses_108 : decode cL_refuses 108 = .ok (.bipush 64, 2) := by decide +kernel
theorem dL_refuses_110 : decode cL_refuses 110 = .ok (.iconst 0, 1) := by decide +kernel
theorem dL_refuses_111 : decode cL_refuses 111 = .ok (.iconst 0, 1) := by decide +kernel
theorem dL_refuses_112 : decode cL_refuses 112 = .ok (.invokevirtual 73, 3) := by decide +kernel
theorem dL_refuses_115 : decode cL_refuses 115 = .ok (.ldc 72, 2) := by decide +kernel
theorem dL_refuses_117 : decode cL_refuses 117 = .ok (.if_icmp .ne 89, 3) := by decide +kernel
theorem dL_refuses_120 : decode cL_refuses 120 = .ok (.aload_n 0, 1) := by decide +kernel
theorem dL_refuses_121 : decode cL_refuses 121 = .ok (.iconst 0, 1) := by decide +kernel
theorem dL_refuses_122 : decode cL_refuses 122 = .ok (.iconst 0, 1) := by decide +kernel
theorem dL_refuses_123 : decode cL_refuses 123 = .ok (.iconst 0, 1) := by decide +kernel
theorem dL_refuses_124 : decode cL_refuses 124 = .ok (.iconst 0, 1) := by decide +kernel
theorem dL_refuses_125 : decode cL_refuses 125 = .ok (.iconst 4, 1) := by decide +kernel
theorem dL_refuses_126 : decode cL_refuses 126 = .ok (.invokevirtual 73, 3) := by decide +kernel
theorem dL_refuses_129 : decode cL_refuses 129 = .ok (.ldc 72, 2) := by decide +kernel
theorem dL_refuses_131 : decode cL_refuses 131 = .ok (.if_icmp .ne 75, 3) := by decide +kernel
theorem dL_refuses_134 : decode cL_refuses 134 = .ok (.aload_n 0, 1) := by decide +kernel
theorem dL_refuses_135 : decode cL_refuses 135 = .ok (.iconst 0, 1) := by decide +kernel
theorem dL_refuses_136 : decode cL_refuses 136 = .ok (.iconst 0, 1) := by decide +kernel
theorem dL_refuses_137 : decode cL_refuses 137 = .ok (.bipush (-9), 2) := by decide +kernel
theorem dL_refuses_139 : decode cL_refuses 139 = .ok (.invokevirtual 77, 3) := by decide +kernel
theorem dL_refuses_142 : decode cL_refuses 142 = .ok (.ldc 72, 2) := by decide +kernel
theorem dL_refuses_144 : decode cL_refuses 144 = .ok (.if_icmp .ne 62, 3) := by decide +kernel
theorem dL_refuses_147 : decode cL_refuses 147 = .ok (.aload_n 0, 1) := by decide +kernel
theorem dL_refuses_148 : decode cL_refuses 148 = .ok (.iload_n 1, 1) := by decide +kernel
theorem dL_refuses_149 : decode cL_refuses 149 = .ok (.invokevirtual 80, 3) := by decide +kernel
theorem dL_refuses_152 : decode cL_refuses 152 = .ok (.ldc 72, 2) := by decide +kernel
theorem dL_refuses_154 : decode cL_refuses 154 = .ok (.if_icmp .ne 52, 3) := by decide +kernel
theorem dL_refuses_157 : decode cL_refuses 157 = .ok (.aload_n 0, 1) := by decide +kernel
theorem dL_refuses_158 : decode cL_refuses 158 = .ok (.iconst (-1), 1) := by decide +kernel
theorem dL_refuses_159 : decode cL_refuses 159 = .ok (.invokevirtual 61, 3) := by decide +kernel
theorem dL_refuses_162 : decode cL_refuses 162 = .ok (.ldc 72, 2) := by decide +kernel
theorem dL_refuses_164 : decode cL_refuses 164 = .ok (.if_icmp .ne 42, 3) := by decide +kernel
theorem dL_refuses_167 : decode cL_refuses 167 = .ok (.aload_n 0, 1) := by decide +kernel
theorem dL_refuses_168 : decode cL_refuses 168 = .ok (.iload_n 1, 1) := by decide +kernel
theorem dL_refuses_169 : decode cL_refuses 169 = .ok (.invokevirtual 66, 3) := by decide +kernel
theorem dL_refuses_172 : decode cL_refuses 172 = .ok (.ldc 72, 2) := by decide +kernel
theorem dL_refuses_174 : decode cL_refuses 174 = .ok (.if_icmp .ne 32, 3) := by decide +kernel
theorem dL_refuses_177 : decode cL_refuses 177 = .ok (.aload_n 0, 1) := by decide +kernel
theorem dL_refuses_178 : decode cL_refuses 178 = .ok (.iload_n 1, 1) := by decide +kernel
theorem dL_refuses_179 : decode cL_refuses 179 = .ok (.iconst 0, 1) := by decide +kernel
theorem dL_refuses_180 : decode cL_refuses 180 = .ok (.iconst 0, 1) := by decide +kernel
theorem dL_refuses_181 : decode cL_refuses 181 = .ok (.invokevirtual 83, 3) := by decide +kernel
theorem dL_refuses_184 : decode cL_refuses 184 = .ok (.ldc 72, 2) := by decide +kernel
theorem dL_refuses_186 : decode cL_refuses 186 = .ok (.if_icmp .ne 20, 3) := by decide +kernel
theorem dL_refuses_189 : decode cL_refuses 189 = .ok (.aload_n 0, 1) := by decide +kernel
theorem dL_refuses_190 : decode cL_refuses 190 = .ok (.iconst 0, 1) := by decide +kernel
theorem dL_refuses_191 : decode cL_refuses 191 = .ok (.bipush 100, 2) := by decide +kernel
theorem dL_refuses_193 : decode cL_refuses 193 = .ok (.iconst 0, 1) := by decide +kernel
theorem dL_refuses_194 : decode cL_refuses 194 = .ok (.invokevirtual 83, 3) := by decide +kernel
end
section
theorem dL_refuses_197 : decode cL_refuses 197 = .ok (.ldc 64, 2) := by decide +kernel
theorem dL_refuses_199 : decode cL_refuses 199 = .ok (.if_icmp .ne 7, 3) := by decide +kernel
theorem dL_refuses_202 : decode cL_refuses 202 = .ok (.iconst 1, 1) := by decide +kernel
theorem dL_refuses_203 : decode cL_refuses 203 = .ok (.goto 4, 3) := by decide +kernel
theorem dL_refuses_206 : decode cL_refuses 206 = .ok (.iconst 0, 1) := by decide +kernel
theorem dL_refuses_207 : decode cL_refuses 207 = .ok (.istore_n 3, 1) := by decide +kernel
theorem dL_refuses_208 : decode cL_refuses 208 = .ok (.iload_n 3, 1) := by decide +kernel
theorem dL_refuses_209 : decode cL_refuses 209 = .ok (.ifCond .eq 189, 3) := by decide +kernel
theorem dL_refuses_212 : decode cL_refuses 212 = .ok (.aload_n 0, 1) := by decide +kernel
theorem dL_refuses_213 : decode cL_refuses 213 = .ok (.iconst 0, 1) := by decide +kernel
theorem dL_refuses_214 : decode cL_refuses 214 = .ok (.iload_n 1, 1) := by decide +kernel
theorem dL_refuses_215 : decode cL_refuses 215 = .ok (.invokevirtual 86, 3) := by decide +kernel
theorem dL_refuses_218 : decode cL_refuses 218 = .ok (.ldc 72, 2) := by decide +kernel
theorem dL_refuses_220 : decode cL_refuses 220 = .ok (.if_icmp .ne 178, 3) := by decide +kernel
theorem dL_refuses_223 : decode cL_refuses 223 = .ok (.aload_n 0, 1) := by decide +kernel
theorem dL_refuses_224 : decode cL_refuses 224 = .ok (.iload_n 1, 1) := by decide +kernel
theorem dL_refuses_225 : decode cL_refuses 225 = .ok (.iconst 0, 1) := by decide +kernel
theorem dL_refuses_226 : decode cL_refuses 226 = .ok (.invokevirtual 89, 3) := by decide +kernel
theorem dL_refuses_229 : decode cL_refuses 229 = .ok (.ldc 72, 2) := by decide +kernel
theorem dL_refuses_231 : decode cL_refuses 231 = .ok (.if_icmp .ne 167, 3) := by decide +kernel
theorem dL_refuses_234 : decode cL_refuses 234 = .ok (.aload_n 0, 1) := by decide +kernel
theorem dL_refuses_235 : decode cL_refuses 235 = .ok (.iconst 0, 1) := by decide +kernel
theorem dL_refuses_236 : decode cL_refuses 236 = .ok (.iconst 0, 1) := by decide +kernel
theorem dL_refuses_237 : decode cL_refuses 237 = .ok (.invokevirtual 52, 3) := by decide +kernel
theorem dL_refuses_240 : decode cL_refuses 240 = .ok (.ldc 72, 2) := by decide +kernel
theorem dL_refuses_242 : decode cL_refuses 242 = .ok (.if_icmp .ne 156, 3) := by decide +kernel
theorem dL_refuses_245 : decode cL_refuses 245 = .ok (.aload_n 0, 1) := by decide +kernel
theorem dL_refuses_246 : decode cL_refuses 246 = .ok (.iconst 0, 1) := by decide +kernel
theorem dL_refuses_247 : decode cL_refuses 247 = .ok (.iload_n 1, 1) := by decide +kernel
theorem dL_refuses_248 : decode cL_refuses 248 = .ok (.iconst 0, 1) := by decide +kernel
theorem dL_refuses_249 : decode cL_refuses 249 = .ok (.invokevirtual 29, 3) := by decide +kernel
theorem dL_refuses_252 : decode cL_refuses 252 = .ok (.ldc 72, 2) := by decide +kernel
theorem dL_refuses_254 : decode cL_refuses 254 = .ok (.if_icmp .ne 144, 3) := by decide +kernel
theorem dL_refuses_257 : decode cL_refuses 257 = .ok (.aload_n 0, 1) := by decide +kernel
theorem dL_refuses_258 : decode cL_refuses 258 = .ok (.iconst 0, 1) := by decide +kernel
theorem dL_refuses_259 : decode cL_refuses 259 = .ok (.iconst 0, 1) := by decide +kernel
theorem dL_refuses_260 : decode cL_refuses 260 = .ok (.invokevirtual 55, 3) := by decide +kernel
theorem dL_refuses_263 : decode cL_refuses 263 = .ok (.ldc 72, 2) := by decide +kernel
theorem dL_refuses_265 : decode cL_refuses 265 = .ok (.if_icmp .ne 133, 3) := by decide +kernel
theorem dL_refuses_268 : decode cL_refuses 268 = .ok (.aload_n 0, 1) := by decide +kernel
theorem dL_refuses_269 : decode cL_refuses 269 = .ok (.iconst 0, 1) := by decide +kernel
theorem dL_refuses_270 : decode cL_refuses 270 = .ok (.iload_n 1, 1) := by decide +kernel
theorem dL_refuses_271 : decode cL_refuses 271 = .ok (.invokevirtual 58, 3) := by decide +kernel
theorem dL_refuses_274 : decode cL_refuses 274 = .ok (.ldc 72, 2) := by decide +kernel
theorem dL_refuses_276 : decode cL_refuses 276 = .ok (.if_icmp .ne 122, 3) := by decide +kernel
theorem dL_refuses_279 : decode cL_refuses 279 = .ok (.aload_n 0, 1) := by decide +kernel
theorem dL_refuses_280 : decode cL_refuses 280 = .ok (.iload_n 1, 1) := by decide +kernel
theorem dL_refuses_281 : decode cL_refuses 281 = .ok (.iconst 1, 1) := by decide +kernel
theorem dL_refuses_282 : decode cL_refuses 282 = .ok (.iconst 0, 1) := by decide +kernel
theorem dL_refuses_283 : decode cL_refuses 283 = .ok (.invokevirtual 15, 3) := by decide +kernel
theorem dL_refuses_286 : decode cL_refuses 286 = .ok (.ldc 72, 2) := by decide +kernel
theorem dL_refuses_288 : decode cL_refuses 288 = .ok (.if_icmp .ne 110, 3) := by decide +kernel
theorem dL_refuses_291 : decode cL_refuses 291 = .ok (.aload_n 0, 1) := by decide +kernel
theorem dL_refuses_292 : decode cL_refuses 292 = .ok (.iconst 0, 1) := by decide +kernel
theorem dL_refuses_293 : decode cL_refuses 293 = .ok (.bipush 21, 2) := by decide +kernel
theorem dL_refuses_295 : decode cL_refuses 295 = .ok (.iconst 0, 1) := by decide +kernel
theorem dL_refuses_296 : decode cL_refuses 296 = .ok (.invokevirtual 15, 3) := by decide +kernel
theorem dL_refuses_299 : decode cL_refuses 299 = .ok (.ldc 34, 2) := by decide +kernel
theorem dL_refuses_301 : decode cL_refuses 301 = .ok (.if_icmp .ne 97, 3) := by decide +kernel
theorem dL_refuses_304 : decode cL_refuses 304 = .ok (.aload_n 0, 1) := by decide +kernel
theorem dL_refuses_305 : decode cL_refuses 305 = .ok (.iconst 0, 1) := by decide +kernel
theorem dL_refuses_306 : decode cL_refuses 306 = .ok (.iconst 0, 1) := by decide +kernel
theorem dL_refuses_307 : decode cL_refuses 307 = .ok (.bipush 21, 2) := by decide +kernel
theorem dL_refuses_309 : decode cL_refuses 309 = .ok (.invokevirtual 19, 3) := by decide +kernel
theorem dL_refuses_312 : decode cL_refuses 312 = .ok (.ldc 34, 2) := by decide +kernel
theorem dL_refuses_314 : decode cL_refuses 314 = .ok (.if_icmp .ne 84, 3) := by decide +kernel
theorem dL_refuses_317 : decode cL_refuses 317 = .ok (.aload_n 0, 1) := by decide +kernel
theorem dL_refuses_318 : decode cL_refuses 318 = .ok (.iload_n 1, 1) := by decide +kernel
theorem dL_refuses_319 : decode cL_refuses 319 = .ok (.iconst 0, 1) := by decide +kernel
theorem dL_refuses_320 : decode cL_refuses 320 = .ok (.iconst 0, 1) := by decide +kernel
theorem dL_refuses_321 : decode cL_refuses 321 = .ok (.invokevirtual 22, 3) := by decide +kernel
theorem dL_refuses_324 : decode cL_refuses 324 = .ok (.ldc 72, 2) := by decide +kernel
theorem dL_refuses_326 : decode cL_refuses 326 = .ok (.if_icmp .ne 72, 3) := by decide +kernel
theorem dL_refuses_329 : decode cL_refuses 329 = .ok (.aload_n 0, 1) := by decide +kernel
theorem dL_refuses_330 : decode cL_refuses 330 = .ok (.iconst 0, 1) := by decide +kernel
theorem dL_refuses_331 : decode cL_refuses 331 = .ok (.bipush 100, 2) := by decide +kernel
theorem dL_refuses_333 : decode cL_refuses 333 = .ok (.iconst 0, 1) := by decide +kernel
theorem dL_refuses_334 : decode cL_refuses 334 = .ok (.invokevirtual 22, 3) := by decide +kernel
theorem dL_refuses_337 : decode cL_refuses 337 = .ok (.ldc 34, 2) := by decide +kernel
theorem dL_refuses_339 : decode cL_refuses 339 = .ok (.if_icmp .ne 59, 3) := by decide +kernel
theorem dL_refuses_342 : decode cL_refuses 342 = .ok (.aload_n 0, 1) := by decide +kernel
theorem dL_refuses_343 : decode cL_refuses 343 = .ok (.iconst 0, 1) := by decide +kernel
theorem dL_refuses_344 : decode cL_refuses 344 = .ok (.bipush (-101), 2) := by decide +kernel
theorem dL_refuses_346 : decode cL_refuses 346 = .ok (.iconst 0, 1) := by decide +kernel
theorem dL_refuses_347 : decode cL_refuses 347 = .ok (.invokevirtual 92, 3) := by decide +kernel
theorem dL_refuses_350 : decode cL_refuses 350 = .ok (.ldc 72, 2) := by decide +kernel
theorem dL_refuses_352 : decode cL_refuses 352 = .ok (.if_icmp .ne 46, 3) := by decide +kernel
theorem dL_refuses_355 : decode cL_refuses 355 = .ok (.aload_n 0, 1) := by decide +kernel
theorem dL_refuses_356 : decode cL_refuses 356 = .ok (.iconst (-1), 1) := by decide +kernel
theorem dL_refuses_357 : decode cL_refuses 357 = .ok (.invokevirtual 49, 3) := by decide +kernel
theorem dL_refuses_360 : decode cL_refuses 360 = .ok (.ifCond .ne 38, 3) := by decide +kernel
theorem dL_refuses_363 : decode cL_refuses 363 = .ok (.aload_n 0, 1) := by decide +kernel
theorem dL_refuses_364 : decode cL_refuses 364 = .ok (.iload_n 1, 1) := by decide +kernel
theorem dL_refuses_365 : decode cL_refuses 365 = .ok (.iconst 0, 1) := by decide +kernel
theorem dL_refuses_366 : decode cL_refuses 366 = .ok (.invokevirtual 38, 3) := by decide +kernel
theorem dL_refuses_369 : decode cL_refuses 369 = .ok (.ldc 72, 2) := by decide +kernel
theorem dL_refuses_371 : decode cL_refuses 371 = .ok (.if_icmp .ne 27, 3) := by decide +kernel
theorem dL_refuses_374 : decode cL_refuses 374 = .ok (.aload_n 0, 1) := by decide +kernel
theorem dL_refuses_375 : decode cL_refuses 375 = .ok (.iconst (-1), 1) := by decide +kernel
theorem dL_refuses_376 : decode cL_refuses 376 = .ok (.invokevirtual 35, 3) := by decide +kernel
theorem dL_refuses_379 : decode cL_refuses 379 = .ok (.ldc 72, 2) := by decide +kernel
theorem dL_refuses_381 : decode cL_refuses 381 = .ok (.if_icmp .ne 17, 3) := by decide +kernel
theorem dL_refuses_384 : decode cL_refuses 384 = .ok (.aload_n 0, 1) := by decide +kernel
theorem dL_refuses_385 : decode cL_refuses 385 = .ok (.iload_n 1, 1) := by decide +kernel
theorem dL_refuses_386 : decode cL_refuses 386 = .ok (.invokevirtual 25, 3) := by decide +kernel
theorem dL_refuses_389 : decode cL_refuses 389 = .ok (.ldc 72, 2) := by decide +kernel
theorem dL_refuses_391 : decode cL_refuses 391 = .ok (.if_icmp .ne 7, 3) := by decide +kernel
theorem dL_refuses_394 : decode cL_refuses 394 = .ok (.iconst 1, 1) := by decide +kernel
theorem dL_refuses_395 : decode cL_refuses 395 = .ok (.goto 4, 3) := by decide +kernel
theorem dL_refuses_398 : decode cL_refuses 398 = .ok (.iconst 0, 1) := by decide +kernel
theorem dL_refuses_399 : decode cL_refuses 399 = .ok (.istore_n 3, 1) := by decide +kernel
theorem dL_refuses_400 : decode cL_refuses 400 = .ok (.iconst 0, 1) := by decide +kernel
theorem dL_refuses_401 : decode cL_refuses 401 = .ok (.istore 4, 2) := by decide +kernel
theorem dL_refuses_403 : decode cL_refuses 403 = .ok (.iconst 0, 1) := by decide +kernel
theorem dL_refuses_404 : decode cL_refuses 404 = .ok (.istore 5, 2) := by decide +kernel
theorem dL_refuses_406 : decode cL_refuses 406 = .ok (.iload 5, 2) := by decide +kernel
theorem dL_refuses_408 : decode cL_refuses 408 = .ok (.iload_n 1, 1) := by decide +kernel
theorem dL_refuses_409 : decode cL_refuses 409 = .ok (.if_icmp .ge 53, 3) := by decide +kernel
theorem dL_refuses_412 : decode cL_refuses 412 = .ok (.bipush 31, 2) := by decide +kernel
theorem dL_refuses_414 : decode cL_refuses 414 = .ok (.iload 4, 2) := by decide +kernel
theorem dL_refuses_416 : decode cL_refuses 416 = .ok (.imul, 1) := by decide +kernel
theorem dL_refuses_417 : decode cL_refuses 417 = .ok (.aload_n 0, 1) := by decide +kernel
theorem dL_refuses_418 : decode cL_refuses 418 = .ok (.iload 5, 2) := by decide +kernel
theorem dL_refuses_420 : decode cL_refuses 420 = .ok (.invokevirtual 49, 3) := by decide +kernel
theorem dL_refuses_423 : decode cL_refuses 423 = .ok (.iadd, 1) := by decide +kernel
end
section
theorem dL_refuses_424 : decode cL_refuses 424 = .ok (.bipush 7, 2) := by decide +kernel
theorem dL_refuses_426 : decode cL_refuses 426 = .ok (.aload_n 0, 1) := by decide +kernel
theorem dL_refuses_427 : decode cL_refuses 427 = .ok (.iload 5, 2) := by decide +kernel
theorem dL_refuses_429 : decode cL_refuses 429 = .ok (.iconst 0, 1) := by decide +kernel
theorem dL_refuses_430 : decode cL_refuses 430 = .ok (.invokevirtual 9, 3) := by decide +kernel
theorem dL_refuses_433 : decode cL_refuses 433 = .ok (.imul, 1) := by decide +kernel
theorem dL_refuses_434 : decode cL_refuses 434 = .ok (.iadd, 1) := by decide +kernel
theorem dL_refuses_435 : decode cL_refuses 435 = .ok (.aload_n 0, 1) := by decide +kernel
theorem dL_refuses_436 : decode cL_refuses 436 = .ok (.iload 5, 2) := by decide +kernel
theorem dL_refuses_438 : decode cL_refuses 438 = .ok (.iconst 1, 1) := by decide +kernel
theorem dL_refuses_439 : decode cL_refuses 439 = .ok (.invokevirtual 9, 3) := by decide +kernel
theorem dL_refuses_442 : decode cL_refuses 442 = .ok (.iadd, 1) := by decide +kernel
theorem dL_refuses_443 : decode cL_refuses 443 = .ok (.bipush 100, 2) := by decide +kernel
theorem dL_refuses_445 : decode cL_refuses 445 = .ok (.aload_n 0, 1) := by decide +kernel
theorem dL_refuses_446 : decode cL_refuses 446 = .ok (.iload 5, 2) := by decide +kernel
theorem dL_refuses_448 : decode cL_refuses 448 = .ok (.iconst 4, 1) := by decide +kernel
theorem dL_refuses_449 : decode cL_refuses 449 = .ok (.invokevirtual 9, 3) := by decide +kernel
theorem dL_refuses_452 : decode cL_refuses 452 = .ok (.imul, 1) := by decide +kernel
theorem dL_refuses_453 : decode cL_refuses 453 = .ok (.iadd, 1) := by decide +kernel
theorem dL_refuses_454 : decode cL_refuses 454 = .ok (.istore 4, 2) := by decide +kernel
theorem dL_refuses_456 : decode cL_refuses 456 = .ok (.iinc 5 1, 3) := by decide +kernel
theorem dL_refuses_459 : decode cL_refuses 459 = .ok (.goto (-53), 3) := by decide +kernel
theorem dL_refuses_462 : decode cL_refuses 462 = .ok (.iload_n 3, 1) := by decide +kernel
theorem dL_refuses_463 : decode cL_refuses 463 = .ok (.ifCond .eq 13, 3) := by decide +kernel
theorem dL_refuses_466 : decode cL_refuses 466 = .ok (.iload 4, 2) := by decide +kernel
theorem dL_refuses_468 : decode cL_refuses 468 = .ok (.iload_n 2, 1) := by decide +kernel
theorem dL_refuses_469 : decode cL_refuses 469 = .ok (.if_icmp .ne 7, 3) := by decide +kernel
theorem dL_refuses_472 : decode cL_refuses 472 = .ok (.iconst 1, 1) := by decide +kernel
theorem dL_refuses_473 : decode cL_refuses 473 = .ok (.goto 4, 3) := by decide +kernel
theorem dL_refuses_476 : decode cL_refuses 476 = .ok (.iconst 0, 1) := by decide +kernel
theorem dL_refuses_477 : decode cL_refuses 477 = .ok (.ireturn, 1) := by decide +kernel
set_option maxRecDepth 20000 in
theorem ggL_law_X6_init : GoodIn wsL_law wsX6_init := goodIn_r _ [8, 9, 10, 11, 12, 13, 14, 15, 16, 17, 18, 19, 20, 21, 22, 23, 24, 25, 26, 27, 28, 29, 30, 31, 32, 33, 34, 35, 36, 37, 38, 39, 40, 41, 42, 43, 44, 45, 46, 47, 48, 49, 50, 51, 52, 53, 54, 55, 56, 57, 58, 59, 60, 61, 62, 63, 64, 65, 66, 67, 68, 69, 70, 71, 72, 73, 74, 75, 76, 77, 78, 79, 80, 81, 82, 83, 84, 85, 86, 87, 88, 89, 90, 91, 92, 93, 94, 581, 582, 583, 584, 585, 586, 587, 588, 572, 573, 574, 575, 576, 577, 578, 579, 580, 589, 590, 591, 592, 593, 594, 595, 596, 597, 598, 599, 600, 601] (by decide +kernel) (by decide +kernel)
set_option maxRecDepth 20000 in
theorem gL_law_X6_init : GoodIn wsL_law (wsX6_init) := ggL_law_X6_init
set_option maxRecDepth 20000 in
theorem ggL_law_L_cell : GoodIn wsL_law wsL_cell := goodIn_r _ [98, 99] (by decide +kernel) (by decide +kernel)
set_option maxRecDepth 20000 in
theorem gL_law_L_cell : GoodIn wsL_law (va_wsS RL 96 yL_cell wsL_cell) := goodIn_app (goodIn_of _ (by decide +kernel)) ggL_law_L_cell
set_option maxRecDepth 20000 in
theorem ggL_law_L_low : GoodIn wsL_law wsL_low := goodIn_r _ [102, 103] (by decide +kernel) (by decide +kernel)
set_option maxRecDepth 20000 in
theorem gL_law_L_low : GoodIn wsL_law (va_wsS RL 100 yL_low wsL_low) := goodIn_app (goodIn_of _ (by decide +kernel)) ggL_law_L_low
set_option maxRecDepth 20000 in
theorem ggL_law_L_refuses : GoodIn wsL_law wsL_refuses := goodIn_r _ [106, 107, 4, 5, 108, 109, 110, 2, 111, 38, 112, 113, 114, 115, 32, 15, 23, 116, 117, 118, 119, 120, 121, 122, 123, 124, 125, 31, 126, 90, 91, 127, 128, 129, 130, 14, 131, 132, 133, 134, 135, 36, 136, 60, 137, 138, 139, 140, 141, 142, 143, 144, 145, 146, 147, 148, 48, 149, 150, 151, 152, 22, 153, 77, 154, 155, 156, 157, 158, 159, 160, 161, 162, 46, 163, 164, 165, 166, 44, 167, 168, 169, 170, 171, 172, 173, 174, 47, 175, 176, 177, 178, 92, 179, 180, 181, 182, 183, 184, 185, 186, 187, 188, 189, 190, 191, 192, 193, 194, 195, 196, 197, 198, 18, 199, 67, 200, 201, 202, 203, 204, 205, 206, 207, 208, 66, 209, 210, 211, 212, 69, 213, 214, 215, 216, 70, 217, 218, 219, 220, 221, 37, 19, 222, 223, 224, 225, 226, 227, 228, 229, 230, 231, 43, 232, 233, 234, 235, 236, 237, 238, 239, 240, 28, 241, 242, 243, 244, 245, 246, 247, 248, 249, 250, 251, 252, 253, 254, 255, 256, 257, 258, 27, 259, 83, 260, 261, 262, 263, 264, 265, 266, 267, 268, 269, 68, 270, 271, 272, 273, 274, 275, 276, 277, 278, 279, 280, 281, 282, 283, 284, 285, 286, 287, 288, 289, 290, 291, 292, 293, 294, 295, 296, 297, 298, 299, 300, 301, 302, 303, 50, 304, 305, 306, 307, 45, 308, 309, 310, 311, 312, 313, 314, 315, 316, 317, 318, 319, 320, 321, 322, 323, 324, 325, 326, 327, 328, 329, 330, 331, 332, 333, 334, 335, 336, 337, 338, 339, 340, 341, 342, 343, 344, 345, 346, 347, 348, 349, 350, 351, 84, 352, 353, 354, 355, 356, 357, 358, 359, 360, 361, 362, 363, 364, 365, 366, 367, 368, 369, 370, 371, 372, 373, 374, 375, 376, 377, 378, 379, 380, 381, 382, 383, 384, 385, 386, 387, 388, 389, 390, 391, 392, 393, 394, 395, 396, 397, 398, 399, 400, 401, 402, 403, 404, 405, 406, 407, 408, 409, 410, 411, 412, 413, 56, 57, 58, 414, 415, 416, 417, 418, 419, 420, 421, 422, 423, 424, 425, 426, 427, 428, 429, 430, 431, 432, 433, 434, 435, 436, 437, 438, 439, 440, 441, 442, 443, 444, 445, 446, 447, 448, 449, 450, 451, 452, 453, 454, 455, 456, 457, 458, 459, 460, 461, 462, 463, 464, 465, 466, 467, 468, 469, 470, 471, 472, 473, 474, 475, 476, 477, 478, 479, 480, 481, 482, 483, 484, 485, 486, 487, 488, 489, 490, 491, 492, 493, 494, 495, 496, 497, 498, 499, 500, 501, 502, 503, 504, 505, 506, 33, 507, 508, 509, 510, 511, 512, 513, 514, 515, 516, 517, 518, 519, 520, 521, 522, 523, 524, 525, 526, 527, 528, 529, 530, 531, 532, 572, 573, 574, 575, 576, 577, 578, 579, 580, 597, 598, 599, 600, 581, 582, 583, 584, 585, 586, 587, 588, 601, 594, 589, 590, 591, 592, 593, 595, 596] (by decide +kernel) (by decide +kernel)
set_option maxRecDepth 20000 in
theorem gL_law_L_refuses : GoodIn wsL_law (va_wsS RL 103 yL_refuses wsL_refuses) := goodIn_app (goodIn_of _ (by decide +kernel)) ggL_law_L_refuses
set_option maxRecDepth 20000 in
theorem ggL_law_X6_reset : GoodIn wsL_law wsX6_reset := goodIn_r _ [240, 221, 38, 15, 19, 23, 28, 37, 120, 121, 2, 122, 241, 242, 243, 14, 244, 43, 132, 245, 134, 135, 36, 136, 60, 246, 247, 248, 18, 249, 66, 250, 251, 252, 253, 22, 254, 77, 255, 256, 257, 258, 27, 259, 83, 260, 261, 572, 573, 574, 575, 576, 577, 578, 579, 580, 581, 582, 583, 584, 585, 586, 587, 588, 601, 589, 590, 591, 592, 593, 594, 595, 596] (by decide +kernel) (by decide +kernel)
set_option maxRecDepth 20000 in
theorem gL_law_X6_reset : GoodIn wsL_law (wsV RL 69 RX6 yX6_reset wsX6_reset) := goodIn_app (goodIn_of _ (by decide +kernel)) ggL_law_X6_reset
set_option maxRecDepth 20000 in
theorem ggL_law_X6_differing : GoodIn wsL_law wsX6_differing := goodIn_r _ [536, 38, 24, 537, 538, 539, 2, 540, 23, 28, 541, 542, 543, 22, 544, 77, 545, 138, 139, 36, 140, 60, 141, 142, 143, 144, 401, 402, 403, 27, 404, 83, 352, 405, 406, 407, 408, 84, 343, 344, 345, 346, 347, 168, 169, 170, 503, 504, 505, 506, 32, 15, 33, 123, 124, 125, 31, 126, 90, 91, 127, 128, 129, 130, 14, 131, 132, 133, 134, 135, 136, 137, 145, 146, 147, 148, 48, 149, 150, 151, 152, 153, 154, 155, 156, 157, 158, 159, 160, 161, 162, 46, 163, 164, 165, 166, 44, 167, 171, 172, 173, 174, 47, 175, 176, 177, 178, 92, 179, 180, 181, 182, 183, 184, 185, 186, 187, 507, 508, 509, 510, 511, 389, 390, 391, 512, 487, 488, 489, 572, 573, 574, 575, 576, 577, 578, 579, 580, 594, 601, 595, 596, 597, 598, 599, 600, 581, 582, 583, 584, 585, 586, 587, 588] (by decide +kernel) (by decide +kernel)
set_option maxRecDepth 20000 in
theorem gL_law_X6_differing : GoodIn wsL_law (wsV RL 107 RX6 yX6_differing wsX6_differing) := goodIn_app (goodIn_of _ (by decide +kernel)) ggL_law_X6_differing
set_option maxRecDepth 20000 in
theorem ggL_law_X6_siteInfo : GoodIn wsL_law wsX6_siteInfo := goodIn_r _ [220, 221, 37, 23, 15, 32, 19, 116, 117, 118, 2, 119, 38, 120, 121, 122, 222, 142, 143, 36, 144, 60, 223, 224, 225, 22, 226, 227, 151, 152, 153, 77, 154, 228, 229, 230, 14, 231, 43, 149, 123, 124, 125, 31, 126, 90, 91, 127, 128, 129, 130, 131, 132, 133, 134, 135, 136, 137, 138, 139, 140, 141, 145, 146, 147, 148, 48, 150, 155, 156, 157, 158, 159, 160, 161, 162, 46, 163, 164, 165, 166, 44, 167, 168, 169, 170, 171, 172, 173, 174, 47, 175, 176, 177, 178, 92, 179, 180, 181, 182, 183, 184, 185, 186, 187, 232, 233, 234, 235, 236, 206, 207, 18, 208, 66, 200, 572, 573, 574, 575, 576, 577, 578, 579, 580, 601, 594, 581, 582, 583, 584, 585, 586, 587, 588, 597, 598, 599, 600, 589, 590, 591, 592, 593] (by decide +kernel) (by decide +kernel)
set_option maxRecDepth 20000 in
theorem gL_law_X6_siteInfo : GoodIn wsL_law (wsV RL 9 RX6 yX6_siteInfo wsX6_siteInfo) := goodIn_app (goodIn_of _ (by decide +kernel)) ggL_law_X6_siteInfo
set_option maxRecDepth 20000 in
theorem ggL_law_X6_waiting : GoodIn wsL_law wsX6_waiting := goodIn_r _ [431, 28, 221, 397, 398, 399, 2, 400, 116, 117, 118, 119, 38, 120, 121, 122, 401, 402, 403, 27, 404, 83, 352, 142, 143, 36, 144, 60, 572, 573, 574, 575, 576, 577, 578, 579, 580, 595, 596, 601] (by decide +kernel) (by decide +kernel)
set_option maxRecDepth 20000 in
theorem gL_law_X6_waiting : GoodIn wsL_law (wsV RL 52 RX6 yX6_waiting wsX6_waiting) := goodIn_app (goodIn_of _ (by decide +kernel)) ggL_law_X6_waiting
set_option maxRecDepth 20000 in
theorem ggL_law_X6_penDown : GoodIn wsL_law wsX6_penDown := goodIn_r _ [265, 221, 19, 116, 117, 118, 2, 119, 38, 120, 121, 122, 266, 267, 268, 18, 269, 67, 68, 270, 271, 272, 273, 66, 274, 168, 169, 36, 170, 60, 275, 276, 277, 278, 69, 70, 200, 142, 143, 144, 236, 206, 207, 208, 572, 573, 574, 575, 576, 577, 578, 579, 580, 589, 590, 591, 592, 593, 601] (by decide +kernel) (by decide +kernel)
set_option maxRecDepth 20000 in
theorem gL_law_X6_penDown : GoodIn wsL_law (wsV RL 73 RX6 yX6_penDown wsX6_penDown) := goodIn_app (goodIn_of _ (by decide +kernel)) ggL_law_X6_penDown
set_option maxRecDepth 20000 in
theorem ggL_law_X6_penMove : GoodIn wsL_law wsX6_penMove := goodIn_r _ [282, 221, 19, 283, 284, 116, 117, 118, 2, 119, 38, 120, 121, 122, 236, 206, 207, 18, 208, 66, 200, 142, 143, 36, 144, 60, 285, 210, 211, 212, 69, 286, 214, 215, 216, 70, 275, 276, 277, 278, 274, 168, 169, 170, 572, 573, 574, 575, 576, 577, 578, 579, 580, 589, 590, 591, 592, 593, 601] (by decide +kernel) (by decide +kernel)
set_option maxRecDepth 20000 in
theorem gL_law_X6_penMove : GoodIn wsL_law (wsV RL 77 RX6 yX6_penMove wsX6_penMove) := goodIn_app (goodIn_of _ (by decide +kernel)) ggL_law_X6_penMove
set_option maxRecDepth 20000 in
theorem ggL_law_X6_penUp : GoodIn wsL_law wsX6_penUp := goodIn_r _ [290, 221, 19, 283, 284, 15, 116, 117, 118, 2, 119, 38, 120, 121, 122, 236, 206, 207, 18, 208, 66, 200, 142, 143, 36, 144, 60, 291, 292, 293, 294, 228, 229, 230, 14, 231, 43, 149, 295, 296, 297, 298, 37, 222, 299, 168, 169, 170, 300, 301, 302, 303, 50, 47, 304, 305, 306, 307, 45, 44, 308, 309, 310, 311, 312, 313, 314, 132, 48, 315, 316, 317, 318, 319, 320, 321, 322, 192, 193, 323, 324, 325, 326, 327, 328, 197, 198, 199, 67, 329, 330, 331, 332, 68, 333, 267, 268, 269, 270, 271, 272, 273, 274, 334, 210, 211, 212, 69, 335, 214, 215, 216, 70, 336, 276, 277, 278, 337, 338, 339, 340, 341, 342, 23, 28, 343, 344, 345, 22, 346, 77, 347, 348, 349, 350, 27, 351, 83, 84, 352, 353, 354, 194, 195, 572, 573, 574, 575, 576, 577, 578, 579, 580, 589, 590, 591, 592, 593, 601, 581, 582, 583, 584, 585, 586, 587, 588, 594, 595, 596] (by decide +kernel) (by decide +kernel)
set_option maxRecDepth 20000 in
theorem gL_law_X6_penUp : GoodIn wsL_law (wsV RL 80 RX6 yX6_penUp wsX6_penUp) := goodIn_app (goodIn_of _ (by decide +kernel)) ggL_law_X6_penUp
set_option maxRecDepth 20000 in
theorem ggL_law_L_turns : GoodIn wsL_law wsL_turns := goodIn_r _ [548, 4, 3, 112, 113, 114, 2, 115, 32, 15, 23, 116, 117, 118, 119, 38, 120, 121, 122, 123, 124, 125, 31, 126, 90, 91, 127, 128, 129, 130, 14, 131, 132, 133, 134, 135, 36, 136, 60, 137, 138, 139, 140, 141, 142, 143, 144, 145, 146, 147, 148, 48, 149, 150, 151, 152, 22, 153, 77, 154, 155, 156, 157, 158, 159, 160, 161, 162, 46, 163, 164, 165, 166, 44, 167, 168, 169, 170, 171, 172, 173, 174, 47, 175, 176, 177, 178, 92, 179, 180, 181, 182, 183, 184, 185, 186, 187, 188, 189, 190, 191, 192, 193, 194, 195, 196, 197, 198, 18, 199, 67, 200, 201, 202, 203, 204, 205, 206, 207, 208, 66, 209, 210, 211, 212, 69, 213, 214, 215, 216, 70, 217, 218, 219, 220, 221, 37, 19, 222, 223, 224, 225, 226, 227, 228, 229, 230, 231, 43, 232, 233, 234, 235, 236, 355, 356, 357, 358, 359, 360, 361, 362, 363, 308, 309, 364, 365, 366, 367, 368, 369, 283, 284, 291, 292, 293, 294, 295, 296, 297, 298, 299, 370, 371, 372, 373, 304, 305, 306, 307, 45, 310, 311, 312, 313, 314, 315, 316, 317, 318, 319, 320, 321, 322, 339, 340, 341, 342, 28, 343, 344, 345, 346, 347, 348, 349, 350, 27, 351, 83, 84, 352, 353, 354, 465, 466, 467, 468, 396, 382, 419, 420, 421, 422, 457, 458, 459, 460, 50, 461, 462, 463, 464, 334, 335, 383, 423, 469, 374, 375, 376, 377, 378, 379, 380, 381, 572, 573, 574, 575, 576, 577, 578, 579, 580, 597, 598, 599, 600, 581, 582, 583, 584, 585, 586, 587, 588, 601, 594, 589, 590, 591, 592, 593, 595, 596] (by decide +kernel) (by decide +kernel)
set_option maxRecDepth 20000 in
theorem gL_law_L_turns : GoodIn wsL_law (va_wsS RL 110 yL_turns wsL_turns) := goodIn_app (goodIn_of _ (by decide +kernel)) ggL_law_L_turns
set_option maxRecDepth 20000 in
theorem ggL_law_X6_lift : GoodIn wsL_law wsX6_lift := goodIn_r _ [387, 221, 32, 15, 23, 283, 284, 116, 117, 118, 2, 119, 38, 120, 121, 122, 123, 124, 125, 31, 126, 90, 91, 127, 128, 129, 130, 14, 131, 132, 133, 134, 135, 36, 136, 60, 137, 138, 139, 140, 141, 142, 143, 144, 145, 146, 147, 148, 48, 149, 150, 151, 152, 22, 153, 77, 154, 155, 156, 157, 158, 159, 160, 161, 162, 46, 163, 164, 165, 166, 44, 167, 168, 169, 170, 171, 172, 173, 174, 47, 175, 176, 177, 178, 92, 179, 180, 181, 182, 183, 184, 185, 186, 187, 232, 233, 234, 235, 291, 292, 293, 294, 228, 229, 230, 231, 43, 295, 296, 297, 298, 37, 222, 299, 388, 389, 390, 391, 370, 371, 372, 373, 304, 305, 306, 307, 45, 308, 309, 310, 311, 312, 313, 314, 315, 316, 317, 318, 319, 320, 321, 322, 192, 193, 339, 340, 341, 342, 28, 343, 344, 345, 346, 347, 348, 349, 350, 27, 351, 83, 84, 352, 353, 354, 194, 195, 572, 573, 574, 575, 576, 577, 578, 579, 580, 597, 598, 599, 600, 581, 582, 583, 584, 585, 586, 587, 588, 601, 594, 595, 596] (by decide +kernel) (by decide +kernel)
set_option maxRecDepth 20000 in
theorem gL_law_X6_lift : GoodIn wsL_law (wsV RL 83 RX6 yX6_lift wsX6_lift) := goodIn_app (goodIn_of _ (by decide +kernel)) ggL_law_X6_lift
set_option maxRecDepth 20000 in
theorem ggL_law_X6_redo : GoodIn wsL_law wsX6_redo := goodIn_r _ [377, 221, 116, 117, 118, 2, 119, 38, 120, 121, 122, 378, 379, 380, 381, 32, 15, 23, 123, 124, 125, 31, 126, 90, 91, 127, 128, 129, 130, 14, 131, 132, 133, 134, 135, 36, 136, 60, 137, 138, 139, 140, 141, 142, 143, 144, 145, 146, 147, 148, 48, 149, 150, 151, 152, 22, 153, 77, 154, 155, 156, 157, 158, 159, 160, 161, 162, 46, 163, 164, 165, 166, 44, 167, 168, 169, 170, 171, 172, 173, 174, 47, 175, 176, 177, 178, 92, 179, 180, 181, 182, 183, 184, 185, 186, 187, 228, 229, 230, 231, 43, 363, 308, 309, 382, 383, 365, 366, 367, 368, 369, 283, 284, 291, 292, 293, 294, 295, 296, 297, 298, 37, 222, 299, 370, 371, 372, 373, 304, 305, 306, 307, 45, 310, 311, 312, 313, 314, 315, 316, 317, 318, 319, 320, 321, 322, 192, 193, 339, 340, 341, 342, 28, 343, 344, 345, 346, 347, 348, 349, 350, 27, 351, 83, 84, 352, 353, 354, 194, 195, 572, 573, 574, 575, 576, 577, 578, 579, 580, 597, 598, 599, 600, 581, 582, 583, 584, 585, 586, 587, 588, 601, 594, 595, 596] (by decide +kernel) (by decide +kernel)
set_option maxRecDepth 20000 in
theorem gL_law_X6_redo : GoodIn wsL_law (wsV RL 66 RX6 yX6_redo wsX6_redo) := goodIn_app (goodIn_of _ (by decide +kernel)) ggL_law_X6_redo
set_option maxRecDepth 20000 in
theorem ggL_law_X6_lose : GoodIn wsL_law wsX6_lose := goodIn_r _ [427, 221, 28, 396, 397, 398, 399, 2, 400, 116, 117, 118, 119, 38, 120, 121, 122, 401, 402, 403, 27, 404, 83, 352, 142, 143, 36, 144, 60, 409, 410, 411, 412, 84, 413, 56, 57, 58, 353, 168, 169, 170, 572, 573, 574, 575, 576, 577, 578, 579, 580, 595, 596, 601] (by decide +kernel) (by decide +kernel)
set_option maxRecDepth 20000 in
theorem gL_law_X6_lose : GoodIn wsL_law (wsV RL 89 RX6 yX6_lose wsX6_lose) := goodIn_app (goodIn_of _ (by decide +kernel)) ggL_law_X6_lose
set_option maxRecDepth 20000 in
theorem ggL_law_X6_deliver : GoodIn wsL_law wsX6_deliver := goodIn_r _ [395, 221, 28, 396, 397, 398, 399, 2, 400, 116, 117, 118, 119, 38, 120, 121, 122, 401, 402, 403, 27, 404, 83, 352, 142, 143, 36, 144, 60, 405, 406, 407, 408, 84, 409, 410, 411, 412, 413, 56, 57, 58, 353, 168, 169, 170, 414, 415, 416, 417, 23, 37, 15, 418, 343, 344, 345, 22, 346, 77, 347, 222, 419, 420, 421, 14, 422, 45, 149, 299, 423, 192, 193, 354, 194, 195, 572, 573, 574, 575, 576, 577, 578, 579, 580, 595, 596, 601, 594, 581, 582, 583, 584, 585, 586, 587, 588] (by decide +kernel) (by decide +kernel)
set_option maxRecDepth 20000 in
theorem gL_law_X6_deliver : GoodIn wsL_law (wsV RL 86 RX6 yX6_deliver wsX6_deliver) := goodIn_app (goodIn_of _ (by decide +kernel)) ggL_law_X6_deliver
set_option maxRecDepth 20000 in
theorem ggL_law_X6_knows : GoodIn wsL_law wsX6_knows := goodIn_r _ [473, 221, 15, 396, 23, 116, 117, 118, 2, 119, 38, 120, 121, 122, 228, 229, 230, 14, 231, 43, 149, 142, 143, 36, 144, 60, 363, 308, 309, 436, 151, 152, 22, 153, 77, 154, 572, 573, 574, 575, 576, 577, 578, 579, 580, 581, 582, 583, 584, 585, 586, 587, 588, 601, 594] (by decide +kernel) (by decide +kernel)
set_option maxRecDepth 20000 in
theorem gL_law_X6_knows : GoodIn wsL_law (wsV RL 19 RX6 yX6_knows wsX6_knows) := goodIn_app (goodIn_of _ (by decide +kernel)) ggL_law_X6_knows
set_option maxRecDepth 20000 in
theorem ggL_law_L_repairs : GoodIn wsL_law wsL_repairs := goodIn_r _ [551, 5, 217, 218, 219, 2, 220, 221, 37, 23, 15, 32, 19, 116, 117, 118, 119, 38, 120, 121, 122, 222, 142, 143, 36, 144, 60, 223, 224, 225, 22, 226, 227, 151, 152, 153, 77, 154, 228, 229, 230, 14, 231, 43, 149, 123, 124, 125, 31, 126, 90, 91, 127, 128, 129, 130, 131, 132, 133, 134, 135, 136, 137, 138, 139, 140, 141, 145, 146, 147, 148, 48, 150, 155, 156, 157, 158, 159, 160, 161, 162, 46, 163, 164, 165, 166, 44, 167, 168, 169, 170, 171, 172, 173, 174, 47, 175, 176, 177, 178, 92, 179, 180, 181, 182, 183, 184, 185, 186, 187, 232, 233, 234, 235, 236, 206, 207, 18, 208, 66, 200, 513, 514, 515, 516, 396, 517, 518, 519, 520, 441, 442, 443, 444, 445, 446, 447, 448, 449, 450, 451, 452, 192, 193, 194, 195, 308, 309, 436, 437, 438, 439, 440, 397, 398, 399, 400, 414, 415, 416, 417, 418, 56, 57, 58, 343, 344, 345, 346, 347, 419, 420, 421, 422, 45, 299, 108, 109, 110, 111, 432, 433, 434, 435, 363, 470, 471, 472, 473, 572, 573, 574, 575, 576, 577, 578, 579, 580, 601, 594, 581, 582, 583, 584, 585, 586, 587, 588, 597, 598, 599, 600, 589, 590, 591, 592, 593] (by decide +kernel) (by decide +kernel)
set_option maxRecDepth 20000 in
theorem gL_law_L_repairs : GoodIn wsL_law (va_wsS RL 114 yL_repairs wsL_repairs) := goodIn_app (goodIn_of _ (by decide +kernel)) ggL_law_L_repairs
set_option maxRecDepth 20000 in
theorem ggL_law_L_transfers : GoodIn wsL_law wsL_transfers := goodIn_r _ [554, 108, 109, 110, 2, 111, 38, 217, 218, 219, 220, 221, 37, 23, 15, 32, 19, 116, 117, 118, 119, 120, 121, 122, 222, 142, 143, 36, 144, 60, 223, 224, 225, 22, 226, 227, 151, 152, 153, 77, 154, 228, 229, 230, 14, 231, 43, 149, 123, 124, 125, 31, 126, 90, 91, 127, 128, 129, 130, 131, 132, 133, 134, 135, 136, 137, 138, 139, 140, 141, 145, 146, 147, 148, 48, 150, 155, 156, 157, 158, 159, 160, 161, 162, 46, 163, 164, 165, 166, 44, 167, 168, 169, 170, 171, 172, 173, 174, 47, 175, 176, 177, 178, 92, 179, 180, 181, 182, 183, 184, 185, 186, 187, 232, 233, 234, 235, 236, 206, 207, 18, 208, 66, 200, 470, 471, 472, 473, 396, 363, 308, 309, 436, 465, 466, 467, 468, 382, 419, 420, 421, 422, 45, 457, 458, 459, 460, 50, 461, 462, 463, 464, 334, 210, 211, 212, 69, 335, 214, 215, 216, 70, 364, 383, 354, 194, 195, 423, 192, 193, 469, 453, 454, 455, 456, 418, 56, 57, 58, 397, 398, 399, 400, 414, 415, 416, 417, 343, 344, 345, 346, 347, 299, 572, 573, 574, 575, 576, 577, 578, 579, 580, 601, 594, 581, 582, 583, 584, 585, 586, 587, 588, 597, 598, 599, 600, 589, 590, 591, 592, 593] (by decide +kernel) (by decide +kernel)
set_option maxRecDepth 20000 in
theorem gL_law_L_transfers : GoodIn wsL_law (va_wsS RL 117 yL_transfers wsL_transfers) := goodIn_app (goodIn_of _ (by decide +kernel)) ggL_law_L_transfers
set_option maxRecDepth 20000 in
theorem ggL_law_X6_deliverAll : GoodIn wsL_law wsX6_deliverAll := goodIn_r _ [558, 38, 559, 560, 561, 2, 562, 28, 401, 402, 403, 27, 404, 83, 352, 142, 143, 36, 144, 60, 405, 406, 407, 408, 84, 414, 415, 416, 417, 23, 37, 15, 418, 56, 57, 58, 343, 344, 345, 22, 346, 77, 347, 168, 169, 170, 222, 419, 420, 421, 14, 422, 45, 149, 299, 409, 410, 411, 412, 413, 353, 572, 573, 574, 575, 576, 577, 578, 579, 580, 595, 596, 601, 594, 581, 582, 583, 584, 585, 586, 587, 588] (by decide +kernel) (by decide +kernel)
set_option maxRecDepth 20000 in
theorem gL_law_X6_deliverAll : GoodIn wsL_law (wsV RL 120 RX6 yX6_deliverAll wsX6_deliverAll) := goodIn_app (goodIn_of _ (by decide +kernel)) ggL_law_X6_deliverAll
set_option maxRecDepth 20000 in
theorem ggL_law_L_sound : GoodIn wsL_law wsL_sound := goodIn_r _ [565, 5, 217, 218, 219, 2, 220, 221, 37, 23, 15, 32, 19, 116, 117, 118, 119, 38, 120, 121, 122, 222, 142, 143, 36, 144, 60, 223, 224, 225, 22, 226, 227, 151, 152, 153, 77, 154, 228, 229, 230, 14, 231, 43, 149, 123, 124, 125, 31, 126, 90, 91, 127, 128, 129, 130, 131, 132, 133, 134, 135, 136, 137, 138, 139, 140, 141, 145, 146, 147, 148, 48, 150, 155, 156, 157, 158, 159, 160, 161, 162, 46, 163, 164, 165, 166, 44, 167, 168, 169, 170, 171, 172, 173, 174, 47, 175, 176, 177, 178, 92, 179, 180, 181, 182, 183, 184, 185, 186, 187, 232, 233, 234, 235, 236, 206, 207, 18, 208, 66, 200, 465, 466, 467, 468, 396, 363, 308, 309, 382, 419, 420, 421, 422, 45, 457, 458, 459, 460, 50, 461, 462, 463, 464, 334, 210, 211, 212, 69, 335, 214, 215, 216, 70, 364, 383, 354, 194, 195, 423, 192, 193, 469, 470, 471, 472, 473, 436, 474, 475, 476, 477, 388, 389, 390, 391, 478, 479, 480, 481, 285, 286, 482, 483, 484, 485, 486, 487, 488, 489, 490, 197, 198, 199, 67, 521, 522, 523, 524, 28, 525, 526, 527, 528, 529, 530, 531, 27, 532, 83, 84, 352, 432, 433, 434, 435, 513, 514, 515, 516, 517, 518, 519, 520, 441, 442, 443, 444, 445, 446, 447, 448, 449, 450, 451, 452, 499, 500, 501, 502, 503, 504, 505, 506, 33, 507, 508, 509, 510, 511, 512, 572, 573, 574, 575, 576, 577, 578, 579, 580, 601, 594, 581, 582, 583, 584, 585, 586, 587, 588, 597, 598, 599, 600, 589, 590, 591, 592, 593, 595, 596] (by decide +kernel) (by decide +kernel)
set_option maxRecDepth 20000 in
theorem gL_law_L_sound : GoodIn wsL_law (va_wsS RL 123 yL_sound wsL_sound) := goodIn_app (goodIn_of _ (by decide +kernel)) ggL_law_L_sound
set_option maxRecDepth 20000 in
theorem ggL_law_L_pairs : GoodIn wsL_law wsL_pairs := goodIn_r _ [568, 108, 109, 110, 2, 111, 38, 499, 500, 501, 502, 221, 23, 116, 117, 118, 119, 120, 121, 122, 503, 504, 505, 506, 32, 15, 33, 123, 124, 125, 31, 126, 90, 91, 127, 128, 129, 130, 14, 131, 132, 133, 134, 135, 36, 136, 60, 137, 138, 139, 140, 141, 142, 143, 144, 145, 146, 147, 148, 48, 149, 150, 151, 152, 22, 153, 77, 154, 155, 156, 157, 158, 159, 160, 161, 162, 46, 163, 164, 165, 166, 44, 167, 168, 169, 170, 171, 172, 173, 174, 47, 175, 176, 177, 178, 92, 179, 180, 181, 182, 183, 184, 185, 186, 187, 507, 508, 509, 510, 511, 389, 390, 391, 512, 487, 488, 489, 569, 570, 97, 571, 217, 218, 219, 220, 37, 19, 222, 223, 224, 225, 226, 227, 228, 229, 230, 231, 43, 232, 233, 234, 235, 236, 206, 207, 18, 208, 66, 200, 470, 471, 472, 473, 396, 363, 308, 309, 436, 112, 113, 114, 115, 188, 189, 190, 191, 192, 193, 194, 195, 196, 197, 198, 199, 67, 201, 202, 203, 204, 205, 209, 210, 211, 212, 69, 213, 214, 215, 216, 70, 428, 429, 430, 431, 28, 397, 398, 399, 400, 401, 402, 403, 27, 404, 83, 352, 572, 573, 574, 575, 576, 577, 578, 579, 580, 597, 598, 599, 600, 581, 582, 583, 584, 585, 586, 587, 588, 601, 594, 589, 590, 591, 592, 593, 595, 596] (by decide +kernel) (by decide +kernel)
set_option maxRecDepth 20000 in
theorem gL_law_L_pairs : GoodIn wsL_law (va_wsS RL 126 yL_pairs wsL_pairs) := goodIn_app (goodIn_of _ (by decide +kernel)) ggL_law_L_pairs
set_option maxRecDepth 20000 in
theorem ggL_law_X6_areSame : GoodIn wsL_law wsX6_areSame := goodIn_r _ [502, 221, 23, 116, 117, 118, 2, 119, 38, 120, 121, 122, 503, 504, 505, 506, 32, 15, 33, 123, 124, 125, 31, 126, 90, 91, 127, 128, 129, 130, 14, 131, 132, 133, 134, 135, 36, 136, 60, 137, 138, 139, 140, 141, 142, 143, 144, 145, 146, 147, 148, 48, 149, 150, 151, 152, 22, 153, 77, 154, 155, 156, 157, 158, 159, 160, 161, 162, 46, 163, 164, 165, 166, 44, 167, 168, 169, 170, 171, 172, 173, 174, 47, 175, 176, 177, 178, 92, 179, 180, 181, 182, 183, 184, 185, 186, 187, 507, 508, 509, 510, 511, 389, 390, 391, 512, 487, 488, 489, 572, 573, 574, 575, 576, 577, 578, 579, 580, 597, 598, 599, 600, 581, 582, 583, 584, 585, 586, 587, 588, 601, 594] (by decide +kernel) (by decide +kernel)
set_option maxRecDepth 20000 in
theorem gL_law_X6_areSame : GoodIn wsL_law (wsV RL 38 RX6 yX6_areSame wsX6_areSame) := goodIn_app (goodIn_of _ (by decide +kernel)) ggL_law_X6_areSame
theorem dL_law_0 : decode cL_law 0 = .ok (.new 10, 3) := by decide +kernel
theorem dL_law_3 : decode cL_law 3 = .ok (.dup, 1) := by decide +kernel
theorem dL_law_4 : decode cL_law 4 = .ok (.invokespecial 95, 3) := by decide +kernel
theorem dL_law_7 : decode cL_law 7 = .ok (.astore_n 1, 1) := by decide +kernel
theorem dL_law_8 : decode cL_law 8 = .ok (.iconst 1, 1) := by decide +kernel
theorem dL_law_9 : decode cL_law 9 = .ok (.aload_n 0, 1) := by decide +kernel
theorem dL_law_10 : decode cL_law 10 = .ok (.iconst 0, 1) := by decide +kernel
theorem dL_law_11 : decode cL_law 11 = .ok (.invokestatic 96, 3) := by decide +kernel
theorem dL_law_14 : decode cL_law 14 = .ok (.iconst 5, 1) := by decide +kernel
theorem dL_law_15 : decode cL_law 15 = .ok (.invokestatic 100, 3) := by decide +kernel
theorem dL_law_18 : decode cL_law 18 = .ok (.iadd, 1) := by decide +kernel
theorem dL_law_19 : decode cL_law 19 = .ok (.istore_n 2, 1) := by decide +kernel
theorem dL_law_20 : decode cL_law 20 = .ok (.aload_n 1, 1) := by decide +kernel
theorem dL_law_21 : decode cL_law 21 = .ok (.invokestatic 103, 3) := by decide +kernel
theorem dL_law_24 : decode cL_law 24 = .ok (.ifCond .eq 26, 3) := by decide +kernel
theorem dL_law_27 : decode cL_law 27 = .ok (.aload_n 1, 1) := by decide +kernel
theorem dL_law_28 : decode cL_law 28 = .ok (.iload_n 2, 1) := by decide +kernel
theorem dL_law_29 : decode cL_law 29 = .ok (.invokevirtual 69, 3) := by decide +kernel
theorem dL_law_32 : decode cL_law 32 = .ok (.iconst 2, 1) := by decide +kernel
theorem dL_law_33 : decode cL_law 33 = .ok (.if_icmp .ne 17, 3) := by decide +kernel
theorem dL_law_36 : decode cL_law 36 = .ok (.aload_n 1, 1) := by decide +kernel
theorem dL_law_37 : decode cL_law 37 = .ok (.invokevirtual 107, 3) := by decide +kernel
theorem dL_law_40 : decode cL_law 40 = .ok (.ifCond .ne 10, 3) := by decide +kernel
theorem dL_law_43 : decode cL_law 43 = .ok (.aload_n 1, 1) := by decide +kernel
theorem dL_law_44 : decode cL_law 44 = .ok (.invokestatic 103, 3) := by decide +kernel
theorem dL_law_47 : decode cL_law 47 = .ok (.ifCond .ne 5, 3) := by decide +kernel
theorem dL_law_50 : decode cL_law 50 = .ok (.iconst 0, 1) := by decide +kernel
theorem dL_law_51 : decode cL_law 51 = .ok (.ireturn, 1) := by decide +kernel
theorem dL_law_52 : decode cL_law 52 = .ok (.iconst 0, 1) := by decide +kernel
theorem dL_law_53 : decode cL_law 53 = .ok (.istore_n 3, 1) := by decide +kernel
theorem dL_law_54 : decode cL_law 54 = .ok (.iconst 0, 1) := by decide +kernel
theorem dL_law_55 : decode cL_law 55 = .ok (.istore 4, 2) := by decide +kernel
theorem dL_law_57 : decode cL_law 57 = .ok (.iload 4, 2) := by decide +kernel
theorem dL_law_59 : decode cL_law 59 = .ok (.bipush 26, 2) := by decide +kernel
theorem dL_law_61 : decode cL_law 61 = .ok (.if_icmp .ge 747, 3) := by decide +kernel
theorem dL_law_64 : decode cL_law 64 = .ok (.aload_n 0, 1) := by decide +kernel
theorem dL_law_65 : decode cL_law 65 = .ok (.iconst 1, 1) := by decide +kernel
theorem dL_law_66 : decode cL_law 66 = .ok (.iload 4, 2) := by decide +kernel
theorem dL_law_68 : decode cL_law 68 = .ok (.iadd, 1) := by decide +kernel
theorem dL_law_69 : decode cL_law 69 = .ok (.invokestatic 96, 3) := by decide +kernel
theorem dL_law_72 : decode cL_law 72 = .ok (.istore 5, 2) := by decide +kernel
theorem dL_law_74 : decode cL_law 74 = .ok (.iload 5, 2) := by decide +kernel
theorem dL_law_76 : decode cL_law 76 = .ok (.iconst 4, 1) := by decide +kernel
theorem dL_law_77 : decode cL_law 77 = .ok (.ishr, 1) := by decide +kernel
theorem dL_law_78 : decode cL_law 78 = .ok (.iload_n 2, 1) := by decide +kernel
theorem dL_law_79 : decode cL_law 79 = .ok (.invokestatic 100, 3) := by decide +kernel
theorem dL_law_82 : decode cL_law 82 = .ok (.istore 6, 2) := by decide +kernel
theorem dL_law_84 : decode cL_law 84 = .ok (.iload 6, 2) := by decide +kernel
theorem dL_law_86 : decode cL_law 86 = .ok (.iconst 1, 1) := by decide +kernel
theorem dL_law_87 : decode cL_law 87 = .ok (.iadd, 1) := by decide +kernel
theorem dL_law_88 : decode cL_law 88 = .ok (.iload 5, 2) := by decide +kernel
theorem dL_law_90 : decode cL_law 90 = .ok (.bipush 7, 2) := by decide +kernel
theorem dL_law_92 : decode cL_law 92 = .ok (.ishr, 1) := by decide +kernel
theorem dL_law_93 : decode cL_law 93 = .ok (.iconst 4, 1) := by decide +kernel
theorem dL_law_94 : decode cL_law 94 = .ok (.invokestatic 100, 3) := by decide +kernel
end
section
theorem dL_law_97 : decode cL_law 97 = .ok (.iadd, 1) := by decide +kernel
theorem dL_law_98 : decode cL_law 98 = .ok (.iload_n 2, 1) := by decide +kernel
theorem dL_law_99 : decode cL_law 99 = .ok (.irem, 1) := by decide +kernel
theorem dL_law_100 : decode cL_law 100 = .ok (.istore 7, 2) := by decide +kernel
theorem dL_law_102 : decode cL_law 102 = .ok (.iload 5, 2) := by decide +kernel
theorem dL_law_104 : decode cL_law 104 = .ok (.bipush 14, 2) := by decide +kernel
theorem dL_law_106 : decode cL_law 106 = .ok (.invokestatic 100, 3) := by decide +kernel
theorem dL_law_109 : decode cL_law 109 = .ok (.istore 8, 2) := by decide +kernel
theorem dL_law_111 : decode cL_law 111 = .ok (.aload_n 1, 1) := by decide +kernel
theorem dL_law_112 : decode cL_law 112 = .ok (.iload 6, 2) := by decide +kernel
theorem dL_law_114 : decode cL_law 114 = .ok (.iconst 0, 1) := by decide +kernel
theorem dL_law_115 : decode cL_law 115 = .ok (.invokevirtual 9, 3) := by decide +kernel
theorem dL_law_118 : decode cL_law 118 = .ok (.istore 9, 2) := by decide +kernel
theorem dL_law_120 : decode cL_law 120 = .ok (.iconst 0, 1) := by decide +kernel
theorem dL_law_121 : decode cL_law 121 = .ok (.istore 10, 2) := by decide +kernel
theorem dL_law_123 : decode cL_law 123 = .ok (.iconst 0, 1) := by decide +kernel
theorem dL_law_124 : decode cL_law 124 = .ok (.istore 11, 2) := by decide +kernel
theorem dL_law_126 : decode cL_law 126 = .ok (.iload 11, 2) := by decide +kernel
theorem dL_law_128 : decode cL_law 128 = .ok (.iload_n 2, 1) := by decide +kernel
theorem dL_law_129 : decode cL_law 129 = .ok (.if_icmp .ge 39, 3) := by decide +kernel
theorem dL_law_132 : decode cL_law 132 = .ok (.iload 10, 2) := by decide +kernel
theorem dL_law_134 : decode cL_law 134 = .ok (.iload 11, 2) := by decide +kernel
theorem dL_law_136 : decode cL_law 136 = .ok (.iload 6, 2) := by decide +kernel
theorem dL_law_138 : decode cL_law 138 = .ok (.if_icmp .eq 20, 3) := by decide +kernel
theorem dL_law_141 : decode cL_law 141 = .ok (.aload_n 1, 1) := by decide +kernel
theorem dL_law_142 : decode cL_law 142 = .ok (.iload 6, 2) := by decide +kernel
theorem dL_law_144 : decode cL_law 144 = .ok (.iload 11, 2) := by decide +kernel
theorem dL_law_146 : decode cL_law 146 = .ok (.invokevirtual 52, 3) := by decide +kernel
theorem dL_law_149 : decode cL_law 149 = .ok (.bipush 8, 2) := by decide +kernel
theorem dL_law_151 : decode cL_law 151 = .ok (.if_icmp .le 7, 3) := by decide +kernel
theorem dL_law_154 : decode cL_law 154 = .ok (.iconst 1, 1) := by decide +kernel
theorem dL_law_155 : decode cL_law 155 = .ok (.goto 4, 3) := by decide +kernel
theorem dL_law_158 : decode cL_law 158 = .ok (.iconst 0, 1) := by decide +kernel
theorem dL_law_159 : decode cL_law 159 = .ok (.iadd, 1) := by decide +kernel
theorem dL_law_160 : decode cL_law 160 = .ok (.istore 10, 2) := by decide +kernel
theorem dL_law_162 : decode cL_law 162 = .ok (.iinc 11 1, 3) := by decide +kernel
theorem dL_law_165 : decode cL_law 165 = .ok (.goto (-39), 3) := by decide +kernel
theorem dL_law_168 : decode cL_law 168 = .ok (.iconst 1, 1) := by decide +kernel
theorem dL_law_169 : decode cL_law 169 = .ok (.istore 11, 2) := by decide +kernel
theorem dL_law_171 : decode cL_law 171 = .ok (.iload 8, 2) := by decide +kernel
theorem dL_law_173 : decode cL_law 173 = .ok (.iconst 5, 1) := by decide +kernel
theorem dL_law_174 : decode cL_law 174 = .ok (.if_icmp .ge 197, 3) := by decide +kernel
theorem dL_law_177 : decode cL_law 177 = .ok (.aload_n 1, 1) := by decide +kernel
theorem dL_law_178 : decode cL_law 178 = .ok (.iload 6, 2) := by decide +kernel
theorem dL_law_180 : decode cL_law 180 = .ok (.iload 5, 2) := by decide +kernel
theorem dL_law_182 : decode cL_law 182 = .ok (.bipush 9, 2) := by decide +kernel
theorem dL_law_184 : decode cL_law 184 = .ok (.ishr, 1) := by decide +kernel
theorem dL_law_185 : decode cL_law 185 = .ok (.iconst 4, 1) := by decide +kernel
theorem dL_law_186 : decode cL_law 186 = .ok (.invokestatic 100, 3) := by decide +kernel
theorem dL_law_189 : decode cL_law 189 = .ok (.iload 5, 2) := by decide +kernel
theorem dL_law_191 : decode cL_law 191 = .ok (.bipush 11, 2) := by decide +kernel
theorem dL_law_193 : decode cL_law 193 = .ok (.ishr, 1) := by decide +kernel
theorem dL_law_194 : decode cL_law 194 = .ok (.iconst 4, 1) := by decide +kernel
theorem dL_law_195 : decode cL_law 195 = .ok (.invokestatic 100, 3) := by decide +kernel
theorem dL_law_198 : decode cL_law 198 = .ok (.iload 5, 2) := by decide +kernel
theorem dL_law_200 : decode cL_law 200 = .ok (.bipush 13, 2) := by decide +kernel
theorem dL_law_202 : decode cL_law 202 = .ok (.ishr, 1) := by decide +kernel
theorem dL_law_203 : decode cL_law 203 = .ok (.bipush 8, 2) := by decide +kernel
theorem dL_law_205 : decode cL_law 205 = .ok (.invokestatic 100, 3) := by decide +kernel
theorem dL_law_208 : decode cL_law 208 = .ok (.iload 5, 2) := by decide +kernel
theorem dL_law_210 : decode cL_law 210 = .ok (.bipush 16, 2) := by decide +kernel
theorem dL_law_212 : decode cL_law 212 = .ok (.ishr, 1) := by decide +kernel
theorem dL_law_213 : decode cL_law 213 = .ok (.iconst 4, 1) := by decide +kernel
theorem dL_law_214 : decode cL_law 214 = .ok (.invokestatic 100, 3) := by decide +kernel
theorem dL_law_217 : decode cL_law 217 = .ok (.invokevirtual 73, 3) := by decide +kernel
theorem dL_law_220 : decode cL_law 220 = .ok (.iconst 1, 1) := by decide +kernel
theorem dL_law_221 : decode cL_law 221 = .ok (.if_icmp .ne 7, 3) := by decide +kernel
theorem dL_law_224 : decode cL_law 224 = .ok (.iconst 1, 1) := by decide +kernel
theorem dL_law_225 : decode cL_law 225 = .ok (.goto 4, 3) := by decide +kernel
theorem dL_law_228 : decode cL_law 228 = .ok (.iconst 0, 1) := by decide +kernel
theorem dL_law_229 : decode cL_law 229 = .ok (.istore 11, 2) := by decide +kernel
theorem dL_law_231 : decode cL_law 231 = .ok (.iconst 0, 1) := by decide +kernel
theorem dL_law_232 : decode cL_law 232 = .ok (.istore 12, 2) := by decide +kernel
theorem dL_law_234 : decode cL_law 234 = .ok (.iload 12, 2) := by decide +kernel
theorem dL_law_236 : decode cL_law 236 = .ok (.iload 5, 2) := by decide +kernel
theorem dL_law_238 : decode cL_law 238 = .ok (.bipush 18, 2) := by decide +kernel
theorem dL_law_240 : decode cL_law 240 = .ok (.ishr, 1) := by decide +kernel
theorem dL_law_241 : decode cL_law 241 = .ok (.iconst 4, 1) := by decide +kernel
theorem dL_law_242 : decode cL_law 242 = .ok (.invokestatic 100, 3) := by decide +kernel
theorem dL_law_245 : decode cL_law 245 = .ok (.if_icmp .ge 64, 3) := by decide +kernel
theorem dL_law_248 : decode cL_law 248 = .ok (.iload 11, 2) := by decide +kernel
theorem dL_law_250 : decode cL_law 250 = .ok (.ifCond .eq 50, 3) := by decide +kernel
theorem dL_law_253 : decode cL_law 253 = .ok (.aload_n 1, 1) := by decide +kernel
theorem dL_law_254 : decode cL_law 254 = .ok (.iload 6, 2) := by decide +kernel
theorem dL_law_256 : decode cL_law 256 = .ok (.iload 5, 2) := by decide +kernel
theorem dL_law_258 : decode cL_law 258 = .ok (.bipush 20, 2) := by decide +kernel
theorem dL_law_260 : decode cL_law 260 = .ok (.iload 12, 2) := by decide +kernel
theorem dL_law_262 : decode cL_law 262 = .ok (.iadd, 1) := by decide +kernel
theorem dL_law_263 : decode cL_law 263 = .ok (.ishr, 1) := by decide +kernel
theorem dL_law_264 : decode cL_law 264 = .ok (.bipush 17, 2) := by decide +kernel
theorem dL_law_266 : decode cL_law 266 = .ok (.invokestatic 100, 3) := by decide +kernel
theorem dL_law_269 : decode cL_law 269 = .ok (.bipush 8, 2) := by decide +kernel
theorem dL_law_271 : decode cL_law 271 = .ok (.isub, 1) := by decide +kernel
theorem dL_law_272 : decode cL_law 272 = .ok (.iload 5, 2) := by decide +kernel
theorem dL_law_274 : decode cL_law 274 = .ok (.bipush 22, 2) := by decide +kernel
theorem dL_law_276 : decode cL_law 276 = .ok (.iload 12, 2) := by decide +kernel
theorem dL_law_278 : decode cL_law 278 = .ok (.iadd, 1) := by decide +kernel
theorem dL_law_279 : decode cL_law 279 = .ok (.ishr, 1) := by decide +kernel
theorem dL_law_280 : decode cL_law 280 = .ok (.iconst 5, 1) := by decide +kernel
theorem dL_law_281 : decode cL_law 281 = .ok (.invokestatic 100, 3) := by decide +kernel
theorem dL_law_284 : decode cL_law 284 = .ok (.iconst 2, 1) := by decide +kernel
theorem dL_law_285 : decode cL_law 285 = .ok (.isub, 1) := by decide +kernel
theorem dL_law_286 : decode cL_law 286 = .ok (.invokevirtual 77, 3) := by decide +kernel
theorem dL_law_289 : decode cL_law 289 = .ok (.iload 12, 2) := by decide +kernel
theorem dL_law_291 : decode cL_law 291 = .ok (.iconst 2, 1) := by decide +kernel
theorem dL_law_292 : decode cL_law 292 = .ok (.iadd, 1) := by decide +kernel
theorem dL_law_293 : decode cL_law 293 = .ok (.if_icmp .ne 7, 3) := by decide +kernel
theorem dL_law_296 : decode cL_law 296 = .ok (.iconst 1, 1) := by decide +kernel
theorem dL_law_297 : decode cL_law 297 = .ok (.goto 4, 3) := by decide +kernel
theorem dL_law_300 : decode cL_law 300 = .ok (.iconst 0, 1) := by decide +kernel
theorem dL_law_301 : decode cL_law 301 = .ok (.istore 11, 2) := by decide +kernel
theorem dL_law_303 : decode cL_law 303 = .ok (.iinc 12 1, 3) := by decide +kernel
theorem dL_law_306 : decode cL_law 306 = .ok (.goto (-72), 3) := by decide +kernel
theorem dL_law_309 : decode cL_law 309 = .ok (.aload_n 1, 1) := by decide +kernel
theorem dL_law_310 : decode cL_law 310 = .ok (.iload 6, 2) := by decide +kernel
theorem dL_law_312 : decode cL_law 312 = .ok (.invokevirtual 80, 3) := by decide +kernel
theorem dL_law_315 : decode cL_law 315 = .ok (.istore 12, 2) := by decide +kernel
theorem dL_law_317 : decode cL_law 317 = .ok (.iload 11, 2) := by decide +kernel
theorem dL_law_319 : decode cL_law 319 = .ok (.ifCond .eq 31, 3) := by decide +kernel
theorem dL_law_322 : decode cL_law 322 = .ok (.iload 12, 2) := by decide +kernel
theorem dL_law_324 : decode cL_law 324 = .ok (.ifCond .gt 22, 3) := by decide +kernel
theorem dL_law_327 : decode cL_law 327 = .ok (.iload 12, 2) := by decide +kernel
theorem dL_law_329 : decode cL_law 329 = .ok (.ldc 65, 2) := by decide +kernel
theorem dL_law_331 : decode cL_law 331 = .ok (.if_icmp .ne 19, 3) := by decide +kernel
theorem dL_law_334 : decode cL_law 334 = .ok (.aload_n 1, 1) := by decide +kernel
end
section
theorem dL_law_335 : decode cL_law 335 = .ok (.iload 6, 2) := by decide +kernel
theorem dL_law_337 : decode cL_law 337 = .ok (.iconst 2, 1) := by decide +kernel
theorem dL_law_338 : decode cL_law 338 = .ok (.invokevirtual 9, 3) := by decide +kernel
theorem dL_law_341 : decode cL_law 341 = .ok (.bipush 20, 2) := by decide +kernel
theorem dL_law_343 : decode cL_law 343 = .ok (.if_icmp .ne 7, 3) := by decide +kernel
theorem dL_law_346 : decode cL_law 346 = .ok (.iconst 1, 1) := by decide +kernel
theorem dL_law_347 : decode cL_law 347 = .ok (.goto 4, 3) := by decide +kernel
theorem dL_law_350 : decode cL_law 350 = .ok (.iconst 0, 1) := by decide +kernel
theorem dL_law_351 : decode cL_law 351 = .ok (.istore 11, 2) := by decide +kernel
theorem dL_law_353 : decode cL_law 353 = .ok (.iload_n 3, 1) := by decide +kernel
theorem dL_law_354 : decode cL_law 354 = .ok (.ifCond .ne 8, 3) := by decide +kernel
theorem dL_law_357 : decode cL_law 357 = .ok (.iload 10, 2) := by decide +kernel
theorem dL_law_359 : decode cL_law 359 = .ok (.ifCond .le 7, 3) := by decide +kernel
theorem dL_law_362 : decode cL_law 362 = .ok (.iconst 1, 1) := by decide +kernel
theorem dL_law_363 : decode cL_law 363 = .ok (.goto 4, 3) := by decide +kernel
theorem dL_law_366 : decode cL_law 366 = .ok (.iconst 0, 1) := by decide +kernel
theorem dL_law_367 : decode cL_law 367 = .ok (.istore_n 3, 1) := by decide +kernel
theorem dL_law_368 : decode cL_law 368 = .ok (.goto 398, 3) := by decide +kernel
theorem dL_law_371 : decode cL_law 371 = .ok (.iload 8, 2) := by decide +kernel
theorem dL_law_373 : decode cL_law 373 = .ok (.iconst 5, 1) := by decide +kernel
theorem dL_law_374 : decode cL_law 374 = .ok (.if_icmp .ne 29, 3) := by decide +kernel
theorem dL_law_377 : decode cL_law 377 = .ok (.aload_n 1, 1) := by decide +kernel
theorem dL_law_378 : decode cL_law 378 = .ok (.iload 6, 2) := by decide +kernel
theorem dL_law_380 : decode cL_law 380 = .ok (.invokestatic 110, 3) := by decide +kernel
theorem dL_law_383 : decode cL_law 383 = .ok (.istore 11, 2) := by decide +kernel
theorem dL_law_385 : decode cL_law 385 = .ok (.iload_n 3, 1) := by decide +kernel
theorem dL_law_386 : decode cL_law 386 = .ok (.ifCond .ne 8, 3) := by decide +kernel
theorem dL_law_389 : decode cL_law 389 = .ok (.iload 10, 2) := by decide +kernel
theorem dL_law_391 : decode cL_law 391 = .ok (.ifCond .le 7, 3) := by decide +kernel
theorem dL_law_394 : decode cL_law 394 = .ok (.iconst 1, 1) := by decide +kernel
theorem dL_law_395 : decode cL_law 395 = .ok (.goto 4, 3) := by decide +kernel
theorem dL_law_398 : decode cL_law 398 = .ok (.iconst 0, 1) := by decide +kernel
theorem dL_law_399 : decode cL_law 399 = .ok (.istore_n 3, 1) := by decide +kernel
theorem dL_law_400 : decode cL_law 400 = .ok (.goto 366, 3) := by decide +kernel
theorem dL_law_403 : decode cL_law 403 = .ok (.iload 8, 2) := by decide +kernel
theorem dL_law_405 : decode cL_law 405 = .ok (.bipush 6, 2) := by decide +kernel
theorem dL_law_407 : decode cL_law 407 = .ok (.if_icmp .ne 73, 3) := by decide +kernel
theorem dL_law_410 : decode cL_law 410 = .ok (.aload_n 1, 1) := by decide +kernel
theorem dL_law_411 : decode cL_law 411 = .ok (.iload 6, 2) := by decide +kernel
theorem dL_law_413 : decode cL_law 413 = .ok (.iload 5, 2) := by decide +kernel
theorem dL_law_415 : decode cL_law 415 = .ok (.bipush 9, 2) := by decide +kernel
theorem dL_law_417 : decode cL_law 417 = .ok (.ishr, 1) := by decide +kernel
theorem dL_law_418 : decode cL_law 418 = .ok (.iconst 3, 1) := by decide +kernel
theorem dL_law_419 : decode cL_law 419 = .ok (.invokestatic 100, 3) := by decide +kernel
theorem dL_law_422 : decode cL_law 422 = .ok (.iload 5, 2) := by decide +kernel
theorem dL_law_424 : decode cL_law 424 = .ok (.bipush 12, 2) := by decide +kernel
theorem dL_law_426 : decode cL_law 426 = .ok (.ishr, 1) := by decide +kernel
theorem dL_law_427 : decode cL_law 427 = .ok (.iconst 4, 1) := by decide +kernel
theorem dL_law_428 : decode cL_law 428 = .ok (.invokestatic 100, 3) := by decide +kernel
theorem dL_law_431 : decode cL_law 431 = .ok (.invokevirtual 83, 3) := by decide +kernel
theorem dL_law_434 : decode cL_law 434 = .ok (.istore 12, 2) := by decide +kernel
theorem dL_law_436 : decode cL_law 436 = .ok (.iload 12, 2) := by decide +kernel
theorem dL_law_438 : decode cL_law 438 = .ok (.ifCond .gt 17, 3) := by decide +kernel
theorem dL_law_441 : decode cL_law 441 = .ok (.iload 12, 2) := by decide +kernel
theorem dL_law_443 : decode cL_law 443 = .ok (.ldc 64, 2) := by decide +kernel
theorem dL_law_445 : decode cL_law 445 = .ok (.if_icmp .eq 10, 3) := by decide +kernel
theorem dL_law_448 : decode cL_law 448 = .ok (.iload 12, 2) := by decide +kernel
theorem dL_law_450 : decode cL_law 450 = .ok (.ldc 65, 2) := by decide +kernel
theorem dL_law_452 : decode cL_law 452 = .ok (.if_icmp .ne 7, 3) := by decide +kernel
theorem dL_law_455 : decode cL_law 455 = .ok (.iconst 1, 1) := by decide +kernel
theorem dL_law_456 : decode cL_law 456 = .ok (.goto 4, 3) := by decide +kernel
theorem dL_law_459 : decode cL_law 459 = .ok (.iconst 0, 1) := by decide +kernel
theorem dL_law_460 : decode cL_law 460 = .ok (.istore 11, 2) := by decide +kernel
theorem dL_law_462 : decode cL_law 462 = .ok (.iload_n 3, 1) := by decide +kernel
theorem dL_law_463 : decode cL_law 463 = .ok (.ifCond .ne 8, 3) := by decide +kernel
theorem dL_law_466 : decode cL_law 466 = .ok (.iload 10, 2) := by decide +kernel
theorem dL_law_468 : decode cL_law 468 = .ok (.ifCond .le 7, 3) := by decide +kernel
theorem dL_law_471 : decode cL_law 471 = .ok (.iconst 1, 1) := by decide +kernel
theorem dL_law_472 : decode cL_law 472 = .ok (.goto 4, 3) := by decide +kernel
theorem dL_law_475 : decode cL_law 475 = .ok (.iconst 0, 1) := by decide +kernel
theorem dL_law_476 : decode cL_law 476 = .ok (.istore_n 3, 1) := by decide +kernel
theorem dL_law_477 : decode cL_law 477 = .ok (.goto 289, 3) := by decide +kernel
theorem dL_law_480 : decode cL_law 480 = .ok (.iload 8, 2) := by decide +kernel
theorem dL_law_482 : decode cL_law 482 = .ok (.bipush 7, 2) := by decide +kernel
theorem dL_law_484 : decode cL_law 484 = .ok (.if_icmp .ne 55, 3) := by decide +kernel
theorem dL_law_487 : decode cL_law 487 = .ok (.aload_n 1, 1) := by decide +kernel
theorem dL_law_488 : decode cL_law 488 = .ok (.iload 6, 2) := by decide +kernel
theorem dL_law_490 : decode cL_law 490 = .ok (.invokevirtual 66, 3) := by decide +kernel
theorem dL_law_493 : decode cL_law 493 = .ok (.istore 12, 2) := by decide +kernel
theorem dL_law_495 : decode cL_law 495 = .ok (.iload 12, 2) := by decide +kernel
theorem dL_law_497 : decode cL_law 497 = .ok (.ifCond .gt 17, 3) := by decide +kernel
theorem dL_law_500 : decode cL_law 500 = .ok (.iload 12, 2) := by decide +kernel
theorem dL_law_502 : decode cL_law 502 = .ok (.ldc 64, 2) := by decide +kernel
theorem dL_law_504 : decode cL_law 504 = .ok (.if_icmp .eq 10, 3) := by decide +kernel
theorem dL_law_507 : decode cL_law 507 = .ok (.iload 12, 2) := by decide +kernel
theorem dL_law_509 : decode cL_law 509 = .ok (.ldc 65, 2) := by decide +kernel
theorem dL_law_511 : decode cL_law 511 = .ok (.if_icmp .ne 7, 3) := by decide +kernel
theorem dL_law_514 : decode cL_law 514 = .ok (.iconst 1, 1) := by decide +kernel
theorem dL_law_515 : decode cL_law 515 = .ok (.goto 4, 3) := by decide +kernel
theorem dL_law_518 : decode cL_law 518 = .ok (.iconst 0, 1) := by decide +kernel
theorem dL_law_519 : decode cL_law 519 = .ok (.istore 11, 2) := by decide +kernel
theorem dL_law_521 : decode cL_law 521 = .ok (.iload_n 3, 1) := by decide +kernel
theorem dL_law_522 : decode cL_law 522 = .ok (.ifCond .ne 8, 3) := by decide +kernel
theorem dL_law_525 : decode cL_law 525 = .ok (.iload 10, 2) := by decide +kernel
theorem dL_law_527 : decode cL_law 527 = .ok (.ifCond .le 7, 3) := by decide +kernel
theorem dL_law_530 : decode cL_law 530 = .ok (.iconst 1, 1) := by decide +kernel
theorem dL_law_531 : decode cL_law 531 = .ok (.goto 4, 3) := by decide +kernel
theorem dL_law_534 : decode cL_law 534 = .ok (.iconst 0, 1) := by decide +kernel
theorem dL_law_535 : decode cL_law 535 = .ok (.istore_n 3, 1) := by decide +kernel
theorem dL_law_536 : decode cL_law 536 = .ok (.goto 230, 3) := by decide +kernel
theorem dL_law_539 : decode cL_law 539 = .ok (.iload 6, 2) := by decide +kernel
theorem dL_law_541 : decode cL_law 541 = .ok (.iload 7, 2) := by decide +kernel
theorem dL_law_543 : decode cL_law 543 = .ok (.if_icmp .eq 166, 3) := by decide +kernel
theorem dL_law_546 : decode cL_law 546 = .ok (.iload 8, 2) := by decide +kernel
theorem dL_law_548 : decode cL_law 548 = .ok (.bipush 11, 2) := by decide +kernel
theorem dL_law_550 : decode cL_law 550 = .ok (.if_icmp .ge 159, 3) := by decide +kernel
theorem dL_law_553 : decode cL_law 553 = .ok (.aload_n 1, 1) := by decide +kernel
theorem dL_law_554 : decode cL_law 554 = .ok (.iload 6, 2) := by decide +kernel
theorem dL_law_556 : decode cL_law 556 = .ok (.iload 7, 2) := by decide +kernel
theorem dL_law_558 : decode cL_law 558 = .ok (.invokevirtual 52, 3) := by decide +kernel
theorem dL_law_561 : decode cL_law 561 = .ok (.istore 12, 2) := by decide +kernel
theorem dL_law_563 : decode cL_law 563 = .ok (.iload 8, 2) := by decide +kernel
theorem dL_law_565 : decode cL_law 565 = .ok (.bipush 8, 2) := by decide +kernel
theorem dL_law_567 : decode cL_law 567 = .ok (.if_icmp .ne 14, 3) := by decide +kernel
theorem dL_law_570 : decode cL_law 570 = .ok (.aload_n 1, 1) := by decide +kernel
theorem dL_law_571 : decode cL_law 571 = .ok (.iload 6, 2) := by decide +kernel
theorem dL_law_573 : decode cL_law 573 = .ok (.iload 7, 2) := by decide +kernel
theorem dL_law_575 : decode cL_law 575 = .ok (.invokevirtual 89, 3) := by decide +kernel
theorem dL_law_578 : decode cL_law 578 = .ok (.goto 11, 3) := by decide +kernel
theorem dL_law_581 : decode cL_law 581 = .ok (.aload_n 1, 1) := by decide +kernel
theorem dL_law_582 : decode cL_law 582 = .ok (.iload 6, 2) := by decide +kernel
theorem dL_law_584 : decode cL_law 584 = .ok (.iload 7, 2) := by decide +kernel
theorem dL_law_586 : decode cL_law 586 = .ok (.invokevirtual 86, 3) := by decide +kernel
theorem dL_law_589 : decode cL_law 589 = .ok (.istore 13, 2) := by decide +kernel
theorem dL_law_591 : decode cL_law 591 = .ok (.iload 12, 2) := by decide +kernel
end
section
theorem dL_law_593 : decode cL_law 593 = .ok (.ifCond .ne 18, 3) := by decide +kernel
theorem dL_law_596 : decode cL_law 596 = .ok (.iload 13, 2) := by decide +kernel
theorem dL_law_598 : decode cL_law 598 = .ok (.ldc 34, 2) := by decide +kernel
theorem dL_law_600 : decode cL_law 600 = .ok (.if_icmp .ne 7, 3) := by decide +kernel
theorem dL_law_603 : decode cL_law 603 = .ok (.iconst 1, 1) := by decide +kernel
theorem dL_law_604 : decode cL_law 604 = .ok (.goto 78, 3) := by decide +kernel
theorem dL_law_607 : decode cL_law 607 = .ok (.iconst 0, 1) := by decide +kernel
theorem dL_law_608 : decode cL_law 608 = .ok (.goto 74, 3) := by decide +kernel
theorem dL_law_611 : decode cL_law 611 = .ok (.iload 8, 2) := by decide +kernel
theorem dL_law_613 : decode cL_law 613 = .ok (.bipush 8, 2) := by decide +kernel
theorem dL_law_615 : decode cL_law 615 = .ok (.if_icmp .ne 20, 3) := by decide +kernel
theorem dL_law_618 : decode cL_law 618 = .ok (.iload 13, 2) := by decide +kernel
theorem dL_law_620 : decode cL_law 620 = .ok (.iload 12, 2) := by decide +kernel
theorem dL_law_622 : decode cL_law 622 = .ok (.iconst 1, 1) := by decide +kernel
theorem dL_law_623 : decode cL_law 623 = .ok (.isub, 1) := by decide +kernel
theorem dL_law_624 : decode cL_law 624 = .ok (.if_icmp .ne 7, 3) := by decide +kernel
theorem dL_law_627 : decode cL_law 627 = .ok (.iconst 1, 1) := by decide +kernel
theorem dL_law_628 : decode cL_law 628 = .ok (.goto 54, 3) := by decide +kernel
theorem dL_law_631 : decode cL_law 631 = .ok (.iconst 0, 1) := by decide +kernel
theorem dL_law_632 : decode cL_law 632 = .ok (.goto 50, 3) := by decide +kernel
theorem dL_law_635 : decode cL_law 635 = .ok (.iload 13, 2) := by decide +kernel
theorem dL_law_637 : decode cL_law 637 = .ok (.bipush 100, 2) := by decide +kernel
theorem dL_law_639 : decode cL_law 639 = .ok (.idiv, 1) := by decide +kernel
theorem dL_law_640 : decode cL_law 640 = .ok (.iload 6, 2) := by decide +kernel
theorem dL_law_642 : decode cL_law 642 = .ok (.if_icmp .ne 39, 3) := by decide +kernel
theorem dL_law_645 : decode cL_law 645 = .ok (.aload_n 1, 1) := by decide +kernel
theorem dL_law_646 : decode cL_law 646 = .ok (.iload 7, 2) := by decide +kernel
theorem dL_law_648 : decode cL_law 648 = .ok (.iload 6, 2) := by decide +kernel
theorem dL_law_650 : decode cL_law 650 = .ok (.iload 13, 2) := by decide +kernel
theorem dL_law_652 : decode cL_law 652 = .ok (.bipush 100, 2) := by decide +kernel
theorem dL_law_654 : decode cL_law 654 = .ok (.irem, 1) := by decide +kernel
theorem dL_law_655 : decode cL_law 655 = .ok (.invokevirtual 19, 3) := by decide +kernel
theorem dL_law_658 : decode cL_law 658 = .ok (.iconst 1, 1) := by decide +kernel
theorem dL_law_659 : decode cL_law 659 = .ok (.if_icmp .ne 22, 3) := by decide +kernel
theorem dL_law_662 : decode cL_law 662 = .ok (.aload_n 1, 1) := by decide +kernel
theorem dL_law_663 : decode cL_law 663 = .ok (.iload 6, 2) := by decide +kernel
theorem dL_law_665 : decode cL_law 665 = .ok (.iload 7, 2) := by decide +kernel
theorem dL_law_667 : decode cL_law 667 = .ok (.invokevirtual 52, 3) := by decide +kernel
theorem dL_law_670 : decode cL_law 670 = .ok (.iload 12, 2) := by decide +kernel
theorem dL_law_672 : decode cL_law 672 = .ok (.iconst 1, 1) := by decide +kernel
theorem dL_law_673 : decode cL_law 673 = .ok (.isub, 1) := by decide +kernel
theorem dL_law_674 : decode cL_law 674 = .ok (.if_icmp .ne 7, 3) := by decide +kernel
theorem dL_law_677 : decode cL_law 677 = .ok (.iconst 1, 1) := by decide +kernel
theorem dL_law_678 : decode cL_law 678 = .ok (.goto 4, 3) := by decide +kernel
theorem dL_law_681 : decode cL_law 681 = .ok (.iconst 0, 1) := by decide +kernel
theorem dL_law_682 : decode cL_law 682 = .ok (.istore 11, 2) := by decide +kernel
theorem dL_law_684 : decode cL_law 684 = .ok (.iload_n 3, 1) := by decide +kernel
theorem dL_law_685 : decode cL_law 685 = .ok (.ifCond .ne 15, 3) := by decide +kernel
theorem dL_law_688 : decode cL_law 688 = .ok (.iload 8, 2) := by decide +kernel
theorem dL_law_690 : decode cL_law 690 = .ok (.bipush 8, 2) := by decide +kernel
theorem dL_law_692 : decode cL_law 692 = .ok (.if_icmp .ne 12, 3) := by decide +kernel
theorem dL_law_695 : decode cL_law 695 = .ok (.iload 12, 2) := by decide +kernel
theorem dL_law_697 : decode cL_law 697 = .ok (.ifCond .le 7, 3) := by decide +kernel
theorem dL_law_700 : decode cL_law 700 = .ok (.iconst 1, 1) := by decide +kernel
theorem dL_law_701 : decode cL_law 701 = .ok (.goto 4, 3) := by decide +kernel
theorem dL_law_704 : decode cL_law 704 = .ok (.iconst 0, 1) := by decide +kernel
theorem dL_law_705 : decode cL_law 705 = .ok (.istore_n 3, 1) := by decide +kernel
theorem dL_law_706 : decode cL_law 706 = .ok (.goto 60, 3) := by decide +kernel
theorem dL_law_709 : decode cL_law 709 = .ok (.iload 6, 2) := by decide +kernel
theorem dL_law_711 : decode cL_law 711 = .ok (.iload 7, 2) := by decide +kernel
theorem dL_law_713 : decode cL_law 713 = .ok (.if_icmp .eq 53, 3) := by decide +kernel
theorem dL_law_716 : decode cL_law 716 = .ok (.iload 8, 2) := by decide +kernel
theorem dL_law_718 : decode cL_law 718 = .ok (.bipush 11, 2) := by decide +kernel
theorem dL_law_720 : decode cL_law 720 = .ok (.if_icmp .ne 14, 3) := by decide +kernel
theorem dL_law_723 : decode cL_law 723 = .ok (.aload_n 1, 1) := by decide +kernel
theorem dL_law_724 : decode cL_law 724 = .ok (.iload 6, 2) := by decide +kernel
theorem dL_law_726 : decode cL_law 726 = .ok (.iload 7, 2) := by decide +kernel
theorem dL_law_728 : decode cL_law 728 = .ok (.invokestatic 114, 3) := by decide +kernel
theorem dL_law_731 : decode cL_law 731 = .ok (.goto 33, 3) := by decide +kernel
theorem dL_law_734 : decode cL_law 734 = .ok (.iload 8, 2) := by decide +kernel
theorem dL_law_736 : decode cL_law 736 = .ok (.bipush 12, 2) := by decide +kernel
theorem dL_law_738 : decode cL_law 738 = .ok (.if_icmp .ne 14, 3) := by decide +kernel
theorem dL_law_741 : decode cL_law 741 = .ok (.aload_n 1, 1) := by decide +kernel
theorem dL_law_742 : decode cL_law 742 = .ok (.iload 6, 2) := by decide +kernel
theorem dL_law_744 : decode cL_law 744 = .ok (.iload 7, 2) := by decide +kernel
theorem dL_law_746 : decode cL_law 746 = .ok (.invokestatic 117, 3) := by decide +kernel
theorem dL_law_749 : decode cL_law 749 = .ok (.goto 15, 3) := by decide +kernel
theorem dL_law_752 : decode cL_law 752 = .ok (.aload_n 1, 1) := by decide +kernel
theorem dL_law_753 : decode cL_law 753 = .ok (.invokevirtual 120, 3) := by decide +kernel
theorem dL_law_756 : decode cL_law 756 = .ok (.ifCond .lt 7, 3) := by decide +kernel
theorem dL_law_759 : decode cL_law 759 = .ok (.iconst 1, 1) := by decide +kernel
theorem dL_law_760 : decode cL_law 760 = .ok (.goto 4, 3) := by decide +kernel
theorem dL_law_763 : decode cL_law 763 = .ok (.iconst 0, 1) := by decide +kernel
theorem dL_law_764 : decode cL_law 764 = .ok (.istore 11, 2) := by decide +kernel
theorem dL_law_766 : decode cL_law 766 = .ok (.iload 11, 2) := by decide +kernel
theorem dL_law_768 : decode cL_law 768 = .ok (.ifCond .eq 32, 3) := by decide +kernel
theorem dL_law_771 : decode cL_law 771 = .ok (.aload_n 1, 1) := by decide +kernel
theorem dL_law_772 : decode cL_law 772 = .ok (.iload 6, 2) := by decide +kernel
theorem dL_law_774 : decode cL_law 774 = .ok (.iload 9, 2) := by decide +kernel
theorem dL_law_776 : decode cL_law 776 = .ok (.invokestatic 123, 3) := by decide +kernel
theorem dL_law_779 : decode cL_law 779 = .ok (.ifCond .eq 21, 3) := by decide +kernel
theorem dL_law_782 : decode cL_law 782 = .ok (.aload_n 1, 1) := by decide +kernel
theorem dL_law_783 : decode cL_law 783 = .ok (.invokestatic 126, 3) := by decide +kernel
theorem dL_law_786 : decode cL_law 786 = .ok (.ifCond .eq 14, 3) := by decide +kernel
theorem dL_law_789 : decode cL_law 789 = .ok (.iload_n 3, 1) := by decide +kernel
theorem dL_law_790 : decode cL_law 790 = .ok (.ifCond .ne 12, 3) := by decide +kernel
theorem dL_law_793 : decode cL_law 793 = .ok (.aload_n 1, 1) := by decide +kernel
theorem dL_law_794 : decode cL_law 794 = .ok (.invokevirtual 107, 3) := by decide +kernel
theorem dL_law_797 : decode cL_law 797 = .ok (.ifCond .eq 5, 3) := by decide +kernel
theorem dL_law_800 : decode cL_law 800 = .ok (.iconst 0, 1) := by decide +kernel
theorem dL_law_801 : decode cL_law 801 = .ok (.ireturn, 1) := by decide +kernel
theorem dL_law_802 : decode cL_law 802 = .ok (.iinc 4 1, 3) := by decide +kernel
theorem dL_law_805 : decode cL_law 805 = .ok (.goto (-748), 3) := by decide +kernel
theorem dL_law_808 : decode cL_law 808 = .ok (.aload_n 1, 1) := by decide +kernel
theorem dL_law_809 : decode cL_law 809 = .ok (.invokevirtual 107, 3) := by decide +kernel
theorem dL_law_812 : decode cL_law 812 = .ok (.istore 4, 2) := by decide +kernel
theorem dL_law_814 : decode cL_law 814 = .ok (.aload_n 1, 1) := by decide +kernel
theorem dL_law_815 : decode cL_law 815 = .ok (.invokevirtual 120, 3) := by decide +kernel
theorem dL_law_818 : decode cL_law 818 = .ok (.istore 5, 2) := by decide +kernel
theorem dL_law_820 : decode cL_law 820 = .ok (.iconst 0, 1) := by decide +kernel
theorem dL_law_821 : decode cL_law 821 = .ok (.istore 6, 2) := by decide +kernel
theorem dL_law_823 : decode cL_law 823 = .ok (.iconst 0, 1) := by decide +kernel
theorem dL_law_824 : decode cL_law 824 = .ok (.istore 7, 2) := by decide +kernel
theorem dL_law_826 : decode cL_law 826 = .ok (.iload 7, 2) := by decide +kernel
theorem dL_law_828 : decode cL_law 828 = .ok (.iload_n 2, 1) := by decide +kernel
theorem dL_law_829 : decode cL_law 829 = .ok (.if_icmp .ge 40, 3) := by decide +kernel
theorem dL_law_832 : decode cL_law 832 = .ok (.iconst 0, 1) := by decide +kernel
theorem dL_law_833 : decode cL_law 833 = .ok (.istore 8, 2) := by decide +kernel
theorem dL_law_835 : decode cL_law 835 = .ok (.iload 8, 2) := by decide +kernel
theorem dL_law_837 : decode cL_law 837 = .ok (.iload 7, 2) := by decide +kernel
theorem dL_law_839 : decode cL_law 839 = .ok (.if_icmp .ge 24, 3) := by decide +kernel
theorem dL_law_842 : decode cL_law 842 = .ok (.iload 6, 2) := by decide +kernel
theorem dL_law_844 : decode cL_law 844 = .ok (.iconst 1, 1) := by decide +kernel
theorem dL_law_845 : decode cL_law 845 = .ok (.aload_n 1, 1) := by decide +kernel
theorem dL_law_846 : decode cL_law 846 = .ok (.iload 7, 2) := by decide +kernel
end
section
theorem dL_law_848 : decode cL_law 848 = .ok (.iload 8, 2) := by decide +kernel
theorem dL_law_850 : decode cL_law 850 = .ok (.invokevirtual 38, 3) := by decide +kernel
theorem dL_law_853 : decode cL_law 853 = .ok (.isub, 1) := by decide +kernel
theorem dL_law_854 : decode cL_law 854 = .ok (.iadd, 1) := by decide +kernel
theorem dL_law_855 : decode cL_law 855 = .ok (.istore 6, 2) := by decide +kernel
theorem dL_law_857 : decode cL_law 857 = .ok (.iinc 8 1, 3) := by decide +kernel
theorem dL_law_860 : decode cL_law 860 = .ok (.goto (-25), 3) := by decide +kernel
theorem dL_law_863 : decode cL_law 863 = .ok (.iinc 7 1, 3) := by decide +kernel
theorem dL_law_866 : decode cL_law 866 = .ok (.goto (-40), 3) := by decide +kernel
theorem dL_law_869 : decode cL_law 869 = .ok (.iload 5, 2) := by decide +kernel
theorem dL_law_871 : decode cL_law 871 = .ok (.ifCond .lt 37, 3) := by decide +kernel
theorem dL_law_874 : decode cL_law 874 = .ok (.iload 4, 2) := by decide +kernel
theorem dL_law_876 : decode cL_law 876 = .ok (.iload 6, 2) := by decide +kernel
theorem dL_law_878 : decode cL_law 878 = .ok (.if_icmp .ne 30, 3) := by decide +kernel
theorem dL_law_881 : decode cL_law 881 = .ok (.iload_n 3, 1) := by decide +kernel
theorem dL_law_882 : decode cL_law 882 = .ok (.ifCond .ne 8, 3) := by decide +kernel
theorem dL_law_885 : decode cL_law 885 = .ok (.iload 6, 2) := by decide +kernel
theorem dL_law_887 : decode cL_law 887 = .ok (.ifCond .ne 21, 3) := by decide +kernel
theorem dL_law_890 : decode cL_law 890 = .ok (.aload_n 1, 1) := by decide +kernel
theorem dL_law_891 : decode cL_law 891 = .ok (.invokestatic 126, 3) := by decide +kernel
theorem dL_law_894 : decode cL_law 894 = .ok (.ifCond .eq 14, 3) := by decide +kernel
theorem dL_law_897 : decode cL_law 897 = .ok (.aload_n 1, 1) := by decide +kernel
theorem dL_law_898 : decode cL_law 898 = .ok (.invokestatic 103, 3) := by decide +kernel
theorem dL_law_901 : decode cL_law 901 = .ok (.ifCond .eq 7, 3) := by decide +kernel
theorem dL_law_904 : decode cL_law 904 = .ok (.iconst 1, 1) := by decide +kernel
theorem dL_law_905 : decode cL_law 905 = .ok (.goto 4, 3) := by decide +kernel
theorem dL_law_908 : decode cL_law 908 = .ok (.iconst 0, 1) := by decide +kernel
theorem dL_law_909 : decode cL_law 909 = .ok (.ireturn, 1) := by decide +kernel
end
